section
-- ===== PART A: goes FIRST, ahead of the names: the tables' words, and 'selects' of the private methods out of them =====
/-- a private method of a class that the tables say can be made, by its rows of tables_1 -/
def lw_okq (q : MethodName × Nat) : Prop := (q.1.cls ≠ "java/lang/invoke/MethodHandle" ∧ q.1.cls ≠ "java/lang/invoke/VarHandle") ∧ Cond.instantiable q.1.cls q.2 ∈ tables_1 ∧ Cond.privateMethod q.1 ∈ tables_1 ∧ Cond.instanceMethod q.1 ∈ tables_1
theorem lw_p0 : lw_okq (⟨"LastPlace$Street", "readDoors", "(LLastPlace$Text;)V"⟩, 4) := ⟨⟨by decide +kernel, by decide +kernel⟩, List.mem_of_getElem? (i := 63) (by decide +kernel), List.mem_of_getElem? (i := 382) (by decide +kernel), List.mem_of_getElem? (i := 383) (by decide +kernel)⟩
theorem lw_p1 : lw_okq (⟨"LastPlace$Street", "readClause", "(LLastPlace$Text;I)V"⟩, 4) := ⟨⟨by decide +kernel, by decide +kernel⟩, List.mem_of_getElem? (i := 63) (by decide +kernel), List.mem_of_getElem? (i := 415) (by decide +kernel), List.mem_of_getElem? (i := 416) (by decide +kernel)⟩
theorem lw_p2 : lw_okq (⟨"LastPlace", "closeText", "()I"⟩, 12) := ⟨⟨by decide +kernel, by decide +kernel⟩, List.mem_of_getElem? (i := 18) (by decide +kernel), List.mem_of_getElem? (i := 419) (by decide +kernel), List.mem_of_getElem? (i := 420) (by decide +kernel)⟩
theorem lw_p3 : lw_okq (⟨"LastPlace$Street", "arrivalOf", "(I)I"⟩, 4) := ⟨⟨by decide +kernel, by decide +kernel⟩, List.mem_of_getElem? (i := 63) (by decide +kernel), List.mem_of_getElem? (i := 428) (by decide +kernel), List.mem_of_getElem? (i := 429) (by decide +kernel)⟩
theorem lw_p4 : lw_okq (⟨"LastPlace$BestWay", "reckonEnd", "(I)I"⟩, 5) := ⟨⟨by decide +kernel, by decide +kernel⟩, List.mem_of_getElem? (i := 183) (by decide +kernel), List.mem_of_getElem? (i := 439) (by decide +kernel), List.mem_of_getElem? (i := 440) (by decide +kernel)⟩
theorem lw_p5 : lw_okq (⟨"LastPlace$BestWay", "reckonDoor", "(II)V"⟩, 5) := ⟨⟨by decide +kernel, by decide +kernel⟩, List.mem_of_getElem? (i := 183) (by decide +kernel), List.mem_of_getElem? (i := 455) (by decide +kernel), List.mem_of_getElem? (i := 456) (by decide +kernel)⟩
theorem lw_p6 : lw_okq (⟨"LastPlace$BestWay", "reckonNext", "(III)I"⟩, 5) := ⟨⟨by decide +kernel, by decide +kernel⟩, List.mem_of_getElem? (i := 183) (by decide +kernel), List.mem_of_getElem? (i := 464) (by decide +kernel), List.mem_of_getElem? (i := 465) (by decide +kernel)⟩
theorem lw_p7 : lw_okq (⟨"LastPlace$BestWay", "reckonStart", "(I)I"⟩, 5) := ⟨⟨by decide +kernel, by decide +kernel⟩, List.mem_of_getElem? (i := 183) (by decide +kernel), List.mem_of_getElem? (i := 499) (by decide +kernel), List.mem_of_getElem? (i := 500) (by decide +kernel)⟩
theorem lw_p8 : lw_okq (⟨"LastPlace", "isStreet", "(I)Z"⟩, 12) := ⟨⟨by decide +kernel, by decide +kernel⟩, List.mem_of_getElem? (i := 18) (by decide +kernel), List.mem_of_getElem? (i := 512) (by decide +kernel), List.mem_of_getElem? (i := 513) (by decide +kernel)⟩
theorem lw_p9 : lw_okq (⟨"LastPlace", "isDoor", "(II)Z"⟩, 12) := ⟨⟨by decide +kernel, by decide +kernel⟩, List.mem_of_getElem? (i := 18) (by decide +kernel), List.mem_of_getElem? (i := 523) (by decide +kernel), List.mem_of_getElem? (i := 524) (by decide +kernel)⟩
theorem lw_p10 : lw_okq (⟨"LastPlace", "isRound", "(II)Z"⟩, 12) := ⟨⟨by decide +kernel, by decide +kernel⟩, List.mem_of_getElem? (i := 18) (by decide +kernel), List.mem_of_getElem? (i := 536) (by decide +kernel), List.mem_of_getElem? (i := 537) (by decide +kernel)⟩
theorem lw_p11 : lw_okq (⟨"LastPlace", "refuseSight", "(IIII)I"⟩, 12) := ⟨⟨by decide +kernel, by decide +kernel⟩, List.mem_of_getElem? (i := 18) (by decide +kernel), List.mem_of_getElem? (i := 545) (by decide +kernel), List.mem_of_getElem? (i := 546) (by decide +kernel)⟩
theorem lw_p12 : lw_okq (⟨"LastPlace$BestWay", "isTakenByAll", "(II)Z"⟩, 5) := ⟨⟨by decide +kernel, by decide +kernel⟩, List.mem_of_getElem? (i := 183) (by decide +kernel), List.mem_of_getElem? (i := 581) (by decide +kernel), List.mem_of_getElem? (i := 582) (by decide +kernel)⟩
theorem lw_p13 : lw_okq (⟨"LastPlace$BestWay", "isTakenByAny", "(II)Z"⟩, 5) := ⟨⟨by decide +kernel, by decide +kernel⟩, List.mem_of_getElem? (i := 183) (by decide +kernel), List.mem_of_getElem? (i := 586) (by decide +kernel), List.mem_of_getElem? (i := 587) (by decide +kernel)⟩
theorem lw_p14 : lw_okq (⟨"LastPlace$Rule", "readChange", "(LLastPlace$Text;)V"⟩, 5) := ⟨⟨by decide +kernel, by decide +kernel⟩, List.mem_of_getElem? (i := 206) (by decide +kernel), List.mem_of_getElem? (i := 608) (by decide +kernel), List.mem_of_getElem? (i := 609) (by decide +kernel)⟩
theorem lw_p15 : lw_okq (⟨"LastPlace", "isRule", "(I)Z"⟩, 12) := ⟨⟨by decide +kernel, by decide +kernel⟩, List.mem_of_getElem? (i := 18) (by decide +kernel), List.mem_of_getElem? (i := 620) (by decide +kernel), List.mem_of_getElem? (i := 621) (by decide +kernel)⟩
def lw_privs_1 : List (MethodName × Nat) := [(⟨"LastPlace$Street", "readDoors", "(LLastPlace$Text;)V"⟩, 4), (⟨"LastPlace$Street", "readClause", "(LLastPlace$Text;I)V"⟩, 4), (⟨"LastPlace", "closeText", "()I"⟩, 12), (⟨"LastPlace$Street", "arrivalOf", "(I)I"⟩, 4), (⟨"LastPlace$BestWay", "reckonEnd", "(I)I"⟩, 5), (⟨"LastPlace$BestWay", "reckonDoor", "(II)V"⟩, 5), (⟨"LastPlace$BestWay", "reckonNext", "(III)I"⟩, 5), (⟨"LastPlace$BestWay", "reckonStart", "(I)I"⟩, 5), (⟨"LastPlace", "isStreet", "(I)Z"⟩, 12), (⟨"LastPlace", "isDoor", "(II)Z"⟩, 12), (⟨"LastPlace", "isRound", "(II)Z"⟩, 12), (⟨"LastPlace", "refuseSight", "(IIII)I"⟩, 12), (⟨"LastPlace$BestWay", "isTakenByAll", "(II)Z"⟩, 5), (⟨"LastPlace$BestWay", "isTakenByAny", "(II)Z"⟩, 5), (⟨"LastPlace$Rule", "readChange", "(LLastPlace$Text;)V"⟩, 5), (⟨"LastPlace", "isRule", "(I)Z"⟩, 12)]
theorem lw_r1 : ∀ q ∈ lw_privs_1, lw_okq q := List.forall_mem_cons.mpr ⟨lw_p0, List.forall_mem_cons.mpr ⟨lw_p1, List.forall_mem_cons.mpr ⟨lw_p2, List.forall_mem_cons.mpr ⟨lw_p3, List.forall_mem_cons.mpr ⟨lw_p4, List.forall_mem_cons.mpr ⟨lw_p5, List.forall_mem_cons.mpr ⟨lw_p6, List.forall_mem_cons.mpr ⟨lw_p7, List.forall_mem_cons.mpr ⟨lw_p8, List.forall_mem_cons.mpr ⟨lw_p9, List.forall_mem_cons.mpr ⟨lw_p10, List.forall_mem_cons.mpr ⟨lw_p11, List.forall_mem_cons.mpr ⟨lw_p12, List.forall_mem_cons.mpr ⟨lw_p13, List.forall_mem_cons.mpr ⟨lw_p14, List.forall_mem_cons.mpr ⟨lw_p15, fun _ h => absurd h List.not_mem_nil⟩⟩⟩⟩⟩⟩⟩⟩⟩⟩⟩⟩⟩⟩⟩⟩
theorem lw_p16 : lw_okq (⟨"LastPlace$Reckoner", "meanOfRound", "(LLastPlace$Street;LLastPlace$Rule;III)I"⟩, 5) := ⟨⟨by decide +kernel, by decide +kernel⟩, List.mem_of_getElem? (i := 127) (by decide +kernel), List.mem_of_getElem? (i := 642) (by decide +kernel), List.mem_of_getElem? (i := 643) (by decide +kernel)⟩
theorem lw_p17 : lw_okq (⟨"LastPlace", "isCar", "(I)Z"⟩, 12) := ⟨⟨by decide +kernel, by decide +kernel⟩, List.mem_of_getElem? (i := 18) (by decide +kernel), List.mem_of_getElem? (i := 732) (by decide +kernel), List.mem_of_getElem? (i := 733) (by decide +kernel)⟩
theorem lw_p18 : lw_okq (⟨"LastPlace", "isSet", "(II)Z"⟩, 12) := ⟨⟨by decide +kernel, by decide +kernel⟩, List.mem_of_getElem? (i := 18) (by decide +kernel), List.mem_of_getElem? (i := 740) (by decide +kernel), List.mem_of_getElem? (i := 741) (by decide +kernel)⟩
theorem lw_p19 : lw_okq (⟨"LastPlace$Parking", "leftBehind", "(II)I"⟩, 8) := ⟨⟨by decide +kernel, by decide +kernel⟩, List.mem_of_getElem? (i := 152) (by decide +kernel), List.mem_of_getElem? (i := 757) (by decide +kernel), List.mem_of_getElem? (i := 758) (by decide +kernel)⟩
theorem lw_p20 : lw_okq (⟨"LastPlace$Parking", "placeFrom", "(II)I"⟩, 8) := ⟨⟨by decide +kernel, by decide +kernel⟩, List.mem_of_getElem? (i := 152) (by decide +kernel), List.mem_of_getElem? (i := 761) (by decide +kernel), List.mem_of_getElem? (i := 762) (by decide +kernel)⟩
theorem lw_p21 : lw_okq (⟨"LastPlace", "refuseSet", "(II)I"⟩, 12) := ⟨⟨by decide +kernel, by decide +kernel⟩, List.mem_of_getElem? (i := 18) (by decide +kernel), List.mem_of_getElem? (i := 773) (by decide +kernel), List.mem_of_getElem? (i := 774) (by decide +kernel)⟩
theorem lw_p22 : lw_okq (⟨"LastPlace$Parking", "bestBar", "(II)I"⟩, 8) := ⟨⟨by decide +kernel, by decide +kernel⟩, List.mem_of_getElem? (i := 152) (by decide +kernel), List.mem_of_getElem? (i := 781) (by decide +kernel), List.mem_of_getElem? (i := 782) (by decide +kernel)⟩
theorem lw_p23 : lw_okq (⟨"LastPlace$Parking", "paidAt", "(II)I"⟩, 8) := ⟨⟨by decide +kernel, by decide +kernel⟩, List.mem_of_getElem? (i := 152) (by decide +kernel), List.mem_of_getElem? (i := 785) (by decide +kernel), List.mem_of_getElem? (i := 786) (by decide +kernel)⟩
theorem lw_p24 : lw_okq (⟨"LastPlace$Parking", "changeInTurn", "()Z"⟩, 8) := ⟨⟨by decide +kernel, by decide +kernel⟩, List.mem_of_getElem? (i := 152) (by decide +kernel), List.mem_of_getElem? (i := 798) (by decide +kernel), List.mem_of_getElem? (i := 799) (by decide +kernel)⟩
theorem lw_p25 : lw_okq (⟨"LastPlace$Parking", "giveDoor", "(II)V"⟩, 8) := ⟨⟨by decide +kernel, by decide +kernel⟩, List.mem_of_getElem? (i := 152) (by decide +kernel), List.mem_of_getElem? (i := 828) (by decide +kernel), List.mem_of_getElem? (i := 829) (by decide +kernel)⟩
theorem lw_p26 : lw_okq (⟨"LastPlaceModel", "bare", "()V"⟩, 44) := ⟨⟨by decide +kernel, by decide +kernel⟩, List.mem_of_getElem? (i := 886) (by decide +kernel), List.mem_of_getElem? (i := 892) (by decide +kernel), List.mem_of_getElem? (i := 893) (by decide +kernel)⟩
theorem lw_p27 : lw_okq (⟨"LastPlaceModel", "here", "()I"⟩, 44) := ⟨⟨by decide +kernel, by decide +kernel⟩, List.mem_of_getElem? (i := 886) (by decide +kernel), List.mem_of_getElem? (i := 1043) (by decide +kernel), List.mem_of_getElem? (i := 1044) (by decide +kernel)⟩
theorem lw_p28 : lw_okq (⟨"LastPlaceModel", "takeClause", "()I"⟩, 44) := ⟨⟨by decide +kernel, by decide +kernel⟩, List.mem_of_getElem? (i := 886) (by decide +kernel), List.mem_of_getElem? (i := 1047) (by decide +kernel), List.mem_of_getElem? (i := 1048) (by decide +kernel)⟩
theorem lw_p29 : lw_okq (⟨"LastPlaceModel", "readWord", "()V"⟩, 44) := ⟨⟨by decide +kernel, by decide +kernel⟩, List.mem_of_getElem? (i := 886) (by decide +kernel), List.mem_of_getElem? (i := 1051) (by decide +kernel), List.mem_of_getElem? (i := 1052) (by decide +kernel)⟩
theorem lw_p30 : lw_okq (⟨"LastPlaceModel", "clauseOf", "()I"⟩, 44) := ⟨⟨by decide +kernel, by decide +kernel⟩, List.mem_of_getElem? (i := 886) (by decide +kernel), List.mem_of_getElem? (i := 1061) (by decide +kernel), List.mem_of_getElem? (i := 1062) (by decide +kernel)⟩
theorem lw_p31 : lw_okq (⟨"LastPlaceModel", "fails", "(II)I"⟩, 44) := ⟨⟨by decide +kernel, by decide +kernel⟩, List.mem_of_getElem? (i := 886) (by decide +kernel), List.mem_of_getElem? (i := 1074) (by decide +kernel), List.mem_of_getElem? (i := 1075) (by decide +kernel)⟩
def lw_privs_2 : List (MethodName × Nat) := [(⟨"LastPlace$Reckoner", "meanOfRound", "(LLastPlace$Street;LLastPlace$Rule;III)I"⟩, 5), (⟨"LastPlace", "isCar", "(I)Z"⟩, 12), (⟨"LastPlace", "isSet", "(II)Z"⟩, 12), (⟨"LastPlace$Parking", "leftBehind", "(II)I"⟩, 8), (⟨"LastPlace$Parking", "placeFrom", "(II)I"⟩, 8), (⟨"LastPlace", "refuseSet", "(II)I"⟩, 12), (⟨"LastPlace$Parking", "bestBar", "(II)I"⟩, 8), (⟨"LastPlace$Parking", "paidAt", "(II)I"⟩, 8), (⟨"LastPlace$Parking", "changeInTurn", "()Z"⟩, 8), (⟨"LastPlace$Parking", "giveDoor", "(II)V"⟩, 8), (⟨"LastPlaceModel", "bare", "()V"⟩, 44), (⟨"LastPlaceModel", "here", "()I"⟩, 44), (⟨"LastPlaceModel", "takeClause", "()I"⟩, 44), (⟨"LastPlaceModel", "readWord", "()V"⟩, 44), (⟨"LastPlaceModel", "clauseOf", "()I"⟩, 44), (⟨"LastPlaceModel", "fails", "(II)I"⟩, 44)]
theorem lw_r2 : ∀ q ∈ lw_privs_2, lw_okq q := List.forall_mem_cons.mpr ⟨lw_p16, List.forall_mem_cons.mpr ⟨lw_p17, List.forall_mem_cons.mpr ⟨lw_p18, List.forall_mem_cons.mpr ⟨lw_p19, List.forall_mem_cons.mpr ⟨lw_p20, List.forall_mem_cons.mpr ⟨lw_p21, List.forall_mem_cons.mpr ⟨lw_p22, List.forall_mem_cons.mpr ⟨lw_p23, List.forall_mem_cons.mpr ⟨lw_p24, List.forall_mem_cons.mpr ⟨lw_p25, List.forall_mem_cons.mpr ⟨lw_p26, List.forall_mem_cons.mpr ⟨lw_p27, List.forall_mem_cons.mpr ⟨lw_p28, List.forall_mem_cons.mpr ⟨lw_p29, List.forall_mem_cons.mpr ⟨lw_p30, List.forall_mem_cons.mpr ⟨lw_p31, fun _ h => absurd h List.not_mem_nil⟩⟩⟩⟩⟩⟩⟩⟩⟩⟩⟩⟩⟩⟩⟩⟩
theorem lw_p32 : lw_okq (⟨"LastPlaceModel", "takeDoors", "()I"⟩, 44) := ⟨⟨by decide +kernel, by decide +kernel⟩, List.mem_of_getElem? (i := 886) (by decide +kernel), List.mem_of_getElem? (i := 1078) (by decide +kernel), List.mem_of_getElem? (i := 1079) (by decide +kernel)⟩
theorem lw_p33 : lw_okq (⟨"LastPlaceModel", "takeNumber", "(II)I"⟩, 44) := ⟨⟨by decide +kernel, by decide +kernel⟩, List.mem_of_getElem? (i := 886) (by decide +kernel), List.mem_of_getElem? (i := 1082) (by decide +kernel), List.mem_of_getElem? (i := 1083) (by decide +kernel)⟩
theorem lw_p34 : lw_okq (⟨"LastPlaceModel", "takeFigures", "(IIIZ)I"⟩, 44) := ⟨⟨by decide +kernel, by decide +kernel⟩, List.mem_of_getElem? (i := 886) (by decide +kernel), List.mem_of_getElem? (i := 1088) (by decide +kernel), List.mem_of_getElem? (i := 1089) (by decide +kernel)⟩
theorem lw_p35 : lw_okq (⟨"LastPlaceModel", "needs", "(J)I"⟩, 44) := ⟨⟨by decide +kernel, by decide +kernel⟩, List.mem_of_getElem? (i := 886) (by decide +kernel), List.mem_of_getElem? (i := 1092) (by decide +kernel), List.mem_of_getElem? (i := 1093) (by decide +kernel)⟩
theorem lw_p36 : lw_okq (⟨"LastPlaceModel", "takeSingle", "(I)I"⟩, 44) := ⟨⟨by decide +kernel, by decide +kernel⟩, List.mem_of_getElem? (i := 886) (by decide +kernel), List.mem_of_getElem? (i := 1096) (by decide +kernel), List.mem_of_getElem? (i := 1097) (by decide +kernel)⟩
theorem lw_p37 : lw_okq (⟨"LastPlaceModel", "takeSigned", "(I)I"⟩, 44) := ⟨⟨by decide +kernel, by decide +kernel⟩, List.mem_of_getElem? (i := 886) (by decide +kernel), List.mem_of_getElem? (i := 1100) (by decide +kernel), List.mem_of_getElem? (i := 1101) (by decide +kernel)⟩
theorem lw_p38 : lw_okq (⟨"LastPlaceModel", "isStreet", "(I)Z"⟩, 44) := ⟨⟨by decide +kernel, by decide +kernel⟩, List.mem_of_getElem? (i := 886) (by decide +kernel), List.mem_of_getElem? (i := 1112) (by decide +kernel), List.mem_of_getElem? (i := 1113) (by decide +kernel)⟩
theorem lw_p39 : lw_okq (⟨"LastPlaceModel", "of", "(II)I"⟩, 44) := ⟨⟨by decide +kernel, by decide +kernel⟩, List.mem_of_getElem? (i := 886) (by decide +kernel), List.mem_of_getElem? (i := 1117) (by decide +kernel), List.mem_of_getElem? (i := 1118) (by decide +kernel)⟩
theorem lw_p40 : lw_okq (⟨"LastPlaceModel", "isDoor", "(II)Z"⟩, 44) := ⟨⟨by decide +kernel, by decide +kernel⟩, List.mem_of_getElem? (i := 886) (by decide +kernel), List.mem_of_getElem? (i := 1125) (by decide +kernel), List.mem_of_getElem? (i := 1126) (by decide +kernel)⟩
theorem lw_p41 : lw_okq (⟨"LastPlaceModel", "chanceOf", "(IIZ)I"⟩, 44) := ⟨⟨by decide +kernel, by decide +kernel⟩, List.mem_of_getElem? (i := 886) (by decide +kernel), List.mem_of_getElem? (i := 1133) (by decide +kernel), List.mem_of_getElem? (i := 1134) (by decide +kernel)⟩
theorem lw_p42 : lw_okq (⟨"LastPlaceModel", "isRound", "(II)Z"⟩, 44) := ⟨⟨by decide +kernel, by decide +kernel⟩, List.mem_of_getElem? (i := 886) (by decide +kernel), List.mem_of_getElem? (i := 1141) (by decide +kernel), List.mem_of_getElem? (i := 1142) (by decide +kernel)⟩
theorem lw_p43 : lw_okq (⟨"LastPlaceModel", "takingOf", "(III)I"⟩, 44) := ⟨⟨by decide +kernel, by decide +kernel⟩, List.mem_of_getElem? (i := 886) (by decide +kernel), List.mem_of_getElem? (i := 1145) (by decide +kernel), List.mem_of_getElem? (i := 1146) (by decide +kernel)⟩
theorem lw_p44 : lw_okq (⟨"LastPlaceModel", "takingBy", "(IIII)I"⟩, 44) := ⟨⟨by decide +kernel, by decide +kernel⟩, List.mem_of_getElem? (i := 886) (by decide +kernel), List.mem_of_getElem? (i := 1149) (by decide +kernel), List.mem_of_getElem? (i := 1150) (by decide +kernel)⟩
theorem lw_p45 : lw_okq (⟨"LastPlaceModel", "tick", "(III)I"⟩, 44) := ⟨⟨by decide +kernel, by decide +kernel⟩, List.mem_of_getElem? (i := 886) (by decide +kernel), List.mem_of_getElem? (i := 1153) (by decide +kernel), List.mem_of_getElem? (i := 1154) (by decide +kernel)⟩
theorem lw_p46 : lw_okq (⟨"LastPlaceModel", "lateAt", "(II)I"⟩, 44) := ⟨⟨by decide +kernel, by decide +kernel⟩, List.mem_of_getElem? (i := 886) (by decide +kernel), List.mem_of_getElem? (i := 1157) (by decide +kernel), List.mem_of_getElem? (i := 1158) (by decide +kernel)⟩
theorem lw_p47 : lw_okq (⟨"LastPlaceModel", "isSight", "(III)Z"⟩, 44) := ⟨⟨by decide +kernel, by decide +kernel⟩, List.mem_of_getElem? (i := 886) (by decide +kernel), List.mem_of_getElem? (i := 1165) (by decide +kernel), List.mem_of_getElem? (i := 1166) (by decide +kernel)⟩
def lw_privs_3 : List (MethodName × Nat) := [(⟨"LastPlaceModel", "takeDoors", "()I"⟩, 44), (⟨"LastPlaceModel", "takeNumber", "(II)I"⟩, 44), (⟨"LastPlaceModel", "takeFigures", "(IIIZ)I"⟩, 44), (⟨"LastPlaceModel", "needs", "(J)I"⟩, 44), (⟨"LastPlaceModel", "takeSingle", "(I)I"⟩, 44), (⟨"LastPlaceModel", "takeSigned", "(I)I"⟩, 44), (⟨"LastPlaceModel", "isStreet", "(I)Z"⟩, 44), (⟨"LastPlaceModel", "of", "(II)I"⟩, 44), (⟨"LastPlaceModel", "isDoor", "(II)Z"⟩, 44), (⟨"LastPlaceModel", "chanceOf", "(IIZ)I"⟩, 44), (⟨"LastPlaceModel", "isRound", "(II)Z"⟩, 44), (⟨"LastPlaceModel", "takingOf", "(III)I"⟩, 44), (⟨"LastPlaceModel", "takingBy", "(IIII)I"⟩, 44), (⟨"LastPlaceModel", "tick", "(III)I"⟩, 44), (⟨"LastPlaceModel", "lateAt", "(II)I"⟩, 44), (⟨"LastPlaceModel", "isSight", "(III)Z"⟩, 44)]
theorem lw_r3 : ∀ q ∈ lw_privs_3, lw_okq q := List.forall_mem_cons.mpr ⟨lw_p32, List.forall_mem_cons.mpr ⟨lw_p33, List.forall_mem_cons.mpr ⟨lw_p34, List.forall_mem_cons.mpr ⟨lw_p35, List.forall_mem_cons.mpr ⟨lw_p36, List.forall_mem_cons.mpr ⟨lw_p37, List.forall_mem_cons.mpr ⟨lw_p38, List.forall_mem_cons.mpr ⟨lw_p39, List.forall_mem_cons.mpr ⟨lw_p40, List.forall_mem_cons.mpr ⟨lw_p41, List.forall_mem_cons.mpr ⟨lw_p42, List.forall_mem_cons.mpr ⟨lw_p43, List.forall_mem_cons.mpr ⟨lw_p44, List.forall_mem_cons.mpr ⟨lw_p45, List.forall_mem_cons.mpr ⟨lw_p46, List.forall_mem_cons.mpr ⟨lw_p47, fun _ h => absurd h List.not_mem_nil⟩⟩⟩⟩⟩⟩⟩⟩⟩⟩⟩⟩⟩⟩⟩⟩
theorem lw_p48 : lw_okq (⟨"LastPlaceModel", "seen", "(II)I"⟩, 44) := ⟨⟨by decide +kernel, by decide +kernel⟩, List.mem_of_getElem? (i := 886) (by decide +kernel), List.mem_of_getElem? (i := 1169) (by decide +kernel), List.mem_of_getElem? (i := 1170) (by decide +kernel)⟩
theorem lw_p49 : lw_okq (⟨"LastPlaceModel", "findWay", "(I)V"⟩, 44) := ⟨⟨by decide +kernel, by decide +kernel⟩, List.mem_of_getElem? (i := 886) (by decide +kernel), List.mem_of_getElem? (i := 1173) (by decide +kernel), List.mem_of_getElem? (i := 1174) (by decide +kernel)⟩
theorem lw_p50 : lw_okq (⟨"LastPlaceModel", "findRound", "(II)V"⟩, 44) := ⟨⟨by decide +kernel, by decide +kernel⟩, List.mem_of_getElem? (i := 886) (by decide +kernel), List.mem_of_getElem? (i := 1177) (by decide +kernel), List.mem_of_getElem? (i := 1178) (by decide +kernel)⟩
theorem lw_p51 : lw_okq (⟨"LastPlaceModel", "garageOf", "(II)I"⟩, 44) := ⟨⟨by decide +kernel, by decide +kernel⟩, List.mem_of_getElem? (i := 886) (by decide +kernel), List.mem_of_getElem? (i := 1181) (by decide +kernel), List.mem_of_getElem? (i := 1182) (by decide +kernel)⟩
theorem lw_p52 : lw_okq (⟨"LastPlaceModel", "on", "(IIII)I"⟩, 44) := ⟨⟨by decide +kernel, by decide +kernel⟩, List.mem_of_getElem? (i := 886) (by decide +kernel), List.mem_of_getElem? (i := 1185) (by decide +kernel), List.mem_of_getElem? (i := 1186) (by decide +kernel)⟩
theorem lw_p53 : lw_okq (⟨"LastPlaceModel", "startOf", "(II)I"⟩, 44) := ⟨⟨by decide +kernel, by decide +kernel⟩, List.mem_of_getElem? (i := 886) (by decide +kernel), List.mem_of_getElem? (i := 1196) (by decide +kernel), List.mem_of_getElem? (i := 1197) (by decide +kernel)⟩
theorem lw_p54 : lw_okq (⟨"LastPlaceModel", "isTaking", "(IIII)Z"⟩, 44) := ⟨⟨by decide +kernel, by decide +kernel⟩, List.mem_of_getElem? (i := 886) (by decide +kernel), List.mem_of_getElem? (i := 1208) (by decide +kernel), List.mem_of_getElem? (i := 1209) (by decide +kernel)⟩
theorem lw_p55 : lw_okq (⟨"LastPlaceModel", "takeRule", "()I"⟩, 44) := ⟨⟨by decide +kernel, by decide +kernel⟩, List.mem_of_getElem? (i := 886) (by decide +kernel), List.mem_of_getElem? (i := 1232) (by decide +kernel), List.mem_of_getElem? (i := 1233) (by decide +kernel)⟩
theorem lw_p56 : lw_okq (⟨"LastPlaceModel", "takeSeen", "(J)I"⟩, 44) := ⟨⟨by decide +kernel, by decide +kernel⟩, List.mem_of_getElem? (i := 886) (by decide +kernel), List.mem_of_getElem? (i := 1236) (by decide +kernel), List.mem_of_getElem? (i := 1237) (by decide +kernel)⟩
theorem lw_p57 : lw_okq (⟨"LastPlaceModel", "isRule", "(I)Z"⟩, 44) := ⟨⟨by decide +kernel, by decide +kernel⟩, List.mem_of_getElem? (i := 886) (by decide +kernel), List.mem_of_getElem? (i := 1244) (by decide +kernel), List.mem_of_getElem? (i := 1245) (by decide +kernel)⟩
theorem lw_p58 : lw_okq (⟨"LastPlaceModel", "meanOf", "(III)I"⟩, 44) := ⟨⟨by decide +kernel, by decide +kernel⟩, List.mem_of_getElem? (i := 886) (by decide +kernel), List.mem_of_getElem? (i := 1248) (by decide +kernel), List.mem_of_getElem? (i := 1249) (by decide +kernel)⟩
theorem lw_p59 : lw_okq (⟨"LastPlaceModel", "isRoundBy", "(III)Z"⟩, 44) := ⟨⟨by decide +kernel, by decide +kernel⟩, List.mem_of_getElem? (i := 886) (by decide +kernel), List.mem_of_getElem? (i := 1252) (by decide +kernel), List.mem_of_getElem? (i := 1253) (by decide +kernel)⟩
theorem lw_p60 : lw_okq (⟨"LastPlaceModel", "byGarage", "(III)I"⟩, 44) := ⟨⟨by decide +kernel, by decide +kernel⟩, List.mem_of_getElem? (i := 886) (by decide +kernel), List.mem_of_getElem? (i := 1256) (by decide +kernel), List.mem_of_getElem? (i := 1257) (by decide +kernel)⟩
theorem lw_p61 : lw_okq (⟨"LastPlaceModel", "isFor", "(III)Z"⟩, 44) := ⟨⟨by decide +kernel, by decide +kernel⟩, List.mem_of_getElem? (i := 886) (by decide +kernel), List.mem_of_getElem? (i := 1261) (by decide +kernel), List.mem_of_getElem? (i := 1262) (by decide +kernel)⟩
theorem lw_p62 : lw_okq (⟨"LastPlaceModel", "byTaking", "(IIII)I"⟩, 44) := ⟨⟨by decide +kernel, by decide +kernel⟩, List.mem_of_getElem? (i := 886) (by decide +kernel), List.mem_of_getElem? (i := 1265) (by decide +kernel), List.mem_of_getElem? (i := 1266) (by decide +kernel)⟩
theorem lw_p63 : lw_okq (⟨"LastPlaceModel", "isCar", "(I)Z"⟩, 44) := ⟨⟨by decide +kernel, by decide +kernel⟩, List.mem_of_getElem? (i := 886) (by decide +kernel), List.mem_of_getElem? (i := 1305) (by decide +kernel), List.mem_of_getElem? (i := 1306) (by decide +kernel)⟩
def lw_privs_4 : List (MethodName × Nat) := [(⟨"LastPlaceModel", "seen", "(II)I"⟩, 44), (⟨"LastPlaceModel", "findWay", "(I)V"⟩, 44), (⟨"LastPlaceModel", "findRound", "(II)V"⟩, 44), (⟨"LastPlaceModel", "garageOf", "(II)I"⟩, 44), (⟨"LastPlaceModel", "on", "(IIII)I"⟩, 44), (⟨"LastPlaceModel", "startOf", "(II)I"⟩, 44), (⟨"LastPlaceModel", "isTaking", "(IIII)Z"⟩, 44), (⟨"LastPlaceModel", "takeRule", "()I"⟩, 44), (⟨"LastPlaceModel", "takeSeen", "(J)I"⟩, 44), (⟨"LastPlaceModel", "isRule", "(I)Z"⟩, 44), (⟨"LastPlaceModel", "meanOf", "(III)I"⟩, 44), (⟨"LastPlaceModel", "isRoundBy", "(III)Z"⟩, 44), (⟨"LastPlaceModel", "byGarage", "(III)I"⟩, 44), (⟨"LastPlaceModel", "isFor", "(III)Z"⟩, 44), (⟨"LastPlaceModel", "byTaking", "(IIII)I"⟩, 44), (⟨"LastPlaceModel", "isCar", "(I)Z"⟩, 44)]
theorem lw_r4 : ∀ q ∈ lw_privs_4, lw_okq q := List.forall_mem_cons.mpr ⟨lw_p48, List.forall_mem_cons.mpr ⟨lw_p49, List.forall_mem_cons.mpr ⟨lw_p50, List.forall_mem_cons.mpr ⟨lw_p51, List.forall_mem_cons.mpr ⟨lw_p52, List.forall_mem_cons.mpr ⟨lw_p53, List.forall_mem_cons.mpr ⟨lw_p54, List.forall_mem_cons.mpr ⟨lw_p55, List.forall_mem_cons.mpr ⟨lw_p56, List.forall_mem_cons.mpr ⟨lw_p57, List.forall_mem_cons.mpr ⟨lw_p58, List.forall_mem_cons.mpr ⟨lw_p59, List.forall_mem_cons.mpr ⟨lw_p60, List.forall_mem_cons.mpr ⟨lw_p61, List.forall_mem_cons.mpr ⟨lw_p62, List.forall_mem_cons.mpr ⟨lw_p63, fun _ h => absurd h List.not_mem_nil⟩⟩⟩⟩⟩⟩⟩⟩⟩⟩⟩⟩⟩⟩⟩⟩
theorem lw_p64 : lw_okq (⟨"LastPlaceModel", "isSet", "(II)Z"⟩, 44) := ⟨⟨by decide +kernel, by decide +kernel⟩, List.mem_of_getElem? (i := 886) (by decide +kernel), List.mem_of_getElem? (i := 1313) (by decide +kernel), List.mem_of_getElem? (i := 1314) (by decide +kernel)⟩
theorem lw_p65 : lw_okq (⟨"LastPlaceModel", "costOf", "(III)I"⟩, 44) := ⟨⟨by decide +kernel, by decide +kernel⟩, List.mem_of_getElem? (i := 886) (by decide +kernel), List.mem_of_getElem? (i := 1317) (by decide +kernel), List.mem_of_getElem? (i := 1318) (by decide +kernel)⟩
theorem lw_p66 : lw_okq (⟨"LastPlaceModel", "parkAll", "(II)V"⟩, 44) := ⟨⟨by decide +kernel, by decide +kernel⟩, List.mem_of_getElem? (i := 886) (by decide +kernel), List.mem_of_getElem? (i := 1321) (by decide +kernel), List.mem_of_getElem? (i := 1322) (by decide +kernel)⟩
theorem lw_p67 : lw_okq (⟨"LastPlaceModel", "costAt", "(III)I"⟩, 44) := ⟨⟨by decide +kernel, by decide +kernel⟩, List.mem_of_getElem? (i := 886) (by decide +kernel), List.mem_of_getElem? (i := 1325) (by decide +kernel), List.mem_of_getElem? (i := 1326) (by decide +kernel)⟩
theorem lw_p68 : lw_okq (⟨"LastPlaceModel", "isAtRest", "(II)Z"⟩, 44) := ⟨⟨by decide +kernel, by decide +kernel⟩, List.mem_of_getElem? (i := 886) (by decide +kernel), List.mem_of_getElem? (i := 1333) (by decide +kernel), List.mem_of_getElem? (i := 1334) (by decide +kernel)⟩
theorem lw_p69 : lw_okq (⟨"LastPlaceModel", "bestBar", "(III)I"⟩, 44) := ⟨⟨by decide +kernel, by decide +kernel⟩, List.mem_of_getElem? (i := 886) (by decide +kernel), List.mem_of_getElem? (i := 1337) (by decide +kernel), List.mem_of_getElem? (i := 1338) (by decide +kernel)⟩
theorem lw_p70 : lw_okq (⟨"LastPlaceModel", "turnAll", "(II)I"⟩, 44) := ⟨⟨by decide +kernel, by decide +kernel⟩, List.mem_of_getElem? (i := 886) (by decide +kernel), List.mem_of_getElem? (i := 1345) (by decide +kernel), List.mem_of_getElem? (i := 1346) (by decide +kernel)⟩
theorem lw_p71 : lw_okq (⟨"LastPlaceModel", "holdBars", "()V"⟩, 44) := ⟨⟨by decide +kernel, by decide +kernel⟩, List.mem_of_getElem? (i := 886) (by decide +kernel), List.mem_of_getElem? (i := 1353) (by decide +kernel), List.mem_of_getElem? (i := 1354) (by decide +kernel)⟩
theorem lw_p72 : lw_okq (⟨"LastPlaceModel", "putBars", "()V"⟩, 44) := ⟨⟨by decide +kernel, by decide +kernel⟩, List.mem_of_getElem? (i := 886) (by decide +kernel), List.mem_of_getElem? (i := 1357) (by decide +kernel), List.mem_of_getElem? (i := 1358) (by decide +kernel)⟩
theorem lw_p73 : lw_okq (⟨"LastPlaceModel", "allCosts", "(II)I"⟩, 44) := ⟨⟨by decide +kernel, by decide +kernel⟩, List.mem_of_getElem? (i := 886) (by decide +kernel), List.mem_of_getElem? (i := 1365) (by decide +kernel), List.mem_of_getElem? (i := 1366) (by decide +kernel)⟩
theorem lw_p74 : lw_okq (⟨"LastPlaceModel", "leastAll", "(II)I"⟩, 44) := ⟨⟨by decide +kernel, by decide +kernel⟩, List.mem_of_getElem? (i := 886) (by decide +kernel), List.mem_of_getElem? (i := 1369) (by decide +kernel), List.mem_of_getElem? (i := 1370) (by decide +kernel)⟩
theorem lw_p75 : lw_okq (⟨"LastPlaceModel", "sumAll", "(IIIII)I"⟩, 44) := ⟨⟨by decide +kernel, by decide +kernel⟩, List.mem_of_getElem? (i := 886) (by decide +kernel), List.mem_of_getElem? (i := 1382) (by decide +kernel), List.mem_of_getElem? (i := 1383) (by decide +kernel)⟩
theorem lw_p76 : lw_okq (⟨"LastPlaceModel", "drive", "(II)I"⟩, 44) := ⟨⟨by decide +kernel, by decide +kernel⟩, List.mem_of_getElem? (i := 886) (by decide +kernel), List.mem_of_getElem? (i := 1399) (by decide +kernel), List.mem_of_getElem? (i := 1400) (by decide +kernel)⟩
theorem lw_p77 : lw_okq (⟨"LastPlaceModel", "draw", "()I"⟩, 44) := ⟨⟨by decide +kernel, by decide +kernel⟩, List.mem_of_getElem? (i := 886) (by decide +kernel), List.mem_of_getElem? (i := 1403) (by decide +kernel), List.mem_of_getElem? (i := 1404) (by decide +kernel)⟩
def lw_privs_5 : List (MethodName × Nat) := [(⟨"LastPlaceModel", "isSet", "(II)Z"⟩, 44), (⟨"LastPlaceModel", "costOf", "(III)I"⟩, 44), (⟨"LastPlaceModel", "parkAll", "(II)V"⟩, 44), (⟨"LastPlaceModel", "costAt", "(III)I"⟩, 44), (⟨"LastPlaceModel", "isAtRest", "(II)Z"⟩, 44), (⟨"LastPlaceModel", "bestBar", "(III)I"⟩, 44), (⟨"LastPlaceModel", "turnAll", "(II)I"⟩, 44), (⟨"LastPlaceModel", "holdBars", "()V"⟩, 44), (⟨"LastPlaceModel", "putBars", "()V"⟩, 44), (⟨"LastPlaceModel", "allCosts", "(II)I"⟩, 44), (⟨"LastPlaceModel", "leastAll", "(II)I"⟩, 44), (⟨"LastPlaceModel", "sumAll", "(IIIII)I"⟩, 44), (⟨"LastPlaceModel", "drive", "(II)I"⟩, 44), (⟨"LastPlaceModel", "draw", "()I"⟩, 44)]
theorem lw_r5 : ∀ q ∈ lw_privs_5, lw_okq q := List.forall_mem_cons.mpr ⟨lw_p64, List.forall_mem_cons.mpr ⟨lw_p65, List.forall_mem_cons.mpr ⟨lw_p66, List.forall_mem_cons.mpr ⟨lw_p67, List.forall_mem_cons.mpr ⟨lw_p68, List.forall_mem_cons.mpr ⟨lw_p69, List.forall_mem_cons.mpr ⟨lw_p70, List.forall_mem_cons.mpr ⟨lw_p71, List.forall_mem_cons.mpr ⟨lw_p72, List.forall_mem_cons.mpr ⟨lw_p73, List.forall_mem_cons.mpr ⟨lw_p74, List.forall_mem_cons.mpr ⟨lw_p75, List.forall_mem_cons.mpr ⟨lw_p76, List.forall_mem_cons.mpr ⟨lw_p77, fun _ h => absurd h List.not_mem_nil⟩⟩⟩⟩⟩⟩⟩⟩⟩⟩⟩⟩⟩⟩
def lw_privs : List (MethodName × Nat) := lw_privs_1 ++ (lw_privs_2 ++ (lw_privs_3 ++ (lw_privs_4 ++ (lw_privs_5))))
def lw_tbl : List Cond := k2_sels lw_privs ++ tables_1
theorem lw_privs_ok : ∀ q ∈ lw_privs, lw_okq q := by
  show ∀ q ∈ lw_privs_1 ++ (lw_privs_2 ++ (lw_privs_3 ++ (lw_privs_4 ++ (lw_privs_5)))), lw_okq q
  exact List.forall_mem_append.mpr ⟨lw_r1, List.forall_mem_append.mpr ⟨lw_r2, List.forall_mem_append.mpr ⟨lw_r3, List.forall_mem_append.mpr ⟨lw_r4, lw_r5⟩⟩⟩⟩
end
section
def RX0 : String := "LastPlace$BestWay"
def TX0 : u_T := fun k => match k with
  | 0 => ("LastPlace$BestWay", "street", "LLastPlace$Street;", true)
  | 1 => ("LastPlace$BestWay", "onward", "[I", true)
  | 2 => ("LastPlace$BestWay", "starts", "[I", true)
  | 3 => ("LastPlace$BestWay", "ends", "[I", true)
  | _ => ("LastPlace$BestWay", "folded", "[I", true)
def tyX0 : Nat → FieldType := fun k => match k with
  | 0 => .object "LastPlace$Street"
  | 1 => .array .int
  | 2 => .array .int
  | 3 => .array .int
  | _ => .array .int
theorem nmX0 : ∀ a, a < 5 → ∀ b, b < 5 → a ≠ b → (TX0 a).2.1 ≠ (TX0 b).2.1 := by decide +kernel
theorem tyX0_ok : ∀ k, k < 5 → parseFieldDescriptor (TX0 k).2.2.1 = some (tyX0 k) := by decide +kernel
abbrev cX0_init : ByteArray := prog_2_method_1_code
def yX0_init : MethodName := ⟨RX0, "<init>", "(LLastPlace$Street;)V"⟩
abbrev cX0_reckon : ByteArray := prog_2_method_2_code
def yX0_reckon : MethodName := ⟨RX0, "reckon", "()V"⟩
abbrev cX0_reckonEnd : ByteArray := prog_2_method_3_code
def yX0_reckonEnd : MethodName := ⟨RX0, "reckonEnd", "(I)I"⟩
abbrev cX0_reckonDoor : ByteArray := prog_2_method_4_code
def yX0_reckonDoor : MethodName := ⟨RX0, "reckonDoor", "(II)V"⟩
abbrev cX0_reckonNext : ByteArray := prog_2_method_5_code
def yX0_reckonNext : MethodName := ⟨RX0, "reckonNext", "(III)I"⟩
abbrev cX0_reckonStart : ByteArray := prog_2_method_6_code
def yX0_reckonStart : MethodName := ⟨RX0, "reckonStart", "(I)I"⟩
abbrev cX0_slot : ByteArray := prog_2_method_7_code
def yX0_slot : MethodName := ⟨RX0, "slot", "(III)I"⟩
abbrev cX0_onwardOf : ByteArray := prog_2_method_8_code
def yX0_onwardOf : MethodName := ⟨RX0, "onwardOf", "(III)I"⟩
abbrev cX0_isTaken : ByteArray := prog_2_method_9_code
def yX0_isTaken : MethodName := ⟨RX0, "isTaken", "(III)Z"⟩
abbrev cX0_worthOf : ByteArray := prog_2_method_10_code
def yX0_worthOf : MethodName := ⟨RX0, "worthOf", "(III)I"⟩
abbrev cX0_barOf : ByteArray := prog_2_method_11_code
def yX0_barOf : MethodName := ⟨RX0, "barOf", "(I)I"⟩
abbrev cX0_isTakenByAll : ByteArray := prog_2_method_12_code
def yX0_isTakenByAll : MethodName := ⟨RX0, "isTakenByAll", "(II)Z"⟩
abbrev cX0_isTakenByAny : ByteArray := prog_2_method_13_code
def yX0_isTakenByAny : MethodName := ⟨RX0, "isTakenByAny", "(II)Z"⟩
abbrev cX0_firstWrong : ByteArray := prog_2_method_14_code
def yX0_firstWrong : MethodName := ⟨RX0, "firstWrong", "(ILLastPlace$Scene;Z)I"⟩
def RX1 : String := "LastPlace$Parking"
def TX1 : u_T := fun k => match k with
  | 0 => ("LastPlace$Parking", "scene", "LLastPlace$Scene;", true)
  | 1 => ("LastPlace$Parking", "bars", "[I", true)
  | 2 => ("LastPlace$Parking", "costs", "[I", true)
  | 3 => ("LastPlace$Parking", "given", "[I", true)
  | 4 => ("LastPlace$Parking", "n", "I", false)
  | 5 => ("LastPlace$Parking", "free", "I", false)
  | 6 => ("LastPlace$Parking", "dearFrom", "I", false)
  | _ => ("LastPlace$Parking", "dearer", "I", false)
def tyX1 : Nat → FieldType := fun k => match k with
  | 0 => .object "LastPlace$Scene"
  | 1 => .array .int
  | 2 => .array .int
  | 3 => .array .int
  | 4 => .int
  | 5 => .int
  | 6 => .int
  | _ => .int
theorem nmX1 : ∀ a, a < 8 → ∀ b, b < 8 → a ≠ b → (TX1 a).2.1 ≠ (TX1 b).2.1 := by decide +kernel
theorem tyX1_ok : ∀ k, k < 8 → parseFieldDescriptor (TX1 k).2.2.1 = some (tyX1 k) := by decide +kernel
abbrev cX1_init : ByteArray := prog_3_method_1_code
def yX1_init : MethodName := ⟨RX1, "<init>", "(LLastPlace$Scene;)V"⟩
abbrev cX1_comeTo : ByteArray := prog_3_method_2_code
def yX1_comeTo : MethodName := ⟨RX1, "comeTo", "(LLastPlace$Street;I)V"⟩
abbrev cX1_costAt : ByteArray := prog_3_method_3_code
def yX1_costAt : MethodName := ⟨RX1, "costAt", "(II)I"⟩
abbrev cX1_paidAt : ByteArray := prog_3_method_4_code
def yX1_paidAt : MethodName := ⟨RX1, "paidAt", "(II)I"⟩
abbrev cX1_placeFrom : ByteArray := prog_3_method_5_code
def yX1_placeFrom : MethodName := ⟨RX1, "placeFrom", "(II)I"⟩
abbrev cX1_leftBehind : ByteArray := prog_3_method_6_code
def yX1_leftBehind : MethodName := ⟨RX1, "leftBehind", "(II)I"⟩
abbrev cX1_placeOf : ByteArray := prog_3_method_7_code
def yX1_placeOf : MethodName := ⟨RX1, "placeOf", "(I)I"⟩
abbrev cX1_bestBar : ByteArray := prog_3_method_8_code
def yX1_bestBar : MethodName := ⟨RX1, "bestBar", "(II)I"⟩
abbrev cX1_isAtRest : ByteArray := prog_3_method_9_code
def yX1_isAtRest : MethodName := ⟨RX1, "isAtRest", "()Z"⟩
abbrev cX1_goByTurns : ByteArray := prog_3_method_10_code
def yX1_goByTurns : MethodName := ⟨RX1, "goByTurns", "()I"⟩
abbrev cX1_changeInTurn : ByteArray := prog_3_method_11_code
def yX1_changeInTurn : MethodName := ⟨RX1, "changeInTurn", "()Z"⟩
abbrev cX1_countRests : ByteArray := prog_3_method_12_code
def yX1_countRests : MethodName := ⟨RX1, "countRests", "()I"⟩
abbrev cX1_costOfAll : ByteArray := prog_3_method_13_code
def yX1_costOfAll : MethodName := ⟨RX1, "costOfAll", "()I"⟩
abbrev cX1_leastOfAll : ByteArray := prog_3_method_14_code
def yX1_leastOfAll : MethodName := ⟨RX1, "leastOfAll", "()I"⟩
abbrev cX1_giveDoor : ByteArray := prog_3_method_15_code
def yX1_giveDoor : MethodName := ⟨RX1, "giveDoor", "(II)V"⟩
abbrev cX1_mendingPrice : ByteArray := prog_3_method_16_code
def yX1_mendingPrice : MethodName := ⟨RX1, "mendingPrice", "(I)I"⟩
def RX2 : String := "LastPlace$Reckoner"
def TX2 : u_T := fun k => match k with
  | 0 => ("LastPlace$Reckoner", "afterFree", "[I", true)
  | 1 => ("LastPlace$Reckoner", "afterTaken", "[I", true)
  | 2 => ("LastPlace$Reckoner", "least", "[I", true)
  | 3 => ("LastPlace$Reckoner", "waitTicks", "I", false)
  | _ => ("LastPlace$Reckoner", "waitCost", "I", false)
def tyX2 : Nat → FieldType := fun k => match k with
  | 0 => .array .int
  | 1 => .array .int
  | 2 => .array .int
  | 3 => .int
  | _ => .int
theorem nmX2 : ∀ a, a < 5 → ∀ b, b < 5 → a ≠ b → (TX2 a).2.1 ≠ (TX2 b).2.1 := by decide +kernel
theorem tyX2_ok : ∀ k, k < 5 → parseFieldDescriptor (TX2 k).2.2.1 = some (tyX2 k) := by decide +kernel
abbrev cX2_init : ByteArray := prog_4_method_1_code
def yX2_init : MethodName := ⟨RX2, "<init>", "()V"⟩
abbrev cX2_meanOf : ByteArray := prog_4_method_2_code
def yX2_meanOf : MethodName := ⟨RX2, "meanOf", "(LLastPlace$Street;LLastPlace$Rule;I)I"⟩
abbrev cX2_garageShare : ByteArray := prog_4_method_3_code
def yX2_garageShare : MethodName := ⟨RX2, "garageShare", "(LLastPlace$Street;II)I"⟩
abbrev cX2_doorShare : ByteArray := prog_4_method_4_code
def yX2_doorShare : MethodName := ⟨RX2, "doorShare", "(LLastPlace$Street;III)I"⟩
abbrev cX2_meanOfRound : ByteArray := prog_4_method_5_code
def yX2_meanOfRound : MethodName := ⟨RX2, "meanOfRound", "(LLastPlace$Street;LLastPlace$Rule;III)I"⟩
abbrev cX2_boyOf : ByteArray := prog_4_method_6_code
def yX2_boyOf : MethodName := ⟨RX2, "boyOf", "(LLastPlace$Street;I)I"⟩
abbrev cX2_reckonWait : ByteArray := prog_4_method_7_code
def yX2_reckonWait : MethodName := ⟨RX2, "reckonWait", "(IIII)V"⟩
abbrev cX2_thoughtOf : ByteArray := prog_4_method_8_code
def yX2_thoughtOf : MethodName := ⟨RX2, "thoughtOf", "(LLastPlace$Street;LLastPlace$Street;LLastPlace$Scene;)I"⟩
abbrev cX2_likelihood : ByteArray := prog_4_method_9_code
def yX2_likelihood : MethodName := ⟨RX2, "likelihood", "(LLastPlace$Street;IZZ)I"⟩
abbrev cX2_eveningOf : ByteArray := prog_4_method_10_code
def yX2_eveningOf : MethodName := ⟨RX2, "eveningOf", "(LLastPlace$Street;LLastPlace$Rule;LLastPlace$Scene;)I"⟩
def RX3 : String := "LastPlace$Rule"
def TX3 : u_T := fun k => match k with
  | 0 => ("LastPlace$Rule", "seen", "[I", true)
  | 1 => ("LastPlace$Rule", "from", "[I", true)
  | 2 => ("LastPlace$Rule", "firstFrom", "I", false)
  | 3 => ("LastPlace$Rule", "changes", "I", false)
  | _ => ("LastPlace$Rule", "rounds", "I", false)
def tyX3 : Nat → FieldType := fun k => match k with
  | 0 => .array .int
  | 1 => .array .int
  | 2 => .int
  | 3 => .int
  | _ => .int
theorem nmX3 : ∀ a, a < 5 → ∀ b, b < 5 → a ≠ b → (TX3 a).2.1 ≠ (TX3 b).2.1 := by decide +kernel
theorem tyX3_ok : ∀ k, k < 5 → parseFieldDescriptor (TX3 k).2.2.1 = some (tyX3 k) := by decide +kernel
abbrev cX3_init : ByteArray := prog_5_method_1_code
def yX3_init : MethodName := ⟨RX3, "<init>", "()V"⟩
abbrev cX3_readFrom : ByteArray := prog_5_method_2_code
def yX3_readFrom : MethodName := ⟨RX3, "readFrom", "(LLastPlace$Text;)V"⟩
abbrev cX3_readChange : ByteArray := prog_5_method_3_code
def yX3_readChange : MethodName := ⟨RX3, "readChange", "(LLastPlace$Text;)V"⟩
abbrev cX3_barAfter : ByteArray := prog_5_method_4_code
def yX3_barAfter : MethodName := ⟨RX3, "barAfter", "(I)I"⟩
abbrev cX3_roundsIn : ByteArray := prog_5_method_5_code
def yX3_roundsIn : MethodName := ⟨RX3, "roundsIn", "(LLastPlace$Street;)I"⟩
def RX4 : String := "LastPlace$Scene"
def TX4 : u_T := fun k => match k with
  | 0 => ("LastPlace$Scene", "walks", "[I", true)
  | 1 => ("LastPlace$Scene", "bars", "[I", true)
  | 2 => ("LastPlace$Scene", "carCount", "I", false)
  | 3 => ("LastPlace$Scene", "rowSize", "I", false)
  | 4 => ("LastPlace$Scene", "rowFree", "I", false)
  | _ => ("LastPlace$Scene", "seedNow", "I", false)
def tyX4 : Nat → FieldType := fun k => match k with
  | 0 => .array .int
  | 1 => .array .int
  | 2 => .int
  | 3 => .int
  | 4 => .int
  | _ => .int
theorem nmX4 : ∀ a, a < 6 → ∀ b, b < 6 → a ≠ b → (TX4 a).2.1 ≠ (TX4 b).2.1 := by decide +kernel
theorem tyX4_ok : ∀ k, k < 6 → parseFieldDescriptor (TX4 k).2.2.1 = some (tyX4 k) := by decide +kernel
abbrev cX4_init : ByteArray := prog_6_method_1_code
def yX4_init : MethodName := ⟨RX4, "<init>", "()V"⟩
abbrev cX4_copyFrom : ByteArray := prog_6_method_2_code
def yX4_copyFrom : MethodName := ⟨RX4, "copyFrom", "(LLastPlace$Scene;)V"⟩
abbrev cX4_see : ByteArray := prog_6_method_3_code
def yX4_see : MethodName := ⟨RX4, "see", "(Z)I"⟩
abbrev cX4_sawFree : ByteArray := prog_6_method_4_code
def yX4_sawFree : MethodName := ⟨RX4, "sawFree", "(I)Z"⟩
abbrev cX4_addCar : ByteArray := prog_6_method_5_code
def yX4_addCar : MethodName := ⟨RX4, "addCar", "(II)I"⟩
abbrev cX4_takeBars : ByteArray := prog_6_method_6_code
def yX4_takeBars : MethodName := ⟨RX4, "takeBars", "([I)V"⟩
abbrev cX4_draw : ByteArray := prog_6_method_7_code
def yX4_draw : MethodName := ⟨RX4, "draw", "()I"⟩
def RX5 : String := "LastPlace$Street"
def TX5 : u_T := fun k => match k with
  | 0 => ("LastPlace$Street", "values", "[I", true)
  | 1 => ("LastPlace$Street", "frees", "[I", true)
  | 2 => ("LastPlace$Street", "prices", "[I", true)
  | _ => ("LastPlace$Street", "lateness", "[I", true)
def tyX5 : Nat → FieldType := fun k => match k with
  | 0 => .array .int
  | 1 => .array .int
  | 2 => .array .int
  | _ => .array .int
theorem nmX5 : ∀ a, a < 4 → ∀ b, b < 4 → a ≠ b → (TX5 a).2.1 ≠ (TX5 b).2.1 := by decide +kernel
theorem tyX5_ok : ∀ k, k < 4 → parseFieldDescriptor (TX5 k).2.2.1 = some (tyX5 k) := by decide +kernel
abbrev cX5_init : ByteArray := prog_7_method_1_code
def yX5_init : MethodName := ⟨RX5, "<init>", "()V"⟩
abbrev cX5_doors : ByteArray := prog_7_method_2_code
def yX5_doors : MethodName := ⟨RX5, "doors", "()I"⟩
abbrev cX5_become : ByteArray := prog_7_method_3_code
def yX5_become : MethodName := ⟨RX5, "become", "(LLastPlace$Street;)V"⟩
abbrev cX5_readFrom : ByteArray := prog_7_method_4_code
def yX5_readFrom : MethodName := ⟨RX5, "readFrom", "(LLastPlace$Text;)V"⟩
abbrev cX5_takeClauseWord : ByteArray := prog_7_method_5_code
def yX5_takeClauseWord : MethodName := ⟨RX5, "takeClauseWord", "(LLastPlace$Text;)I"⟩
abbrev cX5_wordOf : ByteArray := prog_7_method_6_code
def yX5_wordOf : MethodName := ⟨RX5, "wordOf", "(I)Ljava/lang/String;"⟩
abbrev cX5_readDoors : ByteArray := prog_7_method_7_code
def yX5_readDoors : MethodName := ⟨RX5, "readDoors", "(LLastPlace$Text;)V"⟩
abbrev cX5_readClause : ByteArray := prog_7_method_8_code
def yX5_readClause : MethodName := ⟨RX5, "readClause", "(LLastPlace$Text;I)V"⟩
abbrev cX5_chanceOf : ByteArray := prog_7_method_9_code
def yX5_chanceOf : MethodName := ⟨RX5, "chanceOf", "(IZ)I"⟩
abbrev cX5_arrivalOf : ByteArray := prog_7_method_10_code
def yX5_arrivalOf : MethodName := ⟨RX5, "arrivalOf", "(I)I"⟩
abbrev cX5_isLateIn : ByteArray := prog_7_method_11_code
def yX5_isLateIn : MethodName := ⟨RX5, "isLateIn", "(I)Z"⟩
abbrev cX5_takingOf : ByteArray := prog_7_method_12_code
def yX5_takingOf : MethodName := ⟨RX5, "takingOf", "(II)I"⟩
abbrev cX5_takingBy : ByteArray := prog_7_method_13_code
def yX5_takingBy : MethodName := ⟨RX5, "takingBy", "(III)I"⟩
abbrev cX5_garageOf : ByteArray := prog_7_method_14_code
def yX5_garageOf : MethodName := ⟨RX5, "garageOf", "(I)I"⟩
abbrev cX5_passing : ByteArray := prog_7_method_15_code
def yX5_passing : MethodName := ⟨RX5, "passing", "()I"⟩
abbrev cX5_roundDrive : ByteArray := prog_7_method_16_code
def yX5_roundDrive : MethodName := ⟨RX5, "roundDrive", "()I"⟩
abbrev cX5_sightsAt : ByteArray := prog_7_method_17_code
def yX5_sightsAt : MethodName := ⟨RX5, "sightsAt", "(I)I"⟩
def RX6 : String := "LastPlace$Text"
def TX6 : u_T := fun k => match k with
  | 0 => ("LastPlace$Text", "bytes", "[B", true)
  | 1 => ("LastPlace$Text", "size", "I", false)
  | 2 => ("LastPlace$Text", "at", "I", false)
  | 3 => ("LastPlace$Text", "numberAt", "I", false)
  | 4 => ("LastPlace$Text", "faultNumber", "I", false)
  | _ => ("LastPlace$Text", "faultByte", "I", false)
def tyX6 : Nat → FieldType := fun k => match k with
  | 0 => .array .byte
  | 1 => .int
  | 2 => .int
  | 3 => .int
  | 4 => .int
  | _ => .int
theorem nmX6 : ∀ a, a < 6 → ∀ b, b < 6 → a ≠ b → (TX6 a).2.1 ≠ (TX6 b).2.1 := by decide +kernel
theorem tyX6_ok : ∀ k, k < 6 → parseFieldDescriptor (TX6 k).2.2.1 = some (tyX6 k) := by decide +kernel
abbrev cX6_init : ByteArray := prog_8_method_1_code
def yX6_init : MethodName := ⟨RX6, "<init>", "()V"⟩
abbrev cX6_append : ByteArray := prog_8_method_2_code
def yX6_append : MethodName := ⟨RX6, "append", "(B)V"⟩
abbrev cX6_rewind : ByteArray := prog_8_method_3_code
def yX6_rewind : MethodName := ⟨RX6, "rewind", "()V"⟩
abbrev cX6_failed : ByteArray := prog_8_method_4_code
def yX6_failed : MethodName := ⟨RX6, "failed", "()Z"⟩
abbrev cX6_fail : ByteArray := prog_8_method_5_code
def yX6_fail : MethodName := ⟨RX6, "fail", "(II)V"⟩
abbrev cX6_byteAt : ByteArray := prog_8_method_6_code
def yX6_byteAt : MethodName := ⟨RX6, "byteAt", "(I)I"⟩
abbrev cX6_skipBlanks : ByteArray := prog_8_method_7_code
def yX6_skipBlanks : MethodName := ⟨RX6, "skipBlanks", "()V"⟩
abbrev cX6_isAtEnd : ByteArray := prog_8_method_8_code
def yX6_isAtEnd : MethodName := ⟨RX6, "isAtEnd", "()Z"⟩
abbrev cX6_isLetterAt : ByteArray := prog_8_method_9_code
def yX6_isLetterAt : MethodName := ⟨RX6, "isLetterAt", "(I)Z"⟩
abbrev cX6_isFigureAt : ByteArray := prog_8_method_10_code
def yX6_isFigureAt : MethodName := ⟨RX6, "isFigureAt", "(I)Z"⟩
abbrev cX6_takeWord : ByteArray := prog_8_method_11_code
def yX6_takeWord : MethodName := ⟨RX6, "takeWord", "(Ljava/lang/String;)Z"⟩
abbrev cX6_needWord : ByteArray := prog_8_method_12_code
def yX6_needWord : MethodName := ⟨RX6, "needWord", "(Ljava/lang/String;)V"⟩
abbrev cX6_needSemicolon : ByteArray := prog_8_method_13_code
def yX6_needSemicolon : MethodName := ⟨RX6, "needSemicolon", "()V"⟩
abbrev cX6_needNumber : ByteArray := prog_8_method_14_code
def yX6_needNumber : MethodName := ⟨RX6, "needNumber", "(II)I"⟩
def RX7 : String := "LastPlace"
def TX7 : u_T := fun k => match k with
  | 0 => ("LastPlace", "text", "LLastPlace$Text;", true)
  | 1 => ("LastPlace", "streets", "[LLastPlace$Street;", true)
  | 2 => ("LastPlace", "ways", "[LLastPlace$BestWay;", true)
  | 3 => ("LastPlace", "draft", "LLastPlace$Street;", true)
  | 4 => ("LastPlace", "rules", "[LLastPlace$Rule;", true)
  | 5 => ("LastPlace", "ruleCount", "I", false)
  | 6 => ("LastPlace", "latestFault", "I", false)
  | 7 => ("LastPlace", "now", "LLastPlace$Scene;", true)
  | 8 => ("LastPlace", "images", "[LLastPlace$Scene;", true)
  | 9 => ("LastPlace", "kept", "[Z", true)
  | 10 => ("LastPlace", "reckoner", "LLastPlace$Reckoner;", true)
  | _ => ("LastPlace", "parking", "LLastPlace$Parking;", true)
def tyX7 : Nat → FieldType := fun k => match k with
  | 0 => .object "LastPlace$Text"
  | 1 => .array (.object "LastPlace$Street")
  | 2 => .array (.object "LastPlace$BestWay")
  | 3 => .object "LastPlace$Street"
  | 4 => .array (.object "LastPlace$Rule")
  | 5 => .int
  | 6 => .int
  | 7 => .object "LastPlace$Scene"
  | 8 => .array (.object "LastPlace$Scene")
  | 9 => .array .boolean
  | 10 => .object "LastPlace$Reckoner"
  | _ => .object "LastPlace$Parking"
theorem nmX7 : ∀ a, a < 12 → ∀ b, b < 12 → a ≠ b → (TX7 a).2.1 ≠ (TX7 b).2.1 := by decide +kernel
theorem tyX7_ok : ∀ k, k < 12 → parseFieldDescriptor (TX7 k).2.2.1 = some (tyX7 k) := by decide +kernel
abbrev cX7_init : ByteArray := prog_1_method_1_code
def yX7_init : MethodName := ⟨RX7, "<init>", "()V"⟩
abbrev cX7_feed : ByteArray := prog_1_method_2_code
def yX7_feed : MethodName := ⟨RX7, "feed", "(IJ)I"⟩
abbrev cX7_street : ByteArray := prog_1_method_3_code
def yX7_street : MethodName := ⟨RX7, "street", "(I)I"⟩
abbrev cX7_fault : ByteArray := prog_1_method_4_code
def yX7_fault : MethodName := ⟨RX7, "fault", "()I"⟩
abbrev cX7_told : ByteArray := prog_1_method_5_code
def yX7_told : MethodName := ⟨RX7, "told", "(II)I"⟩
abbrev cX7_door : ByteArray := prog_1_method_6_code
def yX7_door : MethodName := ⟨RX7, "door", "(III)I"⟩
abbrev cX7_chance : ByteArray := prog_1_method_7_code
def yX7_chance : MethodName := ⟨RX7, "chance", "(IIZ)I"⟩
abbrev cX7_taking : ByteArray := prog_1_method_8_code
def yX7_taking : MethodName := ⟨RX7, "taking", "(III)I"⟩
abbrev cX7_worth : ByteArray := prog_1_method_9_code
def yX7_worth : MethodName := ⟨RX7, "worth", "(IIII)I"⟩
abbrev cX7_goingOn : ByteArray := prog_1_method_10_code
def yX7_goingOn : MethodName := ⟨RX7, "goingOn", "(IIII)I"⟩
abbrev cX7_takes : ByteArray := prog_1_method_11_code
def yX7_takes : MethodName := ⟨RX7, "takes", "(IIII)I"⟩
abbrev cX7_start : ByteArray := prog_1_method_12_code
def yX7_start : MethodName := ⟨RX7, "start", "(II)I"⟩
abbrev cX7_end : ByteArray := prog_1_method_13_code
def yX7_end : MethodName := ⟨RX7, "end", "(III)I"⟩
abbrev cX7_bar : ByteArray := prog_1_method_14_code
def yX7_bar : MethodName := ⟨RX7, "bar", "(II)I"⟩
abbrev cX7_which : ByteArray := prog_1_method_15_code
def yX7_which : MethodName := ⟨RX7, "which", "(II)I"⟩
abbrev cX7_rule : ByteArray := prog_1_method_16_code
def yX7_rule : MethodName := ⟨RX7, "rule", "()I"⟩
abbrev cX7_mean : ByteArray := prog_1_method_17_code
def yX7_mean : MethodName := ⟨RX7, "mean", "(III)I"⟩
abbrev cX7_saw : ByteArray := prog_1_method_18_code
def yX7_saw : MethodName := ⟨RX7, "saw", "(Z)I"⟩
abbrev cX7_clear : ByteArray := prog_1_method_19_code
def yX7_clear : MethodName := ⟨RX7, "clear", "()I"⟩
abbrev cX7_judge : ByteArray := prog_1_method_20_code
def yX7_judge : MethodName := ⟨RX7, "judge", "(IIZ)I"⟩
abbrev cX7_thought : ByteArray := prog_1_method_21_code
def yX7_thought : MethodName := ⟨RX7, "thought", "(II)I"⟩
abbrev cX7_waits : ByteArray := prog_1_method_22_code
def yX7_waits : MethodName := ⟨RX7, "waits", "(IIIIIII)I"⟩
abbrev cX7_boy : ByteArray := prog_1_method_23_code
def yX7_boy : MethodName := ⟨RX7, "boy", "(I)I"⟩
abbrev cX7_car : ByteArray := prog_1_method_24_code
def yX7_car : MethodName := ⟨RX7, "car", "(II)I"⟩
abbrev cX7_steer : ByteArray := prog_1_method_25_code
def yX7_steer : MethodName := ⟨RX7, "steer", "(II)I"⟩
abbrev cX7_parks : ByteArray := prog_1_method_26_code
def yX7_parks : MethodName := ⟨RX7, "parks", "(IIII)I"⟩
abbrev cX7_rests : ByteArray := prog_1_method_27_code
def yX7_rests : MethodName := ⟨RX7, "rests", "(II)I"⟩
abbrev cX7_turn : ByteArray := prog_1_method_28_code
def yX7_turn : MethodName := ⟨RX7, "turn", "(II)I"⟩
abbrev cX7_allRests : ByteArray := prog_1_method_29_code
def yX7_allRests : MethodName := ⟨RX7, "allRests", "(II)I"⟩
abbrev cX7_lost : ByteArray := prog_1_method_30_code
def yX7_lost : MethodName := ⟨RX7, "lost", "(II)I"⟩
abbrev cX7_mend : ByteArray := prog_1_method_31_code
def yX7_mend : MethodName := ⟨RX7, "mend", "(III)I"⟩
abbrev cX7_seed : ByteArray := prog_1_method_32_code
def yX7_seed : MethodName := ⟨RX7, "seed", "(I)I"⟩
abbrev cX7_evening : ByteArray := prog_1_method_33_code
def yX7_evening : MethodName := ⟨RX7, "evening", "(III)I"⟩
abbrev cX7_count : ByteArray := prog_1_method_34_code
def yX7_count : MethodName := ⟨RX7, "count", "(I)I"⟩
abbrev cX7_keep : ByteArray := prog_1_method_35_code
def yX7_keep : MethodName := ⟨RX7, "keep", "(I)I"⟩
abbrev cX7_goBack : ByteArray := prog_1_method_36_code
def yX7_goBack : MethodName := ⟨RX7, "goBack", "(I)I"⟩
abbrev cX7_isIn : ByteArray := prog_1_method_37_code
def yX7_isIn : MethodName := ⟨RX7, "isIn", "(III)Z"⟩
abbrev cX7_isStreet : ByteArray := prog_1_method_38_code
def yX7_isStreet : MethodName := ⟨RX7, "isStreet", "(I)Z"⟩
abbrev cX7_isDoor : ByteArray := prog_1_method_39_code
def yX7_isDoor : MethodName := ⟨RX7, "isDoor", "(II)Z"⟩
abbrev cX7_isRound : ByteArray := prog_1_method_40_code
def yX7_isRound : MethodName := ⟨RX7, "isRound", "(II)Z"⟩
abbrev cX7_isRule : ByteArray := prog_1_method_41_code
def yX7_isRule : MethodName := ⟨RX7, "isRule", "(I)Z"⟩
abbrev cX7_isCar : ByteArray := prog_1_method_42_code
def yX7_isCar : MethodName := ⟨RX7, "isCar", "(I)Z"⟩
abbrev cX7_isSet : ByteArray := prog_1_method_43_code
def yX7_isSet : MethodName := ⟨RX7, "isSet", "(II)Z"⟩
abbrev cX7_refuseSight : ByteArray := prog_1_method_44_code
def yX7_refuseSight : MethodName := ⟨RX7, "refuseSight", "(IIII)I"⟩
abbrev cX7_refuseSet : ByteArray := prog_1_method_45_code
def yX7_refuseSet : MethodName := ⟨RX7, "refuseSet", "(II)I"⟩
abbrev cX7_closeText : ByteArray := prog_1_method_46_code
def yX7_closeText : MethodName := ⟨RX7, "closeText", "()I"⟩
abbrev cX7_mixed : ByteArray := prog_1_method_47_code
def yX7_mixed : MethodName := ⟨RX7, "mixed", "(III)I"⟩
def RX8 : String := "LastPlaceModel"
def TX8 : u_T := fun k => match k with
  | 0 => ("LastPlaceModel", "doorMany", "[I", true)
  | 1 => ("LastPlaceModel", "frees", "[I", true)
  | 2 => ("LastPlaceModel", "prices", "[I", true)
  | 3 => ("LastPlaceModel", "singles", "[I", true)
  | 4 => ("LastPlaceModel", "text", "[I", true)
  | 5 => ("LastPlaceModel", "texted", "I", false)
  | 6 => ("LastPlaceModel", "faultPlace", "I", false)
  | 7 => ("LastPlaceModel", "at0", "I", false)
  | 8 => ("LastPlaceModel", "word", "J", false)
  | 9 => ("LastPlaceModel", "wordEnd", "I", false)
  | 10 => ("LastPlaceModel", "number", "I", false)
  | 11 => ("LastPlaceModel", "numberAt", "I", false)
  | 12 => ("LastPlaceModel", "readDoors", "I", false)
  | 13 => ("LastPlaceModel", "readFree", "[I", true)
  | 14 => ("LastPlaceModel", "readPrice", "[I", true)
  | 15 => ("LastPlaceModel", "readSingle", "[I", true)
  | 16 => ("LastPlaceModel", "toldSet", "I", false)
  | 17 => ("LastPlaceModel", "ons", "[I", true)
  | 18 => ("LastPlaceModel", "worths", "[I", true)
  | 19 => ("LastPlaceModel", "starts", "[I", true)
  | 20 => ("LastPlaceModel", "ends", "[I", true)
  | 21 => ("LastPlaceModel", "goesRound", "[Z", true)
  | 22 => ("LastPlaceModel", "begin", "[I", true)
  | 23 => ("LastPlaceModel", "rules", "I", false)
  | 24 => ("LastPlaceModel", "barMany", "[I", true)
  | 25 => ("LastPlaceModel", "barSeen", "[I", true)
  | 26 => ("LastPlaceModel", "barFrom", "[I", true)
  | 27 => ("LastPlaceModel", "ruleRounds", "[I", true)
  | 28 => ("LastPlaceModel", "follows", "[I", true)
  | 29 => ("LastPlaceModel", "before", "[I", true)
  | 30 => ("LastPlaceModel", "rowMany", "I", false)
  | 31 => ("LastPlaceModel", "row", "[Z", true)
  | 32 => ("LastPlaceModel", "boys", "[I", true)
  | 33 => ("LastPlaceModel", "boysNext", "[I", true)
  | 34 => ("LastPlaceModel", "cars", "I", false)
  | 35 => ("LastPlaceModel", "walks", "[I", true)
  | 36 => ("LastPlaceModel", "bars", "[I", true)
  | 37 => ("LastPlaceModel", "dearFrom", "I", false)
  | 38 => ("LastPlaceModel", "dearBy", "I", false)
  | 39 => ("LastPlaceModel", "doorsOf", "[I", true)
  | 40 => ("LastPlaceModel", "wasBars", "[I", true)
  | 41 => ("LastPlaceModel", "seed", "I", false)
  | 42 => ("LastPlaceModel", "isKept", "[Z", true)
  | _ => ("LastPlaceModel", "images", "[I", true)
def tyX8 : Nat → FieldType := fun k => match k with
  | 0 => .array .int
  | 1 => .array .int
  | 2 => .array .int
  | 3 => .array .int
  | 4 => .array .int
  | 5 => .int
  | 6 => .int
  | 7 => .int
  | 8 => .long
  | 9 => .int
  | 10 => .int
  | 11 => .int
  | 12 => .int
  | 13 => .array .int
  | 14 => .array .int
  | 15 => .array .int
  | 16 => .int
  | 17 => .array .int
  | 18 => .array .int
  | 19 => .array .int
  | 20 => .array .int
  | 21 => .array .boolean
  | 22 => .array .int
  | 23 => .int
  | 24 => .array .int
  | 25 => .array .int
  | 26 => .array .int
  | 27 => .array .int
  | 28 => .array .int
  | 29 => .array .int
  | 30 => .int
  | 31 => .array .boolean
  | 32 => .array .int
  | 33 => .array .int
  | 34 => .int
  | 35 => .array .int
  | 36 => .array .int
  | 37 => .int
  | 38 => .int
  | 39 => .array .int
  | 40 => .array .int
  | 41 => .int
  | 42 => .array .boolean
  | _ => .array .int
theorem nmX8 : ∀ a, a < 44 → ∀ b, b < 44 → a ≠ b → (TX8 a).2.1 ≠ (TX8 b).2.1 := by decide +kernel
theorem tyX8_ok : ∀ k, k < 44 → parseFieldDescriptor (TX8 k).2.2.1 = some (tyX8 k) := by decide +kernel
abbrev cX8_init : ByteArray := prog_10_method_1_code
def yX8_init : MethodName := ⟨RX8, "<init>", "()V"⟩
abbrev cX8_in : ByteArray := prog_10_method_3_code
def yX8_in : MethodName := ⟨RX8, "in", "(JJJ)Z"⟩
abbrev cX8_isStreet : ByteArray := prog_10_method_4_code
def yX8_isStreet : MethodName := ⟨RX8, "isStreet", "(I)Z"⟩
abbrev cX8_isDoor : ByteArray := prog_10_method_5_code
def yX8_isDoor : MethodName := ⟨RX8, "isDoor", "(II)Z"⟩
abbrev cX8_of : ByteArray := prog_10_method_6_code
def yX8_of : MethodName := ⟨RX8, "of", "(II)I"⟩
abbrev cX8_feed : ByteArray := prog_10_method_7_code
def yX8_feed : MethodName := ⟨RX8, "feed", "(IJ)I"⟩
abbrev cX8_here : ByteArray := prog_10_method_8_code
def yX8_here : MethodName := ⟨RX8, "here", "()I"⟩
abbrev cX8_fails : ByteArray := prog_10_method_9_code
def yX8_fails : MethodName := ⟨RX8, "fails", "(II)I"⟩
abbrev cX8_readWord : ByteArray := prog_10_method_10_code
def yX8_readWord : MethodName := ⟨RX8, "readWord", "()V"⟩
abbrev cX8_code : ByteArray := prog_10_method_11_code
def yX8_code : MethodName := ⟨RX8, "code", "(III)J"⟩
abbrev cX8_longer : ByteArray := prog_10_method_12_code
def yX8_longer : MethodName := ⟨RX8, "longer", "(JI)J"⟩
abbrev cX8_longest : ByteArray := prog_10_method_13_code
def yX8_longest : MethodName := ⟨RX8, "longest", "(JII)J"⟩
abbrev cX8_clauseOf : ByteArray := prog_10_method_14_code
def yX8_clauseOf : MethodName := ⟨RX8, "clauseOf", "()I"⟩
abbrev cX8_needs : ByteArray := prog_10_method_15_code
def yX8_needs : MethodName := ⟨RX8, "needs", "(J)I"⟩
abbrev cX8_takeFigures : ByteArray := prog_10_method_16_code
def yX8_takeFigures : MethodName := ⟨RX8, "takeFigures", "(IIIZ)I"⟩
abbrev cX8_takeNumber : ByteArray := prog_10_method_17_code
def yX8_takeNumber : MethodName := ⟨RX8, "takeNumber", "(II)I"⟩
abbrev cX8_takeSigned : ByteArray := prog_10_method_18_code
def yX8_takeSigned : MethodName := ⟨RX8, "takeSigned", "(I)I"⟩
abbrev cX8_bare : ByteArray := prog_10_method_19_code
def yX8_bare : MethodName := ⟨RX8, "bare", "()V"⟩
abbrev cX8_takeDoors : ByteArray := prog_10_method_20_code
def yX8_takeDoors : MethodName := ⟨RX8, "takeDoors", "()I"⟩
abbrev cX8_takeSingle : ByteArray := prog_10_method_21_code
def yX8_takeSingle : MethodName := ⟨RX8, "takeSingle", "(I)I"⟩
abbrev cX8_takeClause : ByteArray := prog_10_method_22_code
def yX8_takeClause : MethodName := ⟨RX8, "takeClause", "()I"⟩
abbrev cX8_street : ByteArray := prog_10_method_23_code
def yX8_street : MethodName := ⟨RX8, "street", "(I)I"⟩
abbrev cX8_fault : ByteArray := prog_10_method_24_code
def yX8_fault : MethodName := ⟨RX8, "fault", "()I"⟩
abbrev cX8_told : ByteArray := prog_10_method_25_code
def yX8_told : MethodName := ⟨RX8, "told", "(II)I"⟩
abbrev cX8_door : ByteArray := prog_10_method_26_code
def yX8_door : MethodName := ⟨RX8, "door", "(III)I"⟩
abbrev cX8_chanceOf : ByteArray := prog_10_method_27_code
def yX8_chanceOf : MethodName := ⟨RX8, "chanceOf", "(IIZ)I"⟩
abbrev cX8_chance : ByteArray := prog_10_method_28_code
def yX8_chance : MethodName := ⟨RX8, "chance", "(IIZ)I"⟩
abbrev cX8_tick : ByteArray := prog_10_method_29_code
def yX8_tick : MethodName := ⟨RX8, "tick", "(III)I"⟩
abbrev cX8_lateAt : ByteArray := prog_10_method_30_code
def yX8_lateAt : MethodName := ⟨RX8, "lateAt", "(II)I"⟩
abbrev cX8_takingBy : ByteArray := prog_10_method_31_code
def yX8_takingBy : MethodName := ⟨RX8, "takingBy", "(IIII)I"⟩
abbrev cX8_takingOf : ByteArray := prog_10_method_32_code
def yX8_takingOf : MethodName := ⟨RX8, "takingOf", "(III)I"⟩
abbrev cX8_garageOf : ByteArray := prog_10_method_33_code
def yX8_garageOf : MethodName := ⟨RX8, "garageOf", "(II)I"⟩
abbrev cX8_isRound : ByteArray := prog_10_method_34_code
def yX8_isRound : MethodName := ⟨RX8, "isRound", "(II)Z"⟩
abbrev cX8_taking : ByteArray := prog_10_method_35_code
def yX8_taking : MethodName := ⟨RX8, "taking", "(III)I"⟩
abbrev cX8_at : ByteArray := prog_10_method_36_code
def yX8_at : MethodName := ⟨RX8, "at", "(III)I"⟩
abbrev cX8_mixed : ByteArray := prog_10_method_37_code
def yX8_mixed : MethodName := ⟨RX8, "mixed", "(III)I"⟩
abbrev cX8_seen : ByteArray := prog_10_method_38_code
def yX8_seen : MethodName := ⟨RX8, "seen", "(II)I"⟩
abbrev cX8_on : ByteArray := prog_10_method_39_code
def yX8_on : MethodName := ⟨RX8, "on", "(IIII)I"⟩
abbrev cX8_findRound : ByteArray := prog_10_method_40_code
def yX8_findRound : MethodName := ⟨RX8, "findRound", "(II)V"⟩
abbrev cX8_startOf : ByteArray := prog_10_method_41_code
def yX8_startOf : MethodName := ⟨RX8, "startOf", "(II)I"⟩
abbrev cX8_findWay : ByteArray := prog_10_method_42_code
def yX8_findWay : MethodName := ⟨RX8, "findWay", "(I)V"⟩
abbrev cX8_isSight : ByteArray := prog_10_method_43_code
def yX8_isSight : MethodName := ⟨RX8, "isSight", "(III)Z"⟩
abbrev cX8_worth : ByteArray := prog_10_method_44_code
def yX8_worth : MethodName := ⟨RX8, "worth", "(IIII)I"⟩
abbrev cX8_goingOn : ByteArray := prog_10_method_45_code
def yX8_goingOn : MethodName := ⟨RX8, "goingOn", "(IIII)I"⟩
abbrev cX8_isTaking : ByteArray := prog_10_method_46_code
def yX8_isTaking : MethodName := ⟨RX8, "isTaking", "(IIII)Z"⟩
abbrev cX8_takes : ByteArray := prog_10_method_47_code
def yX8_takes : MethodName := ⟨RX8, "takes", "(IIII)I"⟩
abbrev cX8_start : ByteArray := prog_10_method_48_code
def yX8_start : MethodName := ⟨RX8, "start", "(II)I"⟩
abbrev cX8_end : ByteArray := prog_10_method_49_code
def yX8_end : MethodName := ⟨RX8, "end", "(III)I"⟩
abbrev cX8_bar : ByteArray := prog_10_method_50_code
def yX8_bar : MethodName := ⟨RX8, "bar", "(II)I"⟩
abbrev cX8_which : ByteArray := prog_10_method_51_code
def yX8_which : MethodName := ⟨RX8, "which", "(II)I"⟩
abbrev cX8_takeRule : ByteArray := prog_10_method_52_code
def yX8_takeRule : MethodName := ⟨RX8, "takeRule", "()I"⟩
abbrev cX8_takeSeen : ByteArray := prog_10_method_53_code
def yX8_takeSeen : MethodName := ⟨RX8, "takeSeen", "(J)I"⟩
abbrev cX8_rule : ByteArray := prog_10_method_54_code
def yX8_rule : MethodName := ⟨RX8, "rule", "()I"⟩
abbrev cX8_isRule : ByteArray := prog_10_method_55_code
def yX8_isRule : MethodName := ⟨RX8, "isRule", "(I)Z"⟩
abbrev cX8_isFor : ByteArray := prog_10_method_56_code
def yX8_isFor : MethodName := ⟨RX8, "isFor", "(III)Z"⟩
abbrev cX8_isRoundBy : ByteArray := prog_10_method_57_code
def yX8_isRoundBy : MethodName := ⟨RX8, "isRoundBy", "(III)Z"⟩
abbrev cX8_byTaking : ByteArray := prog_10_method_58_code
def yX8_byTaking : MethodName := ⟨RX8, "byTaking", "(IIII)I"⟩
abbrev cX8_byGarage : ByteArray := prog_10_method_59_code
def yX8_byGarage : MethodName := ⟨RX8, "byGarage", "(III)I"⟩
abbrev cX8_meanOf : ByteArray := prog_10_method_60_code
def yX8_meanOf : MethodName := ⟨RX8, "meanOf", "(III)I"⟩
abbrev cX8_mean : ByteArray := prog_10_method_61_code
def yX8_mean : MethodName := ⟨RX8, "mean", "(III)I"⟩
abbrev cX8_saw : ByteArray := prog_10_method_62_code
def yX8_saw : MethodName := ⟨RX8, "saw", "(Z)I"⟩
abbrev cX8_clear : ByteArray := prog_10_method_63_code
def yX8_clear : MethodName := ⟨RX8, "clear", "()I"⟩
abbrev cX8_judge : ByteArray := prog_10_method_64_code
def yX8_judge : MethodName := ⟨RX8, "judge", "(IIZ)I"⟩
abbrev cX8_thought : ByteArray := prog_10_method_65_code
def yX8_thought : MethodName := ⟨RX8, "thought", "(II)I"⟩
abbrev cX8_waits : ByteArray := prog_10_method_66_code
def yX8_waits : MethodName := ⟨RX8, "waits", "(IIIIIII)I"⟩
abbrev cX8_boy : ByteArray := prog_10_method_67_code
def yX8_boy : MethodName := ⟨RX8, "boy", "(I)I"⟩
abbrev cX8_car : ByteArray := prog_10_method_68_code
def yX8_car : MethodName := ⟨RX8, "car", "(II)I"⟩
abbrev cX8_isCar : ByteArray := prog_10_method_69_code
def yX8_isCar : MethodName := ⟨RX8, "isCar", "(I)Z"⟩
abbrev cX8_steer : ByteArray := prog_10_method_70_code
def yX8_steer : MethodName := ⟨RX8, "steer", "(II)I"⟩
abbrev cX8_isSet : ByteArray := prog_10_method_71_code
def yX8_isSet : MethodName := ⟨RX8, "isSet", "(II)Z"⟩
abbrev cX8_costAt : ByteArray := prog_10_method_72_code
def yX8_costAt : MethodName := ⟨RX8, "costAt", "(III)I"⟩
abbrev cX8_parkAll : ByteArray := prog_10_method_73_code
def yX8_parkAll : MethodName := ⟨RX8, "parkAll", "(II)V"⟩
abbrev cX8_costOf : ByteArray := prog_10_method_74_code
def yX8_costOf : MethodName := ⟨RX8, "costOf", "(III)I"⟩
abbrev cX8_allCosts : ByteArray := prog_10_method_75_code
def yX8_allCosts : MethodName := ⟨RX8, "allCosts", "(II)I"⟩
abbrev cX8_parks : ByteArray := prog_10_method_76_code
def yX8_parks : MethodName := ⟨RX8, "parks", "(IIII)I"⟩
abbrev cX8_bestBar : ByteArray := prog_10_method_77_code
def yX8_bestBar : MethodName := ⟨RX8, "bestBar", "(III)I"⟩
abbrev cX8_isAtRest : ByteArray := prog_10_method_78_code
def yX8_isAtRest : MethodName := ⟨RX8, "isAtRest", "(II)Z"⟩
abbrev cX8_rests : ByteArray := prog_10_method_79_code
def yX8_rests : MethodName := ⟨RX8, "rests", "(II)I"⟩
abbrev cX8_turnAll : ByteArray := prog_10_method_80_code
def yX8_turnAll : MethodName := ⟨RX8, "turnAll", "(II)I"⟩
abbrev cX8_turn : ByteArray := prog_10_method_81_code
def yX8_turn : MethodName := ⟨RX8, "turn", "(II)I"⟩
abbrev cX8_holdBars : ByteArray := prog_10_method_82_code
def yX8_holdBars : MethodName := ⟨RX8, "holdBars", "()V"⟩
abbrev cX8_putBars : ByteArray := prog_10_method_83_code
def yX8_putBars : MethodName := ⟨RX8, "putBars", "()V"⟩
abbrev cX8_allRests : ByteArray := prog_10_method_84_code
def yX8_allRests : MethodName := ⟨RX8, "allRests", "(II)I"⟩
abbrev cX8_leastAll : ByteArray := prog_10_method_85_code
def yX8_leastAll : MethodName := ⟨RX8, "leastAll", "(II)I"⟩
abbrev cX8_canOne : ByteArray := prog_10_method_86_code
def yX8_canOne : MethodName := ⟨RX8, "canOne", "(II)Z"⟩
abbrev cX8_areApart : ByteArray := prog_10_method_87_code
def yX8_areApart : MethodName := ⟨RX8, "areApart", "(II)Z"⟩
abbrev cX8_canAll : ByteArray := prog_10_method_88_code
def yX8_canAll : MethodName := ⟨RX8, "canAll", "(IIIII)Z"⟩
abbrev cX8_sumAll : ByteArray := prog_10_method_89_code
def yX8_sumAll : MethodName := ⟨RX8, "sumAll", "(IIIII)I"⟩
abbrev cX8_lost : ByteArray := prog_10_method_90_code
def yX8_lost : MethodName := ⟨RX8, "lost", "(II)I"⟩
abbrev cX8_mend : ByteArray := prog_10_method_91_code
def yX8_mend : MethodName := ⟨RX8, "mend", "(III)I"⟩
abbrev cX8_seed : ByteArray := prog_10_method_92_code
def yX8_seed : MethodName := ⟨RX8, "seed", "(I)I"⟩
abbrev cX8_draw : ByteArray := prog_10_method_93_code
def yX8_draw : MethodName := ⟨RX8, "draw", "()I"⟩
abbrev cX8_drive : ByteArray := prog_10_method_94_code
def yX8_drive : MethodName := ⟨RX8, "drive", "(II)I"⟩
abbrev cX8_evening : ByteArray := prog_10_method_95_code
def yX8_evening : MethodName := ⟨RX8, "evening", "(III)I"⟩
abbrev cX8_count : ByteArray := prog_10_method_96_code
def yX8_count : MethodName := ⟨RX8, "count", "(I)I"⟩
abbrev cX8_keep : ByteArray := prog_10_method_97_code
def yX8_keep : MethodName := ⟨RX8, "keep", "(I)I"⟩
abbrev cX8_goBack : ByteArray := prog_10_method_98_code
def yX8_goBack : MethodName := ⟨RX8, "goBack", "(I)I"⟩
def RJ6 : String := "java/lang/Integer"
abbrev cJ6_bitCount_0f7a4 : ByteArray := prog_11_method_49_code
def yJ6_bitCount_0f7a4 : MethodName := ⟨RJ6, "bitCount", "(I)I"⟩
def RJ9 : String := "java/lang/Math"
abbrev cJ9_max_7cf53 : ByteArray := prog_12_method_65_code
def yJ9_max_7cf53 : MethodName := ⟨RJ9, "max", "(II)I"⟩
abbrev cJ9_max_f86c9 : ByteArray := prog_12_method_66_code
def yJ9_max_f86c9 : MethodName := ⟨RJ9, "max", "(JJ)J"⟩
abbrev cJ9_min_7cf53 : ByteArray := prog_12_method_69_code
def yJ9_min_7cf53 : MethodName := ⟨RJ9, "min", "(II)I"⟩
def RJ0 : String := "java/lang/String"
abbrev cJ0_length_8abf5 : ByteArray := prog_13_method_54_code
def yJ0_length_8abf5 : MethodName := ⟨RJ0, "length", "()I"⟩
abbrev cJ0_charAt_5068e : ByteArray := prog_13_method_56_code
def yJ0_charAt_5068e : MethodName := ⟨RJ0, "charAt", "(I)C"⟩
abbrev cJ0_coder_7d493 : ByteArray := prog_13_method_152_code
def yJ0_coder_7d493 : MethodName := ⟨RJ0, "coder", "()B"⟩
abbrev cJ0_isLatin1_aae02 : ByteArray := prog_13_method_154_code
def yJ0_isLatin1_aae02 : MethodName := ⟨RJ0, "isLatin1", "()Z"⟩
abbrev cJ0_checkIndex_df160 : ByteArray := prog_13_method_155_code
def yJ0_checkIndex_df160 : MethodName := ⟨RJ0, "checkIndex", "(II)V"⟩
def RJ1 : String := "java/lang/StringLatin1"
abbrev cJ1_charAt_3b067 : ByteArray := prog_14_method_2_code
def yJ1_charAt_3b067 : MethodName := ⟨RJ1, "charAt", "([BI)C"⟩
def RJ2 : String := "java/lang/StringUTF16"
abbrev cJ2_getChar_3b067 : ByteArray := prog_15_method_5_code
def yJ2_getChar_3b067 : MethodName := ⟨RJ2, "getChar", "([BI)C"⟩
abbrev cJ2_length_9d52b : ByteArray := prog_15_method_6_code
def yJ2_length_9d52b : MethodName := ⟨RJ2, "length", "([B)I"⟩
abbrev cJ2_charAt_3b067 : ByteArray := prog_15_method_83_code
def yJ2_charAt_3b067 : MethodName := ⟨RJ2, "charAt", "([BI)C"⟩
abbrev cJ2_checkIndex_2214a : ByteArray := prog_15_method_91_code
def yJ2_checkIndex_2214a : MethodName := ⟨RJ2, "checkIndex", "(I[B)V"⟩
def RJ10 : String := "java/lang/System"
def RJ3 : String := "jdk/internal/util/Preconditions"
abbrev cJ3_checkIndex_8e157 : ByteArray := prog_17_method_11_code
def yJ3_checkIndex_8e157 : MethodName := ⟨RJ3, "checkIndex", "(IILjava/util/function/BiFunction;)I"⟩
abbrev classes : List vw_C := [(RX0, TX0, 5), (RX1, TX1, 8), (RX2, TX2, 5), (RX3, TX3, 5), (RX4, TX4, 6), (RX5, TX5, 4), (RX6, TX6, 6), (RX7, TX7, 12), (RX8, TX8, 44)]
end
section
/-! one list of words for all methods; contracts; calls -/
def LW : List Cond := lw_tbl.filter goodWord
def WS (y : MethodName) (cc : ByteArray) (n : Nat) (ret : Option FieldType) : List Cond := Cond.code y cc n ret :: LW
theorem LWm {w : Cond} {i : Nat} (h : lw_tbl[i]? = some w) (hg : goodWord w = true) : w ∈ LW := List.mem_filter.mpr ⟨List.mem_of_getElem? h, hg⟩
theorem LW_all {ws : List Cond} (h : GoodIn lw_tbl ws) : ∀ w ∈ ws, w ∈ LW := by
  intro w hw
  obtain ⟨h1, h2⟩ := h w hw
  refine List.mem_filter.mpr ⟨h1, ?_⟩
  rcases h2 with h2 | ⟨ty, rfl⟩
  · cases w <;> first | rfl | exact h2
  · rfl
theorem LW_lw {args : Array Value} {s : State} (h : ∀ w ∈ lw_tbl, w.before args s = true) : ∀ w ∈ LW, w.before args s = true := fun w hw => h w (List.mem_filter.mp hw).1
theorem WS_ts {y : MethodName} {cc : ByteArray} {n : Nat} {ret : Option FieldType} {args : Array Value} {s : State} (h : (allAtoms (WS y cc n ret)).before args s = true) : ∀ w ∈ LW, w.before args s = true := fun w hw => atoms_spec h w (List.mem_cons_of_mem _ hw)
theorem gLW {y : MethodName} {cc : ByteArray} {n : Nat} {ret : Option FieldType} (hc : Cond.code y cc n ret ∈ LW) : GoodIn LW (WS y cc n ret) := by
  have h0 : ∀ w ∈ LW, w ∈ LW ∧ ((w.onTables && w.keeps) = true ∨ ∃ ty, w = .arrayClass ty) := fun w hw => ⟨hw, good_of_word (List.mem_filter.mp hw).2⟩
  intro w hw
  rcases List.mem_cons.mp hw with rfl | hw
  · exact h0 _ hc
  · exact h0 w hw
theorem gLWl {ws : List Cond} (h : ∀ w ∈ ws, w ∈ LW) : GoodIn LW ws := fun w hw => ⟨h w hw, good_of_word (List.mem_filter.mp (h w hw)).2⟩
theorem gV {own C : String} {idx : Nat} {y : MethodName} {cc : ByteArray} {n : Nat} {ret : Option FieldType} (h1 : Cond.methodLink own idx y ∈ LW) (h2 : Cond.instanceMethod y ∈ LW) (h3 : Cond.selects C y y ∈ LW) (h4 : Cond.initialized C ∈ LW) (h5 : Cond.code y cc n ret ∈ LW) : GoodIn LW (wsV own idx C y (WS y cc n ret)) := by
  intro w hw
  unfold wsV at hw
  rcases List.mem_append.mp hw with hw | hw
  · refine gLWl (ws := [Cond.methodLink own idx y, Cond.instanceMethod y, Cond.selects C y y, Cond.initialized C]) ?_ w hw
    intro v hv
    simp only [List.mem_cons, List.not_mem_nil, or_false] at hv
    rcases hv with rfl | rfl | rfl | rfl <;> assumption
  · exact gLW h5 w hw
theorem gS {own : String} {idx : Nat} {y : MethodName} {cc : ByteArray} {n : Nat} {ret : Option FieldType} (h1 : Cond.methodLink own idx y ∈ LW) (h2 : Cond.static y ∈ LW) (h4 : Cond.initialized y.cls ∈ LW) (h5 : Cond.code y cc n ret ∈ LW) : GoodIn LW (va_wsS own idx y (WS y cc n ret)) := by
  intro w hw
  unfold va_wsS at hw
  rcases List.mem_append.mp hw with hw | hw
  · refine gLWl (ws := [Cond.methodLink own idx y, Cond.static y, Cond.initialized y.cls]) ?_ w hw
    intro v hv
    simp only [List.mem_cons, List.not_mem_nil, or_false] at hv
    rcases hv with rfl | rfl | rfl <;> assumption
  · exact gLW h5 w hw
/-- the array classes, in a fixed order -/
def TY (k : Nat → ClassId) : List (ClassId × FieldType) := [(k 0, .byte), (k 1, .int), (k 2, .boolean), (k 3, .object "LastPlace$Street"), (k 4, .object "LastPlace$BestWay"), (k 5, .object "LastPlace$Rule"), (k 6, .object "LastPlace$Scene")]
def zNT (j : Nat) : Int32 := ([0, 0, 2, 1, 5, 30, 1, 10, 0, 200] : List Int32).getD j 0
def zMO (j : Nat) : Int32 := ([24, 50, 99, 99, 99, 200, 2, 60, 3, 999] : List Int32).getD j 0
def zFR (j : Nat) : Int32 := ([102, 114, 111, 109] : List Int32).getD j 0
def nestM : List (String × Nat × MethodName × String) := [(RX7, 11, yX6_init, RX7), (RX7, 28, yX5_init, RX7), (RX7, 48, yX4_init, RX7), (RX7, 63, yX2_init, RX7), (RX7, 80, yX3_init, RX7), (RX0, 80, yX7_mixed, RX7), (RX2, 78, yX7_mixed, RX7)]
def nestF : List (String × Nat × String × String × String × String) := [(RX5, 40, "LastPlace", "NOT_TOLD", "[I", RX7), (RX5, 106, "LastPlace", "LEAST", "[I", RX7), (RX5, 109, "LastPlace", "MOST", "[I", RX7), (RX3, 54, "LastPlace", "MOST", "[I", RX7)]
def overs : List String := ["LastPlace$Street", "LastPlace$BestWay", "LastPlace$Rule", "LastPlace$Scene"]
/-- the links among nest mates, the rows of references -/
def Nws (U : State) : Prop := (∀ q ∈ nestM, va_Nw (.methodLinkNest q.1 q.2.1 q.2.2.1 q.2.2.2) U) ∧ (∀ q ∈ nestF, va_Nw (.fieldLinkNest q.1 q.2.1 q.2.2.1 q.2.2.2.1 q.2.2.2.2.1 q.2.2.2.2.2) U) ∧ ∀ C ∈ overs, va_AO C U
theorem Nws.warm {s U : State} (hW : s.WarmedH U.vm) (h : Nws s) : Nws U := ⟨fun q hq => (h.1 q hq).warmM hW, fun q hq => (h.2.1 q hq).warmF hW, fun C hC => (h.2.2 C hC).moved hW.alike⟩
theorem Nws.same {s U : State} (hv : U.vm = s.vm) (h : Nws s) : Nws U := ⟨fun q hq => (h.1 q hq).same rfl hv.symm, fun q hq => (h.2.1 q hq).same rfl hv.symm, fun C hC => (h.2.2 C hC).moved (by rw [hv]; exact Vm.Alike.refl s.vm)⟩
/-- statics and the one string, apart from all that comes from lo on -/
def Zs (st : Nat → Nat) (lo : Nat) (U : State) (H : Heap) : Prop :=
  va_Z "LastPlace" "NOT_TOLD" "[I" (.ref (st 0)) (fun q => lo ≤ q) U H ∧ va_T .int (st 0) 10 (fun j => .int (zNT j)) (fun q => lo ≤ q) U H ∧
  va_Z "LastPlace" "MOST" "[I" (.ref (st 1)) (fun q => lo ≤ q) U H ∧ va_T .int (st 1) 10 (fun j => .int (zMO j)) (fun q => lo ≤ q) U H ∧
  va_Z "java/lang/String" "COMPACT_STRINGS" "Z" (.int 1) (fun q => lo ≤ q) U H ∧
  vk_R "LastPlace$Rule" 28 "from" (st 2) U ∧ va_O "java/lang/String" (st 2) (fun q => lo ≤ q) U H ∧ va_OF "java/lang/String" "coder" "B" (.int 0) (st 2) (fun q => lo ≤ q) U H ∧ va_OF "java/lang/String" "value" "[B" (.ref (st 3)) (st 2) (fun q => lo ≤ q) U H ∧ va_T .byte (st 3) 4 (fun j => .int (zFR j)) (fun q => lo ≤ q) U H ∧
  va_Zq "jdk/internal/util/Preconditions" "SIOOBE_FORMATTER" "Ljava/util/function/BiFunction;" (fun q => lo ≤ q) U H ∧ Nws U
theorem Zs.at {st : Nat → Nat} {lo : Nat} {s U : State} {A : Nat → Prop} {H : Heap} {locs : List Loc} (h : Zs st lo s s.heap) (hS : va_S A s.heap H locs) (hA : ∀ q, A q → lo ≤ q) (hU : U.heap = H) (hW : s.WarmedH U.vm) : Zs st lo U U.heap := by
  rw [hU]
  have hq : ∀ a : Nat, a < s.heap.size → ¬ (fun q => lo ≤ q) a → H[a]? = s.heap[a]? := fun a h1 h2 => hS.2.1 a h1 (fun h3 => h2 (hA a h3))
  obtain ⟨h1, h2, h3, h4, h5, h6, h7, h8, h9, h10, h11, h12⟩ := h
  exact ⟨(h1.kept hq).moved hW.alike, (h2.kept hq).moved hW.alike, (h3.kept hq).moved hW.alike, (h4.kept hq).moved hW.alike, (h5.kept hq).moved hW.alike, h6.warm hW, (h7.kept hq).moved hW.alike, (h8.kept hq).moved hW.alike, (h9.kept hq).moved hW.alike, (h10.kept hq).moved hW.alike, (h11.kept hq).moved hW.alike, h12.warm hW⟩
theorem Zs.blind {st : Nat → Nat} {lo : Nat} {U V : State} (hv : V.vm = U.vm) (hh : V.heap = U.heap) (h : Zs st lo U U.heap) : Zs st lo V V.heap := by
  have hm : U.vm.Alike V.vm := by rw [hv]; exact Vm.Alike.refl U.vm
  rw [hh]
  obtain ⟨h1, h2, h3, h4, h5, h6, h7, h8, h9, h10, h11, h12⟩ := h
  exact ⟨h1.moved hm, h2.moved hm, h3.moved hm, h4.moved hm, h5.moved hm, h6.same hv, h7.moved hm, h8.moved hm, h9.moved hm, h10.moved hm, h11.moved hm, h12.same hv⟩
/-- the state at a method's entry: its cells, the tables, the statics -/
def Wd (D : va_G) (k : Nat → ClassId) (st : Nat → Nat) (lo sz : Nat) (ws : va_W) (U : State) : Prop :=
  U.heap.size = sz ∧ lo ≤ sz ∧ va_P D classes ws U.heap ∧ va_K D classes (TY k) U ∧ va_D (fun q => lo ≤ q) ws ∧ Zs st lo U U.heap
theorem Wd.blind {D : va_G} {k : Nat → ClassId} {st : Nat → Nat} {lo sz : Nat} {ws : va_W} {av : List Value} : FrameBlind (va_Pc av (Wd D k st lo sz ws)) := by
  intro a U g mk q
  obtain ⟨q0, q1, q2, q3, q4, q5, q6⟩ := q
  exact ⟨q0, q1, q2, q3, va_K.moved (u := U) (U := U.calling g mk a) (Vm.Alike.refl U.vm) q4, q5, Zs.blind (U := U) (V := U.calling g mk a) rfl rfl q6⟩
theorem Wd.pre {D : va_G} {k : Nat → ClassId} {st : Nat → Nat} {lo : Nat} {ws : va_W} {s : State} {H : Heap} {A : Nat → Prop} {locs : List Loc} {av : List Value} (hS : va_S A s.heap H locs) (hA : ∀ q, A q → lo ≤ q) (hlo : lo ≤ s.heap.size) (hP : va_P D classes ws H) (hK : va_K D classes (TY k) s) (hD : va_D (fun q => lo ≤ q) ws) (hZ : Zs st lo s s.heap) : ∀ U : State, U.heap = H → s.WarmedH U.vm → va_Pc av (Wd D k st lo H.size ws) av.toArray U :=
  fun U hU hW => ⟨rfl, by rw [hU], Nat.le_trans hlo hS.1, by rw [hU]; exact hP, va_K.moved hW.alike hK, hD, hZ.at hS hA hU hW⟩
theorem va_Dsub {A : Nat → Prop} {ws wc : va_W} (hD : va_D A ws) (is : List Nat) (hn : va_nd is = true) (hs : is.map (fun i => ws[i]?) = wc.map some) : va_D A wc := hD.sub is hn hs
theorem fm_of {ws wc : va_W} (is : List Nat) (hs : is.map (fun i => ws[i]?) = wc.map some) : is.filterMap (fun i => ws[i]?) = wc := by
  have h : (is.map (fun i => ws[i]?)).filterMap id = (wc.map some).filterMap id := by rw [hs]
  simpa [List.filterMap_map, Function.comp_def] using h
/-- a contract of a method that changes nothing: int, long -/
def CRi (l : Launch) (D : va_G) (k : Nat → ClassId) (st : Nat → Nat) (lo : Nat) (y : MethodName) (cc : ByteArray) (n : Nat) (ret : Option FieldType) (rm : Room) (av : List Value) (ws : va_W) (post : Int32 → Prop) : Prop :=
  ∀ sz, Met l y (WS y cc n ret) rm (va_Pc av (Wd D k st lo sz ws)) (va_Qi (fun r (_ : Unit) => post r) (fun _ _ => True) (fun q => sz ≤ q)) 0 0 (fun q => sz ≤ q)
def CRl (l : Launch) (D : va_G) (k : Nat → ClassId) (st : Nat → Nat) (lo : Nat) (y : MethodName) (cc : ByteArray) (n : Nat) (ret : Option FieldType) (rm : Room) (av : List Value) (ws : va_W) (post : Int64 → Prop) : Prop :=
  ∀ sz, Met l y (WS y cc n ret) rm (va_Pc av (Wd D k st lo sz ws)) (va_Ql (fun r (_ : Unit) => post r) (fun _ _ => True) (fun q => sz ≤ q)) 0 0 (fun q => sz ≤ q)
/-- a contract of a method that may change all its cells: int, void -/
def CWi (l : Launch) (D : va_G) (k : Nat → ClassId) (st : Nat → Nat) (lo : Nat) (y : MethodName) (cc : ByteArray) (n : Nat) (ret : Option FieldType) (rm : Room) (mc ms : Nat) (av : List Value) (ws : va_W) {S : Type} (post : Int32 → S → Prop) (w1 : S → va_W) : Prop :=
  ∀ sz, Met l y (WS y cc n ret) rm (va_Pc av (Wd D k st lo sz ws)) (va_Qi post (fun u t => va_P D classes (w1 u) t.heap ∧ va_D (va_A ws sz) (w1 u)) (va_A ws sz)) mc ms (va_A ws sz)
def CWv (l : Launch) (D : va_G) (k : Nat → ClassId) (st : Nat → Nat) (lo : Nat) (y : MethodName) (cc : ByteArray) (n : Nat) (ret : Option FieldType) (rm : Room) (mc ms : Nat) (av : List Value) (ws : va_W) {S : Type} (post : S → Prop) (w1 : S → va_W) : Prop :=
  ∀ sz, Met l y (WS y cc n ret) rm (va_Pc av (Wd D k st lo sz ws)) (va_Qv post (fun u t => va_P D classes (w1 u) t.heap ∧ va_D (va_A ws sz) (w1 u)) (va_A ws sz)) mc ms (va_A ws sz)
section GL
variable {p : Program} {l : Launch} {e : Env} {R : Room} {s : State} {m : MethodId} {args : Array Value} {below : List Frame} {meth : Method} {c : Code} {H : Heap} {locs : List Loc} {cells slots : Nat} {Q : State → Prop} {pc : Nat} {ls : Array Slot} {rest st0 : List Value}
/-- another name of the number on top -/
theorem lv_ti {x y : Int32} (h : x = y) (k : W p l e R s m args below meth c H locs cells slots Q (F0 m pc ls (.int y :: rest))) : W p l e R s m args below meth c H locs cells slots Q (F0 m pc ls (.int x :: rest)) := h ▸ k
theorem lv_tl {x y : Int64} (h : x = y) (k : W p l e R s m args below meth c H locs cells slots Q (F0 m pc ls (.long y :: rest))) : W p l e R s m args below meth c H locs cells slots Q (F0 m pc ls (.long x :: rest)) := h ▸ k
theorem lv_tr {x y : Value} (h : x = y) (k : W p l e R s m args below meth c H locs cells slots Q (F0 m pc ls (y :: rest))) : W p l e R s m args below meth c H locs cells slots Q (F0 m pc ls (x :: rest)) := h ▸ k
/-- behind a call that changed nothing -/
theorem ro_i {D : va_G} {cl : List vw_C} {ws : va_W} {A0 : Nat → Prop} {H0 : Heap} {a : Array Value} {post : Int32 → Prop} (hr : va_Run p l e R s m args below meth c H locs cells slots 0 0 (F0 m pc ls st0) rest (va_Qi (fun r (_ : Unit) => post r) (fun _ _ => True) (fun q => H.size ≤ q) a) (fun q => H.size ≤ q)) (hS : va_S A0 H0 H locs) (hA : ∀ q, H0.size ≤ q → A0 q) (hP : va_P D cl ws H)
    (kk : ∀ (r : Int32) (H1 : Heap) (locs1 : List Loc), post r → va_P D cl ws H1 → va_S A0 H0 H1 locs1 → W p l e R s m args below meth c H1 locs1 cells slots Q (F0 m (pc + 3) ls (.int r :: rest))) : W p l e R s m args below meth c H locs cells slots Q (F0 m pc ls st0) := by
  refine va_calli hr hS (fun q h1 h2 => absurd h2 (Nat.not_le.mpr h1)) (fun q h => hA q (Nat.le_trans hS.1 h)) (fun r u t H1 locs1 ht hvm hw hB hz1 hk1 hS1 => ?_)
  exact kk r H1 locs1 hw (hP.kept (fun k q hq => hk1 q.1 ((hP k q hq).lt) (Nat.not_le.mpr ((hP k q hq).lt)))) hS1
theorem ro_l {D : va_G} {cl : List vw_C} {ws : va_W} {A0 : Nat → Prop} {H0 : Heap} {a : Array Value} {post : Int64 → Prop} (hr : va_Run p l e R s m args below meth c H locs cells slots 0 0 (F0 m pc ls st0) rest (va_Ql (fun r (_ : Unit) => post r) (fun _ _ => True) (fun q => H.size ≤ q) a) (fun q => H.size ≤ q)) (hS : va_S A0 H0 H locs) (hA : ∀ q, H0.size ≤ q → A0 q) (hP : va_P D cl ws H)
    (kk : ∀ (r : Int64) (H1 : Heap) (locs1 : List Loc), post r → va_P D cl ws H1 → va_S A0 H0 H1 locs1 → W p l e R s m args below meth c H1 locs1 cells slots Q (F0 m (pc + 3) ls (.long r :: rest))) : W p l e R s m args below meth c H locs cells slots Q (F0 m pc ls st0) := by
  refine va_calll hr hS (fun q h1 h2 => absurd h2 (Nat.not_le.mpr h1)) (fun q h => hA q (Nat.le_trans hS.1 h)) (fun r u t H1 locs1 ht hvm hw hB hz1 hk1 hS1 => ?_)
  exact kk r H1 locs1 hw (hP.kept (fun k q hq => hk1 q.1 ((hP k q hq).lt) (Nat.not_le.mpr ((hP k q hq).lt)))) hS1
/-- behind a call that changed its cells wc to w1 u -/
theorem rw_i {D : va_G} {cl : List vw_C} {ws wc wr : va_W} {A0 : Nat → Prop} {H0 : Heap} {a : Array Value} {S : Type} {post : Int32 → S → Prop} {w1 : S → va_W} {mc ms : Nat} (hr : va_Run p l e R s m args below meth c H locs cells slots mc ms (F0 m pc ls st0) rest (va_Qi post (fun u t => va_P D cl (w1 u) t.heap ∧ va_D (va_A wc H.size) (w1 u)) (va_A wc H.size) a) (va_A wc H.size)) (hS : va_S A0 H0 H locs) (hA : ∀ q, H0.size ≤ q → A0 q) (hP : va_P D cl ws H) (hD : va_D A0 ws) (isC isR : List Nat) (hC : isC.map (fun i => ws[i]?) = wc.map some) (hR : isR.map (fun i => ws[i]?) = wr.map some) (hn : va_nd isR = true) (hdis : ∀ i ∈ isR, i ∉ isC)
    (kk : ∀ (r : Int32) (u : S) (H1 : Heap) (locs1 : List Loc), post r u → va_P D cl (wr ++ w1 u) H1 → va_D A0 (wr ++ w1 u) → va_S A0 H0 H1 locs1 → W p l e R s m args below meth c H1 locs1 (cells + mc) (slots + ms) Q (F0 m (pc + 3) ls (.int r :: rest))) : W p l e R s m args below meth c H locs cells slots Q (F0 m pc ls st0) := by
  have hF := va_free (wc := wc) hD hS hA isC hC
  refine va_calli hr hS (fun q _ h => hF q h) hF (fun r u t H1 locs1 ht hvm hw hB hz1 hk1 hS1 => ?_)
  obtain ⟨hP1, hD1⟩ := hB
  rw [ht] at hP1
  obtain ⟨hP2, hD2⟩ := va_join (wr := wr) (w1 := w1 u) hP hD isC isR hC hR hn hdis hk1 hF hP1 hD1
  exact kk r u H1 locs1 hw hP2 hD2 hS1
theorem rw_v {D : va_G} {cl : List vw_C} {ws wc wr : va_W} {A0 : Nat → Prop} {H0 : Heap} {a : Array Value} {S : Type} {post : S → Prop} {w1 : S → va_W} {mc ms : Nat} (hr : va_Run p l e R s m args below meth c H locs cells slots mc ms (F0 m pc ls st0) rest (va_Qv post (fun u t => va_P D cl (w1 u) t.heap ∧ va_D (va_A wc H.size) (w1 u)) (va_A wc H.size) a) (va_A wc H.size)) (hS : va_S A0 H0 H locs) (hA : ∀ q, H0.size ≤ q → A0 q) (hP : va_P D cl ws H) (hD : va_D A0 ws) (isC isR : List Nat) (hC : isC.map (fun i => ws[i]?) = wc.map some) (hR : isR.map (fun i => ws[i]?) = wr.map some) (hn : va_nd isR = true) (hdis : ∀ i ∈ isR, i ∉ isC)
    (kk : ∀ (u : S) (H1 : Heap) (locs1 : List Loc), post u → va_P D cl (wr ++ w1 u) H1 → va_D A0 (wr ++ w1 u) → va_S A0 H0 H1 locs1 → W p l e R s m args below meth c H1 locs1 (cells + mc) (slots + ms) Q (F0 m (pc + 3) ls (rest))) : W p l e R s m args below meth c H locs cells slots Q (F0 m pc ls st0) := by
  have hF := va_free (wc := wc) hD hS hA isC hC
  refine va_callv hr hS (fun q _ h => hF q h) hF (fun u t H1 locs1 ht hvm hw hB hz1 hk1 hS1 => ?_)
  obtain ⟨hP1, hD1⟩ := hB
  rw [ht] at hP1
  obtain ⟨hP2, hD2⟩ := va_join (wr := wr) (w1 := w1 u) hP hD isC isR hC hR hn hdis hk1 hF hP1 hD1
  exact kk u H1 locs1 hw hP2 hD2 hS1
/-- the receiver and the start of a call -/
theorem pV {D : va_G} {k : Nat → ClassId} {st : Nat → Nat} {lo : Nat} {ws wc : va_W} {A : Nat → Prop} {b q0 ci : Nat} {q : vw_C} {fs As : List Value} (hS : va_S A s.heap H locs) (hA : ∀ q, A q → lo ≤ q) (hlo : lo ≤ s.heap.size) (hP : va_P D classes ws H) (hK : va_K D classes (TY k) s) (hD : va_D (fun q => lo ≤ q) ws) (hZ : Zs st lo s s.heap) (is : List Nat) (hn : va_nd is = true) (hs : is.map (fun i => ws[i]?) = wc.map some) (hc : classes[ci]? = some q) (he : wc[q0]? = some (b, .inr (ci, fs))) : PreV s H q.1 b (va_Pc (.ref b :: As) (Wd D k st lo H.size wc)) As :=
  ⟨Wd.blind, va_recv hK (hP.sub is (fm_of is hs)) hc he, Wd.pre hS hA hlo (hP.sub is (fm_of is hs)) hK (va_Dsub hD is hn hs) hZ⟩
theorem pS {D : va_G} {k : Nat → ClassId} {st : Nat → Nat} {lo : Nat} {ws wc : va_W} {A : Nat → Prop} {As : List Value} (hS : va_S A s.heap H locs) (hA : ∀ q, A q → lo ≤ q) (hlo : lo ≤ s.heap.size) (hP : va_P D classes ws H) (hK : va_K D classes (TY k) s) (hD : va_D (fun q => lo ≤ q) ws) (hZ : Zs st lo s s.heap) (is : List Nat) (hn : va_nd is = true) (hs : is.map (fun i => ws[i]?) = wc.map some) : PreS s H (va_Pc As (Wd D k st lo H.size wc)) As :=
  ⟨Wd.blind, Wd.pre hS hA hlo (hP.sub is (fm_of is hs)) hK (va_Dsub hD is hn hs) hZ⟩
end GL
theorem A_lo {lo : Nat} {ws : va_W} {sz : Nat} (hD : va_D (fun q => lo ≤ q) ws) (hlo : lo ≤ sz) : ∀ q, va_A ws sz q → lo ≤ q := by
  rintro q (⟨j, e, h⟩ | h)
  · exact hD.2 j _ h
  · exact Nat.le_trans hlo h
theorem va_Dlo {lo : Nat} {A : Nat → Prop} {ws : va_W} (hD : va_D A ws) (h : ∀ q, A q → lo ≤ q) : va_D (fun q => lo ≤ q) ws := ⟨hD.1, fun k q hq => h _ (hD.2 k q hq)⟩
theorem RA_find {U : State} {cA : ClassId} {ty : FieldType} (h : va_RA U cA ty) : U.vm.findClass ("[" ++ ty.toString) = some cA := by
  cases ty <;> first | exact h | exact h.choose_spec.choose_spec.2.2.2
theorem cA_eq {D : va_G} {cl : List vw_C} {tys : List (ClassId × FieldType)} {s : State} {cA c1 : ClassId} {ty : FieldType} {t0 : Nat} (ht : tys[t0]? = some (c1, ty)) (hK : va_K D cl tys s) (hK' : va_K D cl (tys ++ [(cA, ty)]) s) : cA = c1 := by
  have h1 := RA_find (hK.2 t0 _ ht).2
  have h2 := RA_find (hK'.2 tys.length (cA, ty) (by simp)).2
  rw [h1] at h2
  exact (Option.some.inj h2).symm
section GL2
variable {p : Program} {l : Launch} {e : Env} {R : Room} {s : State} {m : MethodId} {args : Array Value} {below : List Frame} {meth : Method} {c : Code} {H H0 : Heap} {locs : List Loc} {cells slots : Nat} {Q : State → Prop} {pc : Nat} {ls : Array Slot} {rest st0 : List Value} {D : va_G} {cl : List vw_C} {tys : List (ClassId × FieldType)} {ws : va_W} {A : Nat → Prop} {cc : ByteArray}
theorem nwa (hexec : p.tables.exec = Jvm.exec) (hb : c.code = cc) {atype : ArrayType} {t0 : Nat} {cI : ClassId} (harr : (Cond.arrayClass (newarray.typeOf atype)).before args s = true) {ty : FieldType} (hty : newarray.typeOf atype = ty) (ht : tys[t0]? = some (cI, ty)) (hK : va_K D cl tys s) (hP : va_P D cl ws H) (hD : va_D A ws) (hS : va_S A H0 H locs) (hA : ∀ q, H0.size ≤ q → A q)
    {n : Int32} {N' : Nat} {a0 : vp_A} (ha : ∀ cA : ClassId, vp_cell cA a0 = arrV cA N' (fun _ => defaultValue ty)) (hn : ¬ n < 0) (hN : n.toNatClampNeg = N') (hbytes : N' * componentBytes ty ≤ 536870912) (hcells : cells + 1 ≤ R.cells) (hslots : slots + N' ≤ R.slots) (hdg : decode cc pc = .ok (.newarray atype, 2))
    (kk : ∀ (q : Nat) (H1 : Heap), va_P D cl (ws ++ [(q, .inl (cI, a0))]) H1 → va_D A (ws ++ [(q, .inl (cI, a0))]) → va_S A H0 H1 locs →
      W p l e R s m args below meth c H1 locs (cells + 1) (slots + N') Q (F0 m (pc + 2) ls (.ref q :: rest))) : W p l e R s m args below meth c H locs cells slots Q (F0 m pc ls (.int n :: rest)) := by
  refine va_newa hexec hb harr hty hK hP hD hS hA ha hn hN hbytes hcells hslots hdg (fun q cA H1 hK1 hP1 hD1 hS1 => ?_)
  obtain rfl := cA_eq ht hK hK1
  exact kk q H1 hP1 hD1 hS1
theorem nwq (hexec : p.tables.exec = Jvm.exec) (hb : c.code = cc) {own C : String} {index t0 : Nat} {cI : ClassId} (hown : s.vm.findClass own = some m.cls) (hclink : (Cond.classLink own index C).before args s = true) (hover : va_AO C s) (ht : tys[t0]? = some (cI, .object C)) (hK : va_K D cl tys s) (hP : va_P D cl ws H) (hD : va_D A ws) (hS : va_S A H0 H locs) (hA : ∀ q, H0.size ≤ q → A q)
    {n : Int32} {N' : Nat} (hn : ¬ n < 0) (hN : n.toNatClampNeg = N') (hbytes : N' * 4 ≤ 536870912) (hcells : cells + 1 ≤ R.cells) (hslots : slots + N' ≤ R.slots) (hdg : decode cc pc = .ok (.anewarray index, 3))
    (kk : ∀ (q : Nat) (H1 : Heap), va_P D cl (ws ++ [(q, .inl (cI, N', .inr (.inr (.inr (.inr (fun _ => none))))))]) H1 → va_D A (ws ++ [(q, .inl (cI, N', .inr (.inr (.inr (.inr (fun _ => none))))))]) → va_S A H0 H1 locs →
      W p l e R s m args below meth c H1 locs (cells + 1) (slots + N') Q (F0 m (pc + 3) ls (.ref q :: rest))) : W p l e R s m args below meth c H locs cells slots Q (F0 m pc ls (.int n :: rest)) := by
  refine va_newq hexec hb hown hclink hover hK hP hD hS hA hn hN hbytes hcells hslots hdg (fun q cA H1 hK1 hP1 hD1 hS1 => ?_)
  obtain rfl := cA_eq ht hK hK1
  exact kk q H1 hP1 hD1 hS1
end GL2
/-- the string as receiver -/
theorem pVs {s : State} {H : Heap} {locs : List Loc} {D : va_G} {k : Nat → ClassId} {st : Nat → Nat} {lo : Nat} {ws wc : va_W} {A : Nat → Prop} {As : List Value} (hS : va_S A s.heap H locs) (hA : ∀ q, A q → lo ≤ q) (hlo : lo ≤ s.heap.size) (hP : va_P D classes ws H) (hK : va_K D classes (TY k) s) (hD : va_D (fun q => lo ≤ q) ws) (hZ : Zs st lo s s.heap) (is : List Nat) (hn : va_nd is = true) (hs : is.map (fun i => ws[i]?) = wc.map some) : PreV s H RJ0 (st 2) (va_Pc (.ref (st 2) :: As) (Wd D k st lo H.size wc)) As := by
  refine ⟨Wd.blind, ?_, Wd.pre hS hA hlo (hP.sub is (fm_of is hs)) hK (va_Dsub hD is hn hs) hZ⟩
  obtain ⟨cell, h1, h2, h3, h4⟩ := hZ.2.2.2.2.2.2.1
  exact ⟨cell, by rw [hS.2.1 (st 2) (Array.getElem?_eq_some_iff.mp h1).1 (fun h => h4 (hA _ h))]; exact h1, h2, h3⟩
theorem sw5 (x : Int32) : x = 0 ∨ x = 1 ∨ x = 2 ∨ x = 3 ∨ x = 4 ∨ (x.toInt < 0 ∨ 4 < x.toInt) := by
  have h : ∀ y : Int32, x.toInt = y.toInt → x = y := fun y => Int32.toInt_inj.mp
  rcases Classical.em (x.toInt < 0 ∨ 4 < x.toInt) with hx | hx
  · exact .inr (.inr (.inr (.inr (.inr hx))))
  · rcases (show x.toInt = 0 ∨ x.toInt = 1 ∨ x.toInt = 2 ∨ x.toInt = 3 ∨ x.toInt = 4 by omega) with q | q | q | q | q
    · exact .inl (h 0 q)
    · exact .inr (.inl (h 1 q))
    · exact .inr (.inr (.inl (h 2 q)))
    · exact .inr (.inr (.inr (.inl (h 3 q))))
    · exact .inr (.inr (.inr (.inr (.inl (h 4 q)))))
theorem spl3 {x : Int32} (h0 : ¬ x < 0) (h1 : ¬ (3 : Int32) ≤ x) : x = 0 ∨ x = 1 ∨ x = 2 := by
  have h : ∀ y : Int32, x.toInt = y.toInt → x = y := fun y => Int32.toInt_inj.mp
  rw [Int32.lt_iff_toInt_lt] at h0
  rw [Int32.le_iff_toInt_le] at h1
  have e0 : (0 : Int32).toInt = 0 := by decide
  have e3 : (3 : Int32).toInt = 3 := by decide
  rw [e0] at h0
  rw [e3] at h1
  rcases (show x.toInt = 0 ∨ x.toInt = 1 ∨ x.toInt = 2 by omega) with q | q | q
  · exact .inl (h 0 q)
  · exact .inr (.inl (h 1 q))
  · exact .inr (.inr (h 2 q))
theorem i64_le {x y : Int32} : x.toInt64 ≤ y.toInt64 ↔ x ≤ y := by
  rw [Int64.le_iff_toInt_le, Int32.le_iff_toInt_le, Int32.toInt_toInt64, Int32.toInt_toInt64]
/-- three addresses in a row -/
def a3 (x y z : Nat) : Nat → Option Nat := fun i => match i with
  | 0 => some x
  | 1 => some y
  | 2 => some z
  | _ => none
theorem inL1 {x y : Int32} (h : ¬ lg_cmp x.toInt64 y.toInt64 < 0) : y ≤ x := i64_le.mp (Int64.not_lt.mp (fun q => h ((lg_cmp_lt _ _).mpr q)))
theorem inL2 {x y : Int32} (h : lg_cmp x.toInt64 y.toInt64 < 0) : ¬ y ≤ x := fun q => absurd ((lg_cmp_lt _ _).mp h) (Int64.not_lt.mpr (i64_le.mpr q))
theorem inL3 {x y : Int32} (h : ¬ 0 < lg_cmp x.toInt64 y.toInt64) : x ≤ y := i64_le.mp (Int64.not_lt.mp (fun q => h ((lg_cmp_gt _ _).mpr q)))
theorem inL4 {x y : Int32} (h : 0 < lg_cmp x.toInt64 y.toInt64) : ¬ x ≤ y := fun q => absurd ((lg_cmp_gt _ _).mp h) (Int64.not_lt.mpr (i64_le.mpr q))
/-- a number within bounds -/
def inB (v lo hi : Int32) : Prop := lo ≤ v ∧ v ≤ hi
def isB (r v lo hi : Int32) : Prop := (r = 1 ∧ inB v lo hi) ∨ (r = 0 ∧ ¬ inB v lo hi)
def a2 (x y : Nat) : Nat → Option Nat := fun i => match i with
  | 0 => some x
  | 1 => some y
  | _ => none
def a4 (x y z w : Nat) : Nat → Option Nat := fun i => match i with
  | 0 => some x
  | 1 => some y
  | 2 => some z
  | 3 => some w
  | _ => none
theorem up2 (x y : Nat) : va_up (va_up (fun _ => none) (Int32.toNatClampNeg 0) (some x)) (Int32.toNatClampNeg 1) (some y) = a2 x y := by
  funext i
  match i with
  | 0 => rfl
  | 1 => rfl
  | j + 2 => rfl
theorem up3 (x y z : Nat) : va_up (va_up (va_up (fun _ => none) (Int32.toNatClampNeg 0) (some x)) (Int32.toNatClampNeg 1) (some y)) (Int32.toNatClampNeg 2) (some z) = a3 x y z := by
  funext i
  match i with
  | 0 => rfl
  | 1 => rfl
  | 2 => rfl
  | j + 3 => rfl
theorem up4 (x y z w : Nat) : va_up (va_up (va_up (va_up (fun _ => none) (Int32.toNatClampNeg 0) (some x)) (Int32.toNatClampNeg 1) (some y)) (Int32.toNatClampNeg 2) (some z)) (Int32.toNatClampNeg 3) (some w) = a4 x y z w := by
  funext i
  match i with
  | 0 => rfl
  | 1 => rfl
  | 2 => rfl
  | 3 => rfl
  | j + 4 => rfl
theorem spl2 {x : Int32} (h : inB x 0 1) : x = 0 ∨ x = 1 := by
  have hh : ∀ y : Int32, x.toInt = y.toInt → x = y := fun y => Int32.toInt_inj.mp
  obtain ⟨h0, h1⟩ := h
  rw [Int32.le_iff_toInt_le] at h0 h1
  have e0 : (0 : Int32).toInt = 0 := by decide
  have e1 : (1 : Int32).toInt = 1 := by decide
  rw [e0] at h0
  rw [e1] at h1
  rcases (show x.toInt = 0 ∨ x.toInt = 1 by omega) with q | q
  · exact .inl (hh 0 q)
  · exact .inr (hh 1 q)
theorem spl8 {x : Int32} (h : inB x 1 8) : x = 1 ∨ x = 2 ∨ x = 3 ∨ x = 4 ∨ x = 5 ∨ x = 6 ∨ x = 7 ∨ x = 8 := by
  have hh : ∀ y : Int32, x.toInt = y.toInt → x = y := fun y => Int32.toInt_inj.mp
  obtain ⟨h0, h1⟩ := h
  rw [Int32.le_iff_toInt_le] at h0 h1
  have e0 : (1 : Int32).toInt = 1 := by decide
  have e1 : (8 : Int32).toInt = 8 := by decide
  rw [e0] at h0
  rw [e1] at h1
  rcases (show x.toInt = 1 ∨ x.toInt = 2 ∨ x.toInt = 3 ∨ x.toInt = 4 ∨ x.toInt = 5 ∨ x.toInt = 6 ∨ x.toInt = 7 ∨ x.toInt = 8 by omega) with q | q | q | q | q | q | q | q
  · exact .inl (hh 1 q)
  · exact .inr (.inl (hh 2 q))
  · exact .inr (.inr (.inl (hh 3 q)))
  · exact .inr (.inr (.inr (.inl (hh 4 q))))
  · exact .inr (.inr (.inr (.inr (.inl (hh 5 q)))))
  · exact .inr (.inr (.inr (.inr (.inr (.inl (hh 6 q))))))
  · exact .inr (.inr (.inr (.inr (.inr (.inr (.inl (hh 7 q)))))))
  · exact .inr (.inr (.inr (.inr (.inr (.inr (.inr (hh 8 q)))))))
theorem lt3 {x : Int32} : x < 3 ↔ x ≤ 2 := by
  rw [Int32.lt_iff_toInt_lt, Int32.le_iff_toInt_le]
  have e1 : (3 : Int32).toInt = 3 := by decide
  have e2 : (2 : Int32).toInt = 2 := by decide
  rw [e1, e2]
  omega
theorem vinB {x : Int32} {n : Nat} {h : Int32} (hb : inB x 0 h) (hn : h.toInt < n) : vp_in x n := by
  rw [vp_in_iff]
  obtain ⟨h0, h1⟩ := hb
  rw [Int32.le_iff_toInt_le] at h0 h1
  have e0 : (0 : Int32).toInt = 0 := by decide
  rw [e0] at h0
  omega
theorem sw_out {x : Int32} (h : x.toInt < 0 ∨ 4 < x.toInt) : ¬ inB x 0 4 := by
  rintro ⟨h0, h1⟩
  rw [Int32.le_iff_toInt_le] at h0 h1
  have e0 : (0 : Int32).toInt = 0 := by decide
  have e1 : (4 : Int32).toInt = 4 := by decide
  rw [e0] at h0
  rw [e1] at h1
  omega
section CPT
variable {p : Program} {l : Launch} {e : Env} {R : Room} {s : State} {m : MethodId} {args : Array Value} {below : List Frame} {meth : Method} {c : Code} {H : Heap} {locs : List Loc} {cells slots : Nat} {Q : State → Prop} {pc : Nat} {ls : Array Slot} {rest : List Value} {D : va_G} {cl : List vw_C} {tys : List (ClassId × FieldType)} {ws : va_W} {A : Nat → Prop} {cc : ByteArray}
/-- System.arraycopy out of a static table of ints into a cell of ours -/
theorem cpT (hexec : p.tables.exec = Jvm.exec) (hb : c.code = cc) (hml : c.maxLocals = ls.size) {own : String} {index a : Nat} (hown : s.vm.findClass own = some m.cls) (hlink : (Cond.methodLink own index arraycopyName).before args s = true) (hnat : (Cond.native arraycopyName).before args s = true) (hstat : (Cond.static arraycopyName).before args s = true) (hini : (Cond.initialized "java/lang/System").before args s = true)
    (hK : va_K D cl tys s) (hP : va_P D cl ws H) (hD : va_D A ws) (hS : va_S A s.heap H locs) {b0 n0 : Nat} {f : Nat → Int32} (hX : va_T .int b0 n0 (fun j => .int (f j)) A s s.heap) (q1 t1 : Nat) {c1 : ClassId} {n1 : Nat} {g : Nat → Int32} (ha1 : ws[q1]? = some (a, .inl (c1, n1, .inl g))) (ht1 : tys[t1]? = some (c1, .int))
    {sp dp n : Int32} (h1 : ¬ sp < 0) (h2 : ¬ dp < 0) (h3 : ¬ n < 0) (h4 : sp.toNatClampNeg + n.toNatClampNeg ≤ n0) (h5 : dp.toNatClampNeg + n.toNatClampNeg ≤ n1) (hframes : 1 ≤ R.frames) (hlocals : (rest.map fun v => v.category).sum + (nativeFrameWords "java/lang/System" "arraycopy" 5 + 11) ≤ R.locals) (hdg : decode cc pc = .ok (.invokestatic index, 3))
    (kk : ∀ (H1 : Heap) (locs1 : List Loc), va_P D cl (ws.set q1 (a, .inl (c1, n1, .inl (va_cpy f g sp.toNatClampNeg dp.toNatClampNeg n.toNatClampNeg)))) H1 → va_D A (ws.set q1 (a, .inl (c1, n1, .inl (va_cpy f g sp.toNatClampNeg dp.toNatClampNeg n.toNatClampNeg)))) → va_S A s.heap H1 locs1 → W p l e R s m args below meth c H1 locs1 cells slots Q (F0 m (pc + 3) ls rest)) : W p l e R s m args below meth c H locs cells slots Q (F0 m pc ls (.int n :: .int dp :: .ref a :: .int sp :: .ref b0 :: rest)) := by
  have nonneg : ∀ z : Int32, ¬ z < 0 → z.toInt = (z.toNatClampNeg : Int) := fun z hz => by
    have h := Int32.le_iff_toInt_le.mp (Int32.not_lt.mp hz)
    have e0 : (0 : Int32).toInt = 0 := by decide
    rw [e0] at h
    show z.toInt = ((z.toInt.toNat : Nat) : Int)
    omega
  obtain ⟨src, t1', t2, t3, t4, -, t5, t6⟩ := hX
  have hsrc : H[b0]? = some src := (hS.2.1 b0 (Array.getElem?_eq_some_iff.mp t1').1 t6).trans t1'
  have hdst : H[a]? = some (vp_cell c1 (n1, .inl g)) := hP q1 _ ha1
  have hlt : a < H.size := (Array.getElem?_eq_some_iff.mp hdst).1
  obtain ⟨t7, k0, hk0, cm0, hkk0⟩ := t2
  obtain ⟨-, k1, hk1, cm1, hkk1⟩ := (hK.2 t1 _ ht1).1 n1 (fun j => .int (g j))
  have hnew : copied src (vp_cell c1 (n1, .inl g)) sp dp n = vp_cell c1 (n1, .inl (va_cpy f g sp.toNatClampNeg dp.toNatClampNeg n.toNatClampNeg)) := va_copiedX (fun z => .int z) src c1 f g t5 h4
  intro T hT X
  obtain ⟨vm', X', step⟩ := X.arraycopy hexec hown hlink hnat hstat hini (src := b0) (dst := a) (cs := src) (cd := vp_cell c1 (n1, .inl g)) (srcPos := sp) (destPos := dp) (n := n) (by rw [hT]; exact hsrc) (by rw [hT]; exact hdst)
    t7 (fun _ h => by cases h) t3 (fun h => by cases h) hk0 hk1 hkk0 hkk1 (by simp [refKind]) h1 h2 h3
    (by rw [nonneg sp h1, nonneg n h3]; omega)
    (by rw [nonneg dp h2, nonneg n h3]; show ¬ _ > ((arrV c1 n1 (fun j => .int (g j))).slots.size : Int); rw [arrV_size]; omega)
    (fun vm₁ _ i hi => by
      have hval : src.slots.getD (sp.toNatClampNeg + i) .null = .int (f (sp.toNatClampNeg + i)) := by
        rw [Array.getD_eq_getD_getElem?, t5 _ (by omega)]
        rfl
      rw [hval]
      exact ⟨rfl, trivial⟩)
    (g := F0 m pc ls (.int n :: .int dp :: .ref a :: .int sp :: .ref b0 :: rest)) rfl (by rw [hml]) (rest := rest) rfl (by rw [hb]; exact hdg) hframes (by show 2 * 0 + _ + _ ≤ _; omega)
  rw [hnew] at X' step
  have hoth : ∀ q : Nat, q ≠ a → (H.setIfInBounds a (vp_cell c1 (n1, .inl (va_cpy f g sp.toNatClampNeg dp.toNatClampNeg n.toNatClampNeg))))[q]? = H[q]? := fun q hq => by simp [Array.getElem?_setIfInBounds, Ne.symm hq]
  have hat : (H.setIfInBounds a (vp_cell c1 (n1, .inl (va_cpy f g sp.toNatClampNeg dp.toNatClampNeg n.toNatClampNeg))))[a]? = some (vp_cell c1 (n1, .inl (va_cpy f g sp.toNatClampNeg dp.toNatClampNeg n.toNatClampNeg))) := by simp [Array.getElem?_setIfInBounds, hlt]
  have hAa : A a := hD.2 q1 _ ha1
  refine (fun ⟨t, g1, g2⟩ => ⟨t, step t g1, g2⟩) (kk _ _ (hP.set hD ha1 hat hoth) (hD.set ha1) ⟨by simp; exact hS.1, fun q g1 g2 => ?_, fun q hq => ?_⟩ _ (by rw [← hT]; rfl) X')
  · rw [hoth q (fun h => g2 (h ▸ hAa))]
    exact hS.2.1 q g1 g2
  · rcases List.mem_append.mp hq with h | h
    · exact hS.2.2 q h
    · obtain ⟨z, -, hz⟩ := List.mem_map.mp h
      rw [← hz]
      exact hAa
end CPT
theorem inX0 : ∀ w ∈ u_ws RX0 TX0 5, w ∈ LW := LW_all (goodIn_of _ (by decide +kernel))
theorem inX1 : ∀ w ∈ u_ws RX1 TX1 8, w ∈ LW := LW_all (goodIn_of _ (by decide +kernel))
theorem inX2 : ∀ w ∈ u_ws RX2 TX2 5, w ∈ LW := LW_all (goodIn_of _ (by decide +kernel))
theorem inX3 : ∀ w ∈ u_ws RX3 TX3 5, w ∈ LW := LW_all (goodIn_of _ (by decide +kernel))
theorem inX4 : ∀ w ∈ u_ws RX4 TX4 6, w ∈ LW := LW_all (goodIn_of _ (by decide +kernel))
theorem inX5 : ∀ w ∈ u_ws RX5 TX5 4, w ∈ LW := LW_all (goodIn_of _ (by decide +kernel))
theorem inX6 : ∀ w ∈ u_ws RX6 TX6 6, w ∈ LW := LW_all (goodIn_of _ (by decide +kernel))
theorem inX7 : ∀ w ∈ u_ws RX7 TX7 12, w ∈ LW := LW_all (goodIn_of _ (by decide +kernel))
theorem inX8 : ∀ w ∈ u_ws RX8 TX8 44, w ∈ LW := LW_all (goodIn_of _ (by decide +kernel))
end
section

end
section
theorem dX7_isIn_0 : decode cX7_isIn 0 = .ok (.iload_n 0, 1) := by decide +kernel
theorem dX7_isIn_1 : decode cX7_isIn 1 = .ok (.iload_n 1, 1) := by decide +kernel
theorem dX7_isIn_2 : decode cX7_isIn 2 = .ok (.if_icmp .lt 12, 3) := by decide +kernel
theorem dX7_isIn_5 : decode cX7_isIn 5 = .ok (.iload_n 0, 1) := by decide +kernel
theorem dX7_isIn_6 : decode cX7_isIn 6 = .ok (.iload_n 2, 1) := by decide +kernel
theorem dX7_isIn_7 : decode cX7_isIn 7 = .ok (.if_icmp .gt 7, 3) := by decide +kernel
theorem dX7_isIn_10 : decode cX7_isIn 10 = .ok (.iconst 1, 1) := by decide +kernel
theorem dX7_isIn_11 : decode cX7_isIn 11 = .ok (.goto 4, 3) := by decide +kernel
theorem dX7_isIn_14 : decode cX7_isIn 14 = .ok (.iconst 0, 1) := by decide +kernel
theorem dX7_isIn_15 : decode cX7_isIn 15 = .ok (.ireturn, 1) := by decide +kernel
set_option maxHeartbeats 4000000 in
set_option maxRecDepth 100000 in
theorem k_isIn (l : Launch) (D : va_G) (k : Nat → ClassId) (st : Nat → Nat) (lo : Nat) (v : Int32) (l0 : Int32) (h0 : Int32)  : CRi l D k st lo yX7_isIn cX7_isIn 3 (some .boolean) ({ frames := 0, cells := 0, slots := 0, locals := 0 }) [.int v, .int l0, .int h0] [] (fun r => isB r v l0 h0) := by
  intro sz
  refine Met.ofW (cc := cX7_isIn) (maxL := 3) (ret := (some .boolean)) (by decide) rfl ?_
  intro p e s m args below meth c s₁ B hml hv
  obtain ⟨rfl, hsz, hlo, hP, hK, hDL, hZ⟩ := hv
  have hx := B.exec
  have hb := B.bytes
  have hr := B.returns
  have hts := WS_ts B.pre
  have hown : s.vm.findClass RX7 = some m.cls := findClass_of_methodNamed B.named
  have hlocks := B.notSynchronized
  subst hsz
  have hA : ∀ q : Nat, s.heap.size ≤ q → (fun q : Nat => s.heap.size ≤ q) q := fun _ h => h
  have hAlo : ∀ q : Nat, (fun q : Nat => s.heap.size ≤ q) q → lo ≤ q := fun q h => Nat.le_trans hlo h
  have hS : va_S (fun q : Nat => s.heap.size ≤ q) s.heap s.heap [] := va_S.rf
  have hl := lv_entry ([.int v, .int l0, .int h0]) (n := 3) (Nat.le_of_ble_eq_true rfl)
  rw [lg_entry_eq]
  generalize (lg_sl ([.int v, .int l0, .int h0]) ++ List.replicate (3 - (lg_sl ([.int v, .int l0, .int h0])).length) Slot.unset).toArray = ls at hl ⊢
  have hl : lv_has ls 3 [(0, .int v), (1, .int l0), (2, .int h0)] := hl
  refine lv_iload_n hx hb dX7_isIn_0 rfl (lv_at hl 0 rfl) ?_
  refine lv_iload_n hx hb dX7_isIn_1 rfl (lv_at hl 1 rfl) ?_
  refine lv_icmp_lt (tgt := 14) hx hb dX7_isIn_2 (by decide) (fun c_1 => ?_) (fun c_1 => ?_)
  · refine lv_iconst (v := 0) hx hb dX7_isIn_14 (by decide) ?_
    exact W.zret (v := 0) (ty := .boolean) hx hb hr rfl (fun t ht hW => ⟨⟨0, (), rfl, (by first | exact .inl ⟨rfl, Int32.not_lt.mp c_1, Int32.not_lt.mp c_2⟩ | exact .inr ⟨rfl, fun h => absurd c_1 (Int32.not_lt.mpr h.1)⟩ | exact .inr ⟨rfl, fun h => absurd c_2 (Int32.not_lt.mpr h.2)⟩), trivial⟩, hS.F ht⟩) hS.2.2 dX7_isIn_15
  · refine lv_iload_n hx hb dX7_isIn_5 rfl (lv_at hl 0 rfl) ?_
    refine lv_iload_n hx hb dX7_isIn_6 rfl (lv_at hl 2 rfl) ?_
    refine lv_icmp_gt (tgt := 14) hx hb dX7_isIn_7 (by decide) (fun c_2 => ?_) (fun c_2 => ?_)
    · refine lv_iconst (v := 0) hx hb dX7_isIn_14 (by decide) ?_
      exact W.zret (v := 0) (ty := .boolean) hx hb hr rfl (fun t ht hW => ⟨⟨0, (), rfl, (by first | exact .inl ⟨rfl, Int32.not_lt.mp c_1, Int32.not_lt.mp c_2⟩ | exact .inr ⟨rfl, fun h => absurd c_1 (Int32.not_lt.mpr h.1)⟩ | exact .inr ⟨rfl, fun h => absurd c_2 (Int32.not_lt.mpr h.2)⟩), trivial⟩, hS.F ht⟩) hS.2.2 dX7_isIn_15
    · refine lv_iconst (v := 1) hx hb dX7_isIn_10 (by decide) ?_
      refine lv_goto (tgt := 15) hx hb dX7_isIn_11 (by decide) ?_
      exact W.zret (v := 1) (ty := .boolean) hx hb hr rfl (fun t ht hW => ⟨⟨1, (), rfl, (by first | exact .inl ⟨rfl, Int32.not_lt.mp c_1, Int32.not_lt.mp c_2⟩ | exact .inr ⟨rfl, fun h => absurd c_1 (Int32.not_lt.mpr h.1)⟩ | exact .inr ⟨rfl, fun h => absurd c_2 (Int32.not_lt.mpr h.2)⟩), trivial⟩, hS.F ht⟩) hS.2.2 dX7_isIn_15
end
section
theorem dX8_in_0 : decode cX8_in 0 = .ok (.lload_n 0, 1) := by decide +kernel
theorem dX8_in_1 : decode cX8_in 1 = .ok (.lload_n 2, 1) := by decide +kernel
theorem dX8_in_2 : decode cX8_in 2 = .ok (.lcmp, 1) := by decide +kernel
theorem dX8_in_3 : decode cX8_in 3 = .ok (.ifCond .lt 14, 3) := by decide +kernel
theorem dX8_in_6 : decode cX8_in 6 = .ok (.lload_n 0, 1) := by decide +kernel
theorem dX8_in_7 : decode cX8_in 7 = .ok (.lload 4, 2) := by decide +kernel
theorem dX8_in_9 : decode cX8_in 9 = .ok (.lcmp, 1) := by decide +kernel
theorem dX8_in_10 : decode cX8_in 10 = .ok (.ifCond .gt 7, 3) := by decide +kernel
theorem dX8_in_13 : decode cX8_in 13 = .ok (.iconst 1, 1) := by decide +kernel
theorem dX8_in_14 : decode cX8_in 14 = .ok (.goto 4, 3) := by decide +kernel
theorem dX8_in_17 : decode cX8_in 17 = .ok (.iconst 0, 1) := by decide +kernel
theorem dX8_in_18 : decode cX8_in 18 = .ok (.ireturn, 1) := by decide +kernel
set_option maxHeartbeats 4000000 in
set_option maxRecDepth 100000 in
theorem k_in (l : Launch) (D : va_G) (k : Nat → ClassId) (st : Nat → Nat) (lo : Nat) (v : Int32) (l0 : Int32) (h0 : Int32)  : CRi l D k st lo yX8_in cX8_in 6 (some .boolean) ({ frames := 0, cells := 0, slots := 0, locals := 0 }) [.long (v.toInt64), .long (l0.toInt64), .long (h0.toInt64)] [] (fun r => isB r v l0 h0) := by
  intro sz
  refine Met.ofW (cc := cX8_in) (maxL := 6) (ret := (some .boolean)) (by decide) rfl ?_
  intro p e s m args below meth c s₁ B hml hv
  obtain ⟨rfl, hsz, hlo, hP, hK, hDL, hZ⟩ := hv
  have hx := B.exec
  have hb := B.bytes
  have hr := B.returns
  have hts := WS_ts B.pre
  have hown : s.vm.findClass RX8 = some m.cls := findClass_of_methodNamed B.named
  have hlocks := B.notSynchronized
  subst hsz
  have hA : ∀ q : Nat, s.heap.size ≤ q → (fun q : Nat => s.heap.size ≤ q) q := fun _ h => h
  have hAlo : ∀ q : Nat, (fun q : Nat => s.heap.size ≤ q) q → lo ≤ q := fun q h => Nat.le_trans hlo h
  have hS : va_S (fun q : Nat => s.heap.size ≤ q) s.heap s.heap [] := va_S.rf
  have hl := lv_entry ([.long (v.toInt64), .long (l0.toInt64), .long (h0.toInt64)]) (n := 6) (Nat.le_of_ble_eq_true rfl)
  rw [lg_entry_eq]
  generalize (lg_sl ([.long (v.toInt64), .long (l0.toInt64), .long (h0.toInt64)]) ++ List.replicate (6 - (lg_sl ([.long (v.toInt64), .long (l0.toInt64), .long (h0.toInt64)])).length) Slot.unset).toArray = ls at hl ⊢
  have hl : lv_has ls 6 [(0, .long (v.toInt64)), (2, .long (l0.toInt64)), (4, .long (h0.toInt64))] := hl
  refine lv_lload_n hx hb dX8_in_0 rfl (lv_at hl 0 rfl) ?_
  refine lv_lload_n hx hb dX8_in_1 rfl (lv_at hl 1 rfl) ?_
  refine W.lcmp hx hb dX8_in_2 ?_
  refine lv_if_lt (tgt := 17) hx hb dX8_in_3 (by decide) (fun c_1 => ?_) (fun c_1 => ?_)
  · refine lv_iconst (v := 0) hx hb dX8_in_17 (by decide) ?_
    exact W.zret (v := 0) (ty := .boolean) hx hb hr rfl (fun t ht hW => ⟨⟨0, (), rfl, (by first | exact .inl ⟨rfl, inL1 c_1, inL3 c_2⟩ | exact .inr ⟨rfl, fun h => absurd h.1 (inL2 c_1)⟩ | exact .inr ⟨rfl, fun h => absurd h.2 (inL4 c_2)⟩), trivial⟩, hS.F ht⟩) hS.2.2 dX8_in_18
  · refine lv_lload_n hx hb dX8_in_6 rfl (lv_at hl 0 rfl) ?_
    refine lv_lload hx hb dX8_in_7 (lv_at hl 2 rfl) ?_
    refine W.lcmp hx hb dX8_in_9 ?_
    refine lv_if_gt (tgt := 17) hx hb dX8_in_10 (by decide) (fun c_2 => ?_) (fun c_2 => ?_)
    · refine lv_iconst (v := 0) hx hb dX8_in_17 (by decide) ?_
      exact W.zret (v := 0) (ty := .boolean) hx hb hr rfl (fun t ht hW => ⟨⟨0, (), rfl, (by first | exact .inl ⟨rfl, inL1 c_1, inL3 c_2⟩ | exact .inr ⟨rfl, fun h => absurd h.1 (inL2 c_1)⟩ | exact .inr ⟨rfl, fun h => absurd h.2 (inL4 c_2)⟩), trivial⟩, hS.F ht⟩) hS.2.2 dX8_in_18
    · refine lv_iconst (v := 1) hx hb dX8_in_13 (by decide) ?_
      refine lv_goto (tgt := 18) hx hb dX8_in_14 (by decide) ?_
      exact W.zret (v := 1) (ty := .boolean) hx hb hr rfl (fun t ht hW => ⟨⟨1, (), rfl, (by first | exact .inl ⟨rfl, inL1 c_1, inL3 c_2⟩ | exact .inr ⟨rfl, fun h => absurd h.1 (inL2 c_1)⟩ | exact .inr ⟨rfl, fun h => absurd h.2 (inL4 c_2)⟩), trivial⟩, hS.F ht⟩) hS.2.2 dX8_in_18
end
section
theorem tw_80 : Cond.initialized RX6 ∈ LW := LWm (i := 80) (by decide +kernel) rfl
theorem tw_81 : Cond.initialized RX5 ∈ LW := LWm (i := 81) (by decide +kernel) rfl
theorem tw_88 : Cond.initialized RJ10 ∈ LW := LWm (i := 88) (by decide +kernel) rfl
theorem tw_89 : Cond.initialized RJ0 ∈ LW := LWm (i := 89) (by decide +kernel) rfl
theorem tw_90 : Cond.initialized RJ1 ∈ LW := LWm (i := 90) (by decide +kernel) rfl
theorem tw_91 : Cond.initialized RJ3 ∈ LW := LWm (i := 91) (by decide +kernel) rfl
theorem tw_101 : Cond.instanceMethod objectInit ∈ LW := LWm (i := 101) (by decide +kernel) rfl
theorem tw_102 : Cond.code objectInit ⟨#[0xb1]⟩ 1 none ∈ LW := LWm (i := 102) (by decide +kernel) rfl
theorem tw_108 : Cond.methodLink RX6 3 objectInit ∈ LW := LWm (i := 108) (by decide +kernel) rfl
theorem tw_109 : Cond.fieldLink RX6 9 "LastPlace$Text" "bytes" "[B" ∈ LW := LWm (i := 109) (by decide +kernel) rfl
theorem tw_110 : Cond.fieldLink RX6 15 "LastPlace$Text" "size" "I" ∈ LW := LWm (i := 110) (by decide +kernel) rfl
theorem tw_112 : Cond.fieldLink RX5 76 "LastPlace$Text" "size" "I" ∈ LW := LWm (i := 112) (by decide +kernel) rfl
theorem tw_113 : Cond.fieldLink RX6 19 "LastPlace$Text" "at" "I" ∈ LW := LWm (i := 113) (by decide +kernel) rfl
theorem tw_116 : Cond.fieldLink RX6 22 "LastPlace$Text" "numberAt" "I" ∈ LW := LWm (i := 116) (by decide +kernel) rfl
theorem tw_119 : Cond.fieldLink RX6 25 "LastPlace$Text" "faultNumber" "I" ∈ LW := LWm (i := 119) (by decide +kernel) rfl
theorem tw_121 : Cond.fieldLink RX6 28 "LastPlace$Text" "faultByte" "I" ∈ LW := LWm (i := 121) (by decide +kernel) rfl
theorem tw_136 : Cond.arrayClass .byte ∈ LW := LWm (i := 136) (by decide +kernel) rfl
theorem tw_145 : Cond.methodLink RX5 3 objectInit ∈ LW := LWm (i := 145) (by decide +kernel) rfl
theorem tw_146 : Cond.fieldLink RX5 9 "LastPlace$Street" "values" "[I" ∈ LW := LWm (i := 146) (by decide +kernel) rfl
theorem tw_150 : Cond.fieldLink RX5 15 "LastPlace$Street" "frees" "[I" ∈ LW := LWm (i := 150) (by decide +kernel) rfl
theorem tw_152 : Cond.fieldLink RX5 18 "LastPlace$Street" "prices" "[I" ∈ LW := LWm (i := 152) (by decide +kernel) rfl
theorem tw_154 : Cond.fieldLink RX5 21 "LastPlace$Street" "lateness" "[I" ∈ LW := LWm (i := 154) (by decide +kernel) rfl
theorem tw_164 : Cond.arrayClass .int ∈ LW := LWm (i := 164) (by decide +kernel) rfl
theorem tw_172 : Cond.methodLink RX4 3 objectInit ∈ LW := LWm (i := 172) (by decide +kernel) rfl
theorem tw_173 : Cond.fieldLink RX4 9 "LastPlace$Scene" "walks" "[I" ∈ LW := LWm (i := 173) (by decide +kernel) rfl
theorem tw_175 : Cond.fieldLink RX4 15 "LastPlace$Scene" "bars" "[I" ∈ LW := LWm (i := 175) (by decide +kernel) rfl
theorem tw_178 : Cond.fieldLink RX4 18 "LastPlace$Scene" "carCount" "I" ∈ LW := LWm (i := 178) (by decide +kernel) rfl
theorem tw_181 : Cond.fieldLink RX4 22 "LastPlace$Scene" "rowSize" "I" ∈ LW := LWm (i := 181) (by decide +kernel) rfl
theorem tw_185 : Cond.fieldLink RX4 25 "LastPlace$Scene" "rowFree" "I" ∈ LW := LWm (i := 185) (by decide +kernel) rfl
theorem tw_188 : Cond.fieldLink RX4 28 "LastPlace$Scene" "seedNow" "I" ∈ LW := LWm (i := 188) (by decide +kernel) rfl
theorem tw_209 : Cond.methodLink RX2 3 objectInit ∈ LW := LWm (i := 209) (by decide +kernel) rfl
theorem tw_210 : Cond.fieldLink RX2 9 "LastPlace$Reckoner" "afterFree" "[I" ∈ LW := LWm (i := 210) (by decide +kernel) rfl
theorem tw_211 : Cond.fieldLink RX2 15 "LastPlace$Reckoner" "afterTaken" "[I" ∈ LW := LWm (i := 211) (by decide +kernel) rfl
theorem tw_212 : Cond.fieldLink RX2 18 "LastPlace$Reckoner" "least" "[I" ∈ LW := LWm (i := 212) (by decide +kernel) rfl
theorem tw_213 : Cond.fieldLink RX2 21 "LastPlace$Reckoner" "waitTicks" "I" ∈ LW := LWm (i := 213) (by decide +kernel) rfl
theorem tw_215 : Cond.fieldLink RX2 25 "LastPlace$Reckoner" "waitCost" "I" ∈ LW := LWm (i := 215) (by decide +kernel) rfl
theorem tw_234 : Cond.methodLink RX1 3 objectInit ∈ LW := LWm (i := 234) (by decide +kernel) rfl
theorem tw_235 : Cond.fieldLink RX1 34 "LastPlace$Parking" "scene" "LLastPlace$Scene;" ∈ LW := LWm (i := 235) (by decide +kernel) rfl
theorem tw_236 : Cond.fieldLink RX1 9 "LastPlace$Parking" "bars" "[I" ∈ LW := LWm (i := 236) (by decide +kernel) rfl
theorem tw_238 : Cond.fieldLink RX1 15 "LastPlace$Parking" "costs" "[I" ∈ LW := LWm (i := 238) (by decide +kernel) rfl
theorem tw_239 : Cond.fieldLink RX1 18 "LastPlace$Parking" "given" "[I" ∈ LW := LWm (i := 239) (by decide +kernel) rfl
theorem tw_240 : Cond.fieldLink RX1 21 "LastPlace$Parking" "n" "I" ∈ LW := LWm (i := 240) (by decide +kernel) rfl
theorem tw_241 : Cond.fieldLink RX1 25 "LastPlace$Parking" "free" "I" ∈ LW := LWm (i := 241) (by decide +kernel) rfl
theorem tw_242 : Cond.fieldLink RX1 28 "LastPlace$Parking" "dearFrom" "I" ∈ LW := LWm (i := 242) (by decide +kernel) rfl
theorem tw_243 : Cond.fieldLink RX1 31 "LastPlace$Parking" "dearer" "I" ∈ LW := LWm (i := 243) (by decide +kernel) rfl
theorem tw_265 : Cond.methodLink RX0 3 objectInit ∈ LW := LWm (i := 265) (by decide +kernel) rfl
theorem tw_266 : Cond.fieldLink RX0 24 "LastPlace$BestWay" "street" "LLastPlace$Street;" ∈ LW := LWm (i := 266) (by decide +kernel) rfl
theorem tw_267 : Cond.fieldLink RX0 9 "LastPlace$BestWay" "onward" "[I" ∈ LW := LWm (i := 267) (by decide +kernel) rfl
theorem tw_268 : Cond.fieldLink RX0 15 "LastPlace$BestWay" "starts" "[I" ∈ LW := LWm (i := 268) (by decide +kernel) rfl
theorem tw_270 : Cond.fieldLink RX0 18 "LastPlace$BestWay" "ends" "[I" ∈ LW := LWm (i := 270) (by decide +kernel) rfl
theorem tw_272 : Cond.fieldLink RX0 21 "LastPlace$BestWay" "folded" "[I" ∈ LW := LWm (i := 272) (by decide +kernel) rfl
theorem tw_288 : Cond.methodLink RX3 3 objectInit ∈ LW := LWm (i := 288) (by decide +kernel) rfl
theorem tw_289 : Cond.fieldLink RX3 9 "LastPlace$Rule" "seen" "[I" ∈ LW := LWm (i := 289) (by decide +kernel) rfl
theorem tw_290 : Cond.fieldLink RX3 15 "LastPlace$Rule" "from" "[I" ∈ LW := LWm (i := 290) (by decide +kernel) rfl
theorem tw_291 : Cond.fieldLink RX3 18 "LastPlace$Rule" "firstFrom" "I" ∈ LW := LWm (i := 291) (by decide +kernel) rfl
theorem tw_292 : Cond.fieldLink RX3 22 "LastPlace$Rule" "changes" "I" ∈ LW := LWm (i := 292) (by decide +kernel) rfl
theorem tw_293 : Cond.fieldLink RX3 25 "LastPlace$Rule" "rounds" "I" ∈ LW := LWm (i := 293) (by decide +kernel) rfl
theorem tw_364 : Cond.methodLink RX5 24 arraycopyName ∈ LW := LWm (i := 364) (by decide +kernel) rfl
theorem tw_365 : Cond.static arraycopyName ∈ LW := LWm (i := 365) (by decide +kernel) rfl
theorem tw_366 : Cond.native arraycopyName ∈ LW := LWm (i := 366) (by decide +kernel) rfl
theorem tw_367 : Cond.methodLink RX5 43 yX6_failed ∈ LW := LWm (i := 367) (by decide +kernel) rfl
theorem tw_368 : Cond.instanceMethod yX6_failed ∈ LW := LWm (i := 368) (by decide +kernel) rfl
theorem tw_369 : Cond.selects RX6 yX6_failed yX6_failed ∈ LW := LWm (i := 369) (by decide +kernel) rfl
theorem tw_370 : Cond.code yX6_failed cX6_failed 1 (some .boolean) ∈ LW := LWm (i := 370) (by decide +kernel) rfl
theorem tw_371 : Cond.methodLink RX5 49 yX6_isAtEnd ∈ LW := LWm (i := 371) (by decide +kernel) rfl
theorem tw_372 : Cond.instanceMethod yX6_isAtEnd ∈ LW := LWm (i := 372) (by decide +kernel) rfl
theorem tw_373 : Cond.selects RX6 yX6_isAtEnd yX6_isAtEnd ∈ LW := LWm (i := 373) (by decide +kernel) rfl
theorem tw_374 : Cond.code yX6_isAtEnd cX6_isAtEnd 1 (some .boolean) ∈ LW := LWm (i := 374) (by decide +kernel) rfl
theorem tw_375 : Cond.methodLink RX6 35 yX6_skipBlanks ∈ LW := LWm (i := 375) (by decide +kernel) rfl
theorem tw_376 : Cond.instanceMethod yX6_skipBlanks ∈ LW := LWm (i := 376) (by decide +kernel) rfl
theorem tw_377 : Cond.selects RX6 yX6_skipBlanks yX6_skipBlanks ∈ LW := LWm (i := 377) (by decide +kernel) rfl
theorem tw_378 : Cond.code yX6_skipBlanks cX6_skipBlanks 1 none ∈ LW := LWm (i := 378) (by decide +kernel) rfl
theorem tw_379 : Cond.methodLink RX6 31 yX6_byteAt ∈ LW := LWm (i := 379) (by decide +kernel) rfl
theorem tw_380 : Cond.instanceMethod yX6_byteAt ∈ LW := LWm (i := 380) (by decide +kernel) rfl
theorem tw_381 : Cond.selects RX6 yX6_byteAt yX6_byteAt ∈ LW := LWm (i := 381) (by decide +kernel) rfl
theorem tw_382 : Cond.code yX6_byteAt cX6_byteAt 2 (some .int) ∈ LW := LWm (i := 382) (by decide +kernel) rfl
theorem tw_400 : Cond.instanceMethod yX6_takeWord ∈ LW := LWm (i := 400) (by decide +kernel) rfl
theorem tw_401 : Cond.selects RX6 yX6_takeWord yX6_takeWord ∈ LW := LWm (i := 401) (by decide +kernel) rfl
theorem tw_402 : Cond.code yX6_takeWord cX6_takeWord 4 (some .boolean) ∈ LW := LWm (i := 402) (by decide +kernel) rfl
theorem tw_403 : Cond.methodLink RX6 38 yJ0_length_8abf5 ∈ LW := LWm (i := 403) (by decide +kernel) rfl
theorem tw_404 : Cond.instanceMethod yJ0_length_8abf5 ∈ LW := LWm (i := 404) (by decide +kernel) rfl
theorem tw_405 : Cond.selects RJ0 yJ0_length_8abf5 yJ0_length_8abf5 ∈ LW := LWm (i := 405) (by decide +kernel) rfl
theorem tw_406 : Cond.code yJ0_length_8abf5 cJ0_length_8abf5 1 (some .int) ∈ LW := LWm (i := 406) (by decide +kernel) rfl
theorem tw_407 : Cond.methodLink RJ0 335 yJ0_coder_7d493 ∈ LW := LWm (i := 407) (by decide +kernel) rfl
theorem tw_408 : Cond.instanceMethod yJ0_coder_7d493 ∈ LW := LWm (i := 408) (by decide +kernel) rfl
theorem tw_409 : Cond.selects RJ0 yJ0_coder_7d493 yJ0_coder_7d493 ∈ LW := LWm (i := 409) (by decide +kernel) rfl
theorem tw_410 : Cond.code yJ0_coder_7d493 cJ0_coder_7d493 1 (some .byte) ∈ LW := LWm (i := 410) (by decide +kernel) rfl
theorem tw_411 : Cond.fieldLink RJ0 38 "java/lang/String" "COMPACT_STRINGS" "Z" ∈ LW := LWm (i := 411) (by decide +kernel) rfl
theorem tw_413 : Cond.methodLink RX6 44 yJ0_charAt_5068e ∈ LW := LWm (i := 413) (by decide +kernel) rfl
theorem tw_414 : Cond.instanceMethod yJ0_charAt_5068e ∈ LW := LWm (i := 414) (by decide +kernel) rfl
theorem tw_415 : Cond.selects RJ0 yJ0_charAt_5068e yJ0_charAt_5068e ∈ LW := LWm (i := 415) (by decide +kernel) rfl
theorem tw_416 : Cond.code yJ0_charAt_5068e cJ0_charAt_5068e 2 (some .char) ∈ LW := LWm (i := 416) (by decide +kernel) rfl
theorem tw_417 : Cond.methodLink RJ0 492 yJ0_isLatin1_aae02 ∈ LW := LWm (i := 417) (by decide +kernel) rfl
theorem tw_418 : Cond.instanceMethod yJ0_isLatin1_aae02 ∈ LW := LWm (i := 418) (by decide +kernel) rfl
theorem tw_419 : Cond.selects RJ0 yJ0_isLatin1_aae02 yJ0_isLatin1_aae02 ∈ LW := LWm (i := 419) (by decide +kernel) rfl
theorem tw_420 : Cond.code yJ0_isLatin1_aae02 cJ0_isLatin1_aae02 1 (some .boolean) ∈ LW := LWm (i := 420) (by decide +kernel) rfl
theorem tw_421 : Cond.methodLink RJ0 495 yJ1_charAt_3b067 ∈ LW := LWm (i := 421) (by decide +kernel) rfl
theorem tw_422 : Cond.static yJ1_charAt_3b067 ∈ LW := LWm (i := 422) (by decide +kernel) rfl
theorem tw_423 : Cond.code yJ1_charAt_3b067 cJ1_charAt_3b067 2 (some .char) ∈ LW := LWm (i := 423) (by decide +kernel) rfl
theorem tw_424 : Cond.methodLink RJ1 9 yJ0_checkIndex_df160 ∈ LW := LWm (i := 424) (by decide +kernel) rfl
theorem tw_425 : Cond.static yJ0_checkIndex_df160 ∈ LW := LWm (i := 425) (by decide +kernel) rfl
theorem tw_426 : Cond.code yJ0_checkIndex_df160 cJ0_checkIndex_df160 2 none ∈ LW := LWm (i := 426) (by decide +kernel) rfl
theorem tw_427 : Cond.fieldLink RJ0 1053 "jdk/internal/util/Preconditions" "SIOOBE_FORMATTER" "Ljava/util/function/BiFunction;" ∈ LW := LWm (i := 427) (by decide +kernel) rfl
theorem tw_429 : Cond.methodLink RJ0 1059 yJ3_checkIndex_8e157 ∈ LW := LWm (i := 429) (by decide +kernel) rfl
theorem tw_430 : Cond.static yJ3_checkIndex_8e157 ∈ LW := LWm (i := 430) (by decide +kernel) rfl
theorem tw_431 : Cond.code yJ3_checkIndex_8e157 cJ3_checkIndex_8e157 3 (some .int) ∈ LW := LWm (i := 431) (by decide +kernel) rfl
theorem tw_455 : Cond.methodLink RX5 60 yX6_fail ∈ LW := LWm (i := 455) (by decide +kernel) rfl
theorem tw_456 : Cond.instanceMethod yX6_fail ∈ LW := LWm (i := 456) (by decide +kernel) rfl
theorem tw_457 : Cond.selects RX6 yX6_fail yX6_fail ∈ LW := LWm (i := 457) (by decide +kernel) rfl
theorem tw_458 : Cond.code yX6_fail cX6_fail 3 none ∈ LW := LWm (i := 458) (by decide +kernel) rfl
theorem tw_468 : Cond.instanceMethod yX6_needNumber ∈ LW := LWm (i := 468) (by decide +kernel) rfl
theorem tw_469 : Cond.selects RX6 yX6_needNumber yX6_needNumber ∈ LW := LWm (i := 469) (by decide +kernel) rfl
theorem tw_470 : Cond.code yX6_needNumber cX6_needNumber 6 (some .int) ∈ LW := LWm (i := 470) (by decide +kernel) rfl
theorem tw_471 : Cond.methodLink RX6 52 yX6_failed ∈ LW := LWm (i := 471) (by decide +kernel) rfl
theorem tw_476 : Cond.methodLink RX6 60 yX6_fail ∈ LW := LWm (i := 476) (by decide +kernel) rfl
theorem tw_477 : Cond.methodLink RX5 72 yX5_doors ∈ LW := LWm (i := 477) (by decide +kernel) rfl
theorem tw_478 : Cond.instanceMethod yX5_doors ∈ LW := LWm (i := 478) (by decide +kernel) rfl
theorem tw_479 : Cond.selects RX5 yX5_doors yX5_doors ∈ LW := LWm (i := 479) (by decide +kernel) rfl
theorem tw_480 : Cond.code yX5_doors cX5_doors 1 (some .int) ∈ LW := LWm (i := 480) (by decide +kernel) rfl
theorem tw_483 : Cond.instanceMethod yX6_needWord ∈ LW := LWm (i := 483) (by decide +kernel) rfl
theorem tw_484 : Cond.selects RX6 yX6_needWord yX6_needWord ∈ LW := LWm (i := 484) (by decide +kernel) rfl
theorem tw_485 : Cond.code yX6_needWord cX6_needWord 2 none ∈ LW := LWm (i := 485) (by decide +kernel) rfl
theorem tw_486 : Cond.methodLink RX6 56 yX6_takeWord ∈ LW := LWm (i := 486) (by decide +kernel) rfl
theorem tw_680 : Cond.methodLink RX3 29 yX6_needWord ∈ LW := LWm (i := 680) (by decide +kernel) rfl
theorem tw_681 : Cond.methodLink RX3 35 yX6_needNumber ∈ LW := LWm (i := 681) (by decide +kernel) rfl
theorem tw_682 : Cond.methodLink RX3 39 yX6_failed ∈ LW := LWm (i := 682) (by decide +kernel) rfl
theorem tw_1502 : Cond.fieldLink RJ0 9 "java/lang/String" "value" "[B" ∈ LW := LWm (i := 1502) (by decide +kernel) rfl
theorem tw_1503 : Cond.fieldLink RJ0 15 "java/lang/String" "coder" "B" ∈ LW := LWm (i := 1503) (by decide +kernel) rfl
end
section
theorem dX6_init_0 : decode cX6_init 0 = .ok (.aload_n 0, 1) := by decide +kernel
theorem dX6_init_1 : decode cX6_init 1 = .ok (.invokespecial 3, 3) := by decide +kernel
theorem dX6_init_4 : decode cX6_init 4 = .ok (.aload_n 0, 1) := by decide +kernel
theorem dX6_init_5 : decode cX6_init 5 = .ok (.sipush 240, 3) := by decide +kernel
theorem dX6_init_8 : decode cX6_init 8 = .ok (.newarray .byte, 2) := by decide +kernel
theorem dX6_init_10 : decode cX6_init 10 = .ok (.putfield 9, 3) := by decide +kernel
theorem dX6_init_13 : decode cX6_init 13 = .ok (.aload_n 0, 1) := by decide +kernel
theorem dX6_init_14 : decode cX6_init 14 = .ok (.iconst 0, 1) := by decide +kernel
theorem dX6_init_15 : decode cX6_init 15 = .ok (.putfield 15, 3) := by decide +kernel
theorem dX6_init_18 : decode cX6_init 18 = .ok (.aload_n 0, 1) := by decide +kernel
theorem dX6_init_19 : decode cX6_init 19 = .ok (.iconst 0, 1) := by decide +kernel
theorem dX6_init_20 : decode cX6_init 20 = .ok (.putfield 19, 3) := by decide +kernel
theorem dX6_init_23 : decode cX6_init 23 = .ok (.aload_n 0, 1) := by decide +kernel
theorem dX6_init_24 : decode cX6_init 24 = .ok (.iconst 0, 1) := by decide +kernel
theorem dX6_init_25 : decode cX6_init 25 = .ok (.putfield 22, 3) := by decide +kernel
theorem dX6_init_28 : decode cX6_init 28 = .ok (.aload_n 0, 1) := by decide +kernel
theorem dX6_init_29 : decode cX6_init 29 = .ok (.iconst 0, 1) := by decide +kernel
theorem dX6_init_30 : decode cX6_init 30 = .ok (.putfield 25, 3) := by decide +kernel
theorem dX6_init_33 : decode cX6_init 33 = .ok (.aload_n 0, 1) := by decide +kernel
theorem dX6_init_34 : decode cX6_init 34 = .ok (.iconst 0, 1) := by decide +kernel
theorem dX6_init_35 : decode cX6_init 35 = .ok (.putfield 28, 3) := by decide +kernel
theorem dX6_init_38 : decode cX6_init 38 = .ok (.return_, 1) := by decide +kernel
set_option maxHeartbeats 4000000 in
set_option maxRecDepth 100000 in
theorem k_Text_init (l : Launch) (D : va_G) (k : Nat → ClassId) (st : Nat → Nat) (lo : Nat) (h0 : Nat)  : CWv l D k st lo yX6_init cX6_init 1 none ({ frames := 1, cells := 1, slots := 240, locals := 12 }) 1 240 [.ref h0] [(h0, .inr (6, [.null, .int 0, .int 0, .int 0, .int 0, .int 0]))] (fun (_ : Nat) => True) (fun (q : Nat) => [(h0, .inr (6, [.ref q, .int 0, .int 0, .int 0, .int 0, .int 0])), (q, .inl (k 0, 240, .inl (fun _ => 0)))]) := by
  intro sz
  refine Met.ofW (cc := cX6_init) (maxL := 1) (ret := none) (by decide) rfl ?_
  intro p e s m args below meth c s₁ B hml hv
  obtain ⟨rfl, hsz, hlo, hP, hK, hDL, hZ⟩ := hv
  have hx := B.exec
  have hb := B.bytes
  have hr := B.returns
  have hts := WS_ts B.pre
  have hown : s.vm.findClass RX6 = some m.cls := findClass_of_methodNamed B.named
  have hlocks := B.notSynchronized
  have hin : meth.name = "<init>" := (name_of_methodNamed B.named B.method).1
  subst hsz
  have hD := hDL.self (sz := s.heap.size)
  have hAlo := A_lo hDL hlo
  generalize hAe : va_A [(h0, .inr (6, [.null, .int 0, .int 0, .int 0, .int 0, .int 0]))] s.heap.size = A at hD hAlo ⊢
  have hA : ∀ q : Nat, s.heap.size ≤ q → A q := fun q h => by rw [← hAe]; exact Or.inr h
  have hS : va_S A s.heap s.heap [] := va_S.rf
  have hl := lv_entry ([.ref h0]) (n := 1) (Nat.le_of_ble_eq_true rfl)
  rw [lg_entry_eq]
  generalize (lg_sl ([.ref h0]) ++ List.replicate (1 - (lg_sl ([.ref h0])).length) Slot.unset).toArray = ls at hl ⊢
  have hl : lv_has ls 1 [(0, .ref h0)] := hl
  refine lv_aload_n hx hb dX6_init_0 rfl (lv_at hl 0 rfl) ?_
  refine W.objInit hx hb hown (hts _ tw_108) (hts _ tw_101) (hts _ tw_102) rfl (by rw [hml]; exact hl.1) rfl dX6_init_1 (Nat.le_of_ble_eq_true rfl) (Nat.le_of_ble_eq_true rfl) ?_
  refine W.eq (g2 := F0 m 4 ls []) rfl ?_
  refine lv_aload_n hx hb dX6_init_4 rfl (lv_at hl 0 rfl) ?_
  refine lv_sipush (v := 240) hx hb dX6_init_5 (by decide) ?_
  refine nwa (atype := .byte) (t0 := 0) (a0 := (240, .inl (fun _ => 0))) hx hb (hts _ tw_136) rfl rfl hK hP hD hS hA (fun _ => rfl) (by decide) (N' := 240) (by decide) (by decide) (Nat.le_of_ble_eq_true rfl) (Nat.le_of_ble_eq_true rfl) dX6_init_8 (fun q_1 H hP hD hS => ?_)
  refine W.widen (k := 1) (n := 240) (by decide) (by decide) ?_
  have hP : va_P D classes [(h0, .inr (6, [.null, .int 0, .int 0, .int 0, .int 0, .int 0])), (q_1, .inl (k 0, 240, .inl (fun _ => 0)))] H := hP
  have hD : va_D A [(h0, .inr (6, [.null, .int 0, .int 0, .int 0, .int 0, .int 0])), (q_1, .inl (k 0, 240, .inl (fun _ => 0)))] := hD
  refine va_putF (D := D) (ci := 6) (v := .ref q_1) (ty := (.array .byte)) (C := RX6) (T := TX6) (N := 6) hx hb hts inX6 tyX6 tyX6_ok nmX6 hown hK hP hD hS 0 rfl rfl 0 (by decide) (hts _ tw_109) (fun _ h9 => h9) rfl hin rfl (by decide +kernel) rfl rfl (Nat.le_of_ble_eq_true rfl) dX6_init_10 (fun H locs hP hD hS => ?_)
  have hP : va_P D classes [(h0, .inr (6, [.ref q_1, .int 0, .int 0, .int 0, .int 0, .int 0])), (q_1, .inl (k 0, 240, .inl (fun _ => 0)))] H := hP
  have hD : va_D A [(h0, .inr (6, [.ref q_1, .int 0, .int 0, .int 0, .int 0, .int 0])), (q_1, .inl (k 0, 240, .inl (fun _ => 0)))] := hD
  refine lv_aload_n hx hb dX6_init_13 rfl (lv_at hl 0 rfl) ?_
  refine lv_iconst (v := 0) hx hb dX6_init_14 (by decide) ?_
  refine va_put (D := D) (ci := 6) (v := .int 0) (ty := .int) (C := RX6) (T := TX6) (N := 6) hx hb hts inX6 tyX6 tyX6_ok nmX6 hown hK hP hD hS 0 rfl rfl 1 (by decide) (hts _ tw_110) (fun _ h9 => h9) rfl (by decide +kernel) rfl rfl (Nat.le_of_ble_eq_true rfl) dX6_init_15 (fun H locs hP hD hS => ?_)
  have hP : va_P D classes [(h0, .inr (6, [.ref q_1, .int 0, .int 0, .int 0, .int 0, .int 0])), (q_1, .inl (k 0, 240, .inl (fun _ => 0)))] H := hP
  have hD : va_D A [(h0, .inr (6, [.ref q_1, .int 0, .int 0, .int 0, .int 0, .int 0])), (q_1, .inl (k 0, 240, .inl (fun _ => 0)))] := hD
  refine lv_aload_n hx hb dX6_init_18 rfl (lv_at hl 0 rfl) ?_
  refine lv_iconst (v := 0) hx hb dX6_init_19 (by decide) ?_
  refine va_put (D := D) (ci := 6) (v := .int 0) (ty := .int) (C := RX6) (T := TX6) (N := 6) hx hb hts inX6 tyX6 tyX6_ok nmX6 hown hK hP hD hS 0 rfl rfl 2 (by decide) (hts _ tw_113) (fun _ h9 => h9) rfl (by decide +kernel) rfl rfl (Nat.le_of_ble_eq_true rfl) dX6_init_20 (fun H locs hP hD hS => ?_)
  have hP : va_P D classes [(h0, .inr (6, [.ref q_1, .int 0, .int 0, .int 0, .int 0, .int 0])), (q_1, .inl (k 0, 240, .inl (fun _ => 0)))] H := hP
  have hD : va_D A [(h0, .inr (6, [.ref q_1, .int 0, .int 0, .int 0, .int 0, .int 0])), (q_1, .inl (k 0, 240, .inl (fun _ => 0)))] := hD
  refine lv_aload_n hx hb dX6_init_23 rfl (lv_at hl 0 rfl) ?_
  refine lv_iconst (v := 0) hx hb dX6_init_24 (by decide) ?_
  refine va_put (D := D) (ci := 6) (v := .int 0) (ty := .int) (C := RX6) (T := TX6) (N := 6) hx hb hts inX6 tyX6 tyX6_ok nmX6 hown hK hP hD hS 0 rfl rfl 3 (by decide) (hts _ tw_116) (fun _ h9 => h9) rfl (by decide +kernel) rfl rfl (Nat.le_of_ble_eq_true rfl) dX6_init_25 (fun H locs hP hD hS => ?_)
  have hP : va_P D classes [(h0, .inr (6, [.ref q_1, .int 0, .int 0, .int 0, .int 0, .int 0])), (q_1, .inl (k 0, 240, .inl (fun _ => 0)))] H := hP
  have hD : va_D A [(h0, .inr (6, [.ref q_1, .int 0, .int 0, .int 0, .int 0, .int 0])), (q_1, .inl (k 0, 240, .inl (fun _ => 0)))] := hD
  refine lv_aload_n hx hb dX6_init_28 rfl (lv_at hl 0 rfl) ?_
  refine lv_iconst (v := 0) hx hb dX6_init_29 (by decide) ?_
  refine va_put (D := D) (ci := 6) (v := .int 0) (ty := .int) (C := RX6) (T := TX6) (N := 6) hx hb hts inX6 tyX6 tyX6_ok nmX6 hown hK hP hD hS 0 rfl rfl 4 (by decide) (hts _ tw_119) (fun _ h9 => h9) rfl (by decide +kernel) rfl rfl (Nat.le_of_ble_eq_true rfl) dX6_init_30 (fun H locs hP hD hS => ?_)
  have hP : va_P D classes [(h0, .inr (6, [.ref q_1, .int 0, .int 0, .int 0, .int 0, .int 0])), (q_1, .inl (k 0, 240, .inl (fun _ => 0)))] H := hP
  have hD : va_D A [(h0, .inr (6, [.ref q_1, .int 0, .int 0, .int 0, .int 0, .int 0])), (q_1, .inl (k 0, 240, .inl (fun _ => 0)))] := hD
  refine lv_aload_n hx hb dX6_init_33 rfl (lv_at hl 0 rfl) ?_
  refine lv_iconst (v := 0) hx hb dX6_init_34 (by decide) ?_
  refine va_put (D := D) (ci := 6) (v := .int 0) (ty := .int) (C := RX6) (T := TX6) (N := 6) hx hb hts inX6 tyX6 tyX6_ok nmX6 hown hK hP hD hS 0 rfl rfl 5 (by decide) (hts _ tw_121) (fun _ h9 => h9) rfl (by decide +kernel) rfl rfl (Nat.le_of_ble_eq_true rfl) dX6_init_35 (fun H locs hP hD hS => ?_)
  have hP : va_P D classes [(h0, .inr (6, [.ref q_1, .int 0, .int 0, .int 0, .int 0, .int 0])), (q_1, .inl (k 0, 240, .inl (fun _ => 0)))] H := hP
  have hD : va_D A [(h0, .inr (6, [.ref q_1, .int 0, .int 0, .int 0, .int 0, .int 0])), (q_1, .inl (k 0, 240, .inl (fun _ => 0)))] := hD
  have hP9 := hP.sub (ws' := [(h0, .inr (6, [.ref q_1, .int 0, .int 0, .int 0, .int 0, .int 0])), (q_1, .inl (k 0, 240, .inl (fun _ => 0)))]) [0, 1] rfl
  have hD9 := hD.sub (ws' := [(h0, .inr (6, [.ref q_1, .int 0, .int 0, .int 0, .int 0, .int 0])), (q_1, .inl (k 0, 240, .inl (fun _ => 0)))]) [0, 1] (by decide) rfl
  refine W.widen (k := 1) (n := 240) (by decide) (by decide) ?_
  exact W.vret hx hb hr (fun t ht hW => ⟨⟨q_1, rfl, trivial, by rw [ht]; exact hP9, hD9⟩, hS.F ht⟩) hS.2.2 dX6_init_38
end
section
theorem dX6_append_0 : decode cX6_append 0 = .ok (.aload_n 0, 1) := by decide +kernel
theorem dX6_append_1 : decode cX6_append 1 = .ok (.getfield 15, 3) := by decide +kernel
theorem dX6_append_4 : decode cX6_append 4 = .ok (.sipush 240, 3) := by decide +kernel
theorem dX6_append_7 : decode cX6_append 7 = .ok (.if_icmp .ge 23, 3) := by decide +kernel
theorem dX6_append_10 : decode cX6_append 10 = .ok (.aload_n 0, 1) := by decide +kernel
theorem dX6_append_11 : decode cX6_append 11 = .ok (.getfield 9, 3) := by decide +kernel
theorem dX6_append_14 : decode cX6_append 14 = .ok (.aload_n 0, 1) := by decide +kernel
theorem dX6_append_15 : decode cX6_append 15 = .ok (.getfield 15, 3) := by decide +kernel
theorem dX6_append_18 : decode cX6_append 18 = .ok (.iload_n 1, 1) := by decide +kernel
theorem dX6_append_19 : decode cX6_append 19 = .ok (.bastore, 1) := by decide +kernel
theorem dX6_append_20 : decode cX6_append 20 = .ok (.aload_n 0, 1) := by decide +kernel
theorem dX6_append_21 : decode cX6_append 21 = .ok (.dup, 1) := by decide +kernel
theorem dX6_append_22 : decode cX6_append 22 = .ok (.getfield 15, 3) := by decide +kernel
theorem dX6_append_25 : decode cX6_append 25 = .ok (.iconst 1, 1) := by decide +kernel
theorem dX6_append_26 : decode cX6_append 26 = .ok (.iadd, 1) := by decide +kernel
theorem dX6_append_27 : decode cX6_append 27 = .ok (.putfield 15, 3) := by decide +kernel
theorem dX6_append_30 : decode cX6_append 30 = .ok (.return_, 1) := by decide +kernel
set_option maxHeartbeats 4000000 in
set_option maxRecDepth 100000 in
theorem k_append (l : Launch) (D : va_G) (k : Nat → ClassId) (st : Nat → Nat) (lo : Nat) (h0 : Nat) (h1 : Nat) (s0 : Int32) (s1 : Int32) (p0 : Int32) (f : Nat → Int32) (g1 : ¬ (240 : Int32) ≤ s0) (g2 : vp_in s0 240) (g3 : s0 + 1 = s1) : CWv l D k st lo yX6_append cX6_append 2 none ({ frames := 0, cells := 0, slots := 0, locals := 0 }) 0 0 [.ref h0, .int p0] [(h0, .inr (6, [.ref h1, .int s0, .int 0, .int 0, .int 0, .int 0])), (h1, .inl (k 0, 240, .inl f))] (fun (_ : Nat → Int32) => True) (fun (g : Nat → Int32) => [(h0, .inr (6, [.ref h1, .int s1, .int 0, .int 0, .int 0, .int 0])), (h1, .inl (k 0, 240, .inl g))]) := by
  intro sz
  refine Met.ofW (cc := cX6_append) (maxL := 2) (ret := none) (by decide) rfl ?_
  intro p e s m args below meth c s₁ B hml hv
  obtain ⟨rfl, hsz, hlo, hP, hK, hDL, hZ⟩ := hv
  have hx := B.exec
  have hb := B.bytes
  have hr := B.returns
  have hts := WS_ts B.pre
  have hown : s.vm.findClass RX6 = some m.cls := findClass_of_methodNamed B.named
  have hlocks := B.notSynchronized
  subst hsz
  have hD := hDL.self (sz := s.heap.size)
  have hAlo := A_lo hDL hlo
  generalize hAe : va_A [(h0, .inr (6, [.ref h1, .int s0, .int 0, .int 0, .int 0, .int 0])), (h1, .inl (k 0, 240, .inl f))] s.heap.size = A at hD hAlo ⊢
  have hA : ∀ q : Nat, s.heap.size ≤ q → A q := fun q h => by rw [← hAe]; exact Or.inr h
  have hS : va_S A s.heap s.heap [] := va_S.rf
  have hl := lv_entry ([.ref h0, .int p0]) (n := 2) (Nat.le_of_ble_eq_true rfl)
  rw [lg_entry_eq]
  generalize (lg_sl ([.ref h0, .int p0]) ++ List.replicate (2 - (lg_sl ([.ref h0, .int p0])).length) Slot.unset).toArray = ls at hl ⊢
  have hl : lv_has ls 2 [(0, .ref h0), (1, .int p0)] := hl
  refine lv_aload_n hx hb dX6_append_0 rfl (lv_at hl 0 rfl) ?_
  refine va_get (D := D) (ci := 6) (v := .int s0) (C := RX6) (T := TX6) (N := 6) hx hb hts inX6 hown hK hP 0 rfl rfl 1 (by decide) (hts _ tw_110) (fun _ h9 => h9) rfl dX6_append_1 ?_
  refine lv_sipush (v := 240) hx hb dX6_append_4 (by decide) ?_
  refine lv_icmp_ge (tgt := 30) hx hb dX6_append_7 (by decide) (fun c_1 => absurd c_1 (g1)) (fun c_1 => ?_)
  refine lv_aload_n hx hb dX6_append_10 rfl (lv_at hl 0 rfl) ?_
  refine va_get (D := D) (ci := 6) (v := .ref h1) (C := RX6) (T := TX6) (N := 6) hx hb hts inX6 hown hK hP 0 rfl rfl 0 (by decide) (hts _ tw_109) (fun _ h9 => h9) rfl dX6_append_11 ?_
  refine lv_aload_n hx hb dX6_append_14 rfl (lv_at hl 0 rfl) ?_
  refine va_get (D := D) (ci := 6) (v := .int s0) (C := RX6) (T := TX6) (N := 6) hx hb hts inX6 hown hK hP 0 rfl rfl 1 (by decide) (hts _ tw_110) (fun _ h9 => h9) rfl dX6_append_15 ?_
  refine lv_iload_n hx hb dX6_append_18 rfl (lv_at hl 1 rfl) ?_
  refine va_bast hx hb hK hP hD hS 1 0 rfl rfl g2 dX6_append_19 (fun H locs hP hD hS => ?_)
  have hP : va_P D classes [(h0, .inr (6, [.ref h1, .int s0, .int 0, .int 0, .int 0, .int 0])), (h1, .inl (k 0, 240, .inl (upd f (Int32.toNatClampNeg s0) (vp_nar .byte p0))))] H := hP
  have hD : va_D A [(h0, .inr (6, [.ref h1, .int s0, .int 0, .int 0, .int 0, .int 0])), (h1, .inl (k 0, 240, .inl (upd f (Int32.toNatClampNeg s0) (vp_nar .byte p0))))] := hD
  generalize (upd f (Int32.toNatClampNeg s0) (vp_nar .byte p0)) = f_2 at hP hD
  refine lv_aload_n hx hb dX6_append_20 rfl (lv_at hl 0 rfl) ?_
  refine lv_dup hx hb dX6_append_21 rfl ?_
  refine va_get (D := D) (ci := 6) (v := .int s0) (C := RX6) (T := TX6) (N := 6) hx hb hts inX6 hown hK hP 0 rfl rfl 1 (by decide) (hts _ tw_110) (fun _ h9 => h9) rfl dX6_append_22 ?_
  refine lv_iconst (v := 1) hx hb dX6_append_25 (by decide) ?_
  refine lv_iadd hx hb dX6_append_26 ?_
  refine lv_topi (fun x_3 ex_3 => ?_)
  refine lv_ti (y := s1) (by rw [ex_3, g3]) ?_
  refine va_put (D := D) (ci := 6) (v := .int s1) (ty := .int) (C := RX6) (T := TX6) (N := 6) hx hb hts inX6 tyX6 tyX6_ok nmX6 hown hK hP hD hS 0 rfl rfl 1 (by decide) (hts _ tw_110) (fun _ h9 => h9) rfl (by decide +kernel) rfl rfl (Nat.le_of_ble_eq_true rfl) dX6_append_27 (fun H locs hP hD hS => ?_)
  have hP : va_P D classes [(h0, .inr (6, [.ref h1, .int s1, .int 0, .int 0, .int 0, .int 0])), (h1, .inl (k 0, 240, .inl f_2))] H := hP
  have hD : va_D A [(h0, .inr (6, [.ref h1, .int s1, .int 0, .int 0, .int 0, .int 0])), (h1, .inl (k 0, 240, .inl f_2))] := hD
  have hP9 := hP.sub (ws' := [(h0, .inr (6, [.ref h1, .int s1, .int 0, .int 0, .int 0, .int 0])), (h1, .inl (k 0, 240, .inl f_2))]) [0, 1] rfl
  have hD9 := hD.sub (ws' := [(h0, .inr (6, [.ref h1, .int s1, .int 0, .int 0, .int 0, .int 0])), (h1, .inl (k 0, 240, .inl f_2))]) [0, 1] (by decide) rfl
  exact W.vret hx hb hr (fun t ht hW => ⟨⟨f_2, rfl, trivial, by rw [ht]; exact hP9, hD9⟩, hS.F ht⟩) hS.2.2 dX6_append_30
end
section
theorem dX6_rewind_0 : decode cX6_rewind 0 = .ok (.aload_n 0, 1) := by decide +kernel
theorem dX6_rewind_1 : decode cX6_rewind 1 = .ok (.iconst 0, 1) := by decide +kernel
theorem dX6_rewind_2 : decode cX6_rewind 2 = .ok (.putfield 19, 3) := by decide +kernel
theorem dX6_rewind_5 : decode cX6_rewind 5 = .ok (.aload_n 0, 1) := by decide +kernel
theorem dX6_rewind_6 : decode cX6_rewind 6 = .ok (.iconst 0, 1) := by decide +kernel
theorem dX6_rewind_7 : decode cX6_rewind 7 = .ok (.putfield 22, 3) := by decide +kernel
theorem dX6_rewind_10 : decode cX6_rewind 10 = .ok (.aload_n 0, 1) := by decide +kernel
theorem dX6_rewind_11 : decode cX6_rewind 11 = .ok (.iconst 0, 1) := by decide +kernel
theorem dX6_rewind_12 : decode cX6_rewind 12 = .ok (.putfield 25, 3) := by decide +kernel
theorem dX6_rewind_15 : decode cX6_rewind 15 = .ok (.aload_n 0, 1) := by decide +kernel
theorem dX6_rewind_16 : decode cX6_rewind 16 = .ok (.iconst 0, 1) := by decide +kernel
theorem dX6_rewind_17 : decode cX6_rewind 17 = .ok (.putfield 28, 3) := by decide +kernel
theorem dX6_rewind_20 : decode cX6_rewind 20 = .ok (.return_, 1) := by decide +kernel
set_option maxHeartbeats 4000000 in
set_option maxRecDepth 100000 in
theorem k_rewind (l : Launch) (D : va_G) (k : Nat → ClassId) (st : Nat → Nat) (lo : Nat) (h0 : Nat) (h1 : Nat)  : CWv l D k st lo yX6_rewind cX6_rewind 1 none ({ frames := 0, cells := 0, slots := 0, locals := 0 }) 0 0 [.ref h0] [(h0, .inr (6, [.ref h1, .int 0, .int 0, .int 0, .int 0, .int 0]))] (fun (_ : Unit) => True) (fun (_ : Unit) => [(h0, .inr (6, [.ref h1, .int 0, .int 0, .int 0, .int 0, .int 0]))]) := by
  intro sz
  refine Met.ofW (cc := cX6_rewind) (maxL := 1) (ret := none) (by decide) rfl ?_
  intro p e s m args below meth c s₁ B hml hv
  obtain ⟨rfl, hsz, hlo, hP, hK, hDL, hZ⟩ := hv
  have hx := B.exec
  have hb := B.bytes
  have hr := B.returns
  have hts := WS_ts B.pre
  have hown : s.vm.findClass RX6 = some m.cls := findClass_of_methodNamed B.named
  have hlocks := B.notSynchronized
  subst hsz
  have hD := hDL.self (sz := s.heap.size)
  have hAlo := A_lo hDL hlo
  generalize hAe : va_A [(h0, .inr (6, [.ref h1, .int 0, .int 0, .int 0, .int 0, .int 0]))] s.heap.size = A at hD hAlo ⊢
  have hA : ∀ q : Nat, s.heap.size ≤ q → A q := fun q h => by rw [← hAe]; exact Or.inr h
  have hS : va_S A s.heap s.heap [] := va_S.rf
  have hl := lv_entry ([.ref h0]) (n := 1) (Nat.le_of_ble_eq_true rfl)
  rw [lg_entry_eq]
  generalize (lg_sl ([.ref h0]) ++ List.replicate (1 - (lg_sl ([.ref h0])).length) Slot.unset).toArray = ls at hl ⊢
  have hl : lv_has ls 1 [(0, .ref h0)] := hl
  refine lv_aload_n hx hb dX6_rewind_0 rfl (lv_at hl 0 rfl) ?_
  refine lv_iconst (v := 0) hx hb dX6_rewind_1 (by decide) ?_
  refine va_put (D := D) (ci := 6) (v := .int 0) (ty := .int) (C := RX6) (T := TX6) (N := 6) hx hb hts inX6 tyX6 tyX6_ok nmX6 hown hK hP hD hS 0 rfl rfl 2 (by decide) (hts _ tw_113) (fun _ h9 => h9) rfl (by decide +kernel) rfl rfl (Nat.le_of_ble_eq_true rfl) dX6_rewind_2 (fun H locs hP hD hS => ?_)
  have hP : va_P D classes [(h0, .inr (6, [.ref h1, .int 0, .int 0, .int 0, .int 0, .int 0]))] H := hP
  have hD : va_D A [(h0, .inr (6, [.ref h1, .int 0, .int 0, .int 0, .int 0, .int 0]))] := hD
  refine lv_aload_n hx hb dX6_rewind_5 rfl (lv_at hl 0 rfl) ?_
  refine lv_iconst (v := 0) hx hb dX6_rewind_6 (by decide) ?_
  refine va_put (D := D) (ci := 6) (v := .int 0) (ty := .int) (C := RX6) (T := TX6) (N := 6) hx hb hts inX6 tyX6 tyX6_ok nmX6 hown hK hP hD hS 0 rfl rfl 3 (by decide) (hts _ tw_116) (fun _ h9 => h9) rfl (by decide +kernel) rfl rfl (Nat.le_of_ble_eq_true rfl) dX6_rewind_7 (fun H locs hP hD hS => ?_)
  have hP : va_P D classes [(h0, .inr (6, [.ref h1, .int 0, .int 0, .int 0, .int 0, .int 0]))] H := hP
  have hD : va_D A [(h0, .inr (6, [.ref h1, .int 0, .int 0, .int 0, .int 0, .int 0]))] := hD
  refine lv_aload_n hx hb dX6_rewind_10 rfl (lv_at hl 0 rfl) ?_
  refine lv_iconst (v := 0) hx hb dX6_rewind_11 (by decide) ?_
  refine va_put (D := D) (ci := 6) (v := .int 0) (ty := .int) (C := RX6) (T := TX6) (N := 6) hx hb hts inX6 tyX6 tyX6_ok nmX6 hown hK hP hD hS 0 rfl rfl 4 (by decide) (hts _ tw_119) (fun _ h9 => h9) rfl (by decide +kernel) rfl rfl (Nat.le_of_ble_eq_true rfl) dX6_rewind_12 (fun H locs hP hD hS => ?_)
  have hP : va_P D classes [(h0, .inr (6, [.ref h1, .int 0, .int 0, .int 0, .int 0, .int 0]))] H := hP
  have hD : va_D A [(h0, .inr (6, [.ref h1, .int 0, .int 0, .int 0, .int 0, .int 0]))] := hD
  refine lv_aload_n hx hb dX6_rewind_15 rfl (lv_at hl 0 rfl) ?_
  refine lv_iconst (v := 0) hx hb dX6_rewind_16 (by decide) ?_
  refine va_put (D := D) (ci := 6) (v := .int 0) (ty := .int) (C := RX6) (T := TX6) (N := 6) hx hb hts inX6 tyX6 tyX6_ok nmX6 hown hK hP hD hS 0 rfl rfl 5 (by decide) (hts _ tw_121) (fun _ h9 => h9) rfl (by decide +kernel) rfl rfl (Nat.le_of_ble_eq_true rfl) dX6_rewind_17 (fun H locs hP hD hS => ?_)
  have hP : va_P D classes [(h0, .inr (6, [.ref h1, .int 0, .int 0, .int 0, .int 0, .int 0]))] H := hP
  have hD : va_D A [(h0, .inr (6, [.ref h1, .int 0, .int 0, .int 0, .int 0, .int 0]))] := hD
  have hP9 := hP.sub (ws' := [(h0, .inr (6, [.ref h1, .int 0, .int 0, .int 0, .int 0, .int 0]))]) [0] rfl
  have hD9 := hD.sub (ws' := [(h0, .inr (6, [.ref h1, .int 0, .int 0, .int 0, .int 0, .int 0]))]) [0] (by decide) rfl
  exact W.vret hx hb hr (fun t ht hW => ⟨⟨(), rfl, trivial, by rw [ht]; exact hP9, hD9⟩, hS.F ht⟩) hS.2.2 dX6_rewind_20
end
section
theorem dX6_failed_0 : decode cX6_failed 0 = .ok (.aload_n 0, 1) := by decide +kernel
theorem dX6_failed_1 : decode cX6_failed 1 = .ok (.getfield 25, 3) := by decide +kernel
theorem dX6_failed_4 : decode cX6_failed 4 = .ok (.ifCond .eq 7, 3) := by decide +kernel
theorem dX6_failed_7 : decode cX6_failed 7 = .ok (.iconst 1, 1) := by decide +kernel
theorem dX6_failed_8 : decode cX6_failed 8 = .ok (.goto 4, 3) := by decide +kernel
theorem dX6_failed_11 : decode cX6_failed 11 = .ok (.iconst 0, 1) := by decide +kernel
theorem dX6_failed_12 : decode cX6_failed 12 = .ok (.ireturn, 1) := by decide +kernel
set_option maxHeartbeats 4000000 in
set_option maxRecDepth 100000 in
theorem k_failed (l : Launch) (D : va_G) (k : Nat → ClassId) (st : Nat → Nat) (lo : Nat) (h0 : Nat) (h1 : Nat) (sz : Int32) (tt : Int32) (na : Int32) (fn : Int32) (fb : Int32)  : CRi l D k st lo yX6_failed cX6_failed 1 (some .boolean) ({ frames := 0, cells := 0, slots := 0, locals := 0 }) [.ref h0] [(h0, .inr (6, [.ref h1, .int sz, .int tt, .int na, .int fn, .int fb]))] (fun r => (r = 1 ∧ ¬ fn = 0) ∨ (r = 0 ∧ fn = 0)) := by
  intro sz
  refine Met.ofW (cc := cX6_failed) (maxL := 1) (ret := (some .boolean)) (by decide) rfl ?_
  intro p e s m args below meth c s₁ B hml hv
  obtain ⟨rfl, hsz, hlo, hP, hK, hDL, hZ⟩ := hv
  have hx := B.exec
  have hb := B.bytes
  have hr := B.returns
  have hts := WS_ts B.pre
  have hown : s.vm.findClass RX6 = some m.cls := findClass_of_methodNamed B.named
  have hlocks := B.notSynchronized
  subst hsz
  have hA : ∀ q : Nat, s.heap.size ≤ q → (fun q : Nat => s.heap.size ≤ q) q := fun _ h => h
  have hAlo : ∀ q : Nat, (fun q : Nat => s.heap.size ≤ q) q → lo ≤ q := fun q h => Nat.le_trans hlo h
  have hS : va_S (fun q : Nat => s.heap.size ≤ q) s.heap s.heap [] := va_S.rf
  have hl := lv_entry ([.ref h0]) (n := 1) (Nat.le_of_ble_eq_true rfl)
  rw [lg_entry_eq]
  generalize (lg_sl ([.ref h0]) ++ List.replicate (1 - (lg_sl ([.ref h0])).length) Slot.unset).toArray = ls at hl ⊢
  have hl : lv_has ls 1 [(0, .ref h0)] := hl
  refine lv_aload_n hx hb dX6_failed_0 rfl (lv_at hl 0 rfl) ?_
  refine va_get (D := D) (ci := 6) (v := .int fn) (C := RX6) (T := TX6) (N := 6) hx hb hts inX6 hown hK hP 0 rfl rfl 4 (by decide) (hts _ tw_119) (fun _ h9 => h9) rfl dX6_failed_1 ?_
  refine lv_if_eq (tgt := 11) hx hb dX6_failed_4 (by decide) (fun c_1 => ?_) (fun c_1 => ?_)
  · refine lv_iconst (v := 0) hx hb dX6_failed_11 (by decide) ?_
    exact W.zret (v := 0) (ty := .boolean) hx hb hr rfl (fun t ht hW => ⟨⟨0, (), rfl, .inr ⟨rfl, c_1⟩, trivial⟩, hS.F ht⟩) hS.2.2 dX6_failed_12
  · refine lv_iconst (v := 1) hx hb dX6_failed_7 (by decide) ?_
    refine lv_goto (tgt := 12) hx hb dX6_failed_8 (by decide) ?_
    exact W.zret (v := 1) (ty := .boolean) hx hb hr rfl (fun t ht hW => ⟨⟨1, (), rfl, .inl ⟨rfl, c_1⟩, trivial⟩, hS.F ht⟩) hS.2.2 dX6_failed_12
end
section
theorem dX6_fail_0 : decode cX6_fail 0 = .ok (.aload_n 0, 1) := by decide +kernel
theorem dX6_fail_1 : decode cX6_fail 1 = .ok (.getfield 25, 3) := by decide +kernel
theorem dX6_fail_4 : decode cX6_fail 4 = .ok (.ifCond .ne 13, 3) := by decide +kernel
theorem dX6_fail_7 : decode cX6_fail 7 = .ok (.aload_n 0, 1) := by decide +kernel
theorem dX6_fail_8 : decode cX6_fail 8 = .ok (.iload_n 1, 1) := by decide +kernel
theorem dX6_fail_9 : decode cX6_fail 9 = .ok (.putfield 25, 3) := by decide +kernel
theorem dX6_fail_12 : decode cX6_fail 12 = .ok (.aload_n 0, 1) := by decide +kernel
theorem dX6_fail_13 : decode cX6_fail 13 = .ok (.iload_n 2, 1) := by decide +kernel
theorem dX6_fail_14 : decode cX6_fail 14 = .ok (.putfield 28, 3) := by decide +kernel
theorem dX6_fail_17 : decode cX6_fail 17 = .ok (.return_, 1) := by decide +kernel
set_option maxHeartbeats 4000000 in
set_option maxRecDepth 100000 in
theorem k_fail (l : Launch) (D : va_G) (k : Nat → ClassId) (st : Nat → Nat) (lo : Nat) (h0 : Nat) (h1 : Nat) (sz : Int32) (tt : Int32) (na : Int32) (fb : Int32) (p0 : Int32) (p1 : Int32)  : CWv l D k st lo yX6_fail cX6_fail 3 none ({ frames := 0, cells := 0, slots := 0, locals := 0 }) 0 0 [.ref h0, .int p0, .int p1] [(h0, .inr (6, [.ref h1, .int sz, .int tt, .int na, .int 0, .int fb]))] (fun (_ : Unit) => True) (fun (_ : Unit) => [(h0, .inr (6, [.ref h1, .int sz, .int tt, .int na, .int p0, .int p1]))]) := by
  intro sz
  refine Met.ofW (cc := cX6_fail) (maxL := 3) (ret := none) (by decide) rfl ?_
  intro p e s m args below meth c s₁ B hml hv
  obtain ⟨rfl, hsz, hlo, hP, hK, hDL, hZ⟩ := hv
  have hx := B.exec
  have hb := B.bytes
  have hr := B.returns
  have hts := WS_ts B.pre
  have hown : s.vm.findClass RX6 = some m.cls := findClass_of_methodNamed B.named
  have hlocks := B.notSynchronized
  subst hsz
  have hD := hDL.self (sz := s.heap.size)
  have hAlo := A_lo hDL hlo
  generalize hAe : va_A [(h0, .inr (6, [.ref h1, .int sz, .int tt, .int na, .int 0, .int fb]))] s.heap.size = A at hD hAlo ⊢
  have hA : ∀ q : Nat, s.heap.size ≤ q → A q := fun q h => by rw [← hAe]; exact Or.inr h
  have hS : va_S A s.heap s.heap [] := va_S.rf
  have hl := lv_entry ([.ref h0, .int p0, .int p1]) (n := 3) (Nat.le_of_ble_eq_true rfl)
  rw [lg_entry_eq]
  generalize (lg_sl ([.ref h0, .int p0, .int p1]) ++ List.replicate (3 - (lg_sl ([.ref h0, .int p0, .int p1])).length) Slot.unset).toArray = ls at hl ⊢
  have hl : lv_has ls 3 [(0, .ref h0), (1, .int p0), (2, .int p1)] := hl
  refine lv_aload_n hx hb dX6_fail_0 rfl (lv_at hl 0 rfl) ?_
  refine va_get (D := D) (ci := 6) (v := .int 0) (C := RX6) (T := TX6) (N := 6) hx hb hts inX6 hown hK hP 0 rfl rfl 4 (by decide) (hts _ tw_119) (fun _ h9 => h9) rfl dX6_fail_1 ?_
  refine lv_if_ne (tgt := 17) hx hb dX6_fail_4 (by decide) (fun h => absurd (by decide) h) (fun _ => ?_)
  refine lv_aload_n hx hb dX6_fail_7 rfl (lv_at hl 0 rfl) ?_
  refine lv_iload_n hx hb dX6_fail_8 rfl (lv_at hl 1 rfl) ?_
  refine va_put (D := D) (ci := 6) (v := .int p0) (ty := .int) (C := RX6) (T := TX6) (N := 6) hx hb hts inX6 tyX6 tyX6_ok nmX6 hown hK hP hD hS 0 rfl rfl 4 (by decide) (hts _ tw_119) (fun _ h9 => h9) rfl (by decide +kernel) rfl rfl (Nat.le_of_ble_eq_true rfl) dX6_fail_9 (fun H locs hP hD hS => ?_)
  have hP : va_P D classes [(h0, .inr (6, [.ref h1, .int sz, .int tt, .int na, .int p0, .int fb]))] H := hP
  have hD : va_D A [(h0, .inr (6, [.ref h1, .int sz, .int tt, .int na, .int p0, .int fb]))] := hD
  refine lv_aload_n hx hb dX6_fail_12 rfl (lv_at hl 0 rfl) ?_
  refine lv_iload_n hx hb dX6_fail_13 rfl (lv_at hl 2 rfl) ?_
  refine va_put (D := D) (ci := 6) (v := .int p1) (ty := .int) (C := RX6) (T := TX6) (N := 6) hx hb hts inX6 tyX6 tyX6_ok nmX6 hown hK hP hD hS 0 rfl rfl 5 (by decide) (hts _ tw_121) (fun _ h9 => h9) rfl (by decide +kernel) rfl rfl (Nat.le_of_ble_eq_true rfl) dX6_fail_14 (fun H locs hP hD hS => ?_)
  have hP : va_P D classes [(h0, .inr (6, [.ref h1, .int sz, .int tt, .int na, .int p0, .int p1]))] H := hP
  have hD : va_D A [(h0, .inr (6, [.ref h1, .int sz, .int tt, .int na, .int p0, .int p1]))] := hD
  have hP9 := hP.sub (ws' := [(h0, .inr (6, [.ref h1, .int sz, .int tt, .int na, .int p0, .int p1]))]) [0] rfl
  have hD9 := hD.sub (ws' := [(h0, .inr (6, [.ref h1, .int sz, .int tt, .int na, .int p0, .int p1]))]) [0] (by decide) rfl
  exact W.vret hx hb hr (fun t ht hW => ⟨⟨(), rfl, trivial, by rw [ht]; exact hP9, hD9⟩, hS.F ht⟩) hS.2.2 dX6_fail_17
end
section
theorem dX6_byteAt_0 : decode cX6_byteAt 0 = .ok (.iload_n 1, 1) := by decide +kernel
theorem dX6_byteAt_1 : decode cX6_byteAt 1 = .ok (.ifCond .lt 24, 3) := by decide +kernel
theorem dX6_byteAt_4 : decode cX6_byteAt 4 = .ok (.iload_n 1, 1) := by decide +kernel
theorem dX6_byteAt_5 : decode cX6_byteAt 5 = .ok (.aload_n 0, 1) := by decide +kernel
theorem dX6_byteAt_6 : decode cX6_byteAt 6 = .ok (.getfield 15, 3) := by decide +kernel
theorem dX6_byteAt_9 : decode cX6_byteAt 9 = .ok (.if_icmp .ge 16, 3) := by decide +kernel
theorem dX6_byteAt_25 : decode cX6_byteAt 25 = .ok (.iconst (-1), 1) := by decide +kernel
theorem dX6_byteAt_26 : decode cX6_byteAt 26 = .ok (.ireturn, 1) := by decide +kernel
set_option maxHeartbeats 4000000 in
set_option maxRecDepth 100000 in
theorem k_byteAt (l : Launch) (D : va_G) (k : Nat → ClassId) (st : Nat → Nat) (lo : Nat) (h0 : Nat) (h1 : Nat) (tt : Int32) (na : Int32) (fn : Int32) (fb : Int32) (p0 : Int32)  : CRi l D k st lo yX6_byteAt cX6_byteAt 2 (some .int) ({ frames := 0, cells := 0, slots := 0, locals := 0 }) [.ref h0, .int p0] [(h0, .inr (6, [.ref h1, .int 0, .int tt, .int na, .int fn, .int fb]))] (fun r => r = -1) := by
  intro sz
  refine Met.ofW (cc := cX6_byteAt) (maxL := 2) (ret := (some .int)) (by decide) rfl ?_
  intro p e s m args below meth c s₁ B hml hv
  obtain ⟨rfl, hsz, hlo, hP, hK, hDL, hZ⟩ := hv
  have hx := B.exec
  have hb := B.bytes
  have hr := B.returns
  have hts := WS_ts B.pre
  have hown : s.vm.findClass RX6 = some m.cls := findClass_of_methodNamed B.named
  have hlocks := B.notSynchronized
  subst hsz
  have hA : ∀ q : Nat, s.heap.size ≤ q → (fun q : Nat => s.heap.size ≤ q) q := fun _ h => h
  have hAlo : ∀ q : Nat, (fun q : Nat => s.heap.size ≤ q) q → lo ≤ q := fun q h => Nat.le_trans hlo h
  have hS : va_S (fun q : Nat => s.heap.size ≤ q) s.heap s.heap [] := va_S.rf
  have hl := lv_entry ([.ref h0, .int p0]) (n := 2) (Nat.le_of_ble_eq_true rfl)
  rw [lg_entry_eq]
  generalize (lg_sl ([.ref h0, .int p0]) ++ List.replicate (2 - (lg_sl ([.ref h0, .int p0])).length) Slot.unset).toArray = ls at hl ⊢
  have hl : lv_has ls 2 [(0, .ref h0), (1, .int p0)] := hl
  refine lv_iload_n hx hb dX6_byteAt_0 rfl (lv_at hl 1 rfl) ?_
  refine lv_if_lt (tgt := 25) hx hb dX6_byteAt_1 (by decide) (fun c_1 => ?_) (fun c_1 => ?_)
  · refine lv_iconst (v := (-1)) hx hb dX6_byteAt_25 (by decide) ?_
    exact W.iret (v := (-1)) hx hb hr (fun t ht hW => ⟨⟨(-1), (), rfl, rfl, trivial⟩, hS.F ht⟩) hS.2.2 dX6_byteAt_26
  · refine lv_iload_n hx hb dX6_byteAt_4 rfl (lv_at hl 1 rfl) ?_
    refine lv_aload_n hx hb dX6_byteAt_5 rfl (lv_at hl 0 rfl) ?_
    refine va_get (D := D) (ci := 6) (v := .int 0) (C := RX6) (T := TX6) (N := 6) hx hb hts inX6 hown hK hP 0 rfl rfl 1 (by decide) (hts _ tw_110) (fun _ h9 => h9) rfl dX6_byteAt_6 ?_
    refine lv_icmp_ge (tgt := 25) hx hb dX6_byteAt_9 (by decide) (fun c_2 => ?_) (fun c_2 => absurd c_2 (fun h => h (Int32.not_lt.mp c_1)))
    refine lv_iconst (v := (-1)) hx hb dX6_byteAt_25 (by decide) ?_
    exact W.iret (v := (-1)) hx hb hr (fun t ht hW => ⟨⟨(-1), (), rfl, rfl, trivial⟩, hS.F ht⟩) hS.2.2 dX6_byteAt_26
end
section
theorem dX6_skipBlanks_0 : decode cX6_skipBlanks 0 = .ok (.aload_n 0, 1) := by decide +kernel
theorem dX6_skipBlanks_1 : decode cX6_skipBlanks 1 = .ok (.getfield 19, 3) := by decide +kernel
theorem dX6_skipBlanks_4 : decode cX6_skipBlanks 4 = .ok (.aload_n 0, 1) := by decide +kernel
theorem dX6_skipBlanks_5 : decode cX6_skipBlanks 5 = .ok (.getfield 15, 3) := by decide +kernel
theorem dX6_skipBlanks_8 : decode cX6_skipBlanks 8 = .ok (.if_icmp .ge 29, 3) := by decide +kernel
theorem dX6_skipBlanks_37 : decode cX6_skipBlanks 37 = .ok (.return_, 1) := by decide +kernel
set_option maxHeartbeats 4000000 in
set_option maxRecDepth 100000 in
theorem k_skip (l : Launch) (D : va_G) (k : Nat → ClassId) (st : Nat → Nat) (lo : Nat) (h0 : Nat) (h1 : Nat) (na : Int32) (fn : Int32) (fb : Int32)  : CWv l D k st lo yX6_skipBlanks cX6_skipBlanks 1 none ({ frames := 0, cells := 0, slots := 0, locals := 0 }) 0 0 [.ref h0] [(h0, .inr (6, [.ref h1, .int 0, .int 0, .int na, .int fn, .int fb]))] (fun (_ : Unit) => True) (fun (_ : Unit) => [(h0, .inr (6, [.ref h1, .int 0, .int 0, .int na, .int fn, .int fb]))]) := by
  intro sz
  refine Met.ofW (cc := cX6_skipBlanks) (maxL := 1) (ret := none) (by decide) rfl ?_
  intro p e s m args below meth c s₁ B hml hv
  obtain ⟨rfl, hsz, hlo, hP, hK, hDL, hZ⟩ := hv
  have hx := B.exec
  have hb := B.bytes
  have hr := B.returns
  have hts := WS_ts B.pre
  have hown : s.vm.findClass RX6 = some m.cls := findClass_of_methodNamed B.named
  have hlocks := B.notSynchronized
  subst hsz
  have hD := hDL.self (sz := s.heap.size)
  have hAlo := A_lo hDL hlo
  generalize hAe : va_A [(h0, .inr (6, [.ref h1, .int 0, .int 0, .int na, .int fn, .int fb]))] s.heap.size = A at hD hAlo ⊢
  have hA : ∀ q : Nat, s.heap.size ≤ q → A q := fun q h => by rw [← hAe]; exact Or.inr h
  have hS : va_S A s.heap s.heap [] := va_S.rf
  have hl := lv_entry ([.ref h0]) (n := 1) (Nat.le_of_ble_eq_true rfl)
  rw [lg_entry_eq]
  generalize (lg_sl ([.ref h0]) ++ List.replicate (1 - (lg_sl ([.ref h0])).length) Slot.unset).toArray = ls at hl ⊢
  have hl : lv_has ls 1 [(0, .ref h0)] := hl
  refine lv_aload_n hx hb dX6_skipBlanks_0 rfl (lv_at hl 0 rfl) ?_
  refine va_get (D := D) (ci := 6) (v := .int 0) (C := RX6) (T := TX6) (N := 6) hx hb hts inX6 hown hK hP 0 rfl rfl 2 (by decide) (hts _ tw_113) (fun _ h9 => h9) rfl dX6_skipBlanks_1 ?_
  refine lv_aload_n hx hb dX6_skipBlanks_4 rfl (lv_at hl 0 rfl) ?_
  refine va_get (D := D) (ci := 6) (v := .int 0) (C := RX6) (T := TX6) (N := 6) hx hb hts inX6 hown hK hP 0 rfl rfl 1 (by decide) (hts _ tw_110) (fun _ h9 => h9) rfl dX6_skipBlanks_5 ?_
  refine lv_icmp_ge (tgt := 37) hx hb dX6_skipBlanks_8 (by decide) (fun _ => ?_) (fun h => absurd (by decide) h)
  have hP9 := hP.sub (ws' := [(h0, .inr (6, [.ref h1, .int 0, .int 0, .int na, .int fn, .int fb]))]) [0] rfl
  have hD9 := hD.sub (ws' := [(h0, .inr (6, [.ref h1, .int 0, .int 0, .int na, .int fn, .int fb]))]) [0] (by decide) rfl
  exact W.vret hx hb hr (fun t ht hW => ⟨⟨(), rfl, trivial, by rw [ht]; exact hP9, hD9⟩, hS.F ht⟩) hS.2.2 dX6_skipBlanks_37
end
section
theorem dX6_isAtEnd_0 : decode cX6_isAtEnd 0 = .ok (.aload_n 0, 1) := by decide +kernel
theorem dX6_isAtEnd_1 : decode cX6_isAtEnd 1 = .ok (.invokevirtual 35, 3) := by decide +kernel
theorem dX6_isAtEnd_4 : decode cX6_isAtEnd 4 = .ok (.aload_n 0, 1) := by decide +kernel
theorem dX6_isAtEnd_5 : decode cX6_isAtEnd 5 = .ok (.getfield 19, 3) := by decide +kernel
theorem dX6_isAtEnd_8 : decode cX6_isAtEnd 8 = .ok (.aload_n 0, 1) := by decide +kernel
theorem dX6_isAtEnd_9 : decode cX6_isAtEnd 9 = .ok (.getfield 15, 3) := by decide +kernel
theorem dX6_isAtEnd_12 : decode cX6_isAtEnd 12 = .ok (.if_icmp .lt 7, 3) := by decide +kernel
theorem dX6_isAtEnd_15 : decode cX6_isAtEnd 15 = .ok (.iconst 1, 1) := by decide +kernel
theorem dX6_isAtEnd_16 : decode cX6_isAtEnd 16 = .ok (.goto 4, 3) := by decide +kernel
theorem dX6_isAtEnd_20 : decode cX6_isAtEnd 20 = .ok (.ireturn, 1) := by decide +kernel
set_option maxHeartbeats 4000000 in
set_option maxRecDepth 100000 in
theorem k_isAtEnd (l : Launch) (D : va_G) (k : Nat → ClassId) (st : Nat → Nat) (lo : Nat) (h0 : Nat) (h1 : Nat) (na : Int32) (fn : Int32) (fb : Int32)  : CWi l D k st lo yX6_isAtEnd cX6_isAtEnd 1 (some .boolean) ({ frames := 1, cells := 0, slots := 0, locals := 20 }) 0 0 [.ref h0] [(h0, .inr (6, [.ref h1, .int 0, .int 0, .int na, .int fn, .int fb]))] (fun (r : Int32) (_ : Unit) => r = 1) (fun (_ : Unit) => [(h0, .inr (6, [.ref h1, .int 0, .int 0, .int na, .int fn, .int fb]))]) := by
  intro sz
  refine Met.ofW (cc := cX6_isAtEnd) (maxL := 1) (ret := (some .boolean)) (by decide) rfl ?_
  intro p e s m args below meth c s₁ B hml hv
  obtain ⟨rfl, hsz, hlo, hP, hK, hDL, hZ⟩ := hv
  have hx := B.exec
  have hb := B.bytes
  have hr := B.returns
  have hts := WS_ts B.pre
  have hown : s.vm.findClass RX6 = some m.cls := findClass_of_methodNamed B.named
  have hlocks := B.notSynchronized
  subst hsz
  have hD := hDL.self (sz := s.heap.size)
  have hAlo := A_lo hDL hlo
  generalize hAe : va_A [(h0, .inr (6, [.ref h1, .int 0, .int 0, .int na, .int fn, .int fb]))] s.heap.size = A at hD hAlo ⊢
  have hA : ∀ q : Nat, s.heap.size ≤ q → A q := fun q h => by rw [← hAe]; exact Or.inr h
  have hS : va_S A s.heap s.heap [] := va_S.rf
  have hl := lv_entry ([.ref h0]) (n := 1) (Nat.le_of_ble_eq_true rfl)
  rw [lg_entry_eq]
  generalize (lg_sl ([.ref h0]) ++ List.replicate (1 - (lg_sl ([.ref h0])).length) Slot.unset).toArray = ls at hl ⊢
  have hl : lv_has ls 1 [(0, .ref h0)] := hl
  refine lv_aload_n hx hb dX6_isAtEnd_0 rfl (lv_at hl 0 rfl) ?_
  refine rw_v (D := D) (wr := []) (va_runV (As := []) (rest := []) ⟨hx, hb, hml, hown, hts⟩ ((k_skip l D k st lo h0 h1 na fn fb) s.heap.size) (cwV 0 hts (gV tw_375 tw_376 tw_377 tw_80 tw_378) rfl rfl rfl (by decide +kernel) ⟨Nat.le_of_ble_eq_true rfl, Nat.le_of_ble_eq_true rfl⟩) (pV hS hAlo hlo hP hK (va_Dlo hD hAlo) hZ [0] (by decide) rfl (ci := 6) (q0 := 0) rfl rfl) rfl rfl hl.1 rfl (lv_room (Nat.le_of_ble_eq_true rfl)) dX6_isAtEnd_1 ⟨Nat.le_of_ble_eq_true rfl, Nat.le_of_ble_eq_true rfl⟩) hS hA hP hD [0] [] rfl rfl (by decide) (by decide) (fun u H locs hw_1 hP hD hS => ?_)
  have hP : va_P D classes [(h0, .inr (6, [.ref h1, .int 0, .int 0, .int na, .int fn, .int fb]))] H := hP
  have hD : va_D A [(h0, .inr (6, [.ref h1, .int 0, .int 0, .int na, .int fn, .int fb]))] := hD
  try dsimp only at hw_1
  refine lv_aload_n hx hb dX6_isAtEnd_4 rfl (lv_at hl 0 rfl) ?_
  refine va_get (D := D) (ci := 6) (v := .int 0) (C := RX6) (T := TX6) (N := 6) hx hb hts inX6 hown hK hP 0 rfl rfl 2 (by decide) (hts _ tw_113) (fun _ h9 => h9) rfl dX6_isAtEnd_5 ?_
  refine lv_aload_n hx hb dX6_isAtEnd_8 rfl (lv_at hl 0 rfl) ?_
  refine va_get (D := D) (ci := 6) (v := .int 0) (C := RX6) (T := TX6) (N := 6) hx hb hts inX6 hown hK hP 0 rfl rfl 1 (by decide) (hts _ tw_110) (fun _ h9 => h9) rfl dX6_isAtEnd_9 ?_
  refine lv_icmp_lt (tgt := 19) hx hb dX6_isAtEnd_12 (by decide) (fun h => absurd h (by decide)) (fun _ => ?_)
  refine lv_iconst (v := 1) hx hb dX6_isAtEnd_15 (by decide) ?_
  refine lv_goto (tgt := 20) hx hb dX6_isAtEnd_16 (by decide) ?_
  have hP9 := hP.sub (ws' := [(h0, .inr (6, [.ref h1, .int 0, .int 0, .int na, .int fn, .int fb]))]) [0] rfl
  have hD9 := hD.sub (ws' := [(h0, .inr (6, [.ref h1, .int 0, .int 0, .int na, .int fn, .int fb]))]) [0] (by decide) rfl
  exact W.zret (v := 1) (ty := .boolean) hx hb hr rfl (fun t ht hW => ⟨⟨1, (), rfl, rfl, by rw [ht]; exact hP9, hD9⟩, hS.F ht⟩) hS.2.2 dX6_isAtEnd_20
end
section
theorem dJ0_coder_7d493_0 : decode cJ0_coder_7d493 0 = .ok (.getstatic 38, 3) := by decide +kernel
theorem dJ0_coder_7d493_3 : decode cJ0_coder_7d493 3 = .ok (.ifCond .eq 10, 3) := by decide +kernel
theorem dJ0_coder_7d493_6 : decode cJ0_coder_7d493 6 = .ok (.aload_n 0, 1) := by decide +kernel
theorem dJ0_coder_7d493_7 : decode cJ0_coder_7d493 7 = .ok (.getfield 15, 3) := by decide +kernel
theorem dJ0_coder_7d493_10 : decode cJ0_coder_7d493 10 = .ok (.goto 4, 3) := by decide +kernel
theorem dJ0_coder_7d493_14 : decode cJ0_coder_7d493 14 = .ok (.ireturn, 1) := by decide +kernel
set_option maxHeartbeats 4000000 in
set_option maxRecDepth 100000 in
theorem k_coder (l : Launch) (D : va_G) (k : Nat → ClassId) (st : Nat → Nat) (lo : Nat)   : CRi l D k st lo yJ0_coder_7d493 cJ0_coder_7d493 1 (some .byte) ({ frames := 0, cells := 0, slots := 0, locals := 0 }) [.ref (st 2)] [] (fun r => r = 0) := by
  intro sz
  refine Met.ofW (cc := cJ0_coder_7d493) (maxL := 1) (ret := (some .byte)) (by decide) rfl ?_
  intro p e s m args below meth c s₁ B hml hv
  obtain ⟨rfl, hsz, hlo, hP, hK, hDL, hZ⟩ := hv
  have hx := B.exec
  have hb := B.bytes
  have hr := B.returns
  have hts := WS_ts B.pre
  have hown : s.vm.findClass RJ0 = some m.cls := findClass_of_methodNamed B.named
  have hlocks := B.notSynchronized
  subst hsz
  have hA : ∀ q : Nat, s.heap.size ≤ q → (fun q : Nat => s.heap.size ≤ q) q := fun _ h => h
  have hAlo : ∀ q : Nat, (fun q : Nat => s.heap.size ≤ q) q → lo ≤ q := fun q h => Nat.le_trans hlo h
  have hS : va_S (fun q : Nat => s.heap.size ≤ q) s.heap s.heap [] := va_S.rf
  have hl := lv_entry ([.ref (st 2)]) (n := 1) (Nat.le_of_ble_eq_true rfl)
  rw [lg_entry_eq]
  generalize (lg_sl ([.ref (st 2)]) ++ List.replicate (1 - (lg_sl ([.ref (st 2)])).length) Slot.unset).toArray = ls at hl ⊢
  have hl : lv_has ls 1 [(0, .ref (st 2))] := hl
  refine va_gets (A := (fun q : Nat => s.heap.size ≤ q)) hx hb (hZ.2.2.2.2.1.narrow hAlo) hS hown (hts _ tw_411) (fun _ h9 => h9) dJ0_coder_7d493_0 ?_
  refine lv_if_eq (tgt := 13) hx hb dJ0_coder_7d493_3 (by decide) (fun h => absurd h (by decide)) (fun _ => ?_)
  refine lv_aload_n hx hb dJ0_coder_7d493_6 rfl (lv_at hl 0 rfl) ?_
  refine vk_getf (A := (fun q : Nat => s.heap.size ≤ q)) hx hb (hZ.2.2.2.2.2.2.2.1.narrow hAlo) hS hown (hts _ tw_1503) (fun _ h9 => h9) dJ0_coder_7d493_7 ?_
  refine lv_goto (tgt := 14) hx hb dJ0_coder_7d493_10 (by decide) ?_
  exact W.zret (v := 0) (ty := .byte) hx hb hr rfl (fun t ht hW => ⟨⟨0, (), rfl, rfl, trivial⟩, hS.F ht⟩) hS.2.2 dJ0_coder_7d493_14
end
section
theorem dJ0_isLatin1_aae02_0 : decode cJ0_isLatin1_aae02 0 = .ok (.getstatic 38, 3) := by decide +kernel
theorem dJ0_isLatin1_aae02_3 : decode cJ0_isLatin1_aae02 3 = .ok (.ifCond .eq 14, 3) := by decide +kernel
theorem dJ0_isLatin1_aae02_6 : decode cJ0_isLatin1_aae02 6 = .ok (.aload_n 0, 1) := by decide +kernel
theorem dJ0_isLatin1_aae02_7 : decode cJ0_isLatin1_aae02 7 = .ok (.getfield 15, 3) := by decide +kernel
theorem dJ0_isLatin1_aae02_10 : decode cJ0_isLatin1_aae02 10 = .ok (.ifCond .ne 7, 3) := by decide +kernel
theorem dJ0_isLatin1_aae02_13 : decode cJ0_isLatin1_aae02 13 = .ok (.iconst 1, 1) := by decide +kernel
theorem dJ0_isLatin1_aae02_14 : decode cJ0_isLatin1_aae02 14 = .ok (.goto 4, 3) := by decide +kernel
theorem dJ0_isLatin1_aae02_18 : decode cJ0_isLatin1_aae02 18 = .ok (.ireturn, 1) := by decide +kernel
set_option maxHeartbeats 4000000 in
set_option maxRecDepth 100000 in
theorem k_isLatin1 (l : Launch) (D : va_G) (k : Nat → ClassId) (st : Nat → Nat) (lo : Nat)   : CRi l D k st lo yJ0_isLatin1_aae02 cJ0_isLatin1_aae02 1 (some .boolean) ({ frames := 0, cells := 0, slots := 0, locals := 0 }) [.ref (st 2)] [] (fun r => r = 1) := by
  intro sz
  refine Met.ofW (cc := cJ0_isLatin1_aae02) (maxL := 1) (ret := (some .boolean)) (by decide) rfl ?_
  intro p e s m args below meth c s₁ B hml hv
  obtain ⟨rfl, hsz, hlo, hP, hK, hDL, hZ⟩ := hv
  have hx := B.exec
  have hb := B.bytes
  have hr := B.returns
  have hts := WS_ts B.pre
  have hown : s.vm.findClass RJ0 = some m.cls := findClass_of_methodNamed B.named
  have hlocks := B.notSynchronized
  subst hsz
  have hA : ∀ q : Nat, s.heap.size ≤ q → (fun q : Nat => s.heap.size ≤ q) q := fun _ h => h
  have hAlo : ∀ q : Nat, (fun q : Nat => s.heap.size ≤ q) q → lo ≤ q := fun q h => Nat.le_trans hlo h
  have hS : va_S (fun q : Nat => s.heap.size ≤ q) s.heap s.heap [] := va_S.rf
  have hl := lv_entry ([.ref (st 2)]) (n := 1) (Nat.le_of_ble_eq_true rfl)
  rw [lg_entry_eq]
  generalize (lg_sl ([.ref (st 2)]) ++ List.replicate (1 - (lg_sl ([.ref (st 2)])).length) Slot.unset).toArray = ls at hl ⊢
  have hl : lv_has ls 1 [(0, .ref (st 2))] := hl
  refine va_gets (A := (fun q : Nat => s.heap.size ≤ q)) hx hb (hZ.2.2.2.2.1.narrow hAlo) hS hown (hts _ tw_411) (fun _ h9 => h9) dJ0_isLatin1_aae02_0 ?_
  refine lv_if_eq (tgt := 17) hx hb dJ0_isLatin1_aae02_3 (by decide) (fun h => absurd h (by decide)) (fun _ => ?_)
  refine lv_aload_n hx hb dJ0_isLatin1_aae02_6 rfl (lv_at hl 0 rfl) ?_
  refine vk_getf (A := (fun q : Nat => s.heap.size ≤ q)) hx hb (hZ.2.2.2.2.2.2.2.1.narrow hAlo) hS hown (hts _ tw_1503) (fun _ h9 => h9) dJ0_isLatin1_aae02_7 ?_
  refine lv_if_ne (tgt := 17) hx hb dJ0_isLatin1_aae02_10 (by decide) (fun h => absurd (by decide) h) (fun _ => ?_)
  refine lv_iconst (v := 1) hx hb dJ0_isLatin1_aae02_13 (by decide) ?_
  refine lv_goto (tgt := 18) hx hb dJ0_isLatin1_aae02_14 (by decide) ?_
  exact W.zret (v := 1) (ty := .boolean) hx hb hr rfl (fun t ht hW => ⟨⟨1, (), rfl, rfl, trivial⟩, hS.F ht⟩) hS.2.2 dJ0_isLatin1_aae02_18
end
section
theorem dJ0_length_8abf5_0 : decode cJ0_length_8abf5 0 = .ok (.aload_n 0, 1) := by decide +kernel
theorem dJ0_length_8abf5_1 : decode cJ0_length_8abf5 1 = .ok (.getfield 9, 3) := by decide +kernel
theorem dJ0_length_8abf5_4 : decode cJ0_length_8abf5 4 = .ok (.arraylength, 1) := by decide +kernel
theorem dJ0_length_8abf5_5 : decode cJ0_length_8abf5 5 = .ok (.aload_n 0, 1) := by decide +kernel
theorem dJ0_length_8abf5_6 : decode cJ0_length_8abf5 6 = .ok (.invokevirtual 335, 3) := by decide +kernel
theorem dJ0_length_8abf5_9 : decode cJ0_length_8abf5 9 = .ok (.ishr, 1) := by decide +kernel
theorem dJ0_length_8abf5_10 : decode cJ0_length_8abf5 10 = .ok (.ireturn, 1) := by decide +kernel
set_option maxHeartbeats 4000000 in
set_option maxRecDepth 100000 in
theorem k_length (l : Launch) (D : va_G) (k : Nat → ClassId) (st : Nat → Nat) (lo : Nat)   : CRi l D k st lo yJ0_length_8abf5 cJ0_length_8abf5 1 (some .int) ({ frames := 1, cells := 0, slots := 0, locals := 20 }) [.ref (st 2)] [] (fun r => r = 4) := by
  intro sz
  refine Met.ofW (cc := cJ0_length_8abf5) (maxL := 1) (ret := (some .int)) (by decide) rfl ?_
  intro p e s m args below meth c s₁ B hml hv
  obtain ⟨rfl, hsz, hlo, hP, hK, hDL, hZ⟩ := hv
  have hx := B.exec
  have hb := B.bytes
  have hr := B.returns
  have hts := WS_ts B.pre
  have hown : s.vm.findClass RJ0 = some m.cls := findClass_of_methodNamed B.named
  have hlocks := B.notSynchronized
  subst hsz
  have hA : ∀ q : Nat, s.heap.size ≤ q → (fun q : Nat => s.heap.size ≤ q) q := fun _ h => h
  have hAlo : ∀ q : Nat, (fun q : Nat => s.heap.size ≤ q) q → lo ≤ q := fun q h => Nat.le_trans hlo h
  have hS : va_S (fun q : Nat => s.heap.size ≤ q) s.heap s.heap [] := va_S.rf
  have hl := lv_entry ([.ref (st 2)]) (n := 1) (Nat.le_of_ble_eq_true rfl)
  rw [lg_entry_eq]
  generalize (lg_sl ([.ref (st 2)]) ++ List.replicate (1 - (lg_sl ([.ref (st 2)])).length) Slot.unset).toArray = ls at hl ⊢
  have hl : lv_has ls 1 [(0, .ref (st 2))] := hl
  refine lv_aload_n hx hb dJ0_length_8abf5_0 rfl (lv_at hl 0 rfl) ?_
  refine vk_getf (A := (fun q : Nat => s.heap.size ≤ q)) hx hb (hZ.2.2.2.2.2.2.2.2.1.narrow hAlo) hS hown (hts _ tw_1502) (fun _ h9 => h9) dJ0_length_8abf5_1 ?_
  refine va_tlen (A := (fun q : Nat => s.heap.size ≤ q)) hx hb (hZ.2.2.2.2.2.2.2.2.2.1.narrow hAlo) hS (v := 4) (by decide) dJ0_length_8abf5_4 ?_
  refine lv_aload_n hx hb dJ0_length_8abf5_5 rfl (lv_at hl 0 rfl) ?_
  refine ro_i (D := D) (va_runV (As := []) (rest := [.int 4]) ⟨hx, hb, hml, hown, hts⟩ ((k_coder l D k st lo ) s.heap.size) (cwV 0 hts (gV tw_407 tw_408 tw_409 tw_89 tw_410) rfl rfl rfl (by decide +kernel) ⟨Nat.le_of_ble_eq_true rfl, Nat.le_of_ble_eq_true rfl⟩) (pVs hS hAlo hlo hP hK hDL hZ [] (by decide) rfl) rfl rfl hl.1 rfl (lv_room (Nat.le_of_ble_eq_true rfl)) dJ0_length_8abf5_6 ⟨Nat.le_of_ble_eq_true rfl, Nat.le_of_ble_eq_true rfl⟩) hS hA hP (fun r_1 H locs hw_1 hP hS => ?_)
  try dsimp only at hw_1
  subst hw_1
  refine lv_ishr hx hb dJ0_length_8abf5_9 ?_
  refine lv_ti (y := 4) (by decide) ?_
  exact W.iret (v := 4) hx hb hr (fun t ht hW => ⟨⟨4, (), rfl, rfl, trivial⟩, hS.F ht⟩) hS.2.2 dJ0_length_8abf5_10
end
section
theorem dJ3_checkIndex_8e157_0 : decode cJ3_checkIndex_8e157 0 = .ok (.iload_n 0, 1) := by decide +kernel
theorem dJ3_checkIndex_8e157_1 : decode cJ3_checkIndex_8e157 1 = .ok (.ifCond .lt 8, 3) := by decide +kernel
theorem dJ3_checkIndex_8e157_4 : decode cJ3_checkIndex_8e157 4 = .ok (.iload_n 0, 1) := by decide +kernel
theorem dJ3_checkIndex_8e157_5 : decode cJ3_checkIndex_8e157 5 = .ok (.iload_n 1, 1) := by decide +kernel
theorem dJ3_checkIndex_8e157_6 : decode cJ3_checkIndex_8e157 6 = .ok (.if_icmp .lt 10, 3) := by decide +kernel
theorem dJ3_checkIndex_8e157_16 : decode cJ3_checkIndex_8e157 16 = .ok (.iload_n 0, 1) := by decide +kernel
theorem dJ3_checkIndex_8e157_17 : decode cJ3_checkIndex_8e157 17 = .ok (.ireturn, 1) := by decide +kernel
set_option maxHeartbeats 4000000 in
set_option maxRecDepth 100000 in
theorem k_pix_null (l : Launch) (D : va_G) (k : Nat → ClassId) (st : Nat → Nat) (lo : Nat)   : CRi l D k st lo yJ3_checkIndex_8e157 cJ3_checkIndex_8e157 3 (some .int) ({ frames := 0, cells := 0, slots := 0, locals := 0 }) [.int 0, .int 4, .null] [] (fun r => r = 0) := by
  intro sz
  refine Met.ofW (cc := cJ3_checkIndex_8e157) (maxL := 3) (ret := (some .int)) (by decide) rfl ?_
  intro p e s m args below meth c s₁ B hml hv
  obtain ⟨rfl, hsz, hlo, hP, hK, hDL, hZ⟩ := hv
  have hx := B.exec
  have hb := B.bytes
  have hr := B.returns
  have hts := WS_ts B.pre
  have hown : s.vm.findClass RJ3 = some m.cls := findClass_of_methodNamed B.named
  have hlocks := B.notSynchronized
  subst hsz
  have hA : ∀ q : Nat, s.heap.size ≤ q → (fun q : Nat => s.heap.size ≤ q) q := fun _ h => h
  have hAlo : ∀ q : Nat, (fun q : Nat => s.heap.size ≤ q) q → lo ≤ q := fun q h => Nat.le_trans hlo h
  have hS : va_S (fun q : Nat => s.heap.size ≤ q) s.heap s.heap [] := va_S.rf
  have hl := lv_entry ([.int 0, .int 4, .null]) (n := 3) (Nat.le_of_ble_eq_true rfl)
  rw [lg_entry_eq]
  generalize (lg_sl ([.int 0, .int 4, .null]) ++ List.replicate (3 - (lg_sl ([.int 0, .int 4, .null])).length) Slot.unset).toArray = ls at hl ⊢
  have hl : lv_has ls 3 [(0, .int 0), (1, .int 4), (2, .null)] := hl
  refine lv_iload_n hx hb dJ3_checkIndex_8e157_0 rfl (lv_at hl 0 rfl) ?_
  refine lv_if_lt (tgt := 9) hx hb dJ3_checkIndex_8e157_1 (by decide) (fun h => absurd h (by decide)) (fun _ => ?_)
  refine lv_iload_n hx hb dJ3_checkIndex_8e157_4 rfl (lv_at hl 0 rfl) ?_
  refine lv_iload_n hx hb dJ3_checkIndex_8e157_5 rfl (lv_at hl 1 rfl) ?_
  refine lv_icmp_lt (tgt := 16) hx hb dJ3_checkIndex_8e157_6 (by decide) (fun _ => ?_) (fun h => absurd (by decide) h)
  refine lv_iload_n hx hb dJ3_checkIndex_8e157_16 rfl (lv_at hl 0 rfl) ?_
  exact W.iret (v := 0) hx hb hr (fun t ht hW => ⟨⟨0, (), rfl, rfl, trivial⟩, hS.F ht⟩) hS.2.2 dJ3_checkIndex_8e157_17
end
section
set_option maxHeartbeats 4000000 in
set_option maxRecDepth 100000 in
theorem k_pix_ref (l : Launch) (D : va_G) (k : Nat → ClassId) (st : Nat → Nat) (lo : Nat) (t : Nat)  : CRi l D k st lo yJ3_checkIndex_8e157 cJ3_checkIndex_8e157 3 (some .int) ({ frames := 0, cells := 0, slots := 0, locals := 0 }) [.int 0, .int 4, .ref t] [] (fun r => r = 0) := by
  intro sz
  refine Met.ofW (cc := cJ3_checkIndex_8e157) (maxL := 3) (ret := (some .int)) (by decide) rfl ?_
  intro p e s m args below meth c s₁ B hml hv
  obtain ⟨rfl, hsz, hlo, hP, hK, hDL, hZ⟩ := hv
  have hx := B.exec
  have hb := B.bytes
  have hr := B.returns
  have hts := WS_ts B.pre
  have hown : s.vm.findClass RJ3 = some m.cls := findClass_of_methodNamed B.named
  have hlocks := B.notSynchronized
  subst hsz
  have hA : ∀ q : Nat, s.heap.size ≤ q → (fun q : Nat => s.heap.size ≤ q) q := fun _ h => h
  have hAlo : ∀ q : Nat, (fun q : Nat => s.heap.size ≤ q) q → lo ≤ q := fun q h => Nat.le_trans hlo h
  have hS : va_S (fun q : Nat => s.heap.size ≤ q) s.heap s.heap [] := va_S.rf
  have hl := lv_entry ([.int 0, .int 4, .ref t]) (n := 3) (Nat.le_of_ble_eq_true rfl)
  rw [lg_entry_eq]
  generalize (lg_sl ([.int 0, .int 4, .ref t]) ++ List.replicate (3 - (lg_sl ([.int 0, .int 4, .ref t])).length) Slot.unset).toArray = ls at hl ⊢
  have hl : lv_has ls 3 [(0, .int 0), (1, .int 4), (2, .ref t)] := hl
  refine lv_iload_n hx hb dJ3_checkIndex_8e157_0 rfl (lv_at hl 0 rfl) ?_
  refine lv_if_lt (tgt := 9) hx hb dJ3_checkIndex_8e157_1 (by decide) (fun h => absurd h (by decide)) (fun _ => ?_)
  refine lv_iload_n hx hb dJ3_checkIndex_8e157_4 rfl (lv_at hl 0 rfl) ?_
  refine lv_iload_n hx hb dJ3_checkIndex_8e157_5 rfl (lv_at hl 1 rfl) ?_
  refine lv_icmp_lt (tgt := 16) hx hb dJ3_checkIndex_8e157_6 (by decide) (fun _ => ?_) (fun h => absurd (by decide) h)
  refine lv_iload_n hx hb dJ3_checkIndex_8e157_16 rfl (lv_at hl 0 rfl) ?_
  exact W.iret (v := 0) hx hb hr (fun t ht hW => ⟨⟨0, (), rfl, rfl, trivial⟩, hS.F ht⟩) hS.2.2 dJ3_checkIndex_8e157_17
end
section
theorem dJ0_checkIndex_df160_0 : decode cJ0_checkIndex_df160 0 = .ok (.iload_n 0, 1) := by decide +kernel
theorem dJ0_checkIndex_df160_1 : decode cJ0_checkIndex_df160 1 = .ok (.iload_n 1, 1) := by decide +kernel
theorem dJ0_checkIndex_df160_2 : decode cJ0_checkIndex_df160 2 = .ok (.getstatic 1053, 3) := by decide +kernel
theorem dJ0_checkIndex_df160_5 : decode cJ0_checkIndex_df160 5 = .ok (.invokestatic 1059, 3) := by decide +kernel
theorem dJ0_checkIndex_df160_8 : decode cJ0_checkIndex_df160 8 = .ok (.pop, 1) := by decide +kernel
theorem dJ0_checkIndex_df160_9 : decode cJ0_checkIndex_df160 9 = .ok (.return_, 1) := by decide +kernel
set_option maxHeartbeats 4000000 in
set_option maxRecDepth 100000 in
theorem k_six (l : Launch) (D : va_G) (k : Nat → ClassId) (st : Nat → Nat) (lo : Nat)   : CWv l D k st lo yJ0_checkIndex_df160 cJ0_checkIndex_df160 2 none ({ frames := 1, cells := 0, slots := 0, locals := 22 }) 0 0 [.int 0, .int 4] [] (fun (_ : Unit) => True) (fun (_ : Unit) => []) := by
  intro sz
  refine Met.ofW (cc := cJ0_checkIndex_df160) (maxL := 2) (ret := none) (by decide) rfl ?_
  intro p e s m args below meth c s₁ B hml hv
  obtain ⟨rfl, hsz, hlo, hP, hK, hDL, hZ⟩ := hv
  have hx := B.exec
  have hb := B.bytes
  have hr := B.returns
  have hts := WS_ts B.pre
  have hown : s.vm.findClass RJ0 = some m.cls := findClass_of_methodNamed B.named
  have hlocks := B.notSynchronized
  subst hsz
  have hD := hDL.self (sz := s.heap.size)
  have hAlo := A_lo hDL hlo
  generalize hAe : va_A [] s.heap.size = A at hD hAlo ⊢
  have hA : ∀ q : Nat, s.heap.size ≤ q → A q := fun q h => by rw [← hAe]; exact Or.inr h
  have hS : va_S A s.heap s.heap [] := va_S.rf
  have hl := lv_entry ([.int 0, .int 4]) (n := 2) (Nat.le_of_ble_eq_true rfl)
  rw [lg_entry_eq]
  generalize (lg_sl ([.int 0, .int 4]) ++ List.replicate (2 - (lg_sl ([.int 0, .int 4])).length) Slot.unset).toArray = ls at hl ⊢
  have hl : lv_has ls 2 [(0, .int 0), (1, .int 4)] := hl
  refine lv_iload_n hx hb dJ0_checkIndex_df160_0 rfl (lv_at hl 0 rfl) ?_
  refine lv_iload_n hx hb dJ0_checkIndex_df160_1 rfl (lv_at hl 1 rfl) ?_
  rcases hZ.2.2.2.2.2.2.2.2.2.2.1 with hF | ⟨tF, hF⟩
  · refine va_gets (A := A) hx hb (hF.narrow hAlo) hS hown (hts _ tw_427) (fun _ h9 => h9) dJ0_checkIndex_df160_2 ?_
    refine ro_i (D := D) (va_runS (As := [.int 0, .int 4, .null]) (rest := []) ⟨hx, hb, hml, hown, hts⟩ ((k_pix_null l D k st lo ) s.heap.size) (va_cwS 3 hts (gS tw_429 tw_430 tw_91 tw_431) rfl rfl rfl (by decide +kernel) ⟨Nat.le_of_ble_eq_true rfl, Nat.le_of_ble_eq_true rfl⟩) (pS hS hAlo hlo hP hK (va_Dlo hD hAlo) hZ [] (by decide) rfl) rfl rfl hl.1 rfl (lv_room (Nat.le_of_ble_eq_true rfl)) dJ0_checkIndex_df160_5 ⟨Nat.le_of_ble_eq_true rfl, Nat.le_of_ble_eq_true rfl⟩) hS hA hP (fun r_1 H locs hw_1 hP hS => ?_)
    try dsimp only at hw_1
    subst hw_1
    refine lv_pop hx hb dJ0_checkIndex_df160_8 rfl ?_
    have hP9 := hP.sub (ws' := []) [] rfl
    have hD9 := hD.sub (ws' := []) [] (by decide) rfl
    exact W.vret hx hb hr (fun t ht hW => ⟨⟨(), rfl, trivial, by rw [ht]; exact hP9, hD9⟩, hS.F ht⟩) hS.2.2 dJ0_checkIndex_df160_9
  · refine va_gets (A := A) hx hb (hF.narrow hAlo) hS hown (hts _ tw_427) (fun _ h9 => h9) dJ0_checkIndex_df160_2 ?_
    refine ro_i (D := D) (va_runS (As := [.int 0, .int 4, .ref tF]) (rest := []) ⟨hx, hb, hml, hown, hts⟩ ((k_pix_ref l D k st lo tF) s.heap.size) (va_cwS 3 hts (gS tw_429 tw_430 tw_91 tw_431) rfl rfl rfl (by decide +kernel) ⟨Nat.le_of_ble_eq_true rfl, Nat.le_of_ble_eq_true rfl⟩) (pS hS hAlo hlo hP hK (va_Dlo hD hAlo) hZ [] (by decide) rfl) rfl rfl hl.1 rfl (lv_room (Nat.le_of_ble_eq_true rfl)) dJ0_checkIndex_df160_5 ⟨Nat.le_of_ble_eq_true rfl, Nat.le_of_ble_eq_true rfl⟩) hS hA hP (fun r_2 H locs hw_2 hP hS => ?_)
    try dsimp only at hw_2
    subst hw_2
    refine lv_pop hx hb dJ0_checkIndex_df160_8 rfl ?_
    have hP9 := hP.sub (ws' := []) [] rfl
    have hD9 := hD.sub (ws' := []) [] (by decide) rfl
    exact W.vret hx hb hr (fun t ht hW => ⟨⟨(), rfl, trivial, by rw [ht]; exact hP9, hD9⟩, hS.F ht⟩) hS.2.2 dJ0_checkIndex_df160_9
end
section
theorem dJ1_charAt_3b067_0 : decode cJ1_charAt_3b067 0 = .ok (.iload_n 1, 1) := by decide +kernel
theorem dJ1_charAt_3b067_1 : decode cJ1_charAt_3b067 1 = .ok (.aload_n 0, 1) := by decide +kernel
theorem dJ1_charAt_3b067_2 : decode cJ1_charAt_3b067 2 = .ok (.arraylength, 1) := by decide +kernel
theorem dJ1_charAt_3b067_3 : decode cJ1_charAt_3b067 3 = .ok (.invokestatic 9, 3) := by decide +kernel
theorem dJ1_charAt_3b067_6 : decode cJ1_charAt_3b067 6 = .ok (.aload_n 0, 1) := by decide +kernel
theorem dJ1_charAt_3b067_7 : decode cJ1_charAt_3b067 7 = .ok (.iload_n 1, 1) := by decide +kernel
theorem dJ1_charAt_3b067_8 : decode cJ1_charAt_3b067 8 = .ok (.baload, 1) := by decide +kernel
theorem dJ1_charAt_3b067_9 : decode cJ1_charAt_3b067 9 = .ok (.sipush 255, 3) := by decide +kernel
theorem dJ1_charAt_3b067_12 : decode cJ1_charAt_3b067 12 = .ok (.iand, 1) := by decide +kernel
theorem dJ1_charAt_3b067_13 : decode cJ1_charAt_3b067 13 = .ok (.i2c, 1) := by decide +kernel
theorem dJ1_charAt_3b067_14 : decode cJ1_charAt_3b067 14 = .ok (.ireturn, 1) := by decide +kernel
set_option maxHeartbeats 4000000 in
set_option maxRecDepth 100000 in
theorem k_charAtL (l : Launch) (D : va_G) (k : Nat → ClassId) (st : Nat → Nat) (lo : Nat)   : CWi l D k st lo yJ1_charAt_3b067 cJ1_charAt_3b067 2 (some .char) ({ frames := 2, cells := 0, slots := 0, locals := 43 }) 0 0 [.ref (st 3), .int 0] [] (fun (r : Int32) (_ : Unit) => r = 102) (fun (_ : Unit) => []) := by
  intro sz
  refine Met.ofW (cc := cJ1_charAt_3b067) (maxL := 2) (ret := (some .char)) (by decide) rfl ?_
  intro p e s m args below meth c s₁ B hml hv
  obtain ⟨rfl, hsz, hlo, hP, hK, hDL, hZ⟩ := hv
  have hx := B.exec
  have hb := B.bytes
  have hr := B.returns
  have hts := WS_ts B.pre
  have hown : s.vm.findClass RJ1 = some m.cls := findClass_of_methodNamed B.named
  have hlocks := B.notSynchronized
  subst hsz
  have hD := hDL.self (sz := s.heap.size)
  have hAlo := A_lo hDL hlo
  generalize hAe : va_A [] s.heap.size = A at hD hAlo ⊢
  have hA : ∀ q : Nat, s.heap.size ≤ q → A q := fun q h => by rw [← hAe]; exact Or.inr h
  have hS : va_S A s.heap s.heap [] := va_S.rf
  have hl := lv_entry ([.ref (st 3), .int 0]) (n := 2) (Nat.le_of_ble_eq_true rfl)
  rw [lg_entry_eq]
  generalize (lg_sl ([.ref (st 3), .int 0]) ++ List.replicate (2 - (lg_sl ([.ref (st 3), .int 0])).length) Slot.unset).toArray = ls at hl ⊢
  have hl : lv_has ls 2 [(0, .ref (st 3)), (1, .int 0)] := hl
  refine lv_iload_n hx hb dJ1_charAt_3b067_0 rfl (lv_at hl 1 rfl) ?_
  refine lv_aload_n hx hb dJ1_charAt_3b067_1 rfl (lv_at hl 0 rfl) ?_
  refine va_tlen (A := A) hx hb (hZ.2.2.2.2.2.2.2.2.2.1.narrow hAlo) hS (v := 4) (by decide) dJ1_charAt_3b067_2 ?_
  refine rw_v (D := D) (wr := []) (va_runS (As := [.int 0, .int 4]) (rest := []) ⟨hx, hb, hml, hown, hts⟩ ((k_six l D k st lo ) s.heap.size) (va_cwS 2 hts (gS tw_424 tw_425 tw_89 tw_426) rfl rfl rfl (by decide +kernel) ⟨Nat.le_of_ble_eq_true rfl, Nat.le_of_ble_eq_true rfl⟩) (pS hS hAlo hlo hP hK (va_Dlo hD hAlo) hZ [] (by decide) rfl) rfl rfl hl.1 rfl (lv_room (Nat.le_of_ble_eq_true rfl)) dJ1_charAt_3b067_3 ⟨Nat.le_of_ble_eq_true rfl, Nat.le_of_ble_eq_true rfl⟩) hS hA hP hD [] [] rfl rfl (by decide) (by decide) (fun u H locs hw_1 hP hD hS => ?_)
  have hP : va_P D classes [] H := hP
  have hD : va_D A [] := hD
  try dsimp only at hw_1
  refine lv_aload_n hx hb dJ1_charAt_3b067_6 rfl (lv_at hl 0 rfl) ?_
  refine lv_iload_n hx hb dJ1_charAt_3b067_7 rfl (lv_at hl 1 rfl) ?_
  refine va_tb (A := A) hx hb (hZ.2.2.2.2.2.2.2.2.2.1.narrow hAlo) hS (i := 0) (by unfold vp_in; decide) (v := .int 102) rfl dJ1_charAt_3b067_8 ?_
  refine lv_sipush (v := 255) hx hb dJ1_charAt_3b067_9 (by decide) ?_
  refine lv_iand hx hb dJ1_charAt_3b067_12 ?_
  refine lv_ti (y := 102) (by decide) ?_
  refine lv_i2c (v := 102) hx hb dJ1_charAt_3b067_13 (by decide) ?_
  have hP9 := hP.sub (ws' := []) [] rfl
  have hD9 := hD.sub (ws' := []) [] (by decide) rfl
  exact W.zret (v := 102) (ty := .char) hx hb hr rfl (fun t ht hW => ⟨⟨102, (), rfl, rfl, by rw [ht]; exact hP9, hD9⟩, hS.F ht⟩) hS.2.2 dJ1_charAt_3b067_14
end
section
theorem dJ0_charAt_5068e_0 : decode cJ0_charAt_5068e 0 = .ok (.aload_n 0, 1) := by decide +kernel
theorem dJ0_charAt_5068e_1 : decode cJ0_charAt_5068e 1 = .ok (.invokevirtual 492, 3) := by decide +kernel
theorem dJ0_charAt_5068e_4 : decode cJ0_charAt_5068e 4 = .ok (.ifCond .eq 12, 3) := by decide +kernel
theorem dJ0_charAt_5068e_7 : decode cJ0_charAt_5068e 7 = .ok (.aload_n 0, 1) := by decide +kernel
theorem dJ0_charAt_5068e_8 : decode cJ0_charAt_5068e 8 = .ok (.getfield 9, 3) := by decide +kernel
theorem dJ0_charAt_5068e_11 : decode cJ0_charAt_5068e 11 = .ok (.iload_n 1, 1) := by decide +kernel
theorem dJ0_charAt_5068e_12 : decode cJ0_charAt_5068e 12 = .ok (.invokestatic 495, 3) := by decide +kernel
theorem dJ0_charAt_5068e_15 : decode cJ0_charAt_5068e 15 = .ok (.ireturn, 1) := by decide +kernel
set_option maxHeartbeats 4000000 in
set_option maxRecDepth 100000 in
theorem k_charAt (l : Launch) (D : va_G) (k : Nat → ClassId) (st : Nat → Nat) (lo : Nat)   : CWi l D k st lo yJ0_charAt_5068e cJ0_charAt_5068e 2 (some .char) ({ frames := 3, cells := 0, slots := 0, locals := 64 }) 0 0 [.ref (st 2), .int 0] [] (fun (r : Int32) (_ : Unit) => r = 102) (fun (_ : Unit) => []) := by
  intro sz
  refine Met.ofW (cc := cJ0_charAt_5068e) (maxL := 2) (ret := (some .char)) (by decide) rfl ?_
  intro p e s m args below meth c s₁ B hml hv
  obtain ⟨rfl, hsz, hlo, hP, hK, hDL, hZ⟩ := hv
  have hx := B.exec
  have hb := B.bytes
  have hr := B.returns
  have hts := WS_ts B.pre
  have hown : s.vm.findClass RJ0 = some m.cls := findClass_of_methodNamed B.named
  have hlocks := B.notSynchronized
  subst hsz
  have hD := hDL.self (sz := s.heap.size)
  have hAlo := A_lo hDL hlo
  generalize hAe : va_A [] s.heap.size = A at hD hAlo ⊢
  have hA : ∀ q : Nat, s.heap.size ≤ q → A q := fun q h => by rw [← hAe]; exact Or.inr h
  have hS : va_S A s.heap s.heap [] := va_S.rf
  have hl := lv_entry ([.ref (st 2), .int 0]) (n := 2) (Nat.le_of_ble_eq_true rfl)
  rw [lg_entry_eq]
  generalize (lg_sl ([.ref (st 2), .int 0]) ++ List.replicate (2 - (lg_sl ([.ref (st 2), .int 0])).length) Slot.unset).toArray = ls at hl ⊢
  have hl : lv_has ls 2 [(0, .ref (st 2)), (1, .int 0)] := hl
  refine lv_aload_n hx hb dJ0_charAt_5068e_0 rfl (lv_at hl 0 rfl) ?_
  refine ro_i (D := D) (va_runV (As := []) (rest := []) ⟨hx, hb, hml, hown, hts⟩ ((k_isLatin1 l D k st lo ) s.heap.size) (cwV 0 hts (gV tw_417 tw_418 tw_419 tw_89 tw_420) rfl rfl rfl (by decide +kernel) ⟨Nat.le_of_ble_eq_true rfl, Nat.le_of_ble_eq_true rfl⟩) (pVs hS hAlo hlo hP hK (va_Dlo hD hAlo) hZ [] (by decide) rfl) rfl rfl hl.1 rfl (lv_room (Nat.le_of_ble_eq_true rfl)) dJ0_charAt_5068e_1 ⟨Nat.le_of_ble_eq_true rfl, Nat.le_of_ble_eq_true rfl⟩) hS hA hP (fun r_1 H locs hw_1 hP hS => ?_)
  try dsimp only at hw_1
  subst hw_1
  refine lv_if_eq (tgt := 16) hx hb dJ0_charAt_5068e_4 (by decide) (fun h => absurd h (by decide)) (fun _ => ?_)
  refine lv_aload_n hx hb dJ0_charAt_5068e_7 rfl (lv_at hl 0 rfl) ?_
  refine vk_getf (A := A) hx hb (hZ.2.2.2.2.2.2.2.2.1.narrow hAlo) hS hown (hts _ tw_1502) (fun _ h9 => h9) dJ0_charAt_5068e_8 ?_
  refine lv_iload_n hx hb dJ0_charAt_5068e_11 rfl (lv_at hl 1 rfl) ?_
  refine rw_i (D := D) (wr := []) (va_runS (As := [.ref (st 3), .int 0]) (rest := []) ⟨hx, hb, hml, hown, hts⟩ ((k_charAtL l D k st lo ) H.size) (va_cwS 2 hts (gS tw_421 tw_422 tw_90 tw_423) rfl rfl rfl (by decide +kernel) ⟨Nat.le_of_ble_eq_true rfl, Nat.le_of_ble_eq_true rfl⟩) (pS hS hAlo hlo hP hK (va_Dlo hD hAlo) hZ [] (by decide) rfl) rfl rfl hl.1 rfl (lv_room (Nat.le_of_ble_eq_true rfl)) dJ0_charAt_5068e_12 ⟨Nat.le_of_ble_eq_true rfl, Nat.le_of_ble_eq_true rfl⟩) hS hA hP hD [] [] rfl rfl (by decide) (by decide) (fun r_2 u H locs hw_2 hP hD hS => ?_)
  have hP : va_P D classes [] H := hP
  have hD : va_D A [] := hD
  try dsimp only at hw_2
  subst hw_2
  have hP9 := hP.sub (ws' := []) [] rfl
  have hD9 := hD.sub (ws' := []) [] (by decide) rfl
  exact W.zret (v := 102) (ty := .char) hx hb hr rfl (fun t ht hW => ⟨⟨102, (), rfl, rfl, by rw [ht]; exact hP9, hD9⟩, hS.F ht⟩) hS.2.2 dJ0_charAt_5068e_15
end
section
theorem dX6_takeWord_0 : decode cX6_takeWord 0 = .ok (.aload_n 0, 1) := by decide +kernel
theorem dX6_takeWord_1 : decode cX6_takeWord 1 = .ok (.invokevirtual 35, 3) := by decide +kernel
theorem dX6_takeWord_4 : decode cX6_takeWord 4 = .ok (.aload_n 0, 1) := by decide +kernel
theorem dX6_takeWord_5 : decode cX6_takeWord 5 = .ok (.getfield 19, 3) := by decide +kernel
theorem dX6_takeWord_8 : decode cX6_takeWord 8 = .ok (.aload_n 1, 1) := by decide +kernel
theorem dX6_takeWord_9 : decode cX6_takeWord 9 = .ok (.invokevirtual 38, 3) := by decide +kernel
theorem dX6_takeWord_12 : decode cX6_takeWord 12 = .ok (.iadd, 1) := by decide +kernel
theorem dX6_takeWord_13 : decode cX6_takeWord 13 = .ok (.istore_n 2, 1) := by decide +kernel
theorem dX6_takeWord_14 : decode cX6_takeWord 14 = .ok (.iconst 0, 1) := by decide +kernel
theorem dX6_takeWord_15 : decode cX6_takeWord 15 = .ok (.istore_n 3, 1) := by decide +kernel
theorem dX6_takeWord_16 : decode cX6_takeWord 16 = .ok (.iload_n 3, 1) := by decide +kernel
theorem dX6_takeWord_17 : decode cX6_takeWord 17 = .ok (.aload_n 1, 1) := by decide +kernel
theorem dX6_takeWord_18 : decode cX6_takeWord 18 = .ok (.invokevirtual 38, 3) := by decide +kernel
theorem dX6_takeWord_21 : decode cX6_takeWord 21 = .ok (.if_icmp .ge 29, 3) := by decide +kernel
theorem dX6_takeWord_24 : decode cX6_takeWord 24 = .ok (.aload_n 0, 1) := by decide +kernel
theorem dX6_takeWord_25 : decode cX6_takeWord 25 = .ok (.aload_n 0, 1) := by decide +kernel
theorem dX6_takeWord_26 : decode cX6_takeWord 26 = .ok (.getfield 19, 3) := by decide +kernel
theorem dX6_takeWord_29 : decode cX6_takeWord 29 = .ok (.iload_n 3, 1) := by decide +kernel
theorem dX6_takeWord_30 : decode cX6_takeWord 30 = .ok (.iadd, 1) := by decide +kernel
theorem dX6_takeWord_31 : decode cX6_takeWord 31 = .ok (.invokevirtual 31, 3) := by decide +kernel
theorem dX6_takeWord_34 : decode cX6_takeWord 34 = .ok (.aload_n 1, 1) := by decide +kernel
theorem dX6_takeWord_35 : decode cX6_takeWord 35 = .ok (.iload_n 3, 1) := by decide +kernel
theorem dX6_takeWord_36 : decode cX6_takeWord 36 = .ok (.invokevirtual 44, 3) := by decide +kernel
theorem dX6_takeWord_39 : decode cX6_takeWord 39 = .ok (.if_icmp .eq 5, 3) := by decide +kernel
theorem dX6_takeWord_42 : decode cX6_takeWord 42 = .ok (.iconst 0, 1) := by decide +kernel
theorem dX6_takeWord_43 : decode cX6_takeWord 43 = .ok (.ireturn, 1) := by decide +kernel
set_option maxHeartbeats 4000000 in
set_option maxRecDepth 100000 in
theorem k_takeWord (l : Launch) (D : va_G) (k : Nat → ClassId) (st : Nat → Nat) (lo : Nat) (h0 : Nat) (h1 : Nat) (na : Int32) (fn : Int32) (fb : Int32)  : CWi l D k st lo yX6_takeWord cX6_takeWord 4 (some .boolean) ({ frames := 4, cells := 0, slots := 0, locals := 85 }) 0 0 [.ref h0, .ref (st 2)] [(h0, .inr (6, [.ref h1, .int 0, .int 0, .int na, .int fn, .int fb]))] (fun (r : Int32) (_ : Unit) => r = 0) (fun (_ : Unit) => [(h0, .inr (6, [.ref h1, .int 0, .int 0, .int na, .int fn, .int fb]))]) := by
  intro sz
  refine Met.ofW (cc := cX6_takeWord) (maxL := 4) (ret := (some .boolean)) (by decide) rfl ?_
  intro p e s m args below meth c s₁ B hml hv
  obtain ⟨rfl, hsz, hlo, hP, hK, hDL, hZ⟩ := hv
  have hx := B.exec
  have hb := B.bytes
  have hr := B.returns
  have hts := WS_ts B.pre
  have hown : s.vm.findClass RX6 = some m.cls := findClass_of_methodNamed B.named
  have hlocks := B.notSynchronized
  subst hsz
  have hD := hDL.self (sz := s.heap.size)
  have hAlo := A_lo hDL hlo
  generalize hAe : va_A [(h0, .inr (6, [.ref h1, .int 0, .int 0, .int na, .int fn, .int fb]))] s.heap.size = A at hD hAlo ⊢
  have hA : ∀ q : Nat, s.heap.size ≤ q → A q := fun q h => by rw [← hAe]; exact Or.inr h
  have hS : va_S A s.heap s.heap [] := va_S.rf
  have hl := lv_entry ([.ref h0, .ref (st 2)]) (n := 4) (Nat.le_of_ble_eq_true rfl)
  rw [lg_entry_eq]
  generalize (lg_sl ([.ref h0, .ref (st 2)]) ++ List.replicate (4 - (lg_sl ([.ref h0, .ref (st 2)])).length) Slot.unset).toArray = ls at hl ⊢
  have hl : lv_has ls 4 [(0, .ref h0), (1, .ref (st 2))] := hl
  refine lv_aload_n hx hb dX6_takeWord_0 rfl (lv_at hl 0 rfl) ?_
  refine rw_v (D := D) (wr := []) (va_runV (As := []) (rest := []) ⟨hx, hb, hml, hown, hts⟩ ((k_skip l D k st lo h0 h1 na fn fb) s.heap.size) (cwV 0 hts (gV tw_375 tw_376 tw_377 tw_80 tw_378) rfl rfl rfl (by decide +kernel) ⟨Nat.le_of_ble_eq_true rfl, Nat.le_of_ble_eq_true rfl⟩) (pV hS hAlo hlo hP hK (va_Dlo hD hAlo) hZ [0] (by decide) rfl (ci := 6) (q0 := 0) rfl rfl) rfl rfl hl.1 rfl (lv_room (Nat.le_of_ble_eq_true rfl)) dX6_takeWord_1 ⟨Nat.le_of_ble_eq_true rfl, Nat.le_of_ble_eq_true rfl⟩) hS hA hP hD [0] [] rfl rfl (by decide) (by decide) (fun u H locs hw_1 hP hD hS => ?_)
  have hP : va_P D classes [(h0, .inr (6, [.ref h1, .int 0, .int 0, .int na, .int fn, .int fb]))] H := hP
  have hD : va_D A [(h0, .inr (6, [.ref h1, .int 0, .int 0, .int na, .int fn, .int fb]))] := hD
  try dsimp only at hw_1
  refine lv_aload_n hx hb dX6_takeWord_4 rfl (lv_at hl 0 rfl) ?_
  refine va_get (D := D) (ci := 6) (v := .int 0) (C := RX6) (T := TX6) (N := 6) hx hb hts inX6 hown hK hP 0 rfl rfl 2 (by decide) (hts _ tw_113) (fun _ h9 => h9) rfl dX6_takeWord_5 ?_
  refine lv_aload_n hx hb dX6_takeWord_8 rfl (lv_at hl 1 rfl) ?_
  refine ro_i (D := D) (va_runV (As := []) (rest := [.int 0]) ⟨hx, hb, hml, hown, hts⟩ ((k_length l D k st lo ) H.size) (cwV 0 hts (gV tw_403 tw_404 tw_405 tw_89 tw_406) rfl rfl rfl (by decide +kernel) ⟨Nat.le_of_ble_eq_true rfl, Nat.le_of_ble_eq_true rfl⟩) (pVs hS hAlo hlo hP hK (va_Dlo hD hAlo) hZ [] (by decide) rfl) rfl rfl hl.1 rfl (lv_room (Nat.le_of_ble_eq_true rfl)) dX6_takeWord_9 ⟨Nat.le_of_ble_eq_true rfl, Nat.le_of_ble_eq_true rfl⟩) hS hA hP (fun r_2 H locs hw_2 hP hS => ?_)
  try dsimp only at hw_2
  subst hw_2
  refine lv_iadd hx hb dX6_takeWord_12 ?_
  refine lv_ti (y := 4) (by decide) ?_
  refine lv_istore_n (lv' := [(2, .int 4), (0, .ref h0), (1, .ref (st 2))]) hx hb dX6_takeWord_13 rfl hl (by decide) rfl (fun ls hl => ?_)
  refine lv_iconst (v := 0) hx hb dX6_takeWord_14 (by decide) ?_
  refine lv_istore_n (lv' := [(3, .int 0), (2, .int 4), (0, .ref h0), (1, .ref (st 2))]) hx hb dX6_takeWord_15 rfl hl (by decide) rfl (fun ls hl => ?_)
  refine lv_iload_n hx hb dX6_takeWord_16 rfl (lv_at hl 0 rfl) ?_
  refine lv_aload_n hx hb dX6_takeWord_17 rfl (lv_at hl 3 rfl) ?_
  refine ro_i (D := D) (va_runV (As := []) (rest := [.int 0]) ⟨hx, hb, hml, hown, hts⟩ ((k_length l D k st lo ) H.size) (cwV 0 hts (gV tw_403 tw_404 tw_405 tw_89 tw_406) rfl rfl rfl (by decide +kernel) ⟨Nat.le_of_ble_eq_true rfl, Nat.le_of_ble_eq_true rfl⟩) (pVs hS hAlo hlo hP hK (va_Dlo hD hAlo) hZ [] (by decide) rfl) rfl rfl hl.1 rfl (lv_room (Nat.le_of_ble_eq_true rfl)) dX6_takeWord_18 ⟨Nat.le_of_ble_eq_true rfl, Nat.le_of_ble_eq_true rfl⟩) hS hA hP (fun r_3 H locs hw_3 hP hS => ?_)
  try dsimp only at hw_3
  subst hw_3
  refine lv_icmp_ge (tgt := 50) hx hb dX6_takeWord_21 (by decide) (fun h => absurd h (by decide)) (fun _ => ?_)
  refine lv_aload_n hx hb dX6_takeWord_24 rfl (lv_at hl 2 rfl) ?_
  refine lv_aload_n hx hb dX6_takeWord_25 rfl (lv_at hl 2 rfl) ?_
  refine va_get (D := D) (ci := 6) (v := .int 0) (C := RX6) (T := TX6) (N := 6) hx hb hts inX6 hown hK hP 0 rfl rfl 2 (by decide) (hts _ tw_113) (fun _ h9 => h9) rfl dX6_takeWord_26 ?_
  refine lv_iload_n hx hb dX6_takeWord_29 rfl (lv_at hl 0 rfl) ?_
  refine lv_iadd hx hb dX6_takeWord_30 ?_
  refine lv_ti (y := 0) (by decide) ?_
  refine ro_i (D := D) (va_runV (As := [.int 0]) (rest := []) ⟨hx, hb, hml, hown, hts⟩ ((k_byteAt l D k st lo h0 h1 0 na fn fb 0) H.size) (cwV 1 hts (gV tw_379 tw_380 tw_381 tw_80 tw_382) rfl rfl rfl (by decide +kernel) ⟨Nat.le_of_ble_eq_true rfl, Nat.le_of_ble_eq_true rfl⟩) (pV hS hAlo hlo hP hK (va_Dlo hD hAlo) hZ [0] (by decide) rfl (ci := 6) (q0 := 0) rfl rfl) rfl rfl hl.1 rfl (lv_room (Nat.le_of_ble_eq_true rfl)) dX6_takeWord_31 ⟨Nat.le_of_ble_eq_true rfl, Nat.le_of_ble_eq_true rfl⟩) hS hA hP (fun r_4 H locs hw_4 hP hS => ?_)
  try dsimp only at hw_4
  subst hw_4
  refine lv_aload_n hx hb dX6_takeWord_34 rfl (lv_at hl 3 rfl) ?_
  refine lv_iload_n hx hb dX6_takeWord_35 rfl (lv_at hl 0 rfl) ?_
  refine rw_i (D := D) (wr := [(h0, .inr (6, [.ref h1, .int 0, .int 0, .int na, .int fn, .int fb]))]) (va_runV (As := [.int 0]) (rest := [.int (-1)]) ⟨hx, hb, hml, hown, hts⟩ ((k_charAt l D k st lo ) H.size) (cwV 1 hts (gV tw_413 tw_414 tw_415 tw_89 tw_416) rfl rfl rfl (by decide +kernel) ⟨Nat.le_of_ble_eq_true rfl, Nat.le_of_ble_eq_true rfl⟩) (pVs hS hAlo hlo hP hK (va_Dlo hD hAlo) hZ [] (by decide) rfl) rfl rfl hl.1 rfl (lv_room (Nat.le_of_ble_eq_true rfl)) dX6_takeWord_36 ⟨Nat.le_of_ble_eq_true rfl, Nat.le_of_ble_eq_true rfl⟩) hS hA hP hD [] [0] rfl rfl (by decide) (by decide) (fun r_5 u H locs hw_5 hP hD hS => ?_)
  have hP : va_P D classes [(h0, .inr (6, [.ref h1, .int 0, .int 0, .int na, .int fn, .int fb]))] H := hP
  have hD : va_D A [(h0, .inr (6, [.ref h1, .int 0, .int 0, .int na, .int fn, .int fb]))] := hD
  try dsimp only at hw_5
  subst hw_5
  refine lv_icmp_eq (tgt := 44) hx hb dX6_takeWord_39 (by decide) (fun h => absurd h (by decide)) (fun _ => ?_)
  refine lv_iconst (v := 0) hx hb dX6_takeWord_42 (by decide) ?_
  have hP9 := hP.sub (ws' := [(h0, .inr (6, [.ref h1, .int 0, .int 0, .int na, .int fn, .int fb]))]) [0] rfl
  have hD9 := hD.sub (ws' := [(h0, .inr (6, [.ref h1, .int 0, .int 0, .int na, .int fn, .int fb]))]) [0] (by decide) rfl
  exact W.zret (v := 0) (ty := .boolean) hx hb hr rfl (fun t ht hW => ⟨⟨0, (), rfl, rfl, by rw [ht]; exact hP9, hD9⟩, hS.F ht⟩) hS.2.2 dX6_takeWord_43
end
section
theorem dX6_needWord_0 : decode cX6_needWord 0 = .ok (.aload_n 0, 1) := by decide +kernel
theorem dX6_needWord_1 : decode cX6_needWord 1 = .ok (.invokevirtual 52, 3) := by decide +kernel
theorem dX6_needWord_4 : decode cX6_needWord 4 = .ok (.ifCond .ne 20, 3) := by decide +kernel
theorem dX6_needWord_7 : decode cX6_needWord 7 = .ok (.aload_n 0, 1) := by decide +kernel
theorem dX6_needWord_8 : decode cX6_needWord 8 = .ok (.aload_n 1, 1) := by decide +kernel
theorem dX6_needWord_9 : decode cX6_needWord 9 = .ok (.invokevirtual 56, 3) := by decide +kernel
theorem dX6_needWord_12 : decode cX6_needWord 12 = .ok (.ifCond .ne 12, 3) := by decide +kernel
theorem dX6_needWord_15 : decode cX6_needWord 15 = .ok (.aload_n 0, 1) := by decide +kernel
theorem dX6_needWord_16 : decode cX6_needWord 16 = .ok (.iconst 1, 1) := by decide +kernel
theorem dX6_needWord_17 : decode cX6_needWord 17 = .ok (.aload_n 0, 1) := by decide +kernel
theorem dX6_needWord_18 : decode cX6_needWord 18 = .ok (.getfield 19, 3) := by decide +kernel
theorem dX6_needWord_21 : decode cX6_needWord 21 = .ok (.invokevirtual 60, 3) := by decide +kernel
theorem dX6_needWord_24 : decode cX6_needWord 24 = .ok (.return_, 1) := by decide +kernel
set_option maxHeartbeats 4000000 in
set_option maxRecDepth 100000 in
theorem k_needWord (l : Launch) (D : va_G) (k : Nat → ClassId) (st : Nat → Nat) (lo : Nat) (h0 : Nat) (h1 : Nat) (na : Int32) (fb : Int32)  : CWv l D k st lo yX6_needWord cX6_needWord 2 none ({ frames := 5, cells := 0, slots := 0, locals := 108 }) 0 0 [.ref h0, .ref (st 2)] [(h0, .inr (6, [.ref h1, .int 0, .int 0, .int na, .int 0, .int fb]))] (fun (_ : Unit) => True) (fun (_ : Unit) => [(h0, .inr (6, [.ref h1, .int 0, .int 0, .int na, .int 1, .int 0]))]) := by
  intro sz
  refine Met.ofW (cc := cX6_needWord) (maxL := 2) (ret := none) (by decide) rfl ?_
  intro p e s m args below meth c s₁ B hml hv
  obtain ⟨rfl, hsz, hlo, hP, hK, hDL, hZ⟩ := hv
  have hx := B.exec
  have hb := B.bytes
  have hr := B.returns
  have hts := WS_ts B.pre
  have hown : s.vm.findClass RX6 = some m.cls := findClass_of_methodNamed B.named
  have hlocks := B.notSynchronized
  subst hsz
  have hD := hDL.self (sz := s.heap.size)
  have hAlo := A_lo hDL hlo
  generalize hAe : va_A [(h0, .inr (6, [.ref h1, .int 0, .int 0, .int na, .int 0, .int fb]))] s.heap.size = A at hD hAlo ⊢
  have hA : ∀ q : Nat, s.heap.size ≤ q → A q := fun q h => by rw [← hAe]; exact Or.inr h
  have hS : va_S A s.heap s.heap [] := va_S.rf
  have hl := lv_entry ([.ref h0, .ref (st 2)]) (n := 2) (Nat.le_of_ble_eq_true rfl)
  rw [lg_entry_eq]
  generalize (lg_sl ([.ref h0, .ref (st 2)]) ++ List.replicate (2 - (lg_sl ([.ref h0, .ref (st 2)])).length) Slot.unset).toArray = ls at hl ⊢
  have hl : lv_has ls 2 [(0, .ref h0), (1, .ref (st 2))] := hl
  refine lv_aload_n hx hb dX6_needWord_0 rfl (lv_at hl 0 rfl) ?_
  refine ro_i (D := D) (va_runV (As := []) (rest := []) ⟨hx, hb, hml, hown, hts⟩ ((k_failed l D k st lo h0 h1 0 0 na 0 fb) s.heap.size) (cwV 0 hts (gV tw_471 tw_368 tw_369 tw_80 tw_370) rfl rfl rfl (by decide +kernel) ⟨Nat.le_of_ble_eq_true rfl, Nat.le_of_ble_eq_true rfl⟩) (pV hS hAlo hlo hP hK (va_Dlo hD hAlo) hZ [0] (by decide) rfl (ci := 6) (q0 := 0) rfl rfl) rfl rfl hl.1 rfl (lv_room (Nat.le_of_ble_eq_true rfl)) dX6_needWord_1 ⟨Nat.le_of_ble_eq_true rfl, Nat.le_of_ble_eq_true rfl⟩) hS hA hP (fun r_1 H locs hw_1 hP hS => ?_)
  try dsimp only at hw_1
  rcases hw_1 with ⟨rfl, hw_1⟩ | ⟨rfl, hw_1⟩
  · exact absurd rfl hw_1
  · refine lv_if_ne (tgt := 24) hx hb dX6_needWord_4 (by decide) (fun h => absurd (by decide) h) (fun _ => ?_)
    refine lv_aload_n hx hb dX6_needWord_7 rfl (lv_at hl 0 rfl) ?_
    refine lv_aload_n hx hb dX6_needWord_8 rfl (lv_at hl 1 rfl) ?_
    refine rw_i (D := D) (wr := []) (va_runV (As := [.ref (st 2)]) (rest := []) ⟨hx, hb, hml, hown, hts⟩ ((k_takeWord l D k st lo h0 h1 na 0 fb) H.size) (cwV 1 hts (gV tw_486 tw_400 tw_401 tw_80 tw_402) rfl rfl rfl (by decide +kernel) ⟨Nat.le_of_ble_eq_true rfl, Nat.le_of_ble_eq_true rfl⟩) (pV hS hAlo hlo hP hK (va_Dlo hD hAlo) hZ [0] (by decide) rfl (ci := 6) (q0 := 0) rfl rfl) rfl rfl hl.1 rfl (lv_room (Nat.le_of_ble_eq_true rfl)) dX6_needWord_9 ⟨Nat.le_of_ble_eq_true rfl, Nat.le_of_ble_eq_true rfl⟩) hS hA hP hD [0] [] rfl rfl (by decide) (by decide) (fun r_2 u H locs hw_2 hP hD hS => ?_)
    have hP : va_P D classes [(h0, .inr (6, [.ref h1, .int 0, .int 0, .int na, .int 0, .int fb]))] H := hP
    have hD : va_D A [(h0, .inr (6, [.ref h1, .int 0, .int 0, .int na, .int 0, .int fb]))] := hD
    try dsimp only at hw_2
    subst hw_2
    refine lv_if_ne (tgt := 24) hx hb dX6_needWord_12 (by decide) (fun h => absurd (by decide) h) (fun _ => ?_)
    refine lv_aload_n hx hb dX6_needWord_15 rfl (lv_at hl 0 rfl) ?_
    refine lv_iconst (v := 1) hx hb dX6_needWord_16 (by decide) ?_
    refine lv_aload_n hx hb dX6_needWord_17 rfl (lv_at hl 0 rfl) ?_
    refine va_get (D := D) (ci := 6) (v := .int 0) (C := RX6) (T := TX6) (N := 6) hx hb hts inX6 hown hK hP 0 rfl rfl 2 (by decide) (hts _ tw_113) (fun _ h9 => h9) rfl dX6_needWord_18 ?_
    refine rw_v (D := D) (wr := []) (va_runV (As := [.int 1, .int 0]) (rest := []) ⟨hx, hb, hml, hown, hts⟩ ((k_fail l D k st lo h0 h1 0 0 na fb 1 0) H.size) (cwV 2 hts (gV tw_476 tw_456 tw_457 tw_80 tw_458) rfl rfl rfl (by decide +kernel) ⟨Nat.le_of_ble_eq_true rfl, Nat.le_of_ble_eq_true rfl⟩) (pV hS hAlo hlo hP hK (va_Dlo hD hAlo) hZ [0] (by decide) rfl (ci := 6) (q0 := 0) rfl rfl) rfl rfl hl.1 rfl (lv_room (Nat.le_of_ble_eq_true rfl)) dX6_needWord_21 ⟨Nat.le_of_ble_eq_true rfl, Nat.le_of_ble_eq_true rfl⟩) hS hA hP hD [0] [] rfl rfl (by decide) (by decide) (fun u H locs hw_3 hP hD hS => ?_)
    have hP : va_P D classes [(h0, .inr (6, [.ref h1, .int 0, .int 0, .int na, .int 1, .int 0]))] H := hP
    have hD : va_D A [(h0, .inr (6, [.ref h1, .int 0, .int 0, .int na, .int 1, .int 0]))] := hD
    try dsimp only at hw_3
    have hP9 := hP.sub (ws' := [(h0, .inr (6, [.ref h1, .int 0, .int 0, .int na, .int 1, .int 0]))]) [0] rfl
    have hD9 := hD.sub (ws' := [(h0, .inr (6, [.ref h1, .int 0, .int 0, .int na, .int 1, .int 0]))]) [0] (by decide) rfl
    exact W.vret hx hb hr (fun t ht hW => ⟨⟨(), rfl, trivial, by rw [ht]; exact hP9, hD9⟩, hS.F ht⟩) hS.2.2 dX6_needWord_24
end
section
theorem dX6_needNumber_0 : decode cX6_needNumber 0 = .ok (.aload_n 0, 1) := by decide +kernel
theorem dX6_needNumber_1 : decode cX6_needNumber 1 = .ok (.invokevirtual 52, 3) := by decide +kernel
theorem dX6_needNumber_4 : decode cX6_needNumber 4 = .ok (.ifCond .eq 5, 3) := by decide +kernel
theorem dX6_needNumber_7 : decode cX6_needNumber 7 = .ok (.iload_n 1, 1) := by decide +kernel
theorem dX6_needNumber_8 : decode cX6_needNumber 8 = .ok (.ireturn, 1) := by decide +kernel
set_option maxHeartbeats 4000000 in
set_option maxRecDepth 100000 in
theorem k_needNumber (l : Launch) (D : va_G) (k : Nat → ClassId) (st : Nat → Nat) (lo : Nat) (h0 : Nat) (h1 : Nat) (sz : Int32) (tt : Int32) (na : Int32) (fb : Int32) (p0 : Int32) (p1 : Int32)  : CRi l D k st lo yX6_needNumber cX6_needNumber 6 (some .int) ({ frames := 1, cells := 0, slots := 0, locals := 20 }) [.ref h0, .int p0, .int p1] [(h0, .inr (6, [.ref h1, .int sz, .int tt, .int na, .int 1, .int fb]))] (fun r => r = p0) := by
  intro sz
  refine Met.ofW (cc := cX6_needNumber) (maxL := 6) (ret := (some .int)) (by decide) rfl ?_
  intro p e s m args below meth c s₁ B hml hv
  obtain ⟨rfl, hsz, hlo, hP, hK, hDL, hZ⟩ := hv
  have hx := B.exec
  have hb := B.bytes
  have hr := B.returns
  have hts := WS_ts B.pre
  have hown : s.vm.findClass RX6 = some m.cls := findClass_of_methodNamed B.named
  have hlocks := B.notSynchronized
  subst hsz
  have hA : ∀ q : Nat, s.heap.size ≤ q → (fun q : Nat => s.heap.size ≤ q) q := fun _ h => h
  have hAlo : ∀ q : Nat, (fun q : Nat => s.heap.size ≤ q) q → lo ≤ q := fun q h => Nat.le_trans hlo h
  have hS : va_S (fun q : Nat => s.heap.size ≤ q) s.heap s.heap [] := va_S.rf
  have hl := lv_entry ([.ref h0, .int p0, .int p1]) (n := 6) (Nat.le_of_ble_eq_true rfl)
  rw [lg_entry_eq]
  generalize (lg_sl ([.ref h0, .int p0, .int p1]) ++ List.replicate (6 - (lg_sl ([.ref h0, .int p0, .int p1])).length) Slot.unset).toArray = ls at hl ⊢
  have hl : lv_has ls 6 [(0, .ref h0), (1, .int p0), (2, .int p1)] := hl
  refine lv_aload_n hx hb dX6_needNumber_0 rfl (lv_at hl 0 rfl) ?_
  refine ro_i (D := D) (va_runV (As := []) (rest := []) ⟨hx, hb, hml, hown, hts⟩ ((k_failed l D k st lo h0 h1 sz tt na 1 fb) s.heap.size) (cwV 0 hts (gV tw_471 tw_368 tw_369 tw_80 tw_370) rfl rfl rfl (by decide +kernel) ⟨Nat.le_of_ble_eq_true rfl, Nat.le_of_ble_eq_true rfl⟩) (pV hS hAlo hlo hP hK hDL hZ [0] (by decide) rfl (ci := 6) (q0 := 0) rfl rfl) rfl rfl hl.1 rfl (lv_room (Nat.le_of_ble_eq_true rfl)) dX6_needNumber_1 ⟨Nat.le_of_ble_eq_true rfl, Nat.le_of_ble_eq_true rfl⟩) hS hA hP (fun r_1 H locs hw_1 hP hS => ?_)
  try dsimp only at hw_1
  rcases hw_1 with ⟨rfl, hw_1⟩ | ⟨rfl, hw_1⟩
  · refine lv_if_eq (tgt := 9) hx hb dX6_needNumber_4 (by decide) (fun h => absurd h (by decide)) (fun _ => ?_)
    refine lv_iload_n hx hb dX6_needNumber_7 rfl (lv_at hl 1 rfl) ?_
    exact W.iret (v := p0) hx hb hr (fun t ht hW => ⟨⟨p0, (), rfl, rfl, trivial⟩, hS.F ht⟩) hS.2.2 dX6_needNumber_8
  · exact absurd hw_1 (by decide)
end
section
theorem dX5_init_0 : decode cX5_init 0 = .ok (.aload_n 0, 1) := by decide +kernel
theorem dX5_init_1 : decode cX5_init 1 = .ok (.invokespecial 3, 3) := by decide +kernel
theorem dX5_init_4 : decode cX5_init 4 = .ok (.aload_n 0, 1) := by decide +kernel
theorem dX5_init_5 : decode cX5_init 5 = .ok (.bipush 10, 2) := by decide +kernel
theorem dX5_init_7 : decode cX5_init 7 = .ok (.newarray .int, 2) := by decide +kernel
theorem dX5_init_9 : decode cX5_init 9 = .ok (.putfield 9, 3) := by decide +kernel
theorem dX5_init_12 : decode cX5_init 12 = .ok (.aload_n 0, 1) := by decide +kernel
theorem dX5_init_13 : decode cX5_init 13 = .ok (.bipush 24, 2) := by decide +kernel
theorem dX5_init_15 : decode cX5_init 15 = .ok (.newarray .int, 2) := by decide +kernel
theorem dX5_init_17 : decode cX5_init 17 = .ok (.putfield 15, 3) := by decide +kernel
theorem dX5_init_20 : decode cX5_init 20 = .ok (.aload_n 0, 1) := by decide +kernel
theorem dX5_init_21 : decode cX5_init 21 = .ok (.bipush 24, 2) := by decide +kernel
theorem dX5_init_23 : decode cX5_init 23 = .ok (.newarray .int, 2) := by decide +kernel
theorem dX5_init_25 : decode cX5_init 25 = .ok (.putfield 18, 3) := by decide +kernel
theorem dX5_init_28 : decode cX5_init 28 = .ok (.aload_n 0, 1) := by decide +kernel
theorem dX5_init_29 : decode cX5_init 29 = .ok (.iconst 4, 1) := by decide +kernel
theorem dX5_init_30 : decode cX5_init 30 = .ok (.newarray .int, 2) := by decide +kernel
theorem dX5_init_32 : decode cX5_init 32 = .ok (.putfield 21, 3) := by decide +kernel
theorem dX5_init_35 : decode cX5_init 35 = .ok (.return_, 1) := by decide +kernel
set_option maxHeartbeats 4000000 in
set_option maxRecDepth 100000 in
theorem k_Street_init (l : Launch) (D : va_G) (k : Nat → ClassId) (st : Nat → Nat) (lo : Nat) (h0 : Nat)  : CWv l D k st lo yX5_init cX5_init 1 none ({ frames := 1, cells := 4, slots := 62, locals := 12 }) 4 62 [.ref h0] [(h0, .inr (5, [.null, .null, .null, .null]))] (fun (_ : Nat × Nat × Nat × Nat) => True) (fun (u : Nat × Nat × Nat × Nat) => match u with | (q, q1, q2, q3) => [(h0, .inr (5, [.ref q, .ref q1, .ref q2, .ref q3])), (q, .inl (k 1, 10, .inl (fun _ => 0)))]) := by
  intro sz
  refine Met.ofW (cc := cX5_init) (maxL := 1) (ret := none) (by decide) rfl ?_
  intro p e s m args below meth c s₁ B hml hv
  obtain ⟨rfl, hsz, hlo, hP, hK, hDL, hZ⟩ := hv
  have hx := B.exec
  have hb := B.bytes
  have hr := B.returns
  have hts := WS_ts B.pre
  have hown : s.vm.findClass RX5 = some m.cls := findClass_of_methodNamed B.named
  have hlocks := B.notSynchronized
  have hin : meth.name = "<init>" := (name_of_methodNamed B.named B.method).1
  subst hsz
  have hD := hDL.self (sz := s.heap.size)
  have hAlo := A_lo hDL hlo
  generalize hAe : va_A [(h0, .inr (5, [.null, .null, .null, .null]))] s.heap.size = A at hD hAlo ⊢
  have hA : ∀ q : Nat, s.heap.size ≤ q → A q := fun q h => by rw [← hAe]; exact Or.inr h
  have hS : va_S A s.heap s.heap [] := va_S.rf
  have hl := lv_entry ([.ref h0]) (n := 1) (Nat.le_of_ble_eq_true rfl)
  rw [lg_entry_eq]
  generalize (lg_sl ([.ref h0]) ++ List.replicate (1 - (lg_sl ([.ref h0])).length) Slot.unset).toArray = ls at hl ⊢
  have hl : lv_has ls 1 [(0, .ref h0)] := hl
  refine lv_aload_n hx hb dX5_init_0 rfl (lv_at hl 0 rfl) ?_
  refine W.objInit hx hb hown (hts _ tw_145) (hts _ tw_101) (hts _ tw_102) rfl (by rw [hml]; exact hl.1) rfl dX5_init_1 (Nat.le_of_ble_eq_true rfl) (Nat.le_of_ble_eq_true rfl) ?_
  refine W.eq (g2 := F0 m 4 ls []) rfl ?_
  refine lv_aload_n hx hb dX5_init_4 rfl (lv_at hl 0 rfl) ?_
  refine lv_bipush (v := 10) hx hb dX5_init_5 (by decide) ?_
  refine nwa (atype := .int) (t0 := 1) (a0 := (10, .inl (fun _ => 0))) hx hb (hts _ tw_164) rfl rfl hK hP hD hS hA (fun _ => rfl) (by decide) (N' := 10) (by decide) (by decide) (Nat.le_of_ble_eq_true rfl) (Nat.le_of_ble_eq_true rfl) dX5_init_7 (fun q_1 H hP hD hS => ?_)
  refine W.widen (k := 1) (n := 10) (by decide) (by decide) ?_
  have hP : va_P D classes [(h0, .inr (5, [.null, .null, .null, .null])), (q_1, .inl (k 1, 10, .inl (fun _ => 0)))] H := hP
  have hD : va_D A [(h0, .inr (5, [.null, .null, .null, .null])), (q_1, .inl (k 1, 10, .inl (fun _ => 0)))] := hD
  refine va_putF (D := D) (ci := 5) (v := .ref q_1) (ty := (.array .int)) (C := RX5) (T := TX5) (N := 4) hx hb hts inX5 tyX5 tyX5_ok nmX5 hown hK hP hD hS 0 rfl rfl 0 (by decide) (hts _ tw_146) (fun _ h9 => h9) rfl hin rfl (by decide +kernel) rfl rfl (Nat.le_of_ble_eq_true rfl) dX5_init_9 (fun H locs hP hD hS => ?_)
  have hP : va_P D classes [(h0, .inr (5, [.ref q_1, .null, .null, .null])), (q_1, .inl (k 1, 10, .inl (fun _ => 0)))] H := hP
  have hD : va_D A [(h0, .inr (5, [.ref q_1, .null, .null, .null])), (q_1, .inl (k 1, 10, .inl (fun _ => 0)))] := hD
  refine lv_aload_n hx hb dX5_init_12 rfl (lv_at hl 0 rfl) ?_
  refine lv_bipush (v := 24) hx hb dX5_init_13 (by decide) ?_
  refine nwa (atype := .int) (t0 := 1) (a0 := (24, .inl (fun _ => 0))) hx hb (hts _ tw_164) rfl rfl hK hP hD hS hA (fun _ => rfl) (by decide) (N' := 24) (by decide) (by decide) (Nat.le_of_ble_eq_true rfl) (Nat.le_of_ble_eq_true rfl) dX5_init_15 (fun q_2 H hP hD hS => ?_)
  refine W.widen (k := 2) (n := 34) (by decide) (by decide) ?_
  have hP : va_P D classes [(h0, .inr (5, [.ref q_1, .null, .null, .null])), (q_1, .inl (k 1, 10, .inl (fun _ => 0))), (q_2, .inl (k 1, 24, .inl (fun _ => 0)))] H := hP
  have hD : va_D A [(h0, .inr (5, [.ref q_1, .null, .null, .null])), (q_1, .inl (k 1, 10, .inl (fun _ => 0))), (q_2, .inl (k 1, 24, .inl (fun _ => 0)))] := hD
  refine va_putF (D := D) (ci := 5) (v := .ref q_2) (ty := (.array .int)) (C := RX5) (T := TX5) (N := 4) hx hb hts inX5 tyX5 tyX5_ok nmX5 hown hK hP hD hS 0 rfl rfl 1 (by decide) (hts _ tw_150) (fun _ h9 => h9) rfl hin rfl (by decide +kernel) rfl rfl (Nat.le_of_ble_eq_true rfl) dX5_init_17 (fun H locs hP hD hS => ?_)
  have hP : va_P D classes [(h0, .inr (5, [.ref q_1, .ref q_2, .null, .null])), (q_1, .inl (k 1, 10, .inl (fun _ => 0))), (q_2, .inl (k 1, 24, .inl (fun _ => 0)))] H := hP
  have hD : va_D A [(h0, .inr (5, [.ref q_1, .ref q_2, .null, .null])), (q_1, .inl (k 1, 10, .inl (fun _ => 0))), (q_2, .inl (k 1, 24, .inl (fun _ => 0)))] := hD
  refine lv_aload_n hx hb dX5_init_20 rfl (lv_at hl 0 rfl) ?_
  refine lv_bipush (v := 24) hx hb dX5_init_21 (by decide) ?_
  refine nwa (atype := .int) (t0 := 1) (a0 := (24, .inl (fun _ => 0))) hx hb (hts _ tw_164) rfl rfl hK hP hD hS hA (fun _ => rfl) (by decide) (N' := 24) (by decide) (by decide) (Nat.le_of_ble_eq_true rfl) (Nat.le_of_ble_eq_true rfl) dX5_init_23 (fun q_3 H hP hD hS => ?_)
  refine W.widen (k := 3) (n := 58) (by decide) (by decide) ?_
  have hP : va_P D classes [(h0, .inr (5, [.ref q_1, .ref q_2, .null, .null])), (q_1, .inl (k 1, 10, .inl (fun _ => 0))), (q_2, .inl (k 1, 24, .inl (fun _ => 0))), (q_3, .inl (k 1, 24, .inl (fun _ => 0)))] H := hP
  have hD : va_D A [(h0, .inr (5, [.ref q_1, .ref q_2, .null, .null])), (q_1, .inl (k 1, 10, .inl (fun _ => 0))), (q_2, .inl (k 1, 24, .inl (fun _ => 0))), (q_3, .inl (k 1, 24, .inl (fun _ => 0)))] := hD
  refine va_putF (D := D) (ci := 5) (v := .ref q_3) (ty := (.array .int)) (C := RX5) (T := TX5) (N := 4) hx hb hts inX5 tyX5 tyX5_ok nmX5 hown hK hP hD hS 0 rfl rfl 2 (by decide) (hts _ tw_152) (fun _ h9 => h9) rfl hin rfl (by decide +kernel) rfl rfl (Nat.le_of_ble_eq_true rfl) dX5_init_25 (fun H locs hP hD hS => ?_)
  have hP : va_P D classes [(h0, .inr (5, [.ref q_1, .ref q_2, .ref q_3, .null])), (q_1, .inl (k 1, 10, .inl (fun _ => 0))), (q_2, .inl (k 1, 24, .inl (fun _ => 0))), (q_3, .inl (k 1, 24, .inl (fun _ => 0)))] H := hP
  have hD : va_D A [(h0, .inr (5, [.ref q_1, .ref q_2, .ref q_3, .null])), (q_1, .inl (k 1, 10, .inl (fun _ => 0))), (q_2, .inl (k 1, 24, .inl (fun _ => 0))), (q_3, .inl (k 1, 24, .inl (fun _ => 0)))] := hD
  refine lv_aload_n hx hb dX5_init_28 rfl (lv_at hl 0 rfl) ?_
  refine lv_iconst (v := 4) hx hb dX5_init_29 (by decide) ?_
  refine nwa (atype := .int) (t0 := 1) (a0 := (4, .inl (fun _ => 0))) hx hb (hts _ tw_164) rfl rfl hK hP hD hS hA (fun _ => rfl) (by decide) (N' := 4) (by decide) (by decide) (Nat.le_of_ble_eq_true rfl) (Nat.le_of_ble_eq_true rfl) dX5_init_30 (fun q_4 H hP hD hS => ?_)
  refine W.widen (k := 4) (n := 62) (by decide) (by decide) ?_
  have hP : va_P D classes [(h0, .inr (5, [.ref q_1, .ref q_2, .ref q_3, .null])), (q_1, .inl (k 1, 10, .inl (fun _ => 0))), (q_2, .inl (k 1, 24, .inl (fun _ => 0))), (q_3, .inl (k 1, 24, .inl (fun _ => 0))), (q_4, .inl (k 1, 4, .inl (fun _ => 0)))] H := hP
  have hD : va_D A [(h0, .inr (5, [.ref q_1, .ref q_2, .ref q_3, .null])), (q_1, .inl (k 1, 10, .inl (fun _ => 0))), (q_2, .inl (k 1, 24, .inl (fun _ => 0))), (q_3, .inl (k 1, 24, .inl (fun _ => 0))), (q_4, .inl (k 1, 4, .inl (fun _ => 0)))] := hD
  refine va_putF (D := D) (ci := 5) (v := .ref q_4) (ty := (.array .int)) (C := RX5) (T := TX5) (N := 4) hx hb hts inX5 tyX5 tyX5_ok nmX5 hown hK hP hD hS 0 rfl rfl 3 (by decide) (hts _ tw_154) (fun _ h9 => h9) rfl hin rfl (by decide +kernel) rfl rfl (Nat.le_of_ble_eq_true rfl) dX5_init_32 (fun H locs hP hD hS => ?_)
  have hP : va_P D classes [(h0, .inr (5, [.ref q_1, .ref q_2, .ref q_3, .ref q_4])), (q_1, .inl (k 1, 10, .inl (fun _ => 0))), (q_2, .inl (k 1, 24, .inl (fun _ => 0))), (q_3, .inl (k 1, 24, .inl (fun _ => 0))), (q_4, .inl (k 1, 4, .inl (fun _ => 0)))] H := hP
  have hD : va_D A [(h0, .inr (5, [.ref q_1, .ref q_2, .ref q_3, .ref q_4])), (q_1, .inl (k 1, 10, .inl (fun _ => 0))), (q_2, .inl (k 1, 24, .inl (fun _ => 0))), (q_3, .inl (k 1, 24, .inl (fun _ => 0))), (q_4, .inl (k 1, 4, .inl (fun _ => 0)))] := hD
  have hP9 := hP.sub (ws' := [(h0, .inr (5, [.ref q_1, .ref q_2, .ref q_3, .ref q_4])), (q_1, .inl (k 1, 10, .inl (fun _ => 0)))]) [0, 1] rfl
  have hD9 := hD.sub (ws' := [(h0, .inr (5, [.ref q_1, .ref q_2, .ref q_3, .ref q_4])), (q_1, .inl (k 1, 10, .inl (fun _ => 0)))]) [0, 1] (by decide) rfl
  refine W.widen (k := 4) (n := 62) (by decide) (by decide) ?_
  exact W.vret hx hb hr (fun t ht hW => ⟨⟨(q_1, q_2, q_3, q_4), rfl, trivial, by rw [ht]; exact hP9, hD9⟩, hS.F ht⟩) hS.2.2 dX5_init_35
end
section
theorem dX5_doors_0 : decode cX5_doors 0 = .ok (.aload_n 0, 1) := by decide +kernel
theorem dX5_doors_1 : decode cX5_doors 1 = .ok (.getfield 9, 3) := by decide +kernel
theorem dX5_doors_4 : decode cX5_doors 4 = .ok (.iconst 0, 1) := by decide +kernel
theorem dX5_doors_5 : decode cX5_doors 5 = .ok (.iaload, 1) := by decide +kernel
theorem dX5_doors_6 : decode cX5_doors 6 = .ok (.ireturn, 1) := by decide +kernel
set_option maxHeartbeats 4000000 in
set_option maxRecDepth 100000 in
theorem k_doors (l : Launch) (D : va_G) (k : Nat → ClassId) (st : Nat → Nat) (lo : Nat) (h0 : Nat) (h1 : Nat) (h2 : Nat) (h3 : Nat) (h4 : Nat) (f : Nat → Int32)  : CRi l D k st lo yX5_doors cX5_doors 1 (some .int) ({ frames := 0, cells := 0, slots := 0, locals := 0 }) [.ref h0] [(h0, .inr (5, [.ref h1, .ref h2, .ref h3, .ref h4])), (h1, .inl (k 1, 10, .inl f))] (fun r => r = f 0) := by
  intro sz
  refine Met.ofW (cc := cX5_doors) (maxL := 1) (ret := (some .int)) (by decide) rfl ?_
  intro p e s m args below meth c s₁ B hml hv
  obtain ⟨rfl, hsz, hlo, hP, hK, hDL, hZ⟩ := hv
  have hx := B.exec
  have hb := B.bytes
  have hr := B.returns
  have hts := WS_ts B.pre
  have hown : s.vm.findClass RX5 = some m.cls := findClass_of_methodNamed B.named
  have hlocks := B.notSynchronized
  subst hsz
  have hA : ∀ q : Nat, s.heap.size ≤ q → (fun q : Nat => s.heap.size ≤ q) q := fun _ h => h
  have hAlo : ∀ q : Nat, (fun q : Nat => s.heap.size ≤ q) q → lo ≤ q := fun q h => Nat.le_trans hlo h
  have hS : va_S (fun q : Nat => s.heap.size ≤ q) s.heap s.heap [] := va_S.rf
  have hl := lv_entry ([.ref h0]) (n := 1) (Nat.le_of_ble_eq_true rfl)
  rw [lg_entry_eq]
  generalize (lg_sl ([.ref h0]) ++ List.replicate (1 - (lg_sl ([.ref h0])).length) Slot.unset).toArray = ls at hl ⊢
  have hl : lv_has ls 1 [(0, .ref h0)] := hl
  refine lv_aload_n hx hb dX5_doors_0 rfl (lv_at hl 0 rfl) ?_
  refine va_get (D := D) (ci := 5) (v := .ref h1) (C := RX5) (T := TX5) (N := 4) hx hb hts inX5 hown hK hP 0 rfl rfl 0 (by decide) (hts _ tw_146) (fun _ h9 => h9) rfl dX5_doors_1 ?_
  refine lv_iconst (v := 0) hx hb dX5_doors_4 (by decide) ?_
  refine va_iald hx hb hK hP 1 1 rfl rfl (by unfold vp_in; decide) dX5_doors_5 ?_
  refine lv_ti (y := (f 0)) (by rfl) ?_
  exact W.iret (v := (f 0)) hx hb hr (fun t ht hW => ⟨⟨(f 0), (), rfl, rfl, trivial⟩, hS.F ht⟩) hS.2.2 dX5_doors_6
end
section
theorem dX5_readFrom_0 : decode cX5_readFrom 0 = .ok (.getstatic 40, 3) := by decide +kernel
theorem dX5_readFrom_3 : decode cX5_readFrom 3 = .ok (.iconst 0, 1) := by decide +kernel
theorem dX5_readFrom_4 : decode cX5_readFrom 4 = .ok (.aload_n 0, 1) := by decide +kernel
theorem dX5_readFrom_5 : decode cX5_readFrom 5 = .ok (.getfield 9, 3) := by decide +kernel
theorem dX5_readFrom_8 : decode cX5_readFrom 8 = .ok (.iconst 0, 1) := by decide +kernel
theorem dX5_readFrom_9 : decode cX5_readFrom 9 = .ok (.bipush 10, 2) := by decide +kernel
theorem dX5_readFrom_11 : decode cX5_readFrom 11 = .ok (.invokestatic 24, 3) := by decide +kernel
theorem dX5_readFrom_14 : decode cX5_readFrom 14 = .ok (.iconst 0, 1) := by decide +kernel
theorem dX5_readFrom_15 : decode cX5_readFrom 15 = .ok (.istore_n 2, 1) := by decide +kernel
theorem dX5_readFrom_16 : decode cX5_readFrom 16 = .ok (.iconst 0, 1) := by decide +kernel
theorem dX5_readFrom_17 : decode cX5_readFrom 17 = .ok (.istore_n 3, 1) := by decide +kernel
theorem dX5_readFrom_18 : decode cX5_readFrom 18 = .ok (.iload_n 3, 1) := by decide +kernel
theorem dX5_readFrom_19 : decode cX5_readFrom 19 = .ok (.sipush 240, 3) := by decide +kernel
theorem dX5_readFrom_22 : decode cX5_readFrom 22 = .ok (.if_icmp .ge 97, 3) := by decide +kernel
theorem dX5_readFrom_25 : decode cX5_readFrom 25 = .ok (.aload_n 1, 1) := by decide +kernel
theorem dX5_readFrom_26 : decode cX5_readFrom 26 = .ok (.invokevirtual 43, 3) := by decide +kernel
theorem dX5_readFrom_29 : decode cX5_readFrom 29 = .ok (.ifCond .ne 90, 3) := by decide +kernel
theorem dX5_readFrom_32 : decode cX5_readFrom 32 = .ok (.aload_n 1, 1) := by decide +kernel
theorem dX5_readFrom_33 : decode cX5_readFrom 33 = .ok (.invokevirtual 49, 3) := by decide +kernel
theorem dX5_readFrom_36 : decode cX5_readFrom 36 = .ok (.ifCond .ne 83, 3) := by decide +kernel
theorem dX5_readFrom_119 : decode cX5_readFrom 119 = .ok (.aload_n 1, 1) := by decide +kernel
theorem dX5_readFrom_120 : decode cX5_readFrom 120 = .ok (.invokevirtual 43, 3) := by decide +kernel
theorem dX5_readFrom_123 : decode cX5_readFrom 123 = .ok (.ifCond .ne 19, 3) := by decide +kernel
theorem dX5_readFrom_126 : decode cX5_readFrom 126 = .ok (.aload_n 0, 1) := by decide +kernel
theorem dX5_readFrom_127 : decode cX5_readFrom 127 = .ok (.invokevirtual 72, 3) := by decide +kernel
theorem dX5_readFrom_130 : decode cX5_readFrom 130 = .ok (.ifCond .ne 12, 3) := by decide +kernel
theorem dX5_readFrom_133 : decode cX5_readFrom 133 = .ok (.aload_n 1, 1) := by decide +kernel
theorem dX5_readFrom_134 : decode cX5_readFrom 134 = .ok (.iconst 1, 1) := by decide +kernel
theorem dX5_readFrom_135 : decode cX5_readFrom 135 = .ok (.aload_n 1, 1) := by decide +kernel
theorem dX5_readFrom_136 : decode cX5_readFrom 136 = .ok (.getfield 76, 3) := by decide +kernel
theorem dX5_readFrom_139 : decode cX5_readFrom 139 = .ok (.invokevirtual 60, 3) := by decide +kernel
theorem dX5_readFrom_142 : decode cX5_readFrom 142 = .ok (.return_, 1) := by decide +kernel
set_option maxHeartbeats 4000000 in
set_option maxRecDepth 100000 in
theorem k_Street_readFrom (l : Launch) (D : va_G) (k : Nat → ClassId) (st : Nat → Nat) (lo : Nat) (h0 : Nat) (h1 : Nat) (h2 : Nat) (h3 : Nat) (h4 : Nat) (t0 : Nat) (t1 : Nat)  : CWv l D k st lo yX5_readFrom cX5_readFrom 6 none ({ frames := 2, cells := 0, slots := 0, locals := 60 }) 0 0 [.ref h0, .ref t0] [(h0, .inr (5, [.ref h1, .ref h2, .ref h3, .ref h4])), (h1, .inl (k 1, 10, .inl (fun _ => 0))), (t0, .inr (6, [.ref t1, .int 0, .int 0, .int 0, .int 0, .int 0]))] (fun (_ : Unit) => True) (fun (_ : Unit) => [(t0, .inr (6, [.ref t1, .int 0, .int 0, .int 0, .int 1, .int 0]))]) := by
  intro sz
  refine Met.ofW (cc := cX5_readFrom) (maxL := 6) (ret := none) (by decide) rfl ?_
  intro p e s m args below meth c s₁ B hml hv
  obtain ⟨rfl, hsz, hlo, hP, hK, hDL, hZ⟩ := hv
  have hx := B.exec
  have hb := B.bytes
  have hr := B.returns
  have hts := WS_ts B.pre
  have hown : s.vm.findClass RX5 = some m.cls := findClass_of_methodNamed B.named
  have hlocks := B.notSynchronized
  subst hsz
  have hD := hDL.self (sz := s.heap.size)
  have hAlo := A_lo hDL hlo
  generalize hAe : va_A [(h0, .inr (5, [.ref h1, .ref h2, .ref h3, .ref h4])), (h1, .inl (k 1, 10, .inl (fun _ => 0))), (t0, .inr (6, [.ref t1, .int 0, .int 0, .int 0, .int 0, .int 0]))] s.heap.size = A at hD hAlo ⊢
  have hA : ∀ q : Nat, s.heap.size ≤ q → A q := fun q h => by rw [← hAe]; exact Or.inr h
  have hS : va_S A s.heap s.heap [] := va_S.rf
  have hl := lv_entry ([.ref h0, .ref t0]) (n := 6) (Nat.le_of_ble_eq_true rfl)
  rw [lg_entry_eq]
  generalize (lg_sl ([.ref h0, .ref t0]) ++ List.replicate (6 - (lg_sl ([.ref h0, .ref t0])).length) Slot.unset).toArray = ls at hl ⊢
  have hl : lv_has ls 6 [(0, .ref h0), (1, .ref t0)] := hl
  refine va_getsN (A := A) hx hb (hZ.1.narrow hAlo) hS hown ((hZ.2.2.2.2.2.2.2.2.2.2.2.2.1 (RX5, 40, "LastPlace", "NOT_TOLD", "[I", RX7) (List.mem_of_getElem? (i := 0) rfl)).use rfl) (fun _ h9 => h9) dX5_readFrom_0 ?_
  refine lv_iconst (v := 0) hx hb dX5_readFrom_3 (by decide) ?_
  refine lv_aload_n hx hb dX5_readFrom_4 rfl (lv_at hl 0 rfl) ?_
  refine va_get (D := D) (ci := 5) (v := .ref h1) (C := RX5) (T := TX5) (N := 4) hx hb hts inX5 hown hK hP 0 rfl rfl 0 (by decide) (hts _ tw_146) (fun _ h9 => h9) rfl dX5_readFrom_5 ?_
  refine lv_iconst (v := 0) hx hb dX5_readFrom_8 (by decide) ?_
  refine lv_bipush (v := 10) hx hb dX5_readFrom_9 (by decide) ?_
  refine cpT (A := A) hx hb (by rw [hml]; exact hl.1.symm) hown (hts _ tw_364) (hts _ tw_366) (hts _ tw_365) (hts _ tw_88) hK hP hD hS (hZ.2.1.narrow hAlo) 1 1 rfl rfl (by decide) (by decide) (by decide) (by decide) (by decide) (Nat.le_of_ble_eq_true rfl) (Nat.le_of_ble_eq_true rfl) dX5_readFrom_11 (fun H locs hP hD hS => ?_)
  have hP : va_P D classes [(h0, .inr (5, [.ref h1, .ref h2, .ref h3, .ref h4])), (h1, .inl (k 1, 10, .inl (va_cpy zNT (fun _ => 0) 0 0 10))), (t0, .inr (6, [.ref t1, .int 0, .int 0, .int 0, .int 0, .int 0]))] H := hP
  have hD : va_D A [(h0, .inr (5, [.ref h1, .ref h2, .ref h3, .ref h4])), (h1, .inl (k 1, 10, .inl (va_cpy zNT (fun _ => 0) 0 0 10))), (t0, .inr (6, [.ref t1, .int 0, .int 0, .int 0, .int 0, .int 0]))] := hD
  refine lv_iconst (v := 0) hx hb dX5_readFrom_14 (by decide) ?_
  refine lv_istore_n (lv' := [(2, .int 0), (0, .ref h0), (1, .ref t0)]) hx hb dX5_readFrom_15 rfl hl (by decide) rfl (fun ls hl => ?_)
  refine lv_iconst (v := 0) hx hb dX5_readFrom_16 (by decide) ?_
  refine lv_istore_n (lv' := [(3, .int 0), (2, .int 0), (0, .ref h0), (1, .ref t0)]) hx hb dX5_readFrom_17 rfl hl (by decide) rfl (fun ls hl => ?_)
  refine lv_iload_n hx hb dX5_readFrom_18 rfl (lv_at hl 0 rfl) ?_
  refine lv_sipush (v := 240) hx hb dX5_readFrom_19 (by decide) ?_
  refine lv_icmp_ge (tgt := 119) hx hb dX5_readFrom_22 (by decide) (fun h => absurd h (by decide)) (fun _ => ?_)
  refine lv_aload_n hx hb dX5_readFrom_25 rfl (lv_at hl 3 rfl) ?_
  refine ro_i (D := D) (va_runV (As := []) (rest := []) ⟨hx, hb, hml, hown, hts⟩ ((k_failed l D k st lo t0 t1 0 0 0 0 0) H.size) (cwV 0 hts (gV tw_367 tw_368 tw_369 tw_80 tw_370) rfl rfl rfl (by decide +kernel) ⟨Nat.le_of_ble_eq_true rfl, Nat.le_of_ble_eq_true rfl⟩) (pV hS hAlo hlo hP hK (va_Dlo hD hAlo) hZ [2] (by decide) rfl (ci := 6) (q0 := 0) rfl rfl) rfl rfl hl.1 rfl (lv_room (Nat.le_of_ble_eq_true rfl)) dX5_readFrom_26 ⟨Nat.le_of_ble_eq_true rfl, Nat.le_of_ble_eq_true rfl⟩) hS hA hP (fun r_2 H locs hw_2 hP hS => ?_)
  try dsimp only at hw_2
  rcases hw_2 with ⟨rfl, hw_2⟩ | ⟨rfl, hw_2⟩
  · exact absurd rfl hw_2
  · refine lv_if_ne (tgt := 119) hx hb dX5_readFrom_29 (by decide) (fun h => absurd (by decide) h) (fun _ => ?_)
    refine lv_aload_n hx hb dX5_readFrom_32 rfl (lv_at hl 3 rfl) ?_
    refine rw_i (D := D) (wr := [(h0, .inr (5, [.ref h1, .ref h2, .ref h3, .ref h4])), (h1, .inl (k 1, 10, .inl (va_cpy zNT (fun _ => 0) 0 0 10)))]) (va_runV (As := []) (rest := []) ⟨hx, hb, hml, hown, hts⟩ ((k_isAtEnd l D k st lo t0 t1 0 0 0) H.size) (cwV 0 hts (gV tw_371 tw_372 tw_373 tw_80 tw_374) rfl rfl rfl (by decide +kernel) ⟨Nat.le_of_ble_eq_true rfl, Nat.le_of_ble_eq_true rfl⟩) (pV hS hAlo hlo hP hK (va_Dlo hD hAlo) hZ [2] (by decide) rfl (ci := 6) (q0 := 0) rfl rfl) rfl rfl hl.1 rfl (lv_room (Nat.le_of_ble_eq_true rfl)) dX5_readFrom_33 ⟨Nat.le_of_ble_eq_true rfl, Nat.le_of_ble_eq_true rfl⟩) hS hA hP hD [2] [0, 1] rfl rfl (by decide) (by decide) (fun r_3 u H locs hw_3 hP hD hS => ?_)
    have hP : va_P D classes [(h0, .inr (5, [.ref h1, .ref h2, .ref h3, .ref h4])), (h1, .inl (k 1, 10, .inl (va_cpy zNT (fun _ => 0) 0 0 10))), (t0, .inr (6, [.ref t1, .int 0, .int 0, .int 0, .int 0, .int 0]))] H := hP
    have hD : va_D A [(h0, .inr (5, [.ref h1, .ref h2, .ref h3, .ref h4])), (h1, .inl (k 1, 10, .inl (va_cpy zNT (fun _ => 0) 0 0 10))), (t0, .inr (6, [.ref t1, .int 0, .int 0, .int 0, .int 0, .int 0]))] := hD
    try dsimp only at hw_3
    subst hw_3
    refine lv_if_ne (tgt := 119) hx hb dX5_readFrom_36 (by decide) (fun _ => ?_) (fun h => absurd h (by decide))
    refine lv_aload_n hx hb dX5_readFrom_119 rfl (lv_at hl 3 rfl) ?_
    refine ro_i (D := D) (va_runV (As := []) (rest := []) ⟨hx, hb, hml, hown, hts⟩ ((k_failed l D k st lo t0 t1 0 0 0 0 0) H.size) (cwV 0 hts (gV tw_367 tw_368 tw_369 tw_80 tw_370) rfl rfl rfl (by decide +kernel) ⟨Nat.le_of_ble_eq_true rfl, Nat.le_of_ble_eq_true rfl⟩) (pV hS hAlo hlo hP hK (va_Dlo hD hAlo) hZ [2] (by decide) rfl (ci := 6) (q0 := 0) rfl rfl) rfl rfl hl.1 rfl (lv_room (Nat.le_of_ble_eq_true rfl)) dX5_readFrom_120 ⟨Nat.le_of_ble_eq_true rfl, Nat.le_of_ble_eq_true rfl⟩) hS hA hP (fun r_4 H locs hw_4 hP hS => ?_)
    try dsimp only at hw_4
    rcases hw_4 with ⟨rfl, hw_4⟩ | ⟨rfl, hw_4⟩
    · exact absurd rfl hw_4
    · refine lv_if_ne (tgt := 142) hx hb dX5_readFrom_123 (by decide) (fun h => absurd (by decide) h) (fun _ => ?_)
      refine lv_aload_n hx hb dX5_readFrom_126 rfl (lv_at hl 2 rfl) ?_
      refine ro_i (D := D) (va_runV (As := []) (rest := []) ⟨hx, hb, hml, hown, hts⟩ ((k_doors l D k st lo h0 h1 h2 h3 h4 (va_cpy zNT (fun _ => 0) 0 0 10)) H.size) (cwV 0 hts (gV tw_477 tw_478 tw_479 tw_81 tw_480) rfl rfl rfl (by decide +kernel) ⟨Nat.le_of_ble_eq_true rfl, Nat.le_of_ble_eq_true rfl⟩) (pV hS hAlo hlo hP hK (va_Dlo hD hAlo) hZ [0, 1] (by decide) rfl (ci := 5) (q0 := 0) rfl rfl) rfl rfl hl.1 rfl (lv_room (Nat.le_of_ble_eq_true rfl)) dX5_readFrom_127 ⟨Nat.le_of_ble_eq_true rfl, Nat.le_of_ble_eq_true rfl⟩) hS hA hP (fun r_5 H locs hw_5 hP hS => ?_)
      try dsimp only at hw_5
      obtain rfl : r_5 = 0 := hw_5.trans (by rfl)
      refine lv_if_ne (tgt := 142) hx hb dX5_readFrom_130 (by decide) (fun h => absurd (by decide) h) (fun _ => ?_)
      refine lv_aload_n hx hb dX5_readFrom_133 rfl (lv_at hl 3 rfl) ?_
      refine lv_iconst (v := 1) hx hb dX5_readFrom_134 (by decide) ?_
      refine lv_aload_n hx hb dX5_readFrom_135 rfl (lv_at hl 3 rfl) ?_
      refine va_get (D := D) (ci := 6) (v := .int 0) (C := RX6) (T := TX6) (N := 6) hx hb hts inX6 hown hK hP 2 rfl rfl 1 (by decide) (hts _ tw_112) (fun _ h9 => h9) rfl dX5_readFrom_136 ?_
      refine rw_v (D := D) (wr := [(h0, .inr (5, [.ref h1, .ref h2, .ref h3, .ref h4])), (h1, .inl (k 1, 10, .inl (va_cpy zNT (fun _ => 0) 0 0 10)))]) (va_runV (As := [.int 1, .int 0]) (rest := []) ⟨hx, hb, hml, hown, hts⟩ ((k_fail l D k st lo t0 t1 0 0 0 0 1 0) H.size) (cwV 2 hts (gV tw_455 tw_456 tw_457 tw_80 tw_458) rfl rfl rfl (by decide +kernel) ⟨Nat.le_of_ble_eq_true rfl, Nat.le_of_ble_eq_true rfl⟩) (pV hS hAlo hlo hP hK (va_Dlo hD hAlo) hZ [2] (by decide) rfl (ci := 6) (q0 := 0) rfl rfl) rfl rfl hl.1 rfl (lv_room (Nat.le_of_ble_eq_true rfl)) dX5_readFrom_139 ⟨Nat.le_of_ble_eq_true rfl, Nat.le_of_ble_eq_true rfl⟩) hS hA hP hD [2] [0, 1] rfl rfl (by decide) (by decide) (fun u H locs hw_6 hP hD hS => ?_)
      have hP : va_P D classes [(h0, .inr (5, [.ref h1, .ref h2, .ref h3, .ref h4])), (h1, .inl (k 1, 10, .inl (va_cpy zNT (fun _ => 0) 0 0 10))), (t0, .inr (6, [.ref t1, .int 0, .int 0, .int 0, .int 1, .int 0]))] H := hP
      have hD : va_D A [(h0, .inr (5, [.ref h1, .ref h2, .ref h3, .ref h4])), (h1, .inl (k 1, 10, .inl (va_cpy zNT (fun _ => 0) 0 0 10))), (t0, .inr (6, [.ref t1, .int 0, .int 0, .int 0, .int 1, .int 0]))] := hD
      try dsimp only at hw_6
      have hP9 := hP.sub (ws' := [(t0, .inr (6, [.ref t1, .int 0, .int 0, .int 0, .int 1, .int 0]))]) [2] rfl
      have hD9 := hD.sub (ws' := [(t0, .inr (6, [.ref t1, .int 0, .int 0, .int 0, .int 1, .int 0]))]) [2] (by decide) rfl
      exact W.vret hx hb hr (fun t ht hW => ⟨⟨(), rfl, trivial, by rw [ht]; exact hP9, hD9⟩, hS.F ht⟩) hS.2.2 dX5_readFrom_142
end
section
theorem dX3_init_0 : decode cX3_init 0 = .ok (.aload_n 0, 1) := by decide +kernel
theorem dX3_init_1 : decode cX3_init 1 = .ok (.invokespecial 3, 3) := by decide +kernel
theorem dX3_init_4 : decode cX3_init 4 = .ok (.aload_n 0, 1) := by decide +kernel
theorem dX3_init_5 : decode cX3_init 5 = .ok (.bipush 24, 2) := by decide +kernel
theorem dX3_init_7 : decode cX3_init 7 = .ok (.newarray .int, 2) := by decide +kernel
theorem dX3_init_9 : decode cX3_init 9 = .ok (.putfield 9, 3) := by decide +kernel
theorem dX3_init_12 : decode cX3_init 12 = .ok (.aload_n 0, 1) := by decide +kernel
theorem dX3_init_13 : decode cX3_init 13 = .ok (.bipush 24, 2) := by decide +kernel
theorem dX3_init_15 : decode cX3_init 15 = .ok (.newarray .int, 2) := by decide +kernel
theorem dX3_init_17 : decode cX3_init 17 = .ok (.putfield 15, 3) := by decide +kernel
theorem dX3_init_20 : decode cX3_init 20 = .ok (.aload_n 0, 1) := by decide +kernel
theorem dX3_init_21 : decode cX3_init 21 = .ok (.iconst 0, 1) := by decide +kernel
theorem dX3_init_22 : decode cX3_init 22 = .ok (.putfield 18, 3) := by decide +kernel
theorem dX3_init_25 : decode cX3_init 25 = .ok (.aload_n 0, 1) := by decide +kernel
theorem dX3_init_26 : decode cX3_init 26 = .ok (.iconst 0, 1) := by decide +kernel
theorem dX3_init_27 : decode cX3_init 27 = .ok (.putfield 22, 3) := by decide +kernel
theorem dX3_init_30 : decode cX3_init 30 = .ok (.aload_n 0, 1) := by decide +kernel
theorem dX3_init_31 : decode cX3_init 31 = .ok (.iconst 0, 1) := by decide +kernel
theorem dX3_init_32 : decode cX3_init 32 = .ok (.putfield 25, 3) := by decide +kernel
theorem dX3_init_35 : decode cX3_init 35 = .ok (.return_, 1) := by decide +kernel
set_option maxHeartbeats 4000000 in
set_option maxRecDepth 100000 in
theorem k_Rule_init (l : Launch) (D : va_G) (k : Nat → ClassId) (st : Nat → Nat) (lo : Nat) (h0 : Nat)  : CWv l D k st lo yX3_init cX3_init 1 none ({ frames := 1, cells := 2, slots := 48, locals := 12 }) 2 48 [.ref h0] [(h0, .inr (3, [.null, .null, .int 0, .int 0, .int 0]))] (fun (_ : Nat × Nat) => True) (fun (u : Nat × Nat) => match u with | (q, q1) => [(h0, .inr (3, [.ref q, .ref q1, .int 0, .int 0, .int 0]))]) := by
  intro sz
  refine Met.ofW (cc := cX3_init) (maxL := 1) (ret := none) (by decide) rfl ?_
  intro p e s m args below meth c s₁ B hml hv
  obtain ⟨rfl, hsz, hlo, hP, hK, hDL, hZ⟩ := hv
  have hx := B.exec
  have hb := B.bytes
  have hr := B.returns
  have hts := WS_ts B.pre
  have hown : s.vm.findClass RX3 = some m.cls := findClass_of_methodNamed B.named
  have hlocks := B.notSynchronized
  have hin : meth.name = "<init>" := (name_of_methodNamed B.named B.method).1
  subst hsz
  have hD := hDL.self (sz := s.heap.size)
  have hAlo := A_lo hDL hlo
  generalize hAe : va_A [(h0, .inr (3, [.null, .null, .int 0, .int 0, .int 0]))] s.heap.size = A at hD hAlo ⊢
  have hA : ∀ q : Nat, s.heap.size ≤ q → A q := fun q h => by rw [← hAe]; exact Or.inr h
  have hS : va_S A s.heap s.heap [] := va_S.rf
  have hl := lv_entry ([.ref h0]) (n := 1) (Nat.le_of_ble_eq_true rfl)
  rw [lg_entry_eq]
  generalize (lg_sl ([.ref h0]) ++ List.replicate (1 - (lg_sl ([.ref h0])).length) Slot.unset).toArray = ls at hl ⊢
  have hl : lv_has ls 1 [(0, .ref h0)] := hl
  refine lv_aload_n hx hb dX3_init_0 rfl (lv_at hl 0 rfl) ?_
  refine W.objInit hx hb hown (hts _ tw_288) (hts _ tw_101) (hts _ tw_102) rfl (by rw [hml]; exact hl.1) rfl dX3_init_1 (Nat.le_of_ble_eq_true rfl) (Nat.le_of_ble_eq_true rfl) ?_
  refine W.eq (g2 := F0 m 4 ls []) rfl ?_
  refine lv_aload_n hx hb dX3_init_4 rfl (lv_at hl 0 rfl) ?_
  refine lv_bipush (v := 24) hx hb dX3_init_5 (by decide) ?_
  refine nwa (atype := .int) (t0 := 1) (a0 := (24, .inl (fun _ => 0))) hx hb (hts _ tw_164) rfl rfl hK hP hD hS hA (fun _ => rfl) (by decide) (N' := 24) (by decide) (by decide) (Nat.le_of_ble_eq_true rfl) (Nat.le_of_ble_eq_true rfl) dX3_init_7 (fun q_1 H hP hD hS => ?_)
  refine W.widen (k := 1) (n := 24) (by decide) (by decide) ?_
  have hP : va_P D classes [(h0, .inr (3, [.null, .null, .int 0, .int 0, .int 0])), (q_1, .inl (k 1, 24, .inl (fun _ => 0)))] H := hP
  have hD : va_D A [(h0, .inr (3, [.null, .null, .int 0, .int 0, .int 0])), (q_1, .inl (k 1, 24, .inl (fun _ => 0)))] := hD
  refine va_putF (D := D) (ci := 3) (v := .ref q_1) (ty := (.array .int)) (C := RX3) (T := TX3) (N := 5) hx hb hts inX3 tyX3 tyX3_ok nmX3 hown hK hP hD hS 0 rfl rfl 0 (by decide) (hts _ tw_289) (fun _ h9 => h9) rfl hin rfl (by decide +kernel) rfl rfl (Nat.le_of_ble_eq_true rfl) dX3_init_9 (fun H locs hP hD hS => ?_)
  have hP : va_P D classes [(h0, .inr (3, [.ref q_1, .null, .int 0, .int 0, .int 0])), (q_1, .inl (k 1, 24, .inl (fun _ => 0)))] H := hP
  have hD : va_D A [(h0, .inr (3, [.ref q_1, .null, .int 0, .int 0, .int 0])), (q_1, .inl (k 1, 24, .inl (fun _ => 0)))] := hD
  refine lv_aload_n hx hb dX3_init_12 rfl (lv_at hl 0 rfl) ?_
  refine lv_bipush (v := 24) hx hb dX3_init_13 (by decide) ?_
  refine nwa (atype := .int) (t0 := 1) (a0 := (24, .inl (fun _ => 0))) hx hb (hts _ tw_164) rfl rfl hK hP hD hS hA (fun _ => rfl) (by decide) (N' := 24) (by decide) (by decide) (Nat.le_of_ble_eq_true rfl) (Nat.le_of_ble_eq_true rfl) dX3_init_15 (fun q_2 H hP hD hS => ?_)
  refine W.widen (k := 2) (n := 48) (by decide) (by decide) ?_
  have hP : va_P D classes [(h0, .inr (3, [.ref q_1, .null, .int 0, .int 0, .int 0])), (q_1, .inl (k 1, 24, .inl (fun _ => 0))), (q_2, .inl (k 1, 24, .inl (fun _ => 0)))] H := hP
  have hD : va_D A [(h0, .inr (3, [.ref q_1, .null, .int 0, .int 0, .int 0])), (q_1, .inl (k 1, 24, .inl (fun _ => 0))), (q_2, .inl (k 1, 24, .inl (fun _ => 0)))] := hD
  refine va_putF (D := D) (ci := 3) (v := .ref q_2) (ty := (.array .int)) (C := RX3) (T := TX3) (N := 5) hx hb hts inX3 tyX3 tyX3_ok nmX3 hown hK hP hD hS 0 rfl rfl 1 (by decide) (hts _ tw_290) (fun _ h9 => h9) rfl hin rfl (by decide +kernel) rfl rfl (Nat.le_of_ble_eq_true rfl) dX3_init_17 (fun H locs hP hD hS => ?_)
  have hP : va_P D classes [(h0, .inr (3, [.ref q_1, .ref q_2, .int 0, .int 0, .int 0])), (q_1, .inl (k 1, 24, .inl (fun _ => 0))), (q_2, .inl (k 1, 24, .inl (fun _ => 0)))] H := hP
  have hD : va_D A [(h0, .inr (3, [.ref q_1, .ref q_2, .int 0, .int 0, .int 0])), (q_1, .inl (k 1, 24, .inl (fun _ => 0))), (q_2, .inl (k 1, 24, .inl (fun _ => 0)))] := hD
  refine lv_aload_n hx hb dX3_init_20 rfl (lv_at hl 0 rfl) ?_
  refine lv_iconst (v := 0) hx hb dX3_init_21 (by decide) ?_
  refine va_put (D := D) (ci := 3) (v := .int 0) (ty := .int) (C := RX3) (T := TX3) (N := 5) hx hb hts inX3 tyX3 tyX3_ok nmX3 hown hK hP hD hS 0 rfl rfl 2 (by decide) (hts _ tw_291) (fun _ h9 => h9) rfl (by decide +kernel) rfl rfl (Nat.le_of_ble_eq_true rfl) dX3_init_22 (fun H locs hP hD hS => ?_)
  have hP : va_P D classes [(h0, .inr (3, [.ref q_1, .ref q_2, .int 0, .int 0, .int 0])), (q_1, .inl (k 1, 24, .inl (fun _ => 0))), (q_2, .inl (k 1, 24, .inl (fun _ => 0)))] H := hP
  have hD : va_D A [(h0, .inr (3, [.ref q_1, .ref q_2, .int 0, .int 0, .int 0])), (q_1, .inl (k 1, 24, .inl (fun _ => 0))), (q_2, .inl (k 1, 24, .inl (fun _ => 0)))] := hD
  refine lv_aload_n hx hb dX3_init_25 rfl (lv_at hl 0 rfl) ?_
  refine lv_iconst (v := 0) hx hb dX3_init_26 (by decide) ?_
  refine va_put (D := D) (ci := 3) (v := .int 0) (ty := .int) (C := RX3) (T := TX3) (N := 5) hx hb hts inX3 tyX3 tyX3_ok nmX3 hown hK hP hD hS 0 rfl rfl 3 (by decide) (hts _ tw_292) (fun _ h9 => h9) rfl (by decide +kernel) rfl rfl (Nat.le_of_ble_eq_true rfl) dX3_init_27 (fun H locs hP hD hS => ?_)
  have hP : va_P D classes [(h0, .inr (3, [.ref q_1, .ref q_2, .int 0, .int 0, .int 0])), (q_1, .inl (k 1, 24, .inl (fun _ => 0))), (q_2, .inl (k 1, 24, .inl (fun _ => 0)))] H := hP
  have hD : va_D A [(h0, .inr (3, [.ref q_1, .ref q_2, .int 0, .int 0, .int 0])), (q_1, .inl (k 1, 24, .inl (fun _ => 0))), (q_2, .inl (k 1, 24, .inl (fun _ => 0)))] := hD
  refine lv_aload_n hx hb dX3_init_30 rfl (lv_at hl 0 rfl) ?_
  refine lv_iconst (v := 0) hx hb dX3_init_31 (by decide) ?_
  refine va_put (D := D) (ci := 3) (v := .int 0) (ty := .int) (C := RX3) (T := TX3) (N := 5) hx hb hts inX3 tyX3 tyX3_ok nmX3 hown hK hP hD hS 0 rfl rfl 4 (by decide) (hts _ tw_293) (fun _ h9 => h9) rfl (by decide +kernel) rfl rfl (Nat.le_of_ble_eq_true rfl) dX3_init_32 (fun H locs hP hD hS => ?_)
  have hP : va_P D classes [(h0, .inr (3, [.ref q_1, .ref q_2, .int 0, .int 0, .int 0])), (q_1, .inl (k 1, 24, .inl (fun _ => 0))), (q_2, .inl (k 1, 24, .inl (fun _ => 0)))] H := hP
  have hD : va_D A [(h0, .inr (3, [.ref q_1, .ref q_2, .int 0, .int 0, .int 0])), (q_1, .inl (k 1, 24, .inl (fun _ => 0))), (q_2, .inl (k 1, 24, .inl (fun _ => 0)))] := hD
  have hP9 := hP.sub (ws' := [(h0, .inr (3, [.ref q_1, .ref q_2, .int 0, .int 0, .int 0]))]) [0] rfl
  have hD9 := hD.sub (ws' := [(h0, .inr (3, [.ref q_1, .ref q_2, .int 0, .int 0, .int 0]))]) [0] (by decide) rfl
  refine W.widen (k := 2) (n := 48) (by decide) (by decide) ?_
  exact W.vret hx hb hr (fun t ht hW => ⟨⟨(q_1, q_2), rfl, trivial, by rw [ht]; exact hP9, hD9⟩, hS.F ht⟩) hS.2.2 dX3_init_35
end
section
theorem dX3_readFrom_0 : decode cX3_readFrom 0 = .ok (.aload_n 0, 1) := by decide +kernel
theorem dX3_readFrom_1 : decode cX3_readFrom 1 = .ok (.iconst 0, 1) := by decide +kernel
theorem dX3_readFrom_2 : decode cX3_readFrom 2 = .ok (.putfield 22, 3) := by decide +kernel
theorem dX3_readFrom_5 : decode cX3_readFrom 5 = .ok (.aload_n 0, 1) := by decide +kernel
theorem dX3_readFrom_6 : decode cX3_readFrom 6 = .ok (.iconst 0, 1) := by decide +kernel
theorem dX3_readFrom_7 : decode cX3_readFrom 7 = .ok (.putfield 25, 3) := by decide +kernel
theorem dX3_readFrom_10 : decode cX3_readFrom 10 = .ok (.aload_n 1, 1) := by decide +kernel
theorem dX3_readFrom_11 : decode cX3_readFrom 11 = .ok (.ldc 28, 2) := by decide +kernel
theorem dX3_readFrom_13 : decode cX3_readFrom 13 = .ok (.invokevirtual 29, 3) := by decide +kernel
theorem dX3_readFrom_16 : decode cX3_readFrom 16 = .ok (.aload_n 0, 1) := by decide +kernel
theorem dX3_readFrom_17 : decode cX3_readFrom 17 = .ok (.aload_n 1, 1) := by decide +kernel
theorem dX3_readFrom_18 : decode cX3_readFrom 18 = .ok (.iconst 0, 1) := by decide +kernel
theorem dX3_readFrom_19 : decode cX3_readFrom 19 = .ok (.bipush 24, 2) := by decide +kernel
theorem dX3_readFrom_21 : decode cX3_readFrom 21 = .ok (.invokevirtual 35, 3) := by decide +kernel
theorem dX3_readFrom_24 : decode cX3_readFrom 24 = .ok (.putfield 18, 3) := by decide +kernel
theorem dX3_readFrom_27 : decode cX3_readFrom 27 = .ok (.iconst 0, 1) := by decide +kernel
theorem dX3_readFrom_28 : decode cX3_readFrom 28 = .ok (.istore_n 2, 1) := by decide +kernel
theorem dX3_readFrom_29 : decode cX3_readFrom 29 = .ok (.iload_n 2, 1) := by decide +kernel
theorem dX3_readFrom_30 : decode cX3_readFrom 30 = .ok (.bipush 24, 2) := by decide +kernel
theorem dX3_readFrom_32 : decode cX3_readFrom 32 = .ok (.if_icmp .ge 30, 3) := by decide +kernel
theorem dX3_readFrom_35 : decode cX3_readFrom 35 = .ok (.aload_n 1, 1) := by decide +kernel
theorem dX3_readFrom_36 : decode cX3_readFrom 36 = .ok (.invokevirtual 39, 3) := by decide +kernel
theorem dX3_readFrom_39 : decode cX3_readFrom 39 = .ok (.ifCond .ne 23, 3) := by decide +kernel
theorem dX3_readFrom_62 : decode cX3_readFrom 62 = .ok (.aload_n 1, 1) := by decide +kernel
theorem dX3_readFrom_63 : decode cX3_readFrom 63 = .ok (.invokevirtual 39, 3) := by decide +kernel
theorem dX3_readFrom_66 : decode cX3_readFrom 66 = .ok (.ifCond .ne 27, 3) := by decide +kernel
theorem dX3_readFrom_93 : decode cX3_readFrom 93 = .ok (.aload_n 1, 1) := by decide +kernel
theorem dX3_readFrom_94 : decode cX3_readFrom 94 = .ok (.invokevirtual 39, 3) := by decide +kernel
theorem dX3_readFrom_97 : decode cX3_readFrom 97 = .ok (.ifCond .ne 19, 3) := by decide +kernel
theorem dX3_readFrom_116 : decode cX3_readFrom 116 = .ok (.return_, 1) := by decide +kernel
set_option maxHeartbeats 4000000 in
set_option maxRecDepth 100000 in
theorem k_Rule_readFrom (l : Launch) (D : va_G) (k : Nat → ClassId) (st : Nat → Nat) (lo : Nat) (h0 : Nat) (h1 : Nat) (h2 : Nat) (t0 : Nat) (t1 : Nat)  : CWv l D k st lo yX3_readFrom cX3_readFrom 3 none ({ frames := 6, cells := 0, slots := 0, locals := 129 }) 0 0 [.ref h0, .ref t0] [(h0, .inr (3, [.ref h1, .ref h2, .int 0, .int 0, .int 0])), (t0, .inr (6, [.ref t1, .int 0, .int 0, .int 0, .int 0, .int 0]))] (fun (_ : Unit) => True) (fun (_ : Unit) => [(t0, .inr (6, [.ref t1, .int 0, .int 0, .int 0, .int 1, .int 0]))]) := by
  intro sz
  refine Met.ofW (cc := cX3_readFrom) (maxL := 3) (ret := none) (by decide) rfl ?_
  intro p e s m args below meth c s₁ B hml hv
  obtain ⟨rfl, hsz, hlo, hP, hK, hDL, hZ⟩ := hv
  have hx := B.exec
  have hb := B.bytes
  have hr := B.returns
  have hts := WS_ts B.pre
  have hown : s.vm.findClass RX3 = some m.cls := findClass_of_methodNamed B.named
  have hlocks := B.notSynchronized
  subst hsz
  have hD := hDL.self (sz := s.heap.size)
  have hAlo := A_lo hDL hlo
  generalize hAe : va_A [(h0, .inr (3, [.ref h1, .ref h2, .int 0, .int 0, .int 0])), (t0, .inr (6, [.ref t1, .int 0, .int 0, .int 0, .int 0, .int 0]))] s.heap.size = A at hD hAlo ⊢
  have hA : ∀ q : Nat, s.heap.size ≤ q → A q := fun q h => by rw [← hAe]; exact Or.inr h
  have hS : va_S A s.heap s.heap [] := va_S.rf
  have hl := lv_entry ([.ref h0, .ref t0]) (n := 3) (Nat.le_of_ble_eq_true rfl)
  rw [lg_entry_eq]
  generalize (lg_sl ([.ref h0, .ref t0]) ++ List.replicate (3 - (lg_sl ([.ref h0, .ref t0])).length) Slot.unset).toArray = ls at hl ⊢
  have hl : lv_has ls 3 [(0, .ref h0), (1, .ref t0)] := hl
  refine lv_aload_n hx hb dX3_readFrom_0 rfl (lv_at hl 0 rfl) ?_
  refine lv_iconst (v := 0) hx hb dX3_readFrom_1 (by decide) ?_
  refine va_put (D := D) (ci := 3) (v := .int 0) (ty := .int) (C := RX3) (T := TX3) (N := 5) hx hb hts inX3 tyX3 tyX3_ok nmX3 hown hK hP hD hS 0 rfl rfl 3 (by decide) (hts _ tw_292) (fun _ h9 => h9) rfl (by decide +kernel) rfl rfl (Nat.le_of_ble_eq_true rfl) dX3_readFrom_2 (fun H locs hP hD hS => ?_)
  have hP : va_P D classes [(h0, .inr (3, [.ref h1, .ref h2, .int 0, .int 0, .int 0])), (t0, .inr (6, [.ref t1, .int 0, .int 0, .int 0, .int 0, .int 0]))] H := hP
  have hD : va_D A [(h0, .inr (3, [.ref h1, .ref h2, .int 0, .int 0, .int 0])), (t0, .inr (6, [.ref t1, .int 0, .int 0, .int 0, .int 0, .int 0]))] := hD
  refine lv_aload_n hx hb dX3_readFrom_5 rfl (lv_at hl 0 rfl) ?_
  refine lv_iconst (v := 0) hx hb dX3_readFrom_6 (by decide) ?_
  refine va_put (D := D) (ci := 3) (v := .int 0) (ty := .int) (C := RX3) (T := TX3) (N := 5) hx hb hts inX3 tyX3 tyX3_ok nmX3 hown hK hP hD hS 0 rfl rfl 4 (by decide) (hts _ tw_293) (fun _ h9 => h9) rfl (by decide +kernel) rfl rfl (Nat.le_of_ble_eq_true rfl) dX3_readFrom_7 (fun H locs hP hD hS => ?_)
  have hP : va_P D classes [(h0, .inr (3, [.ref h1, .ref h2, .int 0, .int 0, .int 0])), (t0, .inr (6, [.ref t1, .int 0, .int 0, .int 0, .int 0, .int 0]))] H := hP
  have hD : va_D A [(h0, .inr (3, [.ref h1, .ref h2, .int 0, .int 0, .int 0])), (t0, .inr (6, [.ref t1, .int 0, .int 0, .int 0, .int 0, .int 0]))] := hD
  refine lv_aload_n hx hb dX3_readFrom_10 rfl (lv_at hl 1 rfl) ?_
  refine va_ldcS hx hb hown hZ.2.2.2.2.2.1 dX3_readFrom_11 ?_
  refine rw_v (D := D) (wr := [(h0, .inr (3, [.ref h1, .ref h2, .int 0, .int 0, .int 0]))]) (va_runV (As := [.ref (st 2)]) (rest := []) ⟨hx, hb, hml, hown, hts⟩ ((k_needWord l D k st lo t0 t1 0 0) H.size) (cwV 1 hts (gV tw_680 tw_483 tw_484 tw_80 tw_485) rfl rfl rfl (by decide +kernel) ⟨Nat.le_of_ble_eq_true rfl, Nat.le_of_ble_eq_true rfl⟩) (pV hS hAlo hlo hP hK (va_Dlo hD hAlo) hZ [1] (by decide) rfl (ci := 6) (q0 := 0) rfl rfl) rfl rfl hl.1 rfl (lv_room (Nat.le_of_ble_eq_true rfl)) dX3_readFrom_13 ⟨Nat.le_of_ble_eq_true rfl, Nat.le_of_ble_eq_true rfl⟩) hS hA hP hD [1] [0] rfl rfl (by decide) (by decide) (fun u H locs hw_1 hP hD hS => ?_)
  have hP : va_P D classes [(h0, .inr (3, [.ref h1, .ref h2, .int 0, .int 0, .int 0])), (t0, .inr (6, [.ref t1, .int 0, .int 0, .int 0, .int 1, .int 0]))] H := hP
  have hD : va_D A [(h0, .inr (3, [.ref h1, .ref h2, .int 0, .int 0, .int 0])), (t0, .inr (6, [.ref t1, .int 0, .int 0, .int 0, .int 1, .int 0]))] := hD
  try dsimp only at hw_1
  refine lv_aload_n hx hb dX3_readFrom_16 rfl (lv_at hl 0 rfl) ?_
  refine lv_aload_n hx hb dX3_readFrom_17 rfl (lv_at hl 1 rfl) ?_
  refine lv_iconst (v := 0) hx hb dX3_readFrom_18 (by decide) ?_
  refine lv_bipush (v := 24) hx hb dX3_readFrom_19 (by decide) ?_
  refine ro_i (D := D) (va_runV (As := [.int 0, .int 24]) (rest := [.ref h0]) ⟨hx, hb, hml, hown, hts⟩ ((k_needNumber l D k st lo t0 t1 0 0 0 0 0 24) H.size) (cwV 2 hts (gV tw_681 tw_468 tw_469 tw_80 tw_470) rfl rfl rfl (by decide +kernel) ⟨Nat.le_of_ble_eq_true rfl, Nat.le_of_ble_eq_true rfl⟩) (pV hS hAlo hlo hP hK (va_Dlo hD hAlo) hZ [1] (by decide) rfl (ci := 6) (q0 := 0) rfl rfl) rfl rfl hl.1 rfl (lv_room (Nat.le_of_ble_eq_true rfl)) dX3_readFrom_21 ⟨Nat.le_of_ble_eq_true rfl, Nat.le_of_ble_eq_true rfl⟩) hS hA hP (fun r_2 H locs hw_2 hP hS => ?_)
  try dsimp only at hw_2
  subst hw_2
  refine va_put (D := D) (ci := 3) (v := .int 0) (ty := .int) (C := RX3) (T := TX3) (N := 5) hx hb hts inX3 tyX3 tyX3_ok nmX3 hown hK hP hD hS 0 rfl rfl 2 (by decide) (hts _ tw_291) (fun _ h9 => h9) rfl (by decide +kernel) rfl rfl (Nat.le_of_ble_eq_true rfl) dX3_readFrom_24 (fun H locs hP hD hS => ?_)
  have hP : va_P D classes [(h0, .inr (3, [.ref h1, .ref h2, .int 0, .int 0, .int 0])), (t0, .inr (6, [.ref t1, .int 0, .int 0, .int 0, .int 1, .int 0]))] H := hP
  have hD : va_D A [(h0, .inr (3, [.ref h1, .ref h2, .int 0, .int 0, .int 0])), (t0, .inr (6, [.ref t1, .int 0, .int 0, .int 0, .int 1, .int 0]))] := hD
  refine lv_iconst (v := 0) hx hb dX3_readFrom_27 (by decide) ?_
  refine lv_istore_n (lv' := [(2, .int 0), (0, .ref h0), (1, .ref t0)]) hx hb dX3_readFrom_28 rfl hl (by decide) rfl (fun ls hl => ?_)
  refine lv_iload_n hx hb dX3_readFrom_29 rfl (lv_at hl 0 rfl) ?_
  refine lv_bipush (v := 24) hx hb dX3_readFrom_30 (by decide) ?_
  refine lv_icmp_ge (tgt := 62) hx hb dX3_readFrom_32 (by decide) (fun h => absurd h (by decide)) (fun _ => ?_)
  refine lv_aload_n hx hb dX3_readFrom_35 rfl (lv_at hl 2 rfl) ?_
  refine ro_i (D := D) (va_runV (As := []) (rest := []) ⟨hx, hb, hml, hown, hts⟩ ((k_failed l D k st lo t0 t1 0 0 0 1 0) H.size) (cwV 0 hts (gV tw_682 tw_368 tw_369 tw_80 tw_370) rfl rfl rfl (by decide +kernel) ⟨Nat.le_of_ble_eq_true rfl, Nat.le_of_ble_eq_true rfl⟩) (pV hS hAlo hlo hP hK (va_Dlo hD hAlo) hZ [1] (by decide) rfl (ci := 6) (q0 := 0) rfl rfl) rfl rfl hl.1 rfl (lv_room (Nat.le_of_ble_eq_true rfl)) dX3_readFrom_36 ⟨Nat.le_of_ble_eq_true rfl, Nat.le_of_ble_eq_true rfl⟩) hS hA hP (fun r_3 H locs hw_3 hP hS => ?_)
  try dsimp only at hw_3
  rcases hw_3 with ⟨rfl, hw_3⟩ | ⟨rfl, hw_3⟩
  · refine lv_if_ne (tgt := 62) hx hb dX3_readFrom_39 (by decide) (fun _ => ?_) (fun h => absurd h (by decide))
    refine lv_aload_n hx hb dX3_readFrom_62 rfl (lv_at hl 2 rfl) ?_
    refine ro_i (D := D) (va_runV (As := []) (rest := []) ⟨hx, hb, hml, hown, hts⟩ ((k_failed l D k st lo t0 t1 0 0 0 1 0) H.size) (cwV 0 hts (gV tw_682 tw_368 tw_369 tw_80 tw_370) rfl rfl rfl (by decide +kernel) ⟨Nat.le_of_ble_eq_true rfl, Nat.le_of_ble_eq_true rfl⟩) (pV hS hAlo hlo hP hK (va_Dlo hD hAlo) hZ [1] (by decide) rfl (ci := 6) (q0 := 0) rfl rfl) rfl rfl hl.1 rfl (lv_room (Nat.le_of_ble_eq_true rfl)) dX3_readFrom_63 ⟨Nat.le_of_ble_eq_true rfl, Nat.le_of_ble_eq_true rfl⟩) hS hA hP (fun r_4 H locs hw_4 hP hS => ?_)
    try dsimp only at hw_4
    rcases hw_4 with ⟨rfl, hw_4⟩ | ⟨rfl, hw_4⟩
    · refine lv_if_ne (tgt := 93) hx hb dX3_readFrom_66 (by decide) (fun _ => ?_) (fun h => absurd h (by decide))
      refine lv_aload_n hx hb dX3_readFrom_93 rfl (lv_at hl 2 rfl) ?_
      refine ro_i (D := D) (va_runV (As := []) (rest := []) ⟨hx, hb, hml, hown, hts⟩ ((k_failed l D k st lo t0 t1 0 0 0 1 0) H.size) (cwV 0 hts (gV tw_682 tw_368 tw_369 tw_80 tw_370) rfl rfl rfl (by decide +kernel) ⟨Nat.le_of_ble_eq_true rfl, Nat.le_of_ble_eq_true rfl⟩) (pV hS hAlo hlo hP hK (va_Dlo hD hAlo) hZ [1] (by decide) rfl (ci := 6) (q0 := 0) rfl rfl) rfl rfl hl.1 rfl (lv_room (Nat.le_of_ble_eq_true rfl)) dX3_readFrom_94 ⟨Nat.le_of_ble_eq_true rfl, Nat.le_of_ble_eq_true rfl⟩) hS hA hP (fun r_5 H locs hw_5 hP hS => ?_)
      try dsimp only at hw_5
      rcases hw_5 with ⟨rfl, hw_5⟩ | ⟨rfl, hw_5⟩
      · refine lv_if_ne (tgt := 116) hx hb dX3_readFrom_97 (by decide) (fun _ => ?_) (fun h => absurd h (by decide))
        have hP9 := hP.sub (ws' := [(t0, .inr (6, [.ref t1, .int 0, .int 0, .int 0, .int 1, .int 0]))]) [1] rfl
        have hD9 := hD.sub (ws' := [(t0, .inr (6, [.ref t1, .int 0, .int 0, .int 0, .int 1, .int 0]))]) [1] (by decide) rfl
        exact W.vret hx hb hr (fun t ht hW => ⟨⟨(), rfl, trivial, by rw [ht]; exact hP9, hD9⟩, hS.F ht⟩) hS.2.2 dX3_readFrom_116
      · exact absurd hw_5 (by decide)
    · exact absurd hw_4 (by decide)
  · exact absurd hw_3 (by decide)
end
section
theorem dX4_init_0 : decode cX4_init 0 = .ok (.aload_n 0, 1) := by decide +kernel
theorem dX4_init_1 : decode cX4_init 1 = .ok (.invokespecial 3, 3) := by decide +kernel
theorem dX4_init_4 : decode cX4_init 4 = .ok (.aload_n 0, 1) := by decide +kernel
theorem dX4_init_5 : decode cX4_init 5 = .ok (.iconst 4, 1) := by decide +kernel
theorem dX4_init_6 : decode cX4_init 6 = .ok (.newarray .int, 2) := by decide +kernel
theorem dX4_init_8 : decode cX4_init 8 = .ok (.putfield 9, 3) := by decide +kernel
theorem dX4_init_11 : decode cX4_init 11 = .ok (.aload_n 0, 1) := by decide +kernel
theorem dX4_init_12 : decode cX4_init 12 = .ok (.iconst 4, 1) := by decide +kernel
theorem dX4_init_13 : decode cX4_init 13 = .ok (.newarray .int, 2) := by decide +kernel
theorem dX4_init_15 : decode cX4_init 15 = .ok (.putfield 15, 3) := by decide +kernel
theorem dX4_init_18 : decode cX4_init 18 = .ok (.aload_n 0, 1) := by decide +kernel
theorem dX4_init_19 : decode cX4_init 19 = .ok (.iconst 0, 1) := by decide +kernel
theorem dX4_init_20 : decode cX4_init 20 = .ok (.putfield 18, 3) := by decide +kernel
theorem dX4_init_23 : decode cX4_init 23 = .ok (.aload_n 0, 1) := by decide +kernel
theorem dX4_init_24 : decode cX4_init 24 = .ok (.iconst 0, 1) := by decide +kernel
theorem dX4_init_25 : decode cX4_init 25 = .ok (.putfield 22, 3) := by decide +kernel
theorem dX4_init_28 : decode cX4_init 28 = .ok (.aload_n 0, 1) := by decide +kernel
theorem dX4_init_29 : decode cX4_init 29 = .ok (.iconst 0, 1) := by decide +kernel
theorem dX4_init_30 : decode cX4_init 30 = .ok (.putfield 25, 3) := by decide +kernel
theorem dX4_init_33 : decode cX4_init 33 = .ok (.aload_n 0, 1) := by decide +kernel
theorem dX4_init_34 : decode cX4_init 34 = .ok (.iconst 0, 1) := by decide +kernel
theorem dX4_init_35 : decode cX4_init 35 = .ok (.putfield 28, 3) := by decide +kernel
theorem dX4_init_38 : decode cX4_init 38 = .ok (.return_, 1) := by decide +kernel
set_option maxHeartbeats 4000000 in
set_option maxRecDepth 100000 in
theorem k_Scene_init (l : Launch) (D : va_G) (k : Nat → ClassId) (st : Nat → Nat) (lo : Nat) (h0 : Nat)  : CWv l D k st lo yX4_init cX4_init 1 none ({ frames := 1, cells := 2, slots := 8, locals := 12 }) 2 8 [.ref h0] [(h0, .inr (4, [.null, .null, .int 0, .int 0, .int 0, .int 0]))] (fun (_ : Nat × Nat) => True) (fun (u : Nat × Nat) => match u with | (q, q1) => [(h0, .inr (4, [.ref q, .ref q1, .int 0, .int 0, .int 0, .int 0])), (q, .inl (k 1, 4, .inl (fun _ => 0))), (q1, .inl (k 1, 4, .inl (fun _ => 0)))]) := by
  intro sz
  refine Met.ofW (cc := cX4_init) (maxL := 1) (ret := none) (by decide) rfl ?_
  intro p e s m args below meth c s₁ B hml hv
  obtain ⟨rfl, hsz, hlo, hP, hK, hDL, hZ⟩ := hv
  have hx := B.exec
  have hb := B.bytes
  have hr := B.returns
  have hts := WS_ts B.pre
  have hown : s.vm.findClass RX4 = some m.cls := findClass_of_methodNamed B.named
  have hlocks := B.notSynchronized
  have hin : meth.name = "<init>" := (name_of_methodNamed B.named B.method).1
  subst hsz
  have hD := hDL.self (sz := s.heap.size)
  have hAlo := A_lo hDL hlo
  generalize hAe : va_A [(h0, .inr (4, [.null, .null, .int 0, .int 0, .int 0, .int 0]))] s.heap.size = A at hD hAlo ⊢
  have hA : ∀ q : Nat, s.heap.size ≤ q → A q := fun q h => by rw [← hAe]; exact Or.inr h
  have hS : va_S A s.heap s.heap [] := va_S.rf
  have hl := lv_entry ([.ref h0]) (n := 1) (Nat.le_of_ble_eq_true rfl)
  rw [lg_entry_eq]
  generalize (lg_sl ([.ref h0]) ++ List.replicate (1 - (lg_sl ([.ref h0])).length) Slot.unset).toArray = ls at hl ⊢
  have hl : lv_has ls 1 [(0, .ref h0)] := hl
  refine lv_aload_n hx hb dX4_init_0 rfl (lv_at hl 0 rfl) ?_
  refine W.objInit hx hb hown (hts _ tw_172) (hts _ tw_101) (hts _ tw_102) rfl (by rw [hml]; exact hl.1) rfl dX4_init_1 (Nat.le_of_ble_eq_true rfl) (Nat.le_of_ble_eq_true rfl) ?_
  refine W.eq (g2 := F0 m 4 ls []) rfl ?_
  refine lv_aload_n hx hb dX4_init_4 rfl (lv_at hl 0 rfl) ?_
  refine lv_iconst (v := 4) hx hb dX4_init_5 (by decide) ?_
  refine nwa (atype := .int) (t0 := 1) (a0 := (4, .inl (fun _ => 0))) hx hb (hts _ tw_164) rfl rfl hK hP hD hS hA (fun _ => rfl) (by decide) (N' := 4) (by decide) (by decide) (Nat.le_of_ble_eq_true rfl) (Nat.le_of_ble_eq_true rfl) dX4_init_6 (fun q_1 H hP hD hS => ?_)
  refine W.widen (k := 1) (n := 4) (by decide) (by decide) ?_
  have hP : va_P D classes [(h0, .inr (4, [.null, .null, .int 0, .int 0, .int 0, .int 0])), (q_1, .inl (k 1, 4, .inl (fun _ => 0)))] H := hP
  have hD : va_D A [(h0, .inr (4, [.null, .null, .int 0, .int 0, .int 0, .int 0])), (q_1, .inl (k 1, 4, .inl (fun _ => 0)))] := hD
  refine va_putF (D := D) (ci := 4) (v := .ref q_1) (ty := (.array .int)) (C := RX4) (T := TX4) (N := 6) hx hb hts inX4 tyX4 tyX4_ok nmX4 hown hK hP hD hS 0 rfl rfl 0 (by decide) (hts _ tw_173) (fun _ h9 => h9) rfl hin rfl (by decide +kernel) rfl rfl (Nat.le_of_ble_eq_true rfl) dX4_init_8 (fun H locs hP hD hS => ?_)
  have hP : va_P D classes [(h0, .inr (4, [.ref q_1, .null, .int 0, .int 0, .int 0, .int 0])), (q_1, .inl (k 1, 4, .inl (fun _ => 0)))] H := hP
  have hD : va_D A [(h0, .inr (4, [.ref q_1, .null, .int 0, .int 0, .int 0, .int 0])), (q_1, .inl (k 1, 4, .inl (fun _ => 0)))] := hD
  refine lv_aload_n hx hb dX4_init_11 rfl (lv_at hl 0 rfl) ?_
  refine lv_iconst (v := 4) hx hb dX4_init_12 (by decide) ?_
  refine nwa (atype := .int) (t0 := 1) (a0 := (4, .inl (fun _ => 0))) hx hb (hts _ tw_164) rfl rfl hK hP hD hS hA (fun _ => rfl) (by decide) (N' := 4) (by decide) (by decide) (Nat.le_of_ble_eq_true rfl) (Nat.le_of_ble_eq_true rfl) dX4_init_13 (fun q_2 H hP hD hS => ?_)
  refine W.widen (k := 2) (n := 8) (by decide) (by decide) ?_
  have hP : va_P D classes [(h0, .inr (4, [.ref q_1, .null, .int 0, .int 0, .int 0, .int 0])), (q_1, .inl (k 1, 4, .inl (fun _ => 0))), (q_2, .inl (k 1, 4, .inl (fun _ => 0)))] H := hP
  have hD : va_D A [(h0, .inr (4, [.ref q_1, .null, .int 0, .int 0, .int 0, .int 0])), (q_1, .inl (k 1, 4, .inl (fun _ => 0))), (q_2, .inl (k 1, 4, .inl (fun _ => 0)))] := hD
  refine va_putF (D := D) (ci := 4) (v := .ref q_2) (ty := (.array .int)) (C := RX4) (T := TX4) (N := 6) hx hb hts inX4 tyX4 tyX4_ok nmX4 hown hK hP hD hS 0 rfl rfl 1 (by decide) (hts _ tw_175) (fun _ h9 => h9) rfl hin rfl (by decide +kernel) rfl rfl (Nat.le_of_ble_eq_true rfl) dX4_init_15 (fun H locs hP hD hS => ?_)
  have hP : va_P D classes [(h0, .inr (4, [.ref q_1, .ref q_2, .int 0, .int 0, .int 0, .int 0])), (q_1, .inl (k 1, 4, .inl (fun _ => 0))), (q_2, .inl (k 1, 4, .inl (fun _ => 0)))] H := hP
  have hD : va_D A [(h0, .inr (4, [.ref q_1, .ref q_2, .int 0, .int 0, .int 0, .int 0])), (q_1, .inl (k 1, 4, .inl (fun _ => 0))), (q_2, .inl (k 1, 4, .inl (fun _ => 0)))] := hD
  refine lv_aload_n hx hb dX4_init_18 rfl (lv_at hl 0 rfl) ?_
  refine lv_iconst (v := 0) hx hb dX4_init_19 (by decide) ?_
  refine va_put (D := D) (ci := 4) (v := .int 0) (ty := .int) (C := RX4) (T := TX4) (N := 6) hx hb hts inX4 tyX4 tyX4_ok nmX4 hown hK hP hD hS 0 rfl rfl 2 (by decide) (hts _ tw_178) (fun _ h9 => h9) rfl (by decide +kernel) rfl rfl (Nat.le_of_ble_eq_true rfl) dX4_init_20 (fun H locs hP hD hS => ?_)
  have hP : va_P D classes [(h0, .inr (4, [.ref q_1, .ref q_2, .int 0, .int 0, .int 0, .int 0])), (q_1, .inl (k 1, 4, .inl (fun _ => 0))), (q_2, .inl (k 1, 4, .inl (fun _ => 0)))] H := hP
  have hD : va_D A [(h0, .inr (4, [.ref q_1, .ref q_2, .int 0, .int 0, .int 0, .int 0])), (q_1, .inl (k 1, 4, .inl (fun _ => 0))), (q_2, .inl (k 1, 4, .inl (fun _ => 0)))] := hD
  refine lv_aload_n hx hb dX4_init_23 rfl (lv_at hl 0 rfl) ?_
  refine lv_iconst (v := 0) hx hb dX4_init_24 (by decide) ?_
  refine va_put (D := D) (ci := 4) (v := .int 0) (ty := .int) (C := RX4) (T := TX4) (N := 6) hx hb hts inX4 tyX4 tyX4_ok nmX4 hown hK hP hD hS 0 rfl rfl 3 (by decide) (hts _ tw_181) (fun _ h9 => h9) rfl (by decide +kernel) rfl rfl (Nat.le_of_ble_eq_true rfl) dX4_init_25 (fun H locs hP hD hS => ?_)
  have hP : va_P D classes [(h0, .inr (4, [.ref q_1, .ref q_2, .int 0, .int 0, .int 0, .int 0])), (q_1, .inl (k 1, 4, .inl (fun _ => 0))), (q_2, .inl (k 1, 4, .inl (fun _ => 0)))] H := hP
  have hD : va_D A [(h0, .inr (4, [.ref q_1, .ref q_2, .int 0, .int 0, .int 0, .int 0])), (q_1, .inl (k 1, 4, .inl (fun _ => 0))), (q_2, .inl (k 1, 4, .inl (fun _ => 0)))] := hD
  refine lv_aload_n hx hb dX4_init_28 rfl (lv_at hl 0 rfl) ?_
  refine lv_iconst (v := 0) hx hb dX4_init_29 (by decide) ?_
  refine va_put (D := D) (ci := 4) (v := .int 0) (ty := .int) (C := RX4) (T := TX4) (N := 6) hx hb hts inX4 tyX4 tyX4_ok nmX4 hown hK hP hD hS 0 rfl rfl 4 (by decide) (hts _ tw_185) (fun _ h9 => h9) rfl (by decide +kernel) rfl rfl (Nat.le_of_ble_eq_true rfl) dX4_init_30 (fun H locs hP hD hS => ?_)
  have hP : va_P D classes [(h0, .inr (4, [.ref q_1, .ref q_2, .int 0, .int 0, .int 0, .int 0])), (q_1, .inl (k 1, 4, .inl (fun _ => 0))), (q_2, .inl (k 1, 4, .inl (fun _ => 0)))] H := hP
  have hD : va_D A [(h0, .inr (4, [.ref q_1, .ref q_2, .int 0, .int 0, .int 0, .int 0])), (q_1, .inl (k 1, 4, .inl (fun _ => 0))), (q_2, .inl (k 1, 4, .inl (fun _ => 0)))] := hD
  refine lv_aload_n hx hb dX4_init_33 rfl (lv_at hl 0 rfl) ?_
  refine lv_iconst (v := 0) hx hb dX4_init_34 (by decide) ?_
  refine va_put (D := D) (ci := 4) (v := .int 0) (ty := .int) (C := RX4) (T := TX4) (N := 6) hx hb hts inX4 tyX4 tyX4_ok nmX4 hown hK hP hD hS 0 rfl rfl 5 (by decide) (hts _ tw_188) (fun _ h9 => h9) rfl (by decide +kernel) rfl rfl (Nat.le_of_ble_eq_true rfl) dX4_init_35 (fun H locs hP hD hS => ?_)
  have hP : va_P D classes [(h0, .inr (4, [.ref q_1, .ref q_2, .int 0, .int 0, .int 0, .int 0])), (q_1, .inl (k 1, 4, .inl (fun _ => 0))), (q_2, .inl (k 1, 4, .inl (fun _ => 0)))] H := hP
  have hD : va_D A [(h0, .inr (4, [.ref q_1, .ref q_2, .int 0, .int 0, .int 0, .int 0])), (q_1, .inl (k 1, 4, .inl (fun _ => 0))), (q_2, .inl (k 1, 4, .inl (fun _ => 0)))] := hD
  have hP9 := hP.sub (ws' := [(h0, .inr (4, [.ref q_1, .ref q_2, .int 0, .int 0, .int 0, .int 0])), (q_1, .inl (k 1, 4, .inl (fun _ => 0))), (q_2, .inl (k 1, 4, .inl (fun _ => 0)))]) [0, 1, 2] rfl
  have hD9 := hD.sub (ws' := [(h0, .inr (4, [.ref q_1, .ref q_2, .int 0, .int 0, .int 0, .int 0])), (q_1, .inl (k 1, 4, .inl (fun _ => 0))), (q_2, .inl (k 1, 4, .inl (fun _ => 0)))]) [0, 1, 2] (by decide) rfl
  refine W.widen (k := 2) (n := 8) (by decide) (by decide) ?_
  exact W.vret hx hb hr (fun t ht hW => ⟨⟨(q_1, q_2), rfl, trivial, by rw [ht]; exact hP9, hD9⟩, hS.F ht⟩) hS.2.2 dX4_init_38
end
section
theorem dX2_init_0 : decode cX2_init 0 = .ok (.aload_n 0, 1) := by decide +kernel
theorem dX2_init_1 : decode cX2_init 1 = .ok (.invokespecial 3, 3) := by decide +kernel
theorem dX2_init_4 : decode cX2_init 4 = .ok (.aload_n 0, 1) := by decide +kernel
theorem dX2_init_5 : decode cX2_init 5 = .ok (.bipush 25, 2) := by decide +kernel
theorem dX2_init_7 : decode cX2_init 7 = .ok (.newarray .int, 2) := by decide +kernel
theorem dX2_init_9 : decode cX2_init 9 = .ok (.putfield 9, 3) := by decide +kernel
theorem dX2_init_12 : decode cX2_init 12 = .ok (.aload_n 0, 1) := by decide +kernel
theorem dX2_init_13 : decode cX2_init 13 = .ok (.bipush 25, 2) := by decide +kernel
theorem dX2_init_15 : decode cX2_init 15 = .ok (.newarray .int, 2) := by decide +kernel
theorem dX2_init_17 : decode cX2_init 17 = .ok (.putfield 15, 3) := by decide +kernel
theorem dX2_init_20 : decode cX2_init 20 = .ok (.aload_n 0, 1) := by decide +kernel
theorem dX2_init_21 : decode cX2_init 21 = .ok (.bipush 25, 2) := by decide +kernel
theorem dX2_init_23 : decode cX2_init 23 = .ok (.newarray .int, 2) := by decide +kernel
theorem dX2_init_25 : decode cX2_init 25 = .ok (.putfield 18, 3) := by decide +kernel
theorem dX2_init_28 : decode cX2_init 28 = .ok (.aload_n 0, 1) := by decide +kernel
theorem dX2_init_29 : decode cX2_init 29 = .ok (.iconst 0, 1) := by decide +kernel
theorem dX2_init_30 : decode cX2_init 30 = .ok (.putfield 21, 3) := by decide +kernel
theorem dX2_init_33 : decode cX2_init 33 = .ok (.aload_n 0, 1) := by decide +kernel
theorem dX2_init_34 : decode cX2_init 34 = .ok (.iconst 0, 1) := by decide +kernel
theorem dX2_init_35 : decode cX2_init 35 = .ok (.putfield 25, 3) := by decide +kernel
theorem dX2_init_38 : decode cX2_init 38 = .ok (.return_, 1) := by decide +kernel
set_option maxHeartbeats 4000000 in
set_option maxRecDepth 100000 in
theorem k_Reckoner_init (l : Launch) (D : va_G) (k : Nat → ClassId) (st : Nat → Nat) (lo : Nat) (h0 : Nat)  : CWv l D k st lo yX2_init cX2_init 1 none ({ frames := 1, cells := 3, slots := 75, locals := 12 }) 3 75 [.ref h0] [(h0, .inr (2, [.null, .null, .null, .int 0, .int 0]))] (fun (_ : Unit) => True) (fun (_ : Unit) => []) := by
  intro sz
  refine Met.ofW (cc := cX2_init) (maxL := 1) (ret := none) (by decide) rfl ?_
  intro p e s m args below meth c s₁ B hml hv
  obtain ⟨rfl, hsz, hlo, hP, hK, hDL, hZ⟩ := hv
  have hx := B.exec
  have hb := B.bytes
  have hr := B.returns
  have hts := WS_ts B.pre
  have hown : s.vm.findClass RX2 = some m.cls := findClass_of_methodNamed B.named
  have hlocks := B.notSynchronized
  have hin : meth.name = "<init>" := (name_of_methodNamed B.named B.method).1
  subst hsz
  have hD := hDL.self (sz := s.heap.size)
  have hAlo := A_lo hDL hlo
  generalize hAe : va_A [(h0, .inr (2, [.null, .null, .null, .int 0, .int 0]))] s.heap.size = A at hD hAlo ⊢
  have hA : ∀ q : Nat, s.heap.size ≤ q → A q := fun q h => by rw [← hAe]; exact Or.inr h
  have hS : va_S A s.heap s.heap [] := va_S.rf
  have hl := lv_entry ([.ref h0]) (n := 1) (Nat.le_of_ble_eq_true rfl)
  rw [lg_entry_eq]
  generalize (lg_sl ([.ref h0]) ++ List.replicate (1 - (lg_sl ([.ref h0])).length) Slot.unset).toArray = ls at hl ⊢
  have hl : lv_has ls 1 [(0, .ref h0)] := hl
  refine lv_aload_n hx hb dX2_init_0 rfl (lv_at hl 0 rfl) ?_
  refine W.objInit hx hb hown (hts _ tw_209) (hts _ tw_101) (hts _ tw_102) rfl (by rw [hml]; exact hl.1) rfl dX2_init_1 (Nat.le_of_ble_eq_true rfl) (Nat.le_of_ble_eq_true rfl) ?_
  refine W.eq (g2 := F0 m 4 ls []) rfl ?_
  refine lv_aload_n hx hb dX2_init_4 rfl (lv_at hl 0 rfl) ?_
  refine lv_bipush (v := 25) hx hb dX2_init_5 (by decide) ?_
  refine nwa (atype := .int) (t0 := 1) (a0 := (25, .inl (fun _ => 0))) hx hb (hts _ tw_164) rfl rfl hK hP hD hS hA (fun _ => rfl) (by decide) (N' := 25) (by decide) (by decide) (Nat.le_of_ble_eq_true rfl) (Nat.le_of_ble_eq_true rfl) dX2_init_7 (fun q_1 H hP hD hS => ?_)
  refine W.widen (k := 1) (n := 25) (by decide) (by decide) ?_
  have hP : va_P D classes [(h0, .inr (2, [.null, .null, .null, .int 0, .int 0])), (q_1, .inl (k 1, 25, .inl (fun _ => 0)))] H := hP
  have hD : va_D A [(h0, .inr (2, [.null, .null, .null, .int 0, .int 0])), (q_1, .inl (k 1, 25, .inl (fun _ => 0)))] := hD
  refine va_putF (D := D) (ci := 2) (v := .ref q_1) (ty := (.array .int)) (C := RX2) (T := TX2) (N := 5) hx hb hts inX2 tyX2 tyX2_ok nmX2 hown hK hP hD hS 0 rfl rfl 0 (by decide) (hts _ tw_210) (fun _ h9 => h9) rfl hin rfl (by decide +kernel) rfl rfl (Nat.le_of_ble_eq_true rfl) dX2_init_9 (fun H locs hP hD hS => ?_)
  have hP : va_P D classes [(h0, .inr (2, [.ref q_1, .null, .null, .int 0, .int 0])), (q_1, .inl (k 1, 25, .inl (fun _ => 0)))] H := hP
  have hD : va_D A [(h0, .inr (2, [.ref q_1, .null, .null, .int 0, .int 0])), (q_1, .inl (k 1, 25, .inl (fun _ => 0)))] := hD
  refine lv_aload_n hx hb dX2_init_12 rfl (lv_at hl 0 rfl) ?_
  refine lv_bipush (v := 25) hx hb dX2_init_13 (by decide) ?_
  refine nwa (atype := .int) (t0 := 1) (a0 := (25, .inl (fun _ => 0))) hx hb (hts _ tw_164) rfl rfl hK hP hD hS hA (fun _ => rfl) (by decide) (N' := 25) (by decide) (by decide) (Nat.le_of_ble_eq_true rfl) (Nat.le_of_ble_eq_true rfl) dX2_init_15 (fun q_2 H hP hD hS => ?_)
  refine W.widen (k := 2) (n := 50) (by decide) (by decide) ?_
  have hP : va_P D classes [(h0, .inr (2, [.ref q_1, .null, .null, .int 0, .int 0])), (q_1, .inl (k 1, 25, .inl (fun _ => 0))), (q_2, .inl (k 1, 25, .inl (fun _ => 0)))] H := hP
  have hD : va_D A [(h0, .inr (2, [.ref q_1, .null, .null, .int 0, .int 0])), (q_1, .inl (k 1, 25, .inl (fun _ => 0))), (q_2, .inl (k 1, 25, .inl (fun _ => 0)))] := hD
  refine va_putF (D := D) (ci := 2) (v := .ref q_2) (ty := (.array .int)) (C := RX2) (T := TX2) (N := 5) hx hb hts inX2 tyX2 tyX2_ok nmX2 hown hK hP hD hS 0 rfl rfl 1 (by decide) (hts _ tw_211) (fun _ h9 => h9) rfl hin rfl (by decide +kernel) rfl rfl (Nat.le_of_ble_eq_true rfl) dX2_init_17 (fun H locs hP hD hS => ?_)
  have hP : va_P D classes [(h0, .inr (2, [.ref q_1, .ref q_2, .null, .int 0, .int 0])), (q_1, .inl (k 1, 25, .inl (fun _ => 0))), (q_2, .inl (k 1, 25, .inl (fun _ => 0)))] H := hP
  have hD : va_D A [(h0, .inr (2, [.ref q_1, .ref q_2, .null, .int 0, .int 0])), (q_1, .inl (k 1, 25, .inl (fun _ => 0))), (q_2, .inl (k 1, 25, .inl (fun _ => 0)))] := hD
  refine lv_aload_n hx hb dX2_init_20 rfl (lv_at hl 0 rfl) ?_
  refine lv_bipush (v := 25) hx hb dX2_init_21 (by decide) ?_
  refine nwa (atype := .int) (t0 := 1) (a0 := (25, .inl (fun _ => 0))) hx hb (hts _ tw_164) rfl rfl hK hP hD hS hA (fun _ => rfl) (by decide) (N' := 25) (by decide) (by decide) (Nat.le_of_ble_eq_true rfl) (Nat.le_of_ble_eq_true rfl) dX2_init_23 (fun q_3 H hP hD hS => ?_)
  refine W.widen (k := 3) (n := 75) (by decide) (by decide) ?_
  have hP : va_P D classes [(h0, .inr (2, [.ref q_1, .ref q_2, .null, .int 0, .int 0])), (q_1, .inl (k 1, 25, .inl (fun _ => 0))), (q_2, .inl (k 1, 25, .inl (fun _ => 0))), (q_3, .inl (k 1, 25, .inl (fun _ => 0)))] H := hP
  have hD : va_D A [(h0, .inr (2, [.ref q_1, .ref q_2, .null, .int 0, .int 0])), (q_1, .inl (k 1, 25, .inl (fun _ => 0))), (q_2, .inl (k 1, 25, .inl (fun _ => 0))), (q_3, .inl (k 1, 25, .inl (fun _ => 0)))] := hD
  refine va_putF (D := D) (ci := 2) (v := .ref q_3) (ty := (.array .int)) (C := RX2) (T := TX2) (N := 5) hx hb hts inX2 tyX2 tyX2_ok nmX2 hown hK hP hD hS 0 rfl rfl 2 (by decide) (hts _ tw_212) (fun _ h9 => h9) rfl hin rfl (by decide +kernel) rfl rfl (Nat.le_of_ble_eq_true rfl) dX2_init_25 (fun H locs hP hD hS => ?_)
  have hP : va_P D classes [(h0, .inr (2, [.ref q_1, .ref q_2, .ref q_3, .int 0, .int 0])), (q_1, .inl (k 1, 25, .inl (fun _ => 0))), (q_2, .inl (k 1, 25, .inl (fun _ => 0))), (q_3, .inl (k 1, 25, .inl (fun _ => 0)))] H := hP
  have hD : va_D A [(h0, .inr (2, [.ref q_1, .ref q_2, .ref q_3, .int 0, .int 0])), (q_1, .inl (k 1, 25, .inl (fun _ => 0))), (q_2, .inl (k 1, 25, .inl (fun _ => 0))), (q_3, .inl (k 1, 25, .inl (fun _ => 0)))] := hD
  refine lv_aload_n hx hb dX2_init_28 rfl (lv_at hl 0 rfl) ?_
  refine lv_iconst (v := 0) hx hb dX2_init_29 (by decide) ?_
  refine va_put (D := D) (ci := 2) (v := .int 0) (ty := .int) (C := RX2) (T := TX2) (N := 5) hx hb hts inX2 tyX2 tyX2_ok nmX2 hown hK hP hD hS 0 rfl rfl 3 (by decide) (hts _ tw_213) (fun _ h9 => h9) rfl (by decide +kernel) rfl rfl (Nat.le_of_ble_eq_true rfl) dX2_init_30 (fun H locs hP hD hS => ?_)
  have hP : va_P D classes [(h0, .inr (2, [.ref q_1, .ref q_2, .ref q_3, .int 0, .int 0])), (q_1, .inl (k 1, 25, .inl (fun _ => 0))), (q_2, .inl (k 1, 25, .inl (fun _ => 0))), (q_3, .inl (k 1, 25, .inl (fun _ => 0)))] H := hP
  have hD : va_D A [(h0, .inr (2, [.ref q_1, .ref q_2, .ref q_3, .int 0, .int 0])), (q_1, .inl (k 1, 25, .inl (fun _ => 0))), (q_2, .inl (k 1, 25, .inl (fun _ => 0))), (q_3, .inl (k 1, 25, .inl (fun _ => 0)))] := hD
  refine lv_aload_n hx hb dX2_init_33 rfl (lv_at hl 0 rfl) ?_
  refine lv_iconst (v := 0) hx hb dX2_init_34 (by decide) ?_
  refine va_put (D := D) (ci := 2) (v := .int 0) (ty := .int) (C := RX2) (T := TX2) (N := 5) hx hb hts inX2 tyX2 tyX2_ok nmX2 hown hK hP hD hS 0 rfl rfl 4 (by decide) (hts _ tw_215) (fun _ h9 => h9) rfl (by decide +kernel) rfl rfl (Nat.le_of_ble_eq_true rfl) dX2_init_35 (fun H locs hP hD hS => ?_)
  have hP : va_P D classes [(h0, .inr (2, [.ref q_1, .ref q_2, .ref q_3, .int 0, .int 0])), (q_1, .inl (k 1, 25, .inl (fun _ => 0))), (q_2, .inl (k 1, 25, .inl (fun _ => 0))), (q_3, .inl (k 1, 25, .inl (fun _ => 0)))] H := hP
  have hD : va_D A [(h0, .inr (2, [.ref q_1, .ref q_2, .ref q_3, .int 0, .int 0])), (q_1, .inl (k 1, 25, .inl (fun _ => 0))), (q_2, .inl (k 1, 25, .inl (fun _ => 0))), (q_3, .inl (k 1, 25, .inl (fun _ => 0)))] := hD
  have hP9 := hP.sub (ws' := []) [] rfl
  have hD9 := hD.sub (ws' := []) [] (by decide) rfl
  refine W.widen (k := 3) (n := 75) (by decide) (by decide) ?_
  exact W.vret hx hb hr (fun t ht hW => ⟨⟨(), rfl, trivial, by rw [ht]; exact hP9, hD9⟩, hS.F ht⟩) hS.2.2 dX2_init_38
end
section
theorem dX1_init_0 : decode cX1_init 0 = .ok (.aload_n 0, 1) := by decide +kernel
theorem dX1_init_1 : decode cX1_init 1 = .ok (.invokespecial 3, 3) := by decide +kernel
theorem dX1_init_4 : decode cX1_init 4 = .ok (.aload_n 0, 1) := by decide +kernel
theorem dX1_init_5 : decode cX1_init 5 = .ok (.iconst 4, 1) := by decide +kernel
theorem dX1_init_6 : decode cX1_init 6 = .ok (.newarray .int, 2) := by decide +kernel
theorem dX1_init_8 : decode cX1_init 8 = .ok (.putfield 9, 3) := by decide +kernel
theorem dX1_init_11 : decode cX1_init 11 = .ok (.aload_n 0, 1) := by decide +kernel
theorem dX1_init_12 : decode cX1_init 12 = .ok (.bipush 100, 2) := by decide +kernel
theorem dX1_init_14 : decode cX1_init 14 = .ok (.newarray .int, 2) := by decide +kernel
theorem dX1_init_16 : decode cX1_init 16 = .ok (.putfield 15, 3) := by decide +kernel
theorem dX1_init_19 : decode cX1_init 19 = .ok (.aload_n 0, 1) := by decide +kernel
theorem dX1_init_20 : decode cX1_init 20 = .ok (.bipush 16, 2) := by decide +kernel
theorem dX1_init_22 : decode cX1_init 22 = .ok (.newarray .int, 2) := by decide +kernel
theorem dX1_init_24 : decode cX1_init 24 = .ok (.putfield 18, 3) := by decide +kernel
theorem dX1_init_27 : decode cX1_init 27 = .ok (.aload_n 0, 1) := by decide +kernel
theorem dX1_init_28 : decode cX1_init 28 = .ok (.iconst 0, 1) := by decide +kernel
theorem dX1_init_29 : decode cX1_init 29 = .ok (.putfield 21, 3) := by decide +kernel
theorem dX1_init_32 : decode cX1_init 32 = .ok (.aload_n 0, 1) := by decide +kernel
theorem dX1_init_33 : decode cX1_init 33 = .ok (.iconst 0, 1) := by decide +kernel
theorem dX1_init_34 : decode cX1_init 34 = .ok (.putfield 25, 3) := by decide +kernel
theorem dX1_init_37 : decode cX1_init 37 = .ok (.aload_n 0, 1) := by decide +kernel
theorem dX1_init_38 : decode cX1_init 38 = .ok (.iconst 0, 1) := by decide +kernel
theorem dX1_init_39 : decode cX1_init 39 = .ok (.putfield 28, 3) := by decide +kernel
theorem dX1_init_42 : decode cX1_init 42 = .ok (.aload_n 0, 1) := by decide +kernel
theorem dX1_init_43 : decode cX1_init 43 = .ok (.iconst 0, 1) := by decide +kernel
theorem dX1_init_44 : decode cX1_init 44 = .ok (.putfield 31, 3) := by decide +kernel
theorem dX1_init_47 : decode cX1_init 47 = .ok (.aload_n 0, 1) := by decide +kernel
theorem dX1_init_48 : decode cX1_init 48 = .ok (.aload_n 1, 1) := by decide +kernel
theorem dX1_init_49 : decode cX1_init 49 = .ok (.putfield 34, 3) := by decide +kernel
theorem dX1_init_52 : decode cX1_init 52 = .ok (.return_, 1) := by decide +kernel
set_option maxHeartbeats 4000000 in
set_option maxRecDepth 100000 in
theorem k_Parking_init (l : Launch) (D : va_G) (k : Nat → ClassId) (st : Nat → Nat) (lo : Nat) (h0 : Nat) (p0 : Nat)  : CWv l D k st lo yX1_init cX1_init 2 none ({ frames := 1, cells := 3, slots := 120, locals := 12 }) 3 120 [.ref h0, .ref p0] [(h0, .inr (1, [.null, .null, .null, .null, .int 0, .int 0, .int 0, .int 0]))] (fun (_ : Unit) => True) (fun (_ : Unit) => []) := by
  intro sz
  refine Met.ofW (cc := cX1_init) (maxL := 2) (ret := none) (by decide) rfl ?_
  intro p e s m args below meth c s₁ B hml hv
  obtain ⟨rfl, hsz, hlo, hP, hK, hDL, hZ⟩ := hv
  have hx := B.exec
  have hb := B.bytes
  have hr := B.returns
  have hts := WS_ts B.pre
  have hown : s.vm.findClass RX1 = some m.cls := findClass_of_methodNamed B.named
  have hlocks := B.notSynchronized
  have hin : meth.name = "<init>" := (name_of_methodNamed B.named B.method).1
  subst hsz
  have hD := hDL.self (sz := s.heap.size)
  have hAlo := A_lo hDL hlo
  generalize hAe : va_A [(h0, .inr (1, [.null, .null, .null, .null, .int 0, .int 0, .int 0, .int 0]))] s.heap.size = A at hD hAlo ⊢
  have hA : ∀ q : Nat, s.heap.size ≤ q → A q := fun q h => by rw [← hAe]; exact Or.inr h
  have hS : va_S A s.heap s.heap [] := va_S.rf
  have hl := lv_entry ([.ref h0, .ref p0]) (n := 2) (Nat.le_of_ble_eq_true rfl)
  rw [lg_entry_eq]
  generalize (lg_sl ([.ref h0, .ref p0]) ++ List.replicate (2 - (lg_sl ([.ref h0, .ref p0])).length) Slot.unset).toArray = ls at hl ⊢
  have hl : lv_has ls 2 [(0, .ref h0), (1, .ref p0)] := hl
  refine lv_aload_n hx hb dX1_init_0 rfl (lv_at hl 0 rfl) ?_
  refine W.objInit hx hb hown (hts _ tw_234) (hts _ tw_101) (hts _ tw_102) rfl (by rw [hml]; exact hl.1) rfl dX1_init_1 (Nat.le_of_ble_eq_true rfl) (Nat.le_of_ble_eq_true rfl) ?_
  refine W.eq (g2 := F0 m 4 ls []) rfl ?_
  refine lv_aload_n hx hb dX1_init_4 rfl (lv_at hl 0 rfl) ?_
  refine lv_iconst (v := 4) hx hb dX1_init_5 (by decide) ?_
  refine nwa (atype := .int) (t0 := 1) (a0 := (4, .inl (fun _ => 0))) hx hb (hts _ tw_164) rfl rfl hK hP hD hS hA (fun _ => rfl) (by decide) (N' := 4) (by decide) (by decide) (Nat.le_of_ble_eq_true rfl) (Nat.le_of_ble_eq_true rfl) dX1_init_6 (fun q_1 H hP hD hS => ?_)
  refine W.widen (k := 1) (n := 4) (by decide) (by decide) ?_
  have hP : va_P D classes [(h0, .inr (1, [.null, .null, .null, .null, .int 0, .int 0, .int 0, .int 0])), (q_1, .inl (k 1, 4, .inl (fun _ => 0)))] H := hP
  have hD : va_D A [(h0, .inr (1, [.null, .null, .null, .null, .int 0, .int 0, .int 0, .int 0])), (q_1, .inl (k 1, 4, .inl (fun _ => 0)))] := hD
  refine va_putF (D := D) (ci := 1) (v := .ref q_1) (ty := (.array .int)) (C := RX1) (T := TX1) (N := 8) hx hb hts inX1 tyX1 tyX1_ok nmX1 hown hK hP hD hS 0 rfl rfl 1 (by decide) (hts _ tw_236) (fun _ h9 => h9) rfl hin rfl (by decide +kernel) rfl rfl (Nat.le_of_ble_eq_true rfl) dX1_init_8 (fun H locs hP hD hS => ?_)
  have hP : va_P D classes [(h0, .inr (1, [.null, .ref q_1, .null, .null, .int 0, .int 0, .int 0, .int 0])), (q_1, .inl (k 1, 4, .inl (fun _ => 0)))] H := hP
  have hD : va_D A [(h0, .inr (1, [.null, .ref q_1, .null, .null, .int 0, .int 0, .int 0, .int 0])), (q_1, .inl (k 1, 4, .inl (fun _ => 0)))] := hD
  refine lv_aload_n hx hb dX1_init_11 rfl (lv_at hl 0 rfl) ?_
  refine lv_bipush (v := 100) hx hb dX1_init_12 (by decide) ?_
  refine nwa (atype := .int) (t0 := 1) (a0 := (100, .inl (fun _ => 0))) hx hb (hts _ tw_164) rfl rfl hK hP hD hS hA (fun _ => rfl) (by decide) (N' := 100) (by decide) (by decide) (Nat.le_of_ble_eq_true rfl) (Nat.le_of_ble_eq_true rfl) dX1_init_14 (fun q_2 H hP hD hS => ?_)
  refine W.widen (k := 2) (n := 104) (by decide) (by decide) ?_
  have hP : va_P D classes [(h0, .inr (1, [.null, .ref q_1, .null, .null, .int 0, .int 0, .int 0, .int 0])), (q_1, .inl (k 1, 4, .inl (fun _ => 0))), (q_2, .inl (k 1, 100, .inl (fun _ => 0)))] H := hP
  have hD : va_D A [(h0, .inr (1, [.null, .ref q_1, .null, .null, .int 0, .int 0, .int 0, .int 0])), (q_1, .inl (k 1, 4, .inl (fun _ => 0))), (q_2, .inl (k 1, 100, .inl (fun _ => 0)))] := hD
  refine va_putF (D := D) (ci := 1) (v := .ref q_2) (ty := (.array .int)) (C := RX1) (T := TX1) (N := 8) hx hb hts inX1 tyX1 tyX1_ok nmX1 hown hK hP hD hS 0 rfl rfl 2 (by decide) (hts _ tw_238) (fun _ h9 => h9) rfl hin rfl (by decide +kernel) rfl rfl (Nat.le_of_ble_eq_true rfl) dX1_init_16 (fun H locs hP hD hS => ?_)
  have hP : va_P D classes [(h0, .inr (1, [.null, .ref q_1, .ref q_2, .null, .int 0, .int 0, .int 0, .int 0])), (q_1, .inl (k 1, 4, .inl (fun _ => 0))), (q_2, .inl (k 1, 100, .inl (fun _ => 0)))] H := hP
  have hD : va_D A [(h0, .inr (1, [.null, .ref q_1, .ref q_2, .null, .int 0, .int 0, .int 0, .int 0])), (q_1, .inl (k 1, 4, .inl (fun _ => 0))), (q_2, .inl (k 1, 100, .inl (fun _ => 0)))] := hD
  refine lv_aload_n hx hb dX1_init_19 rfl (lv_at hl 0 rfl) ?_
  refine lv_bipush (v := 16) hx hb dX1_init_20 (by decide) ?_
  refine nwa (atype := .int) (t0 := 1) (a0 := (16, .inl (fun _ => 0))) hx hb (hts _ tw_164) rfl rfl hK hP hD hS hA (fun _ => rfl) (by decide) (N' := 16) (by decide) (by decide) (Nat.le_of_ble_eq_true rfl) (Nat.le_of_ble_eq_true rfl) dX1_init_22 (fun q_3 H hP hD hS => ?_)
  refine W.widen (k := 3) (n := 120) (by decide) (by decide) ?_
  have hP : va_P D classes [(h0, .inr (1, [.null, .ref q_1, .ref q_2, .null, .int 0, .int 0, .int 0, .int 0])), (q_1, .inl (k 1, 4, .inl (fun _ => 0))), (q_2, .inl (k 1, 100, .inl (fun _ => 0))), (q_3, .inl (k 1, 16, .inl (fun _ => 0)))] H := hP
  have hD : va_D A [(h0, .inr (1, [.null, .ref q_1, .ref q_2, .null, .int 0, .int 0, .int 0, .int 0])), (q_1, .inl (k 1, 4, .inl (fun _ => 0))), (q_2, .inl (k 1, 100, .inl (fun _ => 0))), (q_3, .inl (k 1, 16, .inl (fun _ => 0)))] := hD
  refine va_putF (D := D) (ci := 1) (v := .ref q_3) (ty := (.array .int)) (C := RX1) (T := TX1) (N := 8) hx hb hts inX1 tyX1 tyX1_ok nmX1 hown hK hP hD hS 0 rfl rfl 3 (by decide) (hts _ tw_239) (fun _ h9 => h9) rfl hin rfl (by decide +kernel) rfl rfl (Nat.le_of_ble_eq_true rfl) dX1_init_24 (fun H locs hP hD hS => ?_)
  have hP : va_P D classes [(h0, .inr (1, [.null, .ref q_1, .ref q_2, .ref q_3, .int 0, .int 0, .int 0, .int 0])), (q_1, .inl (k 1, 4, .inl (fun _ => 0))), (q_2, .inl (k 1, 100, .inl (fun _ => 0))), (q_3, .inl (k 1, 16, .inl (fun _ => 0)))] H := hP
  have hD : va_D A [(h0, .inr (1, [.null, .ref q_1, .ref q_2, .ref q_3, .int 0, .int 0, .int 0, .int 0])), (q_1, .inl (k 1, 4, .inl (fun _ => 0))), (q_2, .inl (k 1, 100, .inl (fun _ => 0))), (q_3, .inl (k 1, 16, .inl (fun _ => 0)))] := hD
  refine lv_aload_n hx hb dX1_init_27 rfl (lv_at hl 0 rfl) ?_
  refine lv_iconst (v := 0) hx hb dX1_init_28 (by decide) ?_
  refine va_put (D := D) (ci := 1) (v := .int 0) (ty := .int) (C := RX1) (T := TX1) (N := 8) hx hb hts inX1 tyX1 tyX1_ok nmX1 hown hK hP hD hS 0 rfl rfl 4 (by decide) (hts _ tw_240) (fun _ h9 => h9) rfl (by decide +kernel) rfl rfl (Nat.le_of_ble_eq_true rfl) dX1_init_29 (fun H locs hP hD hS => ?_)
  have hP : va_P D classes [(h0, .inr (1, [.null, .ref q_1, .ref q_2, .ref q_3, .int 0, .int 0, .int 0, .int 0])), (q_1, .inl (k 1, 4, .inl (fun _ => 0))), (q_2, .inl (k 1, 100, .inl (fun _ => 0))), (q_3, .inl (k 1, 16, .inl (fun _ => 0)))] H := hP
  have hD : va_D A [(h0, .inr (1, [.null, .ref q_1, .ref q_2, .ref q_3, .int 0, .int 0, .int 0, .int 0])), (q_1, .inl (k 1, 4, .inl (fun _ => 0))), (q_2, .inl (k 1, 100, .inl (fun _ => 0))), (q_3, .inl (k 1, 16, .inl (fun _ => 0)))] := hD
  refine lv_aload_n hx hb dX1_init_32 rfl (lv_at hl 0 rfl) ?_
  refine lv_iconst (v := 0) hx hb dX1_init_33 (by decide) ?_
  refine va_put (D := D) (ci := 1) (v := .int 0) (ty := .int) (C := RX1) (T := TX1) (N := 8) hx hb hts inX1 tyX1 tyX1_ok nmX1 hown hK hP hD hS 0 rfl rfl 5 (by decide) (hts _ tw_241) (fun _ h9 => h9) rfl (by decide +kernel) rfl rfl (Nat.le_of_ble_eq_true rfl) dX1_init_34 (fun H locs hP hD hS => ?_)
  have hP : va_P D classes [(h0, .inr (1, [.null, .ref q_1, .ref q_2, .ref q_3, .int 0, .int 0, .int 0, .int 0])), (q_1, .inl (k 1, 4, .inl (fun _ => 0))), (q_2, .inl (k 1, 100, .inl (fun _ => 0))), (q_3, .inl (k 1, 16, .inl (fun _ => 0)))] H := hP
  have hD : va_D A [(h0, .inr (1, [.null, .ref q_1, .ref q_2, .ref q_3, .int 0, .int 0, .int 0, .int 0])), (q_1, .inl (k 1, 4, .inl (fun _ => 0))), (q_2, .inl (k 1, 100, .inl (fun _ => 0))), (q_3, .inl (k 1, 16, .inl (fun _ => 0)))] := hD
  refine lv_aload_n hx hb dX1_init_37 rfl (lv_at hl 0 rfl) ?_
  refine lv_iconst (v := 0) hx hb dX1_init_38 (by decide) ?_
  refine va_put (D := D) (ci := 1) (v := .int 0) (ty := .int) (C := RX1) (T := TX1) (N := 8) hx hb hts inX1 tyX1 tyX1_ok nmX1 hown hK hP hD hS 0 rfl rfl 6 (by decide) (hts _ tw_242) (fun _ h9 => h9) rfl (by decide +kernel) rfl rfl (Nat.le_of_ble_eq_true rfl) dX1_init_39 (fun H locs hP hD hS => ?_)
  have hP : va_P D classes [(h0, .inr (1, [.null, .ref q_1, .ref q_2, .ref q_3, .int 0, .int 0, .int 0, .int 0])), (q_1, .inl (k 1, 4, .inl (fun _ => 0))), (q_2, .inl (k 1, 100, .inl (fun _ => 0))), (q_3, .inl (k 1, 16, .inl (fun _ => 0)))] H := hP
  have hD : va_D A [(h0, .inr (1, [.null, .ref q_1, .ref q_2, .ref q_3, .int 0, .int 0, .int 0, .int 0])), (q_1, .inl (k 1, 4, .inl (fun _ => 0))), (q_2, .inl (k 1, 100, .inl (fun _ => 0))), (q_3, .inl (k 1, 16, .inl (fun _ => 0)))] := hD
  refine lv_aload_n hx hb dX1_init_42 rfl (lv_at hl 0 rfl) ?_
  refine lv_iconst (v := 0) hx hb dX1_init_43 (by decide) ?_
  refine va_put (D := D) (ci := 1) (v := .int 0) (ty := .int) (C := RX1) (T := TX1) (N := 8) hx hb hts inX1 tyX1 tyX1_ok nmX1 hown hK hP hD hS 0 rfl rfl 7 (by decide) (hts _ tw_243) (fun _ h9 => h9) rfl (by decide +kernel) rfl rfl (Nat.le_of_ble_eq_true rfl) dX1_init_44 (fun H locs hP hD hS => ?_)
  have hP : va_P D classes [(h0, .inr (1, [.null, .ref q_1, .ref q_2, .ref q_3, .int 0, .int 0, .int 0, .int 0])), (q_1, .inl (k 1, 4, .inl (fun _ => 0))), (q_2, .inl (k 1, 100, .inl (fun _ => 0))), (q_3, .inl (k 1, 16, .inl (fun _ => 0)))] H := hP
  have hD : va_D A [(h0, .inr (1, [.null, .ref q_1, .ref q_2, .ref q_3, .int 0, .int 0, .int 0, .int 0])), (q_1, .inl (k 1, 4, .inl (fun _ => 0))), (q_2, .inl (k 1, 100, .inl (fun _ => 0))), (q_3, .inl (k 1, 16, .inl (fun _ => 0)))] := hD
  refine lv_aload_n hx hb dX1_init_47 rfl (lv_at hl 0 rfl) ?_
  refine lv_aload_n hx hb dX1_init_48 rfl (lv_at hl 1 rfl) ?_
  refine va_putF (D := D) (ci := 1) (v := .ref p0) (ty := (.object "LastPlace$Scene")) (C := RX1) (T := TX1) (N := 8) hx hb hts inX1 tyX1 tyX1_ok nmX1 hown hK hP hD hS 0 rfl rfl 0 (by decide) (hts _ tw_235) (fun _ h9 => h9) rfl hin rfl (by decide +kernel) rfl rfl (Nat.le_of_ble_eq_true rfl) dX1_init_49 (fun H locs hP hD hS => ?_)
  have hP : va_P D classes [(h0, .inr (1, [.ref p0, .ref q_1, .ref q_2, .ref q_3, .int 0, .int 0, .int 0, .int 0])), (q_1, .inl (k 1, 4, .inl (fun _ => 0))), (q_2, .inl (k 1, 100, .inl (fun _ => 0))), (q_3, .inl (k 1, 16, .inl (fun _ => 0)))] H := hP
  have hD : va_D A [(h0, .inr (1, [.ref p0, .ref q_1, .ref q_2, .ref q_3, .int 0, .int 0, .int 0, .int 0])), (q_1, .inl (k 1, 4, .inl (fun _ => 0))), (q_2, .inl (k 1, 100, .inl (fun _ => 0))), (q_3, .inl (k 1, 16, .inl (fun _ => 0)))] := hD
  have hP9 := hP.sub (ws' := []) [] rfl
  have hD9 := hD.sub (ws' := []) [] (by decide) rfl
  refine W.widen (k := 3) (n := 120) (by decide) (by decide) ?_
  exact W.vret hx hb hr (fun t ht hW => ⟨⟨(), rfl, trivial, by rw [ht]; exact hP9, hD9⟩, hS.F ht⟩) hS.2.2 dX1_init_52
end
section
theorem dX0_init_0 : decode cX0_init 0 = .ok (.aload_n 0, 1) := by decide +kernel
theorem dX0_init_1 : decode cX0_init 1 = .ok (.invokespecial 3, 3) := by decide +kernel
theorem dX0_init_4 : decode cX0_init 4 = .ok (.aload_n 0, 1) := by decide +kernel
theorem dX0_init_5 : decode cX0_init 5 = .ok (.sipush 768, 3) := by decide +kernel
theorem dX0_init_8 : decode cX0_init 8 = .ok (.newarray .int, 2) := by decide +kernel
theorem dX0_init_10 : decode cX0_init 10 = .ok (.putfield 9, 3) := by decide +kernel
theorem dX0_init_13 : decode cX0_init 13 = .ok (.aload_n 0, 1) := by decide +kernel
theorem dX0_init_14 : decode cX0_init 14 = .ok (.iconst 4, 1) := by decide +kernel
theorem dX0_init_15 : decode cX0_init 15 = .ok (.newarray .int, 2) := by decide +kernel
theorem dX0_init_17 : decode cX0_init 17 = .ok (.putfield 15, 3) := by decide +kernel
theorem dX0_init_20 : decode cX0_init 20 = .ok (.aload_n 0, 1) := by decide +kernel
theorem dX0_init_21 : decode cX0_init 21 = .ok (.iconst 4, 1) := by decide +kernel
theorem dX0_init_22 : decode cX0_init 22 = .ok (.newarray .int, 2) := by decide +kernel
theorem dX0_init_24 : decode cX0_init 24 = .ok (.putfield 18, 3) := by decide +kernel
theorem dX0_init_27 : decode cX0_init 27 = .ok (.aload_n 0, 1) := by decide +kernel
theorem dX0_init_28 : decode cX0_init 28 = .ok (.bipush 8, 2) := by decide +kernel
theorem dX0_init_30 : decode cX0_init 30 = .ok (.newarray .int, 2) := by decide +kernel
theorem dX0_init_32 : decode cX0_init 32 = .ok (.putfield 21, 3) := by decide +kernel
theorem dX0_init_35 : decode cX0_init 35 = .ok (.aload_n 0, 1) := by decide +kernel
theorem dX0_init_36 : decode cX0_init 36 = .ok (.aload_n 1, 1) := by decide +kernel
theorem dX0_init_37 : decode cX0_init 37 = .ok (.putfield 24, 3) := by decide +kernel
theorem dX0_init_40 : decode cX0_init 40 = .ok (.return_, 1) := by decide +kernel
set_option maxHeartbeats 4000000 in
set_option maxRecDepth 100000 in
theorem k_BestWay_init (l : Launch) (D : va_G) (k : Nat → ClassId) (st : Nat → Nat) (lo : Nat) (h0 : Nat) (p0 : Nat)  : CWv l D k st lo yX0_init cX0_init 2 none ({ frames := 1, cells := 4, slots := 784, locals := 12 }) 4 784 [.ref h0, .ref p0] [(h0, .inr (0, [.null, .null, .null, .null, .null]))] (fun (_ : Nat × Nat × Nat × Nat) => True) (fun (u : Nat × Nat × Nat × Nat) => match u with | (q, q1, q2, q3) => [(h0, .inr (0, [.ref p0, .ref q, .ref q1, .ref q2, .ref q3]))]) := by
  intro sz
  refine Met.ofW (cc := cX0_init) (maxL := 2) (ret := none) (by decide) rfl ?_
  intro p e s m args below meth c s₁ B hml hv
  obtain ⟨rfl, hsz, hlo, hP, hK, hDL, hZ⟩ := hv
  have hx := B.exec
  have hb := B.bytes
  have hr := B.returns
  have hts := WS_ts B.pre
  have hown : s.vm.findClass RX0 = some m.cls := findClass_of_methodNamed B.named
  have hlocks := B.notSynchronized
  have hin : meth.name = "<init>" := (name_of_methodNamed B.named B.method).1
  subst hsz
  have hD := hDL.self (sz := s.heap.size)
  have hAlo := A_lo hDL hlo
  generalize hAe : va_A [(h0, .inr (0, [.null, .null, .null, .null, .null]))] s.heap.size = A at hD hAlo ⊢
  have hA : ∀ q : Nat, s.heap.size ≤ q → A q := fun q h => by rw [← hAe]; exact Or.inr h
  have hS : va_S A s.heap s.heap [] := va_S.rf
  have hl := lv_entry ([.ref h0, .ref p0]) (n := 2) (Nat.le_of_ble_eq_true rfl)
  rw [lg_entry_eq]
  generalize (lg_sl ([.ref h0, .ref p0]) ++ List.replicate (2 - (lg_sl ([.ref h0, .ref p0])).length) Slot.unset).toArray = ls at hl ⊢
  have hl : lv_has ls 2 [(0, .ref h0), (1, .ref p0)] := hl
  refine lv_aload_n hx hb dX0_init_0 rfl (lv_at hl 0 rfl) ?_
  refine W.objInit hx hb hown (hts _ tw_265) (hts _ tw_101) (hts _ tw_102) rfl (by rw [hml]; exact hl.1) rfl dX0_init_1 (Nat.le_of_ble_eq_true rfl) (Nat.le_of_ble_eq_true rfl) ?_
  refine W.eq (g2 := F0 m 4 ls []) rfl ?_
  refine lv_aload_n hx hb dX0_init_4 rfl (lv_at hl 0 rfl) ?_
  refine lv_sipush (v := 768) hx hb dX0_init_5 (by decide) ?_
  refine nwa (atype := .int) (t0 := 1) (a0 := (768, .inl (fun _ => 0))) hx hb (hts _ tw_164) rfl rfl hK hP hD hS hA (fun _ => rfl) (by decide) (N' := 768) (by decide) (by decide) (Nat.le_of_ble_eq_true rfl) (Nat.le_of_ble_eq_true rfl) dX0_init_8 (fun q_1 H hP hD hS => ?_)
  refine W.widen (k := 1) (n := 768) (by decide) (by decide) ?_
  have hP : va_P D classes [(h0, .inr (0, [.null, .null, .null, .null, .null])), (q_1, .inl (k 1, 768, .inl (fun _ => 0)))] H := hP
  have hD : va_D A [(h0, .inr (0, [.null, .null, .null, .null, .null])), (q_1, .inl (k 1, 768, .inl (fun _ => 0)))] := hD
  refine va_putF (D := D) (ci := 0) (v := .ref q_1) (ty := (.array .int)) (C := RX0) (T := TX0) (N := 5) hx hb hts inX0 tyX0 tyX0_ok nmX0 hown hK hP hD hS 0 rfl rfl 1 (by decide) (hts _ tw_267) (fun _ h9 => h9) rfl hin rfl (by decide +kernel) rfl rfl (Nat.le_of_ble_eq_true rfl) dX0_init_10 (fun H locs hP hD hS => ?_)
  have hP : va_P D classes [(h0, .inr (0, [.null, .ref q_1, .null, .null, .null])), (q_1, .inl (k 1, 768, .inl (fun _ => 0)))] H := hP
  have hD : va_D A [(h0, .inr (0, [.null, .ref q_1, .null, .null, .null])), (q_1, .inl (k 1, 768, .inl (fun _ => 0)))] := hD
  refine lv_aload_n hx hb dX0_init_13 rfl (lv_at hl 0 rfl) ?_
  refine lv_iconst (v := 4) hx hb dX0_init_14 (by decide) ?_
  refine nwa (atype := .int) (t0 := 1) (a0 := (4, .inl (fun _ => 0))) hx hb (hts _ tw_164) rfl rfl hK hP hD hS hA (fun _ => rfl) (by decide) (N' := 4) (by decide) (by decide) (Nat.le_of_ble_eq_true rfl) (Nat.le_of_ble_eq_true rfl) dX0_init_15 (fun q_2 H hP hD hS => ?_)
  refine W.widen (k := 2) (n := 772) (by decide) (by decide) ?_
  have hP : va_P D classes [(h0, .inr (0, [.null, .ref q_1, .null, .null, .null])), (q_1, .inl (k 1, 768, .inl (fun _ => 0))), (q_2, .inl (k 1, 4, .inl (fun _ => 0)))] H := hP
  have hD : va_D A [(h0, .inr (0, [.null, .ref q_1, .null, .null, .null])), (q_1, .inl (k 1, 768, .inl (fun _ => 0))), (q_2, .inl (k 1, 4, .inl (fun _ => 0)))] := hD
  refine va_putF (D := D) (ci := 0) (v := .ref q_2) (ty := (.array .int)) (C := RX0) (T := TX0) (N := 5) hx hb hts inX0 tyX0 tyX0_ok nmX0 hown hK hP hD hS 0 rfl rfl 2 (by decide) (hts _ tw_268) (fun _ h9 => h9) rfl hin rfl (by decide +kernel) rfl rfl (Nat.le_of_ble_eq_true rfl) dX0_init_17 (fun H locs hP hD hS => ?_)
  have hP : va_P D classes [(h0, .inr (0, [.null, .ref q_1, .ref q_2, .null, .null])), (q_1, .inl (k 1, 768, .inl (fun _ => 0))), (q_2, .inl (k 1, 4, .inl (fun _ => 0)))] H := hP
  have hD : va_D A [(h0, .inr (0, [.null, .ref q_1, .ref q_2, .null, .null])), (q_1, .inl (k 1, 768, .inl (fun _ => 0))), (q_2, .inl (k 1, 4, .inl (fun _ => 0)))] := hD
  refine lv_aload_n hx hb dX0_init_20 rfl (lv_at hl 0 rfl) ?_
  refine lv_iconst (v := 4) hx hb dX0_init_21 (by decide) ?_
  refine nwa (atype := .int) (t0 := 1) (a0 := (4, .inl (fun _ => 0))) hx hb (hts _ tw_164) rfl rfl hK hP hD hS hA (fun _ => rfl) (by decide) (N' := 4) (by decide) (by decide) (Nat.le_of_ble_eq_true rfl) (Nat.le_of_ble_eq_true rfl) dX0_init_22 (fun q_3 H hP hD hS => ?_)
  refine W.widen (k := 3) (n := 776) (by decide) (by decide) ?_
  have hP : va_P D classes [(h0, .inr (0, [.null, .ref q_1, .ref q_2, .null, .null])), (q_1, .inl (k 1, 768, .inl (fun _ => 0))), (q_2, .inl (k 1, 4, .inl (fun _ => 0))), (q_3, .inl (k 1, 4, .inl (fun _ => 0)))] H := hP
  have hD : va_D A [(h0, .inr (0, [.null, .ref q_1, .ref q_2, .null, .null])), (q_1, .inl (k 1, 768, .inl (fun _ => 0))), (q_2, .inl (k 1, 4, .inl (fun _ => 0))), (q_3, .inl (k 1, 4, .inl (fun _ => 0)))] := hD
  refine va_putF (D := D) (ci := 0) (v := .ref q_3) (ty := (.array .int)) (C := RX0) (T := TX0) (N := 5) hx hb hts inX0 tyX0 tyX0_ok nmX0 hown hK hP hD hS 0 rfl rfl 3 (by decide) (hts _ tw_270) (fun _ h9 => h9) rfl hin rfl (by decide +kernel) rfl rfl (Nat.le_of_ble_eq_true rfl) dX0_init_24 (fun H locs hP hD hS => ?_)
  have hP : va_P D classes [(h0, .inr (0, [.null, .ref q_1, .ref q_2, .ref q_3, .null])), (q_1, .inl (k 1, 768, .inl (fun _ => 0))), (q_2, .inl (k 1, 4, .inl (fun _ => 0))), (q_3, .inl (k 1, 4, .inl (fun _ => 0)))] H := hP
  have hD : va_D A [(h0, .inr (0, [.null, .ref q_1, .ref q_2, .ref q_3, .null])), (q_1, .inl (k 1, 768, .inl (fun _ => 0))), (q_2, .inl (k 1, 4, .inl (fun _ => 0))), (q_3, .inl (k 1, 4, .inl (fun _ => 0)))] := hD
  refine lv_aload_n hx hb dX0_init_27 rfl (lv_at hl 0 rfl) ?_
  refine lv_bipush (v := 8) hx hb dX0_init_28 (by decide) ?_
  refine nwa (atype := .int) (t0 := 1) (a0 := (8, .inl (fun _ => 0))) hx hb (hts _ tw_164) rfl rfl hK hP hD hS hA (fun _ => rfl) (by decide) (N' := 8) (by decide) (by decide) (Nat.le_of_ble_eq_true rfl) (Nat.le_of_ble_eq_true rfl) dX0_init_30 (fun q_4 H hP hD hS => ?_)
  refine W.widen (k := 4) (n := 784) (by decide) (by decide) ?_
  have hP : va_P D classes [(h0, .inr (0, [.null, .ref q_1, .ref q_2, .ref q_3, .null])), (q_1, .inl (k 1, 768, .inl (fun _ => 0))), (q_2, .inl (k 1, 4, .inl (fun _ => 0))), (q_3, .inl (k 1, 4, .inl (fun _ => 0))), (q_4, .inl (k 1, 8, .inl (fun _ => 0)))] H := hP
  have hD : va_D A [(h0, .inr (0, [.null, .ref q_1, .ref q_2, .ref q_3, .null])), (q_1, .inl (k 1, 768, .inl (fun _ => 0))), (q_2, .inl (k 1, 4, .inl (fun _ => 0))), (q_3, .inl (k 1, 4, .inl (fun _ => 0))), (q_4, .inl (k 1, 8, .inl (fun _ => 0)))] := hD
  refine va_putF (D := D) (ci := 0) (v := .ref q_4) (ty := (.array .int)) (C := RX0) (T := TX0) (N := 5) hx hb hts inX0 tyX0 tyX0_ok nmX0 hown hK hP hD hS 0 rfl rfl 4 (by decide) (hts _ tw_272) (fun _ h9 => h9) rfl hin rfl (by decide +kernel) rfl rfl (Nat.le_of_ble_eq_true rfl) dX0_init_32 (fun H locs hP hD hS => ?_)
  have hP : va_P D classes [(h0, .inr (0, [.null, .ref q_1, .ref q_2, .ref q_3, .ref q_4])), (q_1, .inl (k 1, 768, .inl (fun _ => 0))), (q_2, .inl (k 1, 4, .inl (fun _ => 0))), (q_3, .inl (k 1, 4, .inl (fun _ => 0))), (q_4, .inl (k 1, 8, .inl (fun _ => 0)))] H := hP
  have hD : va_D A [(h0, .inr (0, [.null, .ref q_1, .ref q_2, .ref q_3, .ref q_4])), (q_1, .inl (k 1, 768, .inl (fun _ => 0))), (q_2, .inl (k 1, 4, .inl (fun _ => 0))), (q_3, .inl (k 1, 4, .inl (fun _ => 0))), (q_4, .inl (k 1, 8, .inl (fun _ => 0)))] := hD
  refine lv_aload_n hx hb dX0_init_35 rfl (lv_at hl 0 rfl) ?_
  refine lv_aload_n hx hb dX0_init_36 rfl (lv_at hl 1 rfl) ?_
  refine va_putF (D := D) (ci := 0) (v := .ref p0) (ty := (.object "LastPlace$Street")) (C := RX0) (T := TX0) (N := 5) hx hb hts inX0 tyX0 tyX0_ok nmX0 hown hK hP hD hS 0 rfl rfl 0 (by decide) (hts _ tw_266) (fun _ h9 => h9) rfl hin rfl (by decide +kernel) rfl rfl (Nat.le_of_ble_eq_true rfl) dX0_init_37 (fun H locs hP hD hS => ?_)
  have hP : va_P D classes [(h0, .inr (0, [.ref p0, .ref q_1, .ref q_2, .ref q_3, .ref q_4])), (q_1, .inl (k 1, 768, .inl (fun _ => 0))), (q_2, .inl (k 1, 4, .inl (fun _ => 0))), (q_3, .inl (k 1, 4, .inl (fun _ => 0))), (q_4, .inl (k 1, 8, .inl (fun _ => 0)))] H := hP
  have hD : va_D A [(h0, .inr (0, [.ref p0, .ref q_1, .ref q_2, .ref q_3, .ref q_4])), (q_1, .inl (k 1, 768, .inl (fun _ => 0))), (q_2, .inl (k 1, 4, .inl (fun _ => 0))), (q_3, .inl (k 1, 4, .inl (fun _ => 0))), (q_4, .inl (k 1, 8, .inl (fun _ => 0)))] := hD
  have hP9 := hP.sub (ws' := [(h0, .inr (0, [.ref p0, .ref q_1, .ref q_2, .ref q_3, .ref q_4]))]) [0] rfl
  have hD9 := hD.sub (ws' := [(h0, .inr (0, [.ref p0, .ref q_1, .ref q_2, .ref q_3, .ref q_4]))]) [0] (by decide) rfl
  refine W.widen (k := 4) (n := 784) (by decide) (by decide) ?_
  exact W.vret hx hb hr (fun t ht hW => ⟨⟨(q_1, q_2, q_3, q_4), rfl, trivial, by rw [ht]; exact hP9, hD9⟩, hS.F ht⟩) hS.2.2 dX0_init_40
end
section
theorem tw_8 : Cond.selects RX7 yX7_isStreet yX7_isStreet ∈ LW := LWm (i := 8) (by decide +kernel) rfl
theorem tw_9 : Cond.selects RX7 yX7_isDoor yX7_isDoor ∈ LW := LWm (i := 9) (by decide +kernel) rfl
theorem tw_11 : Cond.selects RX7 yX7_refuseSight yX7_refuseSight ∈ LW := LWm (i := 11) (by decide +kernel) rfl
theorem tw_17 : Cond.selects RX7 yX7_isCar yX7_isCar ∈ LW := LWm (i := 17) (by decide +kernel) rfl
theorem tw_21 : Cond.selects RX7 yX7_refuseSet yX7_refuseSet ∈ LW := LWm (i := 21) (by decide +kernel) rfl
theorem tw_79 : Cond.initialized RX7 ∈ LW := LWm (i := 79) (by decide +kernel) rfl
theorem tw_180 : Cond.fieldLink RX7 214 "LastPlace$Scene" "carCount" "I" ∈ LW := LWm (i := 180) (by decide +kernel) rfl
theorem tw_306 : Cond.fieldLink RX7 18 "LastPlace" "streets" "[LLastPlace$Street;" ∈ LW := LWm (i := 306) (by decide +kernel) rfl
theorem tw_311 : Cond.fieldLink RX7 43 "LastPlace" "latestFault" "I" ∈ LW := LWm (i := 311) (by decide +kernel) rfl
theorem tw_312 : Cond.fieldLink RX7 49 "LastPlace" "now" "LLastPlace$Scene;" ∈ LW := LWm (i := 312) (by decide +kernel) rfl
theorem tw_580 : Cond.methodLink RX7 105 yX5_doors ∈ LW := LWm (i := 580) (by decide +kernel) rfl
theorem tw_589 : Cond.methodLink RX7 108 yX7_isStreet ∈ LW := LWm (i := 589) (by decide +kernel) rfl
theorem tw_591 : Cond.instanceMethod yX7_isStreet ∈ LW := LWm (i := 591) (by decide +kernel) rfl
theorem tw_592 : Cond.code yX7_isStreet cX7_isStreet 2 (some .boolean) ∈ LW := LWm (i := 592) (by decide +kernel) rfl
theorem tw_600 : Cond.methodLink RX7 120 yX7_isDoor ∈ LW := LWm (i := 600) (by decide +kernel) rfl
theorem tw_602 : Cond.instanceMethod yX7_isDoor ∈ LW := LWm (i := 602) (by decide +kernel) rfl
theorem tw_603 : Cond.code yX7_isDoor cX7_isDoor 3 (some .boolean) ∈ LW := LWm (i := 603) (by decide +kernel) rfl
theorem tw_622 : Cond.methodLink RX7 141 yX7_refuseSight ∈ LW := LWm (i := 622) (by decide +kernel) rfl
theorem tw_624 : Cond.instanceMethod yX7_refuseSight ∈ LW := LWm (i := 624) (by decide +kernel) rfl
theorem tw_625 : Cond.code yX7_refuseSight cX7_refuseSight 6 (some .int) ∈ LW := LWm (i := 625) (by decide +kernel) rfl
theorem tw_809 : Cond.methodLink RX7 220 yX7_isCar ∈ LW := LWm (i := 809) (by decide +kernel) rfl
theorem tw_811 : Cond.instanceMethod yX7_isCar ∈ LW := LWm (i := 811) (by decide +kernel) rfl
theorem tw_812 : Cond.code yX7_isCar cX7_isCar 2 (some .boolean) ∈ LW := LWm (i := 812) (by decide +kernel) rfl
theorem tw_850 : Cond.methodLink RX7 239 yX7_refuseSet ∈ LW := LWm (i := 850) (by decide +kernel) rfl
theorem tw_852 : Cond.instanceMethod yX7_refuseSet ∈ LW := LWm (i := 852) (by decide +kernel) rfl
theorem tw_853 : Cond.code yX7_refuseSet cX7_refuseSet 3 (some .int) ∈ LW := LWm (i := 853) (by decide +kernel) rfl
end
section
theorem dX7_isStreet_0 : decode cX7_isStreet 0 = .ok (.iload_n 1, 1) := by decide +kernel
theorem dX7_isStreet_1 : decode cX7_isStreet 1 = .ok (.ifCond .lt 24, 3) := by decide +kernel
theorem dX7_isStreet_4 : decode cX7_isStreet 4 = .ok (.iload_n 1, 1) := by decide +kernel
theorem dX7_isStreet_5 : decode cX7_isStreet 5 = .ok (.iconst 3, 1) := by decide +kernel
theorem dX7_isStreet_6 : decode cX7_isStreet 6 = .ok (.if_icmp .ge 19, 3) := by decide +kernel
theorem dX7_isStreet_9 : decode cX7_isStreet 9 = .ok (.aload_n 0, 1) := by decide +kernel
theorem dX7_isStreet_10 : decode cX7_isStreet 10 = .ok (.getfield 18, 3) := by decide +kernel
theorem dX7_isStreet_13 : decode cX7_isStreet 13 = .ok (.iload_n 1, 1) := by decide +kernel
theorem dX7_isStreet_14 : decode cX7_isStreet 14 = .ok (.aaload, 1) := by decide +kernel
theorem dX7_isStreet_15 : decode cX7_isStreet 15 = .ok (.invokevirtual 105, 3) := by decide +kernel
theorem dX7_isStreet_18 : decode cX7_isStreet 18 = .ok (.ifCond .le 7, 3) := by decide +kernel
theorem dX7_isStreet_25 : decode cX7_isStreet 25 = .ok (.iconst 0, 1) := by decide +kernel
theorem dX7_isStreet_26 : decode cX7_isStreet 26 = .ok (.ireturn, 1) := by decide +kernel
set_option maxHeartbeats 4000000 in
set_option maxRecDepth 100000 in
theorem k_isStreet (l : Launch) (D : va_G) (k : Nat → ClassId) (st : Nat → Nat) (lo : Nat) (a : Nat → Nat) (p0 : Int32)  : CRi l D k st lo yX7_isStreet cX7_isStreet 2 (some .boolean) ({ frames := 1, cells := 0, slots := 0, locals := 20 }) [.ref (a 0), .int p0] [((a 0), .inr (7, [.ref (a 1), .ref (a 3), .ref (a 19), .ref (a 20), .ref (a 25), .int 0, .int (-1), .ref (a 32), .ref (a 35), .ref (a 42), .ref (a 43), .ref (a 44)])), ((a 3), .inl (k 3, 3, .inr (.inr (.inr (.inr (a3 (a 4) (a 5) (a 6))))))), ((a 4), .inr (5, [.ref (a 7), .ref (a 10), .ref (a 13), .ref (a 16)])), ((a 5), .inr (5, [.ref (a 8), .ref (a 11), .ref (a 14), .ref (a 17)])), ((a 6), .inr (5, [.ref (a 9), .ref (a 12), .ref (a 15), .ref (a 18)])), ((a 7), .inl (k 1, 10, .inl (fun _ => 0))), ((a 8), .inl (k 1, 10, .inl (fun _ => 0))), ((a 9), .inl (k 1, 10, .inl (fun _ => 0)))] (fun r => r = 0) := by
  intro sz
  refine Met.ofW (cc := cX7_isStreet) (maxL := 2) (ret := (some .boolean)) (by decide) rfl ?_
  intro p e s m args below meth c s₁ B hml hv
  obtain ⟨rfl, hsz, hlo, hP, hK, hDL, hZ⟩ := hv
  have hx := B.exec
  have hb := B.bytes
  have hr := B.returns
  have hts := WS_ts B.pre
  have hown : s.vm.findClass RX7 = some m.cls := findClass_of_methodNamed B.named
  have hlocks := B.notSynchronized
  subst hsz
  have hA : ∀ q : Nat, s.heap.size ≤ q → (fun q : Nat => s.heap.size ≤ q) q := fun _ h => h
  have hAlo : ∀ q : Nat, (fun q : Nat => s.heap.size ≤ q) q → lo ≤ q := fun q h => Nat.le_trans hlo h
  have hS : va_S (fun q : Nat => s.heap.size ≤ q) s.heap s.heap [] := va_S.rf
  have hl := lv_entry ([.ref (a 0), .int p0]) (n := 2) (Nat.le_of_ble_eq_true rfl)
  rw [lg_entry_eq]
  generalize (lg_sl ([.ref (a 0), .int p0]) ++ List.replicate (2 - (lg_sl ([.ref (a 0), .int p0])).length) Slot.unset).toArray = ls at hl ⊢
  have hl : lv_has ls 2 [(0, .ref (a 0)), (1, .int p0)] := hl
  refine lv_iload_n hx hb dX7_isStreet_0 rfl (lv_at hl 1 rfl) ?_
  refine lv_if_lt (tgt := 25) hx hb dX7_isStreet_1 (by decide) (fun c_1 => ?_) (fun c_1 => ?_)
  · refine lv_iconst (v := 0) hx hb dX7_isStreet_25 (by decide) ?_
    exact W.zret (v := 0) (ty := .boolean) hx hb hr rfl (fun t ht hW => ⟨⟨0, (), rfl, rfl, trivial⟩, hS.F ht⟩) hS.2.2 dX7_isStreet_26
  · refine lv_iload_n hx hb dX7_isStreet_4 rfl (lv_at hl 1 rfl) ?_
    refine lv_iconst (v := 3) hx hb dX7_isStreet_5 (by decide) ?_
    refine lv_icmp_ge (tgt := 25) hx hb dX7_isStreet_6 (by decide) (fun c_2 => ?_) (fun c_2 => ?_)
    · refine lv_iconst (v := 0) hx hb dX7_isStreet_25 (by decide) ?_
      exact W.zret (v := 0) (ty := .boolean) hx hb hr rfl (fun t ht hW => ⟨⟨0, (), rfl, rfl, trivial⟩, hS.F ht⟩) hS.2.2 dX7_isStreet_26
    · refine lv_aload_n hx hb dX7_isStreet_9 rfl (lv_at hl 0 rfl) ?_
      refine va_get (D := D) (ci := 7) (v := .ref (a 3)) (C := RX7) (T := TX7) (N := 12) hx hb hts inX7 hown hK hP 0 rfl rfl 1 (by decide) (hts _ tw_306) (fun _ h9 => h9) rfl dX7_isStreet_10 ?_
      refine lv_iload_n hx hb dX7_isStreet_13 rfl (lv_at hl 1 rfl) ?_
      rcases spl3 c_1 c_2 with rfl | rfl | rfl
      · refine va_aldq hx hb hK hP 1 3 rfl rfl (by unfold vp_in; decide) dX7_isStreet_14 ?_
        refine lv_tr (y := .ref (a 4)) rfl ?_
        refine ro_i (D := D) (va_runV (As := []) (rest := []) ⟨hx, hb, hml, hown, hts⟩ ((k_doors l D k st lo (a 4) (a 7) (a 10) (a 13) (a 16) (fun _ => 0)) s.heap.size) (cwV 0 hts (gV tw_580 tw_478 tw_479 tw_81 tw_480) rfl rfl rfl (by decide +kernel) ⟨Nat.le_of_ble_eq_true rfl, Nat.le_of_ble_eq_true rfl⟩) (pV hS hAlo hlo hP hK hDL hZ [2, 5] (by decide) rfl (ci := 5) (q0 := 0) rfl rfl) rfl rfl hl.1 rfl (lv_room (Nat.le_of_ble_eq_true rfl)) dX7_isStreet_15 ⟨Nat.le_of_ble_eq_true rfl, Nat.le_of_ble_eq_true rfl⟩) hS hA hP (fun r_3 H locs hw_3 hP hS => ?_)
        try dsimp only at hw_3
        obtain rfl : r_3 = 0 := hw_3.trans (by rfl)
        refine lv_if_le (tgt := 25) hx hb dX7_isStreet_18 (by decide) (fun _ => ?_) (fun h => absurd (by decide) h)
        refine lv_iconst (v := 0) hx hb dX7_isStreet_25 (by decide) ?_
        exact W.zret (v := 0) (ty := .boolean) hx hb hr rfl (fun t ht hW => ⟨⟨0, (), rfl, rfl, trivial⟩, hS.F ht⟩) hS.2.2 dX7_isStreet_26
      · refine va_aldq hx hb hK hP 1 3 rfl rfl (by unfold vp_in; decide) dX7_isStreet_14 ?_
        refine lv_tr (y := .ref (a 5)) rfl ?_
        refine ro_i (D := D) (va_runV (As := []) (rest := []) ⟨hx, hb, hml, hown, hts⟩ ((k_doors l D k st lo (a 5) (a 8) (a 11) (a 14) (a 17) (fun _ => 0)) s.heap.size) (cwV 0 hts (gV tw_580 tw_478 tw_479 tw_81 tw_480) rfl rfl rfl (by decide +kernel) ⟨Nat.le_of_ble_eq_true rfl, Nat.le_of_ble_eq_true rfl⟩) (pV hS hAlo hlo hP hK hDL hZ [3, 6] (by decide) rfl (ci := 5) (q0 := 0) rfl rfl) rfl rfl hl.1 rfl (lv_room (Nat.le_of_ble_eq_true rfl)) dX7_isStreet_15 ⟨Nat.le_of_ble_eq_true rfl, Nat.le_of_ble_eq_true rfl⟩) hS hA hP (fun r_4 H locs hw_4 hP hS => ?_)
        try dsimp only at hw_4
        obtain rfl : r_4 = 0 := hw_4.trans (by rfl)
        refine lv_if_le (tgt := 25) hx hb dX7_isStreet_18 (by decide) (fun _ => ?_) (fun h => absurd (by decide) h)
        refine lv_iconst (v := 0) hx hb dX7_isStreet_25 (by decide) ?_
        exact W.zret (v := 0) (ty := .boolean) hx hb hr rfl (fun t ht hW => ⟨⟨0, (), rfl, rfl, trivial⟩, hS.F ht⟩) hS.2.2 dX7_isStreet_26
      · refine va_aldq hx hb hK hP 1 3 rfl rfl (by unfold vp_in; decide) dX7_isStreet_14 ?_
        refine lv_tr (y := .ref (a 6)) rfl ?_
        refine ro_i (D := D) (va_runV (As := []) (rest := []) ⟨hx, hb, hml, hown, hts⟩ ((k_doors l D k st lo (a 6) (a 9) (a 12) (a 15) (a 18) (fun _ => 0)) s.heap.size) (cwV 0 hts (gV tw_580 tw_478 tw_479 tw_81 tw_480) rfl rfl rfl (by decide +kernel) ⟨Nat.le_of_ble_eq_true rfl, Nat.le_of_ble_eq_true rfl⟩) (pV hS hAlo hlo hP hK hDL hZ [4, 7] (by decide) rfl (ci := 5) (q0 := 0) rfl rfl) rfl rfl hl.1 rfl (lv_room (Nat.le_of_ble_eq_true rfl)) dX7_isStreet_15 ⟨Nat.le_of_ble_eq_true rfl, Nat.le_of_ble_eq_true rfl⟩) hS hA hP (fun r_5 H locs hw_5 hP hS => ?_)
        try dsimp only at hw_5
        obtain rfl : r_5 = 0 := hw_5.trans (by rfl)
        refine lv_if_le (tgt := 25) hx hb dX7_isStreet_18 (by decide) (fun _ => ?_) (fun h => absurd (by decide) h)
        refine lv_iconst (v := 0) hx hb dX7_isStreet_25 (by decide) ?_
        exact W.zret (v := 0) (ty := .boolean) hx hb hr rfl (fun t ht hW => ⟨⟨0, (), rfl, rfl, trivial⟩, hS.F ht⟩) hS.2.2 dX7_isStreet_26
end
section
theorem dX7_isDoor_0 : decode cX7_isDoor 0 = .ok (.aload_n 0, 1) := by decide +kernel
theorem dX7_isDoor_1 : decode cX7_isDoor 1 = .ok (.iload_n 1, 1) := by decide +kernel
theorem dX7_isDoor_2 : decode cX7_isDoor 2 = .ok (.invokevirtual 108, 3) := by decide +kernel
theorem dX7_isDoor_5 : decode cX7_isDoor 5 = .ok (.ifCond .eq 24, 3) := by decide +kernel
theorem dX7_isDoor_29 : decode cX7_isDoor 29 = .ok (.iconst 0, 1) := by decide +kernel
theorem dX7_isDoor_30 : decode cX7_isDoor 30 = .ok (.ireturn, 1) := by decide +kernel
set_option maxHeartbeats 4000000 in
set_option maxRecDepth 100000 in
theorem k_isDoor (l : Launch) (D : va_G) (k : Nat → ClassId) (st : Nat → Nat) (lo : Nat) (a : Nat → Nat) (p0 : Int32) (p1 : Int32)  : CRi l D k st lo yX7_isDoor cX7_isDoor 3 (some .boolean) ({ frames := 2, cells := 0, slots := 0, locals := 41 }) [.ref (a 0), .int p0, .int p1] [((a 0), .inr (7, [.ref (a 1), .ref (a 3), .ref (a 19), .ref (a 20), .ref (a 25), .int 0, .int (-1), .ref (a 32), .ref (a 35), .ref (a 42), .ref (a 43), .ref (a 44)])), ((a 3), .inl (k 3, 3, .inr (.inr (.inr (.inr (a3 (a 4) (a 5) (a 6))))))), ((a 4), .inr (5, [.ref (a 7), .ref (a 10), .ref (a 13), .ref (a 16)])), ((a 5), .inr (5, [.ref (a 8), .ref (a 11), .ref (a 14), .ref (a 17)])), ((a 6), .inr (5, [.ref (a 9), .ref (a 12), .ref (a 15), .ref (a 18)])), ((a 7), .inl (k 1, 10, .inl (fun _ => 0))), ((a 8), .inl (k 1, 10, .inl (fun _ => 0))), ((a 9), .inl (k 1, 10, .inl (fun _ => 0)))] (fun r => r = 0) := by
  intro sz
  refine Met.ofW (cc := cX7_isDoor) (maxL := 3) (ret := (some .boolean)) (by decide) rfl ?_
  intro p e s m args below meth c s₁ B hml hv
  obtain ⟨rfl, hsz, hlo, hP, hK, hDL, hZ⟩ := hv
  have hx := B.exec
  have hb := B.bytes
  have hr := B.returns
  have hts := WS_ts B.pre
  have hown : s.vm.findClass RX7 = some m.cls := findClass_of_methodNamed B.named
  have hlocks := B.notSynchronized
  subst hsz
  have hA : ∀ q : Nat, s.heap.size ≤ q → (fun q : Nat => s.heap.size ≤ q) q := fun _ h => h
  have hAlo : ∀ q : Nat, (fun q : Nat => s.heap.size ≤ q) q → lo ≤ q := fun q h => Nat.le_trans hlo h
  have hS : va_S (fun q : Nat => s.heap.size ≤ q) s.heap s.heap [] := va_S.rf
  have hl := lv_entry ([.ref (a 0), .int p0, .int p1]) (n := 3) (Nat.le_of_ble_eq_true rfl)
  rw [lg_entry_eq]
  generalize (lg_sl ([.ref (a 0), .int p0, .int p1]) ++ List.replicate (3 - (lg_sl ([.ref (a 0), .int p0, .int p1])).length) Slot.unset).toArray = ls at hl ⊢
  have hl : lv_has ls 3 [(0, .ref (a 0)), (1, .int p0), (2, .int p1)] := hl
  refine lv_aload_n hx hb dX7_isDoor_0 rfl (lv_at hl 0 rfl) ?_
  refine lv_iload_n hx hb dX7_isDoor_1 rfl (lv_at hl 1 rfl) ?_
  refine ro_i (D := D) (va_runV (As := [.int p0]) (rest := []) ⟨hx, hb, hml, hown, hts⟩ ((k_isStreet l D k st lo a p0) s.heap.size) (cwV 1 hts (gV tw_589 tw_591 tw_8 tw_79 tw_592) rfl rfl rfl (by decide +kernel) ⟨Nat.le_of_ble_eq_true rfl, Nat.le_of_ble_eq_true rfl⟩) (pV hS hAlo hlo hP hK hDL hZ [0, 1, 2, 3, 4, 5, 6, 7] (by decide) rfl (ci := 7) (q0 := 0) rfl rfl) rfl rfl hl.1 rfl (lv_room (Nat.le_of_ble_eq_true rfl)) dX7_isDoor_2 ⟨Nat.le_of_ble_eq_true rfl, Nat.le_of_ble_eq_true rfl⟩) hS hA hP (fun r_1 H locs hw_1 hP hS => ?_)
  try dsimp only at hw_1
  subst hw_1
  refine lv_if_eq (tgt := 29) hx hb dX7_isDoor_5 (by decide) (fun _ => ?_) (fun h => absurd (by decide) h)
  refine lv_iconst (v := 0) hx hb dX7_isDoor_29 (by decide) ?_
  exact W.zret (v := 0) (ty := .boolean) hx hb hr rfl (fun t ht hW => ⟨⟨0, (), rfl, rfl, trivial⟩, hS.F ht⟩) hS.2.2 dX7_isDoor_30
end
section
theorem dX7_refuseSight_0 : decode cX7_refuseSight 0 = .ok (.aload_n 0, 1) := by decide +kernel
theorem dX7_refuseSight_1 : decode cX7_refuseSight 1 = .ok (.iload_n 1, 1) := by decide +kernel
theorem dX7_refuseSight_2 : decode cX7_refuseSight 2 = .ok (.iload_n 3, 1) := by decide +kernel
theorem dX7_refuseSight_3 : decode cX7_refuseSight 3 = .ok (.invokevirtual 120, 3) := by decide +kernel
theorem dX7_refuseSight_6 : decode cX7_refuseSight 6 = .ok (.ifCond .ne 7, 3) := by decide +kernel
theorem dX7_refuseSight_9 : decode cX7_refuseSight 9 = .ok (.sipush (-1001), 3) := by decide +kernel
theorem dX7_refuseSight_12 : decode cX7_refuseSight 12 = .ok (.ireturn, 1) := by decide +kernel
set_option maxHeartbeats 4000000 in
set_option maxRecDepth 100000 in
theorem k_refuseSight (l : Launch) (D : va_G) (k : Nat → ClassId) (st : Nat → Nat) (lo : Nat) (a : Nat → Nat) (p0 : Int32) (p1 : Int32) (p2 : Int32) (p3 : Int32)  : CRi l D k st lo yX7_refuseSight cX7_refuseSight 6 (some .int) ({ frames := 3, cells := 0, slots := 0, locals := 63 }) [.ref (a 0), .int p0, .int p1, .int p2, .int p3] [((a 0), .inr (7, [.ref (a 1), .ref (a 3), .ref (a 19), .ref (a 20), .ref (a 25), .int 0, .int (-1), .ref (a 32), .ref (a 35), .ref (a 42), .ref (a 43), .ref (a 44)])), ((a 3), .inl (k 3, 3, .inr (.inr (.inr (.inr (a3 (a 4) (a 5) (a 6))))))), ((a 4), .inr (5, [.ref (a 7), .ref (a 10), .ref (a 13), .ref (a 16)])), ((a 5), .inr (5, [.ref (a 8), .ref (a 11), .ref (a 14), .ref (a 17)])), ((a 6), .inr (5, [.ref (a 9), .ref (a 12), .ref (a 15), .ref (a 18)])), ((a 7), .inl (k 1, 10, .inl (fun _ => 0))), ((a 8), .inl (k 1, 10, .inl (fun _ => 0))), ((a 9), .inl (k 1, 10, .inl (fun _ => 0)))] (fun r => r = -1001) := by
  intro sz
  refine Met.ofW (cc := cX7_refuseSight) (maxL := 6) (ret := (some .int)) (by decide) rfl ?_
  intro p e s m args below meth c s₁ B hml hv
  obtain ⟨rfl, hsz, hlo, hP, hK, hDL, hZ⟩ := hv
  have hx := B.exec
  have hb := B.bytes
  have hr := B.returns
  have hts := WS_ts B.pre
  have hown : s.vm.findClass RX7 = some m.cls := findClass_of_methodNamed B.named
  have hlocks := B.notSynchronized
  subst hsz
  have hA : ∀ q : Nat, s.heap.size ≤ q → (fun q : Nat => s.heap.size ≤ q) q := fun _ h => h
  have hAlo : ∀ q : Nat, (fun q : Nat => s.heap.size ≤ q) q → lo ≤ q := fun q h => Nat.le_trans hlo h
  have hS : va_S (fun q : Nat => s.heap.size ≤ q) s.heap s.heap [] := va_S.rf
  have hl := lv_entry ([.ref (a 0), .int p0, .int p1, .int p2, .int p3]) (n := 6) (Nat.le_of_ble_eq_true rfl)
  rw [lg_entry_eq]
  generalize (lg_sl ([.ref (a 0), .int p0, .int p1, .int p2, .int p3]) ++ List.replicate (6 - (lg_sl ([.ref (a 0), .int p0, .int p1, .int p2, .int p3])).length) Slot.unset).toArray = ls at hl ⊢
  have hl : lv_has ls 6 [(0, .ref (a 0)), (1, .int p0), (2, .int p1), (3, .int p2), (4, .int p3)] := hl
  refine lv_aload_n hx hb dX7_refuseSight_0 rfl (lv_at hl 0 rfl) ?_
  refine lv_iload_n hx hb dX7_refuseSight_1 rfl (lv_at hl 1 rfl) ?_
  refine lv_iload_n hx hb dX7_refuseSight_2 rfl (lv_at hl 3 rfl) ?_
  refine ro_i (D := D) (va_runV (As := [.int p0, .int p2]) (rest := []) ⟨hx, hb, hml, hown, hts⟩ ((k_isDoor l D k st lo a p0 p2) s.heap.size) (cwV 2 hts (gV tw_600 tw_602 tw_9 tw_79 tw_603) rfl rfl rfl (by decide +kernel) ⟨Nat.le_of_ble_eq_true rfl, Nat.le_of_ble_eq_true rfl⟩) (pV hS hAlo hlo hP hK hDL hZ [0, 1, 2, 3, 4, 5, 6, 7] (by decide) rfl (ci := 7) (q0 := 0) rfl rfl) rfl rfl hl.1 rfl (lv_room (Nat.le_of_ble_eq_true rfl)) dX7_refuseSight_3 ⟨Nat.le_of_ble_eq_true rfl, Nat.le_of_ble_eq_true rfl⟩) hS hA hP (fun r_1 H locs hw_1 hP hS => ?_)
  try dsimp only at hw_1
  subst hw_1
  refine lv_if_ne (tgt := 13) hx hb dX7_refuseSight_6 (by decide) (fun h => absurd (by decide) h) (fun _ => ?_)
  refine lv_sipush (v := (-1001)) hx hb dX7_refuseSight_9 (by decide) ?_
  exact W.iret (v := (-1001)) hx hb hr (fun t ht hW => ⟨⟨(-1001), (), rfl, rfl, trivial⟩, hS.F ht⟩) hS.2.2 dX7_refuseSight_12
end
section
theorem dX7_refuseSet_0 : decode cX7_refuseSet 0 = .ok (.aload_n 0, 1) := by decide +kernel
theorem dX7_refuseSet_1 : decode cX7_refuseSet 1 = .ok (.iload_n 1, 1) := by decide +kernel
theorem dX7_refuseSet_2 : decode cX7_refuseSet 2 = .ok (.invokevirtual 108, 3) := by decide +kernel
theorem dX7_refuseSet_5 : decode cX7_refuseSet 5 = .ok (.ifCond .ne 7, 3) := by decide +kernel
theorem dX7_refuseSet_8 : decode cX7_refuseSet 8 = .ok (.sipush (-1001), 3) := by decide +kernel
theorem dX7_refuseSet_11 : decode cX7_refuseSet 11 = .ok (.ireturn, 1) := by decide +kernel
set_option maxHeartbeats 4000000 in
set_option maxRecDepth 100000 in
theorem k_refuseSet (l : Launch) (D : va_G) (k : Nat → ClassId) (st : Nat → Nat) (lo : Nat) (a : Nat → Nat) (p0 : Int32) (p1 : Int32)  : CRi l D k st lo yX7_refuseSet cX7_refuseSet 3 (some .int) ({ frames := 2, cells := 0, slots := 0, locals := 41 }) [.ref (a 0), .int p0, .int p1] [((a 0), .inr (7, [.ref (a 1), .ref (a 3), .ref (a 19), .ref (a 20), .ref (a 25), .int 0, .int (-1), .ref (a 32), .ref (a 35), .ref (a 42), .ref (a 43), .ref (a 44)])), ((a 3), .inl (k 3, 3, .inr (.inr (.inr (.inr (a3 (a 4) (a 5) (a 6))))))), ((a 4), .inr (5, [.ref (a 7), .ref (a 10), .ref (a 13), .ref (a 16)])), ((a 5), .inr (5, [.ref (a 8), .ref (a 11), .ref (a 14), .ref (a 17)])), ((a 6), .inr (5, [.ref (a 9), .ref (a 12), .ref (a 15), .ref (a 18)])), ((a 7), .inl (k 1, 10, .inl (fun _ => 0))), ((a 8), .inl (k 1, 10, .inl (fun _ => 0))), ((a 9), .inl (k 1, 10, .inl (fun _ => 0)))] (fun r => r = -1001) := by
  intro sz
  refine Met.ofW (cc := cX7_refuseSet) (maxL := 3) (ret := (some .int)) (by decide) rfl ?_
  intro p e s m args below meth c s₁ B hml hv
  obtain ⟨rfl, hsz, hlo, hP, hK, hDL, hZ⟩ := hv
  have hx := B.exec
  have hb := B.bytes
  have hr := B.returns
  have hts := WS_ts B.pre
  have hown : s.vm.findClass RX7 = some m.cls := findClass_of_methodNamed B.named
  have hlocks := B.notSynchronized
  subst hsz
  have hA : ∀ q : Nat, s.heap.size ≤ q → (fun q : Nat => s.heap.size ≤ q) q := fun _ h => h
  have hAlo : ∀ q : Nat, (fun q : Nat => s.heap.size ≤ q) q → lo ≤ q := fun q h => Nat.le_trans hlo h
  have hS : va_S (fun q : Nat => s.heap.size ≤ q) s.heap s.heap [] := va_S.rf
  have hl := lv_entry ([.ref (a 0), .int p0, .int p1]) (n := 3) (Nat.le_of_ble_eq_true rfl)
  rw [lg_entry_eq]
  generalize (lg_sl ([.ref (a 0), .int p0, .int p1]) ++ List.replicate (3 - (lg_sl ([.ref (a 0), .int p0, .int p1])).length) Slot.unset).toArray = ls at hl ⊢
  have hl : lv_has ls 3 [(0, .ref (a 0)), (1, .int p0), (2, .int p1)] := hl
  refine lv_aload_n hx hb dX7_refuseSet_0 rfl (lv_at hl 0 rfl) ?_
  refine lv_iload_n hx hb dX7_refuseSet_1 rfl (lv_at hl 1 rfl) ?_
  refine ro_i (D := D) (va_runV (As := [.int p0]) (rest := []) ⟨hx, hb, hml, hown, hts⟩ ((k_isStreet l D k st lo a p0) s.heap.size) (cwV 1 hts (gV tw_589 tw_591 tw_8 tw_79 tw_592) rfl rfl rfl (by decide +kernel) ⟨Nat.le_of_ble_eq_true rfl, Nat.le_of_ble_eq_true rfl⟩) (pV hS hAlo hlo hP hK hDL hZ [0, 1, 2, 3, 4, 5, 6, 7] (by decide) rfl (ci := 7) (q0 := 0) rfl rfl) rfl rfl hl.1 rfl (lv_room (Nat.le_of_ble_eq_true rfl)) dX7_refuseSet_2 ⟨Nat.le_of_ble_eq_true rfl, Nat.le_of_ble_eq_true rfl⟩) hS hA hP (fun r_1 H locs hw_1 hP hS => ?_)
  try dsimp only at hw_1
  subst hw_1
  refine lv_if_ne (tgt := 12) hx hb dX7_refuseSet_5 (by decide) (fun h => absurd (by decide) h) (fun _ => ?_)
  refine lv_sipush (v := (-1001)) hx hb dX7_refuseSet_8 (by decide) ?_
  exact W.iret (v := (-1001)) hx hb hr (fun t ht hW => ⟨⟨(-1001), (), rfl, rfl, trivial⟩, hS.F ht⟩) hS.2.2 dX7_refuseSet_11
end
section
theorem dX7_isCar_0 : decode cX7_isCar 0 = .ok (.iload_n 1, 1) := by decide +kernel
theorem dX7_isCar_1 : decode cX7_isCar 1 = .ok (.ifCond .lt 18, 3) := by decide +kernel
theorem dX7_isCar_4 : decode cX7_isCar 4 = .ok (.iload_n 1, 1) := by decide +kernel
theorem dX7_isCar_5 : decode cX7_isCar 5 = .ok (.aload_n 0, 1) := by decide +kernel
theorem dX7_isCar_6 : decode cX7_isCar 6 = .ok (.getfield 49, 3) := by decide +kernel
theorem dX7_isCar_9 : decode cX7_isCar 9 = .ok (.getfield 214, 3) := by decide +kernel
theorem dX7_isCar_12 : decode cX7_isCar 12 = .ok (.if_icmp .ge 7, 3) := by decide +kernel
theorem dX7_isCar_19 : decode cX7_isCar 19 = .ok (.iconst 0, 1) := by decide +kernel
theorem dX7_isCar_20 : decode cX7_isCar 20 = .ok (.ireturn, 1) := by decide +kernel
set_option maxHeartbeats 4000000 in
set_option maxRecDepth 100000 in
theorem k_isCar (l : Launch) (D : va_G) (k : Nat → ClassId) (st : Nat → Nat) (lo : Nat) (a : Nat → Nat) (p0 : Int32)  : CRi l D k st lo yX7_isCar cX7_isCar 2 (some .boolean) ({ frames := 0, cells := 0, slots := 0, locals := 0 }) [.ref (a 0), .int p0] [((a 0), .inr (7, [.ref (a 1), .ref (a 3), .ref (a 19), .ref (a 20), .ref (a 25), .int 0, .int (-1), .ref (a 32), .ref (a 35), .ref (a 42), .ref (a 43), .ref (a 44)])), ((a 32), .inr (4, [.ref (a 33), .ref (a 34), .int 0, .int 0, .int 0, .int 0]))] (fun r => r = 0) := by
  intro sz
  refine Met.ofW (cc := cX7_isCar) (maxL := 2) (ret := (some .boolean)) (by decide) rfl ?_
  intro p e s m args below meth c s₁ B hml hv
  obtain ⟨rfl, hsz, hlo, hP, hK, hDL, hZ⟩ := hv
  have hx := B.exec
  have hb := B.bytes
  have hr := B.returns
  have hts := WS_ts B.pre
  have hown : s.vm.findClass RX7 = some m.cls := findClass_of_methodNamed B.named
  have hlocks := B.notSynchronized
  subst hsz
  have hA : ∀ q : Nat, s.heap.size ≤ q → (fun q : Nat => s.heap.size ≤ q) q := fun _ h => h
  have hAlo : ∀ q : Nat, (fun q : Nat => s.heap.size ≤ q) q → lo ≤ q := fun q h => Nat.le_trans hlo h
  have hS : va_S (fun q : Nat => s.heap.size ≤ q) s.heap s.heap [] := va_S.rf
  have hl := lv_entry ([.ref (a 0), .int p0]) (n := 2) (Nat.le_of_ble_eq_true rfl)
  rw [lg_entry_eq]
  generalize (lg_sl ([.ref (a 0), .int p0]) ++ List.replicate (2 - (lg_sl ([.ref (a 0), .int p0])).length) Slot.unset).toArray = ls at hl ⊢
  have hl : lv_has ls 2 [(0, .ref (a 0)), (1, .int p0)] := hl
  refine lv_iload_n hx hb dX7_isCar_0 rfl (lv_at hl 1 rfl) ?_
  refine lv_if_lt (tgt := 19) hx hb dX7_isCar_1 (by decide) (fun c_1 => ?_) (fun c_1 => ?_)
  · refine lv_iconst (v := 0) hx hb dX7_isCar_19 (by decide) ?_
    exact W.zret (v := 0) (ty := .boolean) hx hb hr rfl (fun t ht hW => ⟨⟨0, (), rfl, rfl, trivial⟩, hS.F ht⟩) hS.2.2 dX7_isCar_20
  · refine lv_iload_n hx hb dX7_isCar_4 rfl (lv_at hl 1 rfl) ?_
    refine lv_aload_n hx hb dX7_isCar_5 rfl (lv_at hl 0 rfl) ?_
    refine va_get (D := D) (ci := 7) (v := .ref (a 32)) (C := RX7) (T := TX7) (N := 12) hx hb hts inX7 hown hK hP 0 rfl rfl 7 (by decide) (hts _ tw_312) (fun _ h9 => h9) rfl dX7_isCar_6 ?_
    refine va_get (D := D) (ci := 4) (v := .int 0) (C := RX4) (T := TX4) (N := 6) hx hb hts inX4 hown hK hP 1 rfl rfl 2 (by decide) (hts _ tw_180) (fun _ h9 => h9) rfl dX7_isCar_9 ?_
    refine lv_icmp_ge (tgt := 19) hx hb dX7_isCar_12 (by decide) (fun c_2 => ?_) (fun c_2 => absurd c_2 (fun h => h (Int32.not_lt.mp c_1)))
    refine lv_iconst (v := 0) hx hb dX7_isCar_19 (by decide) ?_
    exact W.zret (v := 0) (ty := .boolean) hx hb hr rfl (fun t ht hW => ⟨⟨0, (), rfl, rfl, trivial⟩, hS.F ht⟩) hS.2.2 dX7_isCar_20
end
section
theorem dX7_told_0 : decode cX7_told 0 = .ok (.aload_n 0, 1) := by decide +kernel
theorem dX7_told_1 : decode cX7_told 1 = .ok (.iload_n 1, 1) := by decide +kernel
theorem dX7_told_2 : decode cX7_told 2 = .ok (.invokevirtual 108, 3) := by decide +kernel
theorem dX7_told_5 : decode cX7_told 5 = .ok (.ifCond .ne 7, 3) := by decide +kernel
theorem dX7_told_8 : decode cX7_told 8 = .ok (.sipush (-1001), 3) := by decide +kernel
theorem dX7_told_11 : decode cX7_told 11 = .ok (.ireturn, 1) := by decide +kernel
set_option maxHeartbeats 4000000 in
set_option maxRecDepth 100000 in
theorem k_told (l : Launch) (D : va_G) (k : Nat → ClassId) (st : Nat → Nat) (lo : Nat) (a : Nat → Nat) (p0 : Int32) (p1 : Int32)  : CRi l D k st lo yX7_told cX7_told 3 (some .int) ({ frames := 2, cells := 0, slots := 0, locals := 41 }) [.ref (a 0), .int p0, .int p1] [((a 0), .inr (7, [.ref (a 1), .ref (a 3), .ref (a 19), .ref (a 20), .ref (a 25), .int 0, .int (-1), .ref (a 32), .ref (a 35), .ref (a 42), .ref (a 43), .ref (a 44)])), ((a 3), .inl (k 3, 3, .inr (.inr (.inr (.inr (a3 (a 4) (a 5) (a 6))))))), ((a 4), .inr (5, [.ref (a 7), .ref (a 10), .ref (a 13), .ref (a 16)])), ((a 5), .inr (5, [.ref (a 8), .ref (a 11), .ref (a 14), .ref (a 17)])), ((a 6), .inr (5, [.ref (a 9), .ref (a 12), .ref (a 15), .ref (a 18)])), ((a 7), .inl (k 1, 10, .inl (fun _ => 0))), ((a 8), .inl (k 1, 10, .inl (fun _ => 0))), ((a 9), .inl (k 1, 10, .inl (fun _ => 0)))] (fun r => r = -1001) := by
  intro sz
  refine Met.ofW (cc := cX7_told) (maxL := 3) (ret := (some .int)) (by decide) rfl ?_
  intro p e s m args below meth c s₁ B hml hv
  obtain ⟨rfl, hsz, hlo, hP, hK, hDL, hZ⟩ := hv
  have hx := B.exec
  have hb := B.bytes
  have hr := B.returns
  have hts := WS_ts B.pre
  have hown : s.vm.findClass RX7 = some m.cls := findClass_of_methodNamed B.named
  have hlocks := B.notSynchronized
  subst hsz
  have hA : ∀ q : Nat, s.heap.size ≤ q → (fun q : Nat => s.heap.size ≤ q) q := fun _ h => h
  have hAlo : ∀ q : Nat, (fun q : Nat => s.heap.size ≤ q) q → lo ≤ q := fun q h => Nat.le_trans hlo h
  have hS : va_S (fun q : Nat => s.heap.size ≤ q) s.heap s.heap [] := va_S.rf
  have hl := lv_entry ([.ref (a 0), .int p0, .int p1]) (n := 3) (Nat.le_of_ble_eq_true rfl)
  rw [lg_entry_eq]
  generalize (lg_sl ([.ref (a 0), .int p0, .int p1]) ++ List.replicate (3 - (lg_sl ([.ref (a 0), .int p0, .int p1])).length) Slot.unset).toArray = ls at hl ⊢
  have hl : lv_has ls 3 [(0, .ref (a 0)), (1, .int p0), (2, .int p1)] := hl
  refine lv_aload_n hx hb dX7_told_0 rfl (lv_at hl 0 rfl) ?_
  refine lv_iload_n hx hb dX7_told_1 rfl (lv_at hl 1 rfl) ?_
  refine ro_i (D := D) (va_runV (As := [.int p0]) (rest := []) ⟨hx, hb, hml, hown, hts⟩ ((k_isStreet l D k st lo a p0) s.heap.size) (cwV 1 hts (gV tw_589 tw_591 tw_8 tw_79 tw_592) rfl rfl rfl (by decide +kernel) ⟨Nat.le_of_ble_eq_true rfl, Nat.le_of_ble_eq_true rfl⟩) (pV hS hAlo hlo hP hK hDL hZ [0, 1, 2, 3, 4, 5, 6, 7] (by decide) rfl (ci := 7) (q0 := 0) rfl rfl) rfl rfl hl.1 rfl (lv_room (Nat.le_of_ble_eq_true rfl)) dX7_told_2 ⟨Nat.le_of_ble_eq_true rfl, Nat.le_of_ble_eq_true rfl⟩) hS hA hP (fun r_1 H locs hw_1 hP hS => ?_)
  try dsimp only at hw_1
  subst hw_1
  refine lv_if_ne (tgt := 12) hx hb dX7_told_5 (by decide) (fun h => absurd (by decide) h) (fun _ => ?_)
  refine lv_sipush (v := (-1001)) hx hb dX7_told_8 (by decide) ?_
  exact W.iret (v := (-1001)) hx hb hr (fun t ht hW => ⟨⟨(-1001), (), rfl, rfl, trivial⟩, hS.F ht⟩) hS.2.2 dX7_told_11
end
section
theorem dX7_door_0 : decode cX7_door 0 = .ok (.aload_n 0, 1) := by decide +kernel
theorem dX7_door_1 : decode cX7_door 1 = .ok (.iload_n 1, 1) := by decide +kernel
theorem dX7_door_2 : decode cX7_door 2 = .ok (.iload_n 2, 1) := by decide +kernel
theorem dX7_door_3 : decode cX7_door 3 = .ok (.invokevirtual 120, 3) := by decide +kernel
theorem dX7_door_6 : decode cX7_door 6 = .ok (.ifCond .ne 7, 3) := by decide +kernel
theorem dX7_door_9 : decode cX7_door 9 = .ok (.sipush (-1001), 3) := by decide +kernel
theorem dX7_door_12 : decode cX7_door 12 = .ok (.ireturn, 1) := by decide +kernel
set_option maxHeartbeats 4000000 in
set_option maxRecDepth 100000 in
theorem k_door (l : Launch) (D : va_G) (k : Nat → ClassId) (st : Nat → Nat) (lo : Nat) (a : Nat → Nat) (p0 : Int32) (p1 : Int32) (p2 : Int32)  : CRi l D k st lo yX7_door cX7_door 4 (some .int) ({ frames := 3, cells := 0, slots := 0, locals := 63 }) [.ref (a 0), .int p0, .int p1, .int p2] [((a 0), .inr (7, [.ref (a 1), .ref (a 3), .ref (a 19), .ref (a 20), .ref (a 25), .int 0, .int (-1), .ref (a 32), .ref (a 35), .ref (a 42), .ref (a 43), .ref (a 44)])), ((a 3), .inl (k 3, 3, .inr (.inr (.inr (.inr (a3 (a 4) (a 5) (a 6))))))), ((a 4), .inr (5, [.ref (a 7), .ref (a 10), .ref (a 13), .ref (a 16)])), ((a 5), .inr (5, [.ref (a 8), .ref (a 11), .ref (a 14), .ref (a 17)])), ((a 6), .inr (5, [.ref (a 9), .ref (a 12), .ref (a 15), .ref (a 18)])), ((a 7), .inl (k 1, 10, .inl (fun _ => 0))), ((a 8), .inl (k 1, 10, .inl (fun _ => 0))), ((a 9), .inl (k 1, 10, .inl (fun _ => 0)))] (fun r => r = -1001) := by
  intro sz
  refine Met.ofW (cc := cX7_door) (maxL := 4) (ret := (some .int)) (by decide) rfl ?_
  intro p e s m args below meth c s₁ B hml hv
  obtain ⟨rfl, hsz, hlo, hP, hK, hDL, hZ⟩ := hv
  have hx := B.exec
  have hb := B.bytes
  have hr := B.returns
  have hts := WS_ts B.pre
  have hown : s.vm.findClass RX7 = some m.cls := findClass_of_methodNamed B.named
  have hlocks := B.notSynchronized
  subst hsz
  have hA : ∀ q : Nat, s.heap.size ≤ q → (fun q : Nat => s.heap.size ≤ q) q := fun _ h => h
  have hAlo : ∀ q : Nat, (fun q : Nat => s.heap.size ≤ q) q → lo ≤ q := fun q h => Nat.le_trans hlo h
  have hS : va_S (fun q : Nat => s.heap.size ≤ q) s.heap s.heap [] := va_S.rf
  have hl := lv_entry ([.ref (a 0), .int p0, .int p1, .int p2]) (n := 4) (Nat.le_of_ble_eq_true rfl)
  rw [lg_entry_eq]
  generalize (lg_sl ([.ref (a 0), .int p0, .int p1, .int p2]) ++ List.replicate (4 - (lg_sl ([.ref (a 0), .int p0, .int p1, .int p2])).length) Slot.unset).toArray = ls at hl ⊢
  have hl : lv_has ls 4 [(0, .ref (a 0)), (1, .int p0), (2, .int p1), (3, .int p2)] := hl
  refine lv_aload_n hx hb dX7_door_0 rfl (lv_at hl 0 rfl) ?_
  refine lv_iload_n hx hb dX7_door_1 rfl (lv_at hl 1 rfl) ?_
  refine lv_iload_n hx hb dX7_door_2 rfl (lv_at hl 2 rfl) ?_
  refine ro_i (D := D) (va_runV (As := [.int p0, .int p1]) (rest := []) ⟨hx, hb, hml, hown, hts⟩ ((k_isDoor l D k st lo a p0 p1) s.heap.size) (cwV 2 hts (gV tw_600 tw_602 tw_9 tw_79 tw_603) rfl rfl rfl (by decide +kernel) ⟨Nat.le_of_ble_eq_true rfl, Nat.le_of_ble_eq_true rfl⟩) (pV hS hAlo hlo hP hK hDL hZ [0, 1, 2, 3, 4, 5, 6, 7] (by decide) rfl (ci := 7) (q0 := 0) rfl rfl) rfl rfl hl.1 rfl (lv_room (Nat.le_of_ble_eq_true rfl)) dX7_door_3 ⟨Nat.le_of_ble_eq_true rfl, Nat.le_of_ble_eq_true rfl⟩) hS hA hP (fun r_1 H locs hw_1 hP hS => ?_)
  try dsimp only at hw_1
  subst hw_1
  refine lv_if_ne (tgt := 13) hx hb dX7_door_6 (by decide) (fun h => absurd (by decide) h) (fun _ => ?_)
  refine lv_sipush (v := (-1001)) hx hb dX7_door_9 (by decide) ?_
  exact W.iret (v := (-1001)) hx hb hr (fun t ht hW => ⟨⟨(-1001), (), rfl, rfl, trivial⟩, hS.F ht⟩) hS.2.2 dX7_door_12
end
section
theorem dX7_chance_0 : decode cX7_chance 0 = .ok (.aload_n 0, 1) := by decide +kernel
theorem dX7_chance_1 : decode cX7_chance 1 = .ok (.iload_n 1, 1) := by decide +kernel
theorem dX7_chance_2 : decode cX7_chance 2 = .ok (.iload_n 2, 1) := by decide +kernel
theorem dX7_chance_3 : decode cX7_chance 3 = .ok (.invokevirtual 120, 3) := by decide +kernel
theorem dX7_chance_6 : decode cX7_chance 6 = .ok (.ifCond .eq 17, 3) := by decide +kernel
theorem dX7_chance_23 : decode cX7_chance 23 = .ok (.sipush (-1001), 3) := by decide +kernel
theorem dX7_chance_26 : decode cX7_chance 26 = .ok (.ireturn, 1) := by decide +kernel
set_option maxHeartbeats 4000000 in
set_option maxRecDepth 100000 in
theorem k_chance (l : Launch) (D : va_G) (k : Nat → ClassId) (st : Nat → Nat) (lo : Nat) (a : Nat → Nat) (p0 : Int32) (p1 : Int32) (p2 : Int32)  : CRi l D k st lo yX7_chance cX7_chance 4 (some .int) ({ frames := 3, cells := 0, slots := 0, locals := 63 }) [.ref (a 0), .int p0, .int p1, .int p2] [((a 0), .inr (7, [.ref (a 1), .ref (a 3), .ref (a 19), .ref (a 20), .ref (a 25), .int 0, .int (-1), .ref (a 32), .ref (a 35), .ref (a 42), .ref (a 43), .ref (a 44)])), ((a 3), .inl (k 3, 3, .inr (.inr (.inr (.inr (a3 (a 4) (a 5) (a 6))))))), ((a 4), .inr (5, [.ref (a 7), .ref (a 10), .ref (a 13), .ref (a 16)])), ((a 5), .inr (5, [.ref (a 8), .ref (a 11), .ref (a 14), .ref (a 17)])), ((a 6), .inr (5, [.ref (a 9), .ref (a 12), .ref (a 15), .ref (a 18)])), ((a 7), .inl (k 1, 10, .inl (fun _ => 0))), ((a 8), .inl (k 1, 10, .inl (fun _ => 0))), ((a 9), .inl (k 1, 10, .inl (fun _ => 0)))] (fun r => r = -1001) := by
  intro sz
  refine Met.ofW (cc := cX7_chance) (maxL := 4) (ret := (some .int)) (by decide) rfl ?_
  intro p e s m args below meth c s₁ B hml hv
  obtain ⟨rfl, hsz, hlo, hP, hK, hDL, hZ⟩ := hv
  have hx := B.exec
  have hb := B.bytes
  have hr := B.returns
  have hts := WS_ts B.pre
  have hown : s.vm.findClass RX7 = some m.cls := findClass_of_methodNamed B.named
  have hlocks := B.notSynchronized
  subst hsz
  have hA : ∀ q : Nat, s.heap.size ≤ q → (fun q : Nat => s.heap.size ≤ q) q := fun _ h => h
  have hAlo : ∀ q : Nat, (fun q : Nat => s.heap.size ≤ q) q → lo ≤ q := fun q h => Nat.le_trans hlo h
  have hS : va_S (fun q : Nat => s.heap.size ≤ q) s.heap s.heap [] := va_S.rf
  have hl := lv_entry ([.ref (a 0), .int p0, .int p1, .int p2]) (n := 4) (Nat.le_of_ble_eq_true rfl)
  rw [lg_entry_eq]
  generalize (lg_sl ([.ref (a 0), .int p0, .int p1, .int p2]) ++ List.replicate (4 - (lg_sl ([.ref (a 0), .int p0, .int p1, .int p2])).length) Slot.unset).toArray = ls at hl ⊢
  have hl : lv_has ls 4 [(0, .ref (a 0)), (1, .int p0), (2, .int p1), (3, .int p2)] := hl
  refine lv_aload_n hx hb dX7_chance_0 rfl (lv_at hl 0 rfl) ?_
  refine lv_iload_n hx hb dX7_chance_1 rfl (lv_at hl 1 rfl) ?_
  refine lv_iload_n hx hb dX7_chance_2 rfl (lv_at hl 2 rfl) ?_
  refine ro_i (D := D) (va_runV (As := [.int p0, .int p1]) (rest := []) ⟨hx, hb, hml, hown, hts⟩ ((k_isDoor l D k st lo a p0 p1) s.heap.size) (cwV 2 hts (gV tw_600 tw_602 tw_9 tw_79 tw_603) rfl rfl rfl (by decide +kernel) ⟨Nat.le_of_ble_eq_true rfl, Nat.le_of_ble_eq_true rfl⟩) (pV hS hAlo hlo hP hK hDL hZ [0, 1, 2, 3, 4, 5, 6, 7] (by decide) rfl (ci := 7) (q0 := 0) rfl rfl) rfl rfl hl.1 rfl (lv_room (Nat.le_of_ble_eq_true rfl)) dX7_chance_3 ⟨Nat.le_of_ble_eq_true rfl, Nat.le_of_ble_eq_true rfl⟩) hS hA hP (fun r_1 H locs hw_1 hP hS => ?_)
  try dsimp only at hw_1
  subst hw_1
  refine lv_if_eq (tgt := 23) hx hb dX7_chance_6 (by decide) (fun _ => ?_) (fun h => absurd (by decide) h)
  refine lv_sipush (v := (-1001)) hx hb dX7_chance_23 (by decide) ?_
  exact W.iret (v := (-1001)) hx hb hr (fun t ht hW => ⟨⟨(-1001), (), rfl, rfl, trivial⟩, hS.F ht⟩) hS.2.2 dX7_chance_26
end
section
theorem dX7_taking_0 : decode cX7_taking 0 = .ok (.aload_n 0, 1) := by decide +kernel
theorem dX7_taking_1 : decode cX7_taking 1 = .ok (.iload_n 1, 1) := by decide +kernel
theorem dX7_taking_2 : decode cX7_taking 2 = .ok (.iload_n 3, 1) := by decide +kernel
theorem dX7_taking_3 : decode cX7_taking 3 = .ok (.invokevirtual 120, 3) := by decide +kernel
theorem dX7_taking_6 : decode cX7_taking 6 = .ok (.ifCond .ne 7, 3) := by decide +kernel
theorem dX7_taking_9 : decode cX7_taking 9 = .ok (.sipush (-1001), 3) := by decide +kernel
theorem dX7_taking_12 : decode cX7_taking 12 = .ok (.ireturn, 1) := by decide +kernel
set_option maxHeartbeats 4000000 in
set_option maxRecDepth 100000 in
theorem k_taking (l : Launch) (D : va_G) (k : Nat → ClassId) (st : Nat → Nat) (lo : Nat) (a : Nat → Nat) (p0 : Int32) (p1 : Int32) (p2 : Int32)  : CRi l D k st lo yX7_taking cX7_taking 4 (some .int) ({ frames := 3, cells := 0, slots := 0, locals := 63 }) [.ref (a 0), .int p0, .int p1, .int p2] [((a 0), .inr (7, [.ref (a 1), .ref (a 3), .ref (a 19), .ref (a 20), .ref (a 25), .int 0, .int (-1), .ref (a 32), .ref (a 35), .ref (a 42), .ref (a 43), .ref (a 44)])), ((a 3), .inl (k 3, 3, .inr (.inr (.inr (.inr (a3 (a 4) (a 5) (a 6))))))), ((a 4), .inr (5, [.ref (a 7), .ref (a 10), .ref (a 13), .ref (a 16)])), ((a 5), .inr (5, [.ref (a 8), .ref (a 11), .ref (a 14), .ref (a 17)])), ((a 6), .inr (5, [.ref (a 9), .ref (a 12), .ref (a 15), .ref (a 18)])), ((a 7), .inl (k 1, 10, .inl (fun _ => 0))), ((a 8), .inl (k 1, 10, .inl (fun _ => 0))), ((a 9), .inl (k 1, 10, .inl (fun _ => 0)))] (fun r => r = -1001) := by
  intro sz
  refine Met.ofW (cc := cX7_taking) (maxL := 4) (ret := (some .int)) (by decide) rfl ?_
  intro p e s m args below meth c s₁ B hml hv
  obtain ⟨rfl, hsz, hlo, hP, hK, hDL, hZ⟩ := hv
  have hx := B.exec
  have hb := B.bytes
  have hr := B.returns
  have hts := WS_ts B.pre
  have hown : s.vm.findClass RX7 = some m.cls := findClass_of_methodNamed B.named
  have hlocks := B.notSynchronized
  subst hsz
  have hA : ∀ q : Nat, s.heap.size ≤ q → (fun q : Nat => s.heap.size ≤ q) q := fun _ h => h
  have hAlo : ∀ q : Nat, (fun q : Nat => s.heap.size ≤ q) q → lo ≤ q := fun q h => Nat.le_trans hlo h
  have hS : va_S (fun q : Nat => s.heap.size ≤ q) s.heap s.heap [] := va_S.rf
  have hl := lv_entry ([.ref (a 0), .int p0, .int p1, .int p2]) (n := 4) (Nat.le_of_ble_eq_true rfl)
  rw [lg_entry_eq]
  generalize (lg_sl ([.ref (a 0), .int p0, .int p1, .int p2]) ++ List.replicate (4 - (lg_sl ([.ref (a 0), .int p0, .int p1, .int p2])).length) Slot.unset).toArray = ls at hl ⊢
  have hl : lv_has ls 4 [(0, .ref (a 0)), (1, .int p0), (2, .int p1), (3, .int p2)] := hl
  refine lv_aload_n hx hb dX7_taking_0 rfl (lv_at hl 0 rfl) ?_
  refine lv_iload_n hx hb dX7_taking_1 rfl (lv_at hl 1 rfl) ?_
  refine lv_iload_n hx hb dX7_taking_2 rfl (lv_at hl 3 rfl) ?_
  refine ro_i (D := D) (va_runV (As := [.int p0, .int p2]) (rest := []) ⟨hx, hb, hml, hown, hts⟩ ((k_isDoor l D k st lo a p0 p2) s.heap.size) (cwV 2 hts (gV tw_600 tw_602 tw_9 tw_79 tw_603) rfl rfl rfl (by decide +kernel) ⟨Nat.le_of_ble_eq_true rfl, Nat.le_of_ble_eq_true rfl⟩) (pV hS hAlo hlo hP hK hDL hZ [0, 1, 2, 3, 4, 5, 6, 7] (by decide) rfl (ci := 7) (q0 := 0) rfl rfl) rfl rfl hl.1 rfl (lv_room (Nat.le_of_ble_eq_true rfl)) dX7_taking_3 ⟨Nat.le_of_ble_eq_true rfl, Nat.le_of_ble_eq_true rfl⟩) hS hA hP (fun r_1 H locs hw_1 hP hS => ?_)
  try dsimp only at hw_1
  subst hw_1
  refine lv_if_ne (tgt := 13) hx hb dX7_taking_6 (by decide) (fun h => absurd (by decide) h) (fun _ => ?_)
  refine lv_sipush (v := (-1001)) hx hb dX7_taking_9 (by decide) ?_
  exact W.iret (v := (-1001)) hx hb hr (fun t ht hW => ⟨⟨(-1001), (), rfl, rfl, trivial⟩, hS.F ht⟩) hS.2.2 dX7_taking_12
end
section
theorem dX7_worth_0 : decode cX7_worth 0 = .ok (.aload_n 0, 1) := by decide +kernel
theorem dX7_worth_1 : decode cX7_worth 1 = .ok (.iload_n 1, 1) := by decide +kernel
theorem dX7_worth_2 : decode cX7_worth 2 = .ok (.iload_n 2, 1) := by decide +kernel
theorem dX7_worth_3 : decode cX7_worth 3 = .ok (.iload_n 3, 1) := by decide +kernel
theorem dX7_worth_4 : decode cX7_worth 4 = .ok (.iload 4, 2) := by decide +kernel
theorem dX7_worth_6 : decode cX7_worth 6 = .ok (.invokevirtual 141, 3) := by decide +kernel
theorem dX7_worth_9 : decode cX7_worth 9 = .ok (.istore 5, 2) := by decide +kernel
theorem dX7_worth_11 : decode cX7_worth 11 = .ok (.iload 5, 2) := by decide +kernel
theorem dX7_worth_13 : decode cX7_worth 13 = .ok (.ifCond .eq 8, 3) := by decide +kernel
theorem dX7_worth_16 : decode cX7_worth 16 = .ok (.iload 5, 2) := by decide +kernel
theorem dX7_worth_18 : decode cX7_worth 18 = .ok (.goto 16, 3) := by decide +kernel
theorem dX7_worth_34 : decode cX7_worth 34 = .ok (.ireturn, 1) := by decide +kernel
set_option maxHeartbeats 4000000 in
set_option maxRecDepth 100000 in
theorem k_worth (l : Launch) (D : va_G) (k : Nat → ClassId) (st : Nat → Nat) (lo : Nat) (a : Nat → Nat) (p0 : Int32) (p1 : Int32) (p2 : Int32) (p3 : Int32)  : CRi l D k st lo yX7_worth cX7_worth 6 (some .int) ({ frames := 4, cells := 0, slots := 0, locals := 88 }) [.ref (a 0), .int p0, .int p1, .int p2, .int p3] [((a 0), .inr (7, [.ref (a 1), .ref (a 3), .ref (a 19), .ref (a 20), .ref (a 25), .int 0, .int (-1), .ref (a 32), .ref (a 35), .ref (a 42), .ref (a 43), .ref (a 44)])), ((a 3), .inl (k 3, 3, .inr (.inr (.inr (.inr (a3 (a 4) (a 5) (a 6))))))), ((a 4), .inr (5, [.ref (a 7), .ref (a 10), .ref (a 13), .ref (a 16)])), ((a 5), .inr (5, [.ref (a 8), .ref (a 11), .ref (a 14), .ref (a 17)])), ((a 6), .inr (5, [.ref (a 9), .ref (a 12), .ref (a 15), .ref (a 18)])), ((a 7), .inl (k 1, 10, .inl (fun _ => 0))), ((a 8), .inl (k 1, 10, .inl (fun _ => 0))), ((a 9), .inl (k 1, 10, .inl (fun _ => 0)))] (fun r => r = -1001) := by
  intro sz
  refine Met.ofW (cc := cX7_worth) (maxL := 6) (ret := (some .int)) (by decide) rfl ?_
  intro p e s m args below meth c s₁ B hml hv
  obtain ⟨rfl, hsz, hlo, hP, hK, hDL, hZ⟩ := hv
  have hx := B.exec
  have hb := B.bytes
  have hr := B.returns
  have hts := WS_ts B.pre
  have hown : s.vm.findClass RX7 = some m.cls := findClass_of_methodNamed B.named
  have hlocks := B.notSynchronized
  subst hsz
  have hA : ∀ q : Nat, s.heap.size ≤ q → (fun q : Nat => s.heap.size ≤ q) q := fun _ h => h
  have hAlo : ∀ q : Nat, (fun q : Nat => s.heap.size ≤ q) q → lo ≤ q := fun q h => Nat.le_trans hlo h
  have hS : va_S (fun q : Nat => s.heap.size ≤ q) s.heap s.heap [] := va_S.rf
  have hl := lv_entry ([.ref (a 0), .int p0, .int p1, .int p2, .int p3]) (n := 6) (Nat.le_of_ble_eq_true rfl)
  rw [lg_entry_eq]
  generalize (lg_sl ([.ref (a 0), .int p0, .int p1, .int p2, .int p3]) ++ List.replicate (6 - (lg_sl ([.ref (a 0), .int p0, .int p1, .int p2, .int p3])).length) Slot.unset).toArray = ls at hl ⊢
  have hl : lv_has ls 6 [(0, .ref (a 0)), (1, .int p0), (2, .int p1), (3, .int p2), (4, .int p3)] := hl
  refine lv_aload_n hx hb dX7_worth_0 rfl (lv_at hl 0 rfl) ?_
  refine lv_iload_n hx hb dX7_worth_1 rfl (lv_at hl 1 rfl) ?_
  refine lv_iload_n hx hb dX7_worth_2 rfl (lv_at hl 2 rfl) ?_
  refine lv_iload_n hx hb dX7_worth_3 rfl (lv_at hl 3 rfl) ?_
  refine lv_iload hx hb dX7_worth_4 (lv_at hl 4 rfl) ?_
  refine ro_i (D := D) (va_runV (As := [.int p0, .int p1, .int p2, .int p3]) (rest := []) ⟨hx, hb, hml, hown, hts⟩ ((k_refuseSight l D k st lo a p0 p1 p2 p3) s.heap.size) (cwV 4 hts (gV tw_622 tw_624 tw_11 tw_79 tw_625) rfl rfl rfl (by decide +kernel) ⟨Nat.le_of_ble_eq_true rfl, Nat.le_of_ble_eq_true rfl⟩) (pV hS hAlo hlo hP hK hDL hZ [0, 1, 2, 3, 4, 5, 6, 7] (by decide) rfl (ci := 7) (q0 := 0) rfl rfl) rfl rfl hl.1 rfl (lv_room (Nat.le_of_ble_eq_true rfl)) dX7_worth_6 ⟨Nat.le_of_ble_eq_true rfl, Nat.le_of_ble_eq_true rfl⟩) hS hA hP (fun r_1 H locs hw_1 hP hS => ?_)
  try dsimp only at hw_1
  subst hw_1
  refine lv_istore (lv' := [(5, .int (-1001)), (0, .ref (a 0)), (1, .int p0), (2, .int p1), (3, .int p2), (4, .int p3)]) hx hb dX7_worth_9 hl (by decide) rfl (fun ls hl => ?_)
  refine lv_iload hx hb dX7_worth_11 (lv_at hl 0 rfl) ?_
  refine lv_if_eq (tgt := 21) hx hb dX7_worth_13 (by decide) (fun h => absurd h (by decide)) (fun _ => ?_)
  refine lv_iload hx hb dX7_worth_16 (lv_at hl 0 rfl) ?_
  refine lv_goto (tgt := 34) hx hb dX7_worth_18 (by decide) ?_
  exact W.iret (v := (-1001)) hx hb hr (fun t ht hW => ⟨⟨(-1001), (), rfl, rfl, trivial⟩, hS.F ht⟩) hS.2.2 dX7_worth_34
end
section
theorem dX7_goingOn_0 : decode cX7_goingOn 0 = .ok (.aload_n 0, 1) := by decide +kernel
theorem dX7_goingOn_1 : decode cX7_goingOn 1 = .ok (.iload_n 1, 1) := by decide +kernel
theorem dX7_goingOn_2 : decode cX7_goingOn 2 = .ok (.iload_n 2, 1) := by decide +kernel
theorem dX7_goingOn_3 : decode cX7_goingOn 3 = .ok (.iload_n 3, 1) := by decide +kernel
theorem dX7_goingOn_4 : decode cX7_goingOn 4 = .ok (.iload 4, 2) := by decide +kernel
theorem dX7_goingOn_6 : decode cX7_goingOn 6 = .ok (.invokevirtual 141, 3) := by decide +kernel
theorem dX7_goingOn_9 : decode cX7_goingOn 9 = .ok (.istore 5, 2) := by decide +kernel
theorem dX7_goingOn_11 : decode cX7_goingOn 11 = .ok (.iload 5, 2) := by decide +kernel
theorem dX7_goingOn_13 : decode cX7_goingOn 13 = .ok (.ifCond .eq 8, 3) := by decide +kernel
theorem dX7_goingOn_16 : decode cX7_goingOn 16 = .ok (.iload 5, 2) := by decide +kernel
theorem dX7_goingOn_18 : decode cX7_goingOn 18 = .ok (.goto 16, 3) := by decide +kernel
theorem dX7_goingOn_34 : decode cX7_goingOn 34 = .ok (.ireturn, 1) := by decide +kernel
set_option maxHeartbeats 4000000 in
set_option maxRecDepth 100000 in
theorem k_goingOn (l : Launch) (D : va_G) (k : Nat → ClassId) (st : Nat → Nat) (lo : Nat) (a : Nat → Nat) (p0 : Int32) (p1 : Int32) (p2 : Int32) (p3 : Int32)  : CRi l D k st lo yX7_goingOn cX7_goingOn 6 (some .int) ({ frames := 4, cells := 0, slots := 0, locals := 88 }) [.ref (a 0), .int p0, .int p1, .int p2, .int p3] [((a 0), .inr (7, [.ref (a 1), .ref (a 3), .ref (a 19), .ref (a 20), .ref (a 25), .int 0, .int (-1), .ref (a 32), .ref (a 35), .ref (a 42), .ref (a 43), .ref (a 44)])), ((a 3), .inl (k 3, 3, .inr (.inr (.inr (.inr (a3 (a 4) (a 5) (a 6))))))), ((a 4), .inr (5, [.ref (a 7), .ref (a 10), .ref (a 13), .ref (a 16)])), ((a 5), .inr (5, [.ref (a 8), .ref (a 11), .ref (a 14), .ref (a 17)])), ((a 6), .inr (5, [.ref (a 9), .ref (a 12), .ref (a 15), .ref (a 18)])), ((a 7), .inl (k 1, 10, .inl (fun _ => 0))), ((a 8), .inl (k 1, 10, .inl (fun _ => 0))), ((a 9), .inl (k 1, 10, .inl (fun _ => 0)))] (fun r => r = -1001) := by
  intro sz
  refine Met.ofW (cc := cX7_goingOn) (maxL := 6) (ret := (some .int)) (by decide) rfl ?_
  intro p e s m args below meth c s₁ B hml hv
  obtain ⟨rfl, hsz, hlo, hP, hK, hDL, hZ⟩ := hv
  have hx := B.exec
  have hb := B.bytes
  have hr := B.returns
  have hts := WS_ts B.pre
  have hown : s.vm.findClass RX7 = some m.cls := findClass_of_methodNamed B.named
  have hlocks := B.notSynchronized
  subst hsz
  have hA : ∀ q : Nat, s.heap.size ≤ q → (fun q : Nat => s.heap.size ≤ q) q := fun _ h => h
  have hAlo : ∀ q : Nat, (fun q : Nat => s.heap.size ≤ q) q → lo ≤ q := fun q h => Nat.le_trans hlo h
  have hS : va_S (fun q : Nat => s.heap.size ≤ q) s.heap s.heap [] := va_S.rf
  have hl := lv_entry ([.ref (a 0), .int p0, .int p1, .int p2, .int p3]) (n := 6) (Nat.le_of_ble_eq_true rfl)
  rw [lg_entry_eq]
  generalize (lg_sl ([.ref (a 0), .int p0, .int p1, .int p2, .int p3]) ++ List.replicate (6 - (lg_sl ([.ref (a 0), .int p0, .int p1, .int p2, .int p3])).length) Slot.unset).toArray = ls at hl ⊢
  have hl : lv_has ls 6 [(0, .ref (a 0)), (1, .int p0), (2, .int p1), (3, .int p2), (4, .int p3)] := hl
  refine lv_aload_n hx hb dX7_goingOn_0 rfl (lv_at hl 0 rfl) ?_
  refine lv_iload_n hx hb dX7_goingOn_1 rfl (lv_at hl 1 rfl) ?_
  refine lv_iload_n hx hb dX7_goingOn_2 rfl (lv_at hl 2 rfl) ?_
  refine lv_iload_n hx hb dX7_goingOn_3 rfl (lv_at hl 3 rfl) ?_
  refine lv_iload hx hb dX7_goingOn_4 (lv_at hl 4 rfl) ?_
  refine ro_i (D := D) (va_runV (As := [.int p0, .int p1, .int p2, .int p3]) (rest := []) ⟨hx, hb, hml, hown, hts⟩ ((k_refuseSight l D k st lo a p0 p1 p2 p3) s.heap.size) (cwV 4 hts (gV tw_622 tw_624 tw_11 tw_79 tw_625) rfl rfl rfl (by decide +kernel) ⟨Nat.le_of_ble_eq_true rfl, Nat.le_of_ble_eq_true rfl⟩) (pV hS hAlo hlo hP hK hDL hZ [0, 1, 2, 3, 4, 5, 6, 7] (by decide) rfl (ci := 7) (q0 := 0) rfl rfl) rfl rfl hl.1 rfl (lv_room (Nat.le_of_ble_eq_true rfl)) dX7_goingOn_6 ⟨Nat.le_of_ble_eq_true rfl, Nat.le_of_ble_eq_true rfl⟩) hS hA hP (fun r_1 H locs hw_1 hP hS => ?_)
  try dsimp only at hw_1
  subst hw_1
  refine lv_istore (lv' := [(5, .int (-1001)), (0, .ref (a 0)), (1, .int p0), (2, .int p1), (3, .int p2), (4, .int p3)]) hx hb dX7_goingOn_9 hl (by decide) rfl (fun ls hl => ?_)
  refine lv_iload hx hb dX7_goingOn_11 (lv_at hl 0 rfl) ?_
  refine lv_if_eq (tgt := 21) hx hb dX7_goingOn_13 (by decide) (fun h => absurd h (by decide)) (fun _ => ?_)
  refine lv_iload hx hb dX7_goingOn_16 (lv_at hl 0 rfl) ?_
  refine lv_goto (tgt := 34) hx hb dX7_goingOn_18 (by decide) ?_
  exact W.iret (v := (-1001)) hx hb hr (fun t ht hW => ⟨⟨(-1001), (), rfl, rfl, trivial⟩, hS.F ht⟩) hS.2.2 dX7_goingOn_34
end
section
theorem dX7_takes_0 : decode cX7_takes 0 = .ok (.aload_n 0, 1) := by decide +kernel
theorem dX7_takes_1 : decode cX7_takes 1 = .ok (.iload_n 1, 1) := by decide +kernel
theorem dX7_takes_2 : decode cX7_takes 2 = .ok (.iload_n 2, 1) := by decide +kernel
theorem dX7_takes_3 : decode cX7_takes 3 = .ok (.iload_n 3, 1) := by decide +kernel
theorem dX7_takes_4 : decode cX7_takes 4 = .ok (.iload 4, 2) := by decide +kernel
theorem dX7_takes_6 : decode cX7_takes 6 = .ok (.invokevirtual 141, 3) := by decide +kernel
theorem dX7_takes_9 : decode cX7_takes 9 = .ok (.istore 5, 2) := by decide +kernel
theorem dX7_takes_11 : decode cX7_takes 11 = .ok (.iload 5, 2) := by decide +kernel
theorem dX7_takes_13 : decode cX7_takes 13 = .ok (.ifCond .eq 6, 3) := by decide +kernel
theorem dX7_takes_16 : decode cX7_takes 16 = .ok (.iload 5, 2) := by decide +kernel
theorem dX7_takes_18 : decode cX7_takes 18 = .ok (.ireturn, 1) := by decide +kernel
set_option maxHeartbeats 4000000 in
set_option maxRecDepth 100000 in
theorem k_takes (l : Launch) (D : va_G) (k : Nat → ClassId) (st : Nat → Nat) (lo : Nat) (a : Nat → Nat) (p0 : Int32) (p1 : Int32) (p2 : Int32) (p3 : Int32)  : CRi l D k st lo yX7_takes cX7_takes 6 (some .int) ({ frames := 4, cells := 0, slots := 0, locals := 88 }) [.ref (a 0), .int p0, .int p1, .int p2, .int p3] [((a 0), .inr (7, [.ref (a 1), .ref (a 3), .ref (a 19), .ref (a 20), .ref (a 25), .int 0, .int (-1), .ref (a 32), .ref (a 35), .ref (a 42), .ref (a 43), .ref (a 44)])), ((a 3), .inl (k 3, 3, .inr (.inr (.inr (.inr (a3 (a 4) (a 5) (a 6))))))), ((a 4), .inr (5, [.ref (a 7), .ref (a 10), .ref (a 13), .ref (a 16)])), ((a 5), .inr (5, [.ref (a 8), .ref (a 11), .ref (a 14), .ref (a 17)])), ((a 6), .inr (5, [.ref (a 9), .ref (a 12), .ref (a 15), .ref (a 18)])), ((a 7), .inl (k 1, 10, .inl (fun _ => 0))), ((a 8), .inl (k 1, 10, .inl (fun _ => 0))), ((a 9), .inl (k 1, 10, .inl (fun _ => 0)))] (fun r => r = -1001) := by
  intro sz
  refine Met.ofW (cc := cX7_takes) (maxL := 6) (ret := (some .int)) (by decide) rfl ?_
  intro p e s m args below meth c s₁ B hml hv
  obtain ⟨rfl, hsz, hlo, hP, hK, hDL, hZ⟩ := hv
  have hx := B.exec
  have hb := B.bytes
  have hr := B.returns
  have hts := WS_ts B.pre
  have hown : s.vm.findClass RX7 = some m.cls := findClass_of_methodNamed B.named
  have hlocks := B.notSynchronized
  subst hsz
  have hA : ∀ q : Nat, s.heap.size ≤ q → (fun q : Nat => s.heap.size ≤ q) q := fun _ h => h
  have hAlo : ∀ q : Nat, (fun q : Nat => s.heap.size ≤ q) q → lo ≤ q := fun q h => Nat.le_trans hlo h
  have hS : va_S (fun q : Nat => s.heap.size ≤ q) s.heap s.heap [] := va_S.rf
  have hl := lv_entry ([.ref (a 0), .int p0, .int p1, .int p2, .int p3]) (n := 6) (Nat.le_of_ble_eq_true rfl)
  rw [lg_entry_eq]
  generalize (lg_sl ([.ref (a 0), .int p0, .int p1, .int p2, .int p3]) ++ List.replicate (6 - (lg_sl ([.ref (a 0), .int p0, .int p1, .int p2, .int p3])).length) Slot.unset).toArray = ls at hl ⊢
  have hl : lv_has ls 6 [(0, .ref (a 0)), (1, .int p0), (2, .int p1), (3, .int p2), (4, .int p3)] := hl
  refine lv_aload_n hx hb dX7_takes_0 rfl (lv_at hl 0 rfl) ?_
  refine lv_iload_n hx hb dX7_takes_1 rfl (lv_at hl 1 rfl) ?_
  refine lv_iload_n hx hb dX7_takes_2 rfl (lv_at hl 2 rfl) ?_
  refine lv_iload_n hx hb dX7_takes_3 rfl (lv_at hl 3 rfl) ?_
  refine lv_iload hx hb dX7_takes_4 (lv_at hl 4 rfl) ?_
  refine ro_i (D := D) (va_runV (As := [.int p0, .int p1, .int p2, .int p3]) (rest := []) ⟨hx, hb, hml, hown, hts⟩ ((k_refuseSight l D k st lo a p0 p1 p2 p3) s.heap.size) (cwV 4 hts (gV tw_622 tw_624 tw_11 tw_79 tw_625) rfl rfl rfl (by decide +kernel) ⟨Nat.le_of_ble_eq_true rfl, Nat.le_of_ble_eq_true rfl⟩) (pV hS hAlo hlo hP hK hDL hZ [0, 1, 2, 3, 4, 5, 6, 7] (by decide) rfl (ci := 7) (q0 := 0) rfl rfl) rfl rfl hl.1 rfl (lv_room (Nat.le_of_ble_eq_true rfl)) dX7_takes_6 ⟨Nat.le_of_ble_eq_true rfl, Nat.le_of_ble_eq_true rfl⟩) hS hA hP (fun r_1 H locs hw_1 hP hS => ?_)
  try dsimp only at hw_1
  subst hw_1
  refine lv_istore (lv' := [(5, .int (-1001)), (0, .ref (a 0)), (1, .int p0), (2, .int p1), (3, .int p2), (4, .int p3)]) hx hb dX7_takes_9 hl (by decide) rfl (fun ls hl => ?_)
  refine lv_iload hx hb dX7_takes_11 (lv_at hl 0 rfl) ?_
  refine lv_if_eq (tgt := 19) hx hb dX7_takes_13 (by decide) (fun h => absurd h (by decide)) (fun _ => ?_)
  refine lv_iload hx hb dX7_takes_16 (lv_at hl 0 rfl) ?_
  exact W.iret (v := (-1001)) hx hb hr (fun t ht hW => ⟨⟨(-1001), (), rfl, rfl, trivial⟩, hS.F ht⟩) hS.2.2 dX7_takes_18
end
section
theorem dX7_start_0 : decode cX7_start 0 = .ok (.aload_n 0, 1) := by decide +kernel
theorem dX7_start_1 : decode cX7_start 1 = .ok (.iload_n 1, 1) := by decide +kernel
theorem dX7_start_2 : decode cX7_start 2 = .ok (.invokevirtual 108, 3) := by decide +kernel
theorem dX7_start_5 : decode cX7_start 5 = .ok (.ifCond .ne 7, 3) := by decide +kernel
theorem dX7_start_8 : decode cX7_start 8 = .ok (.sipush (-1001), 3) := by decide +kernel
theorem dX7_start_11 : decode cX7_start 11 = .ok (.ireturn, 1) := by decide +kernel
set_option maxHeartbeats 4000000 in
set_option maxRecDepth 100000 in
theorem k_start (l : Launch) (D : va_G) (k : Nat → ClassId) (st : Nat → Nat) (lo : Nat) (a : Nat → Nat) (p0 : Int32) (p1 : Int32)  : CRi l D k st lo yX7_start cX7_start 3 (some .int) ({ frames := 2, cells := 0, slots := 0, locals := 41 }) [.ref (a 0), .int p0, .int p1] [((a 0), .inr (7, [.ref (a 1), .ref (a 3), .ref (a 19), .ref (a 20), .ref (a 25), .int 0, .int (-1), .ref (a 32), .ref (a 35), .ref (a 42), .ref (a 43), .ref (a 44)])), ((a 3), .inl (k 3, 3, .inr (.inr (.inr (.inr (a3 (a 4) (a 5) (a 6))))))), ((a 4), .inr (5, [.ref (a 7), .ref (a 10), .ref (a 13), .ref (a 16)])), ((a 5), .inr (5, [.ref (a 8), .ref (a 11), .ref (a 14), .ref (a 17)])), ((a 6), .inr (5, [.ref (a 9), .ref (a 12), .ref (a 15), .ref (a 18)])), ((a 7), .inl (k 1, 10, .inl (fun _ => 0))), ((a 8), .inl (k 1, 10, .inl (fun _ => 0))), ((a 9), .inl (k 1, 10, .inl (fun _ => 0)))] (fun r => r = -1001) := by
  intro sz
  refine Met.ofW (cc := cX7_start) (maxL := 3) (ret := (some .int)) (by decide) rfl ?_
  intro p e s m args below meth c s₁ B hml hv
  obtain ⟨rfl, hsz, hlo, hP, hK, hDL, hZ⟩ := hv
  have hx := B.exec
  have hb := B.bytes
  have hr := B.returns
  have hts := WS_ts B.pre
  have hown : s.vm.findClass RX7 = some m.cls := findClass_of_methodNamed B.named
  have hlocks := B.notSynchronized
  subst hsz
  have hA : ∀ q : Nat, s.heap.size ≤ q → (fun q : Nat => s.heap.size ≤ q) q := fun _ h => h
  have hAlo : ∀ q : Nat, (fun q : Nat => s.heap.size ≤ q) q → lo ≤ q := fun q h => Nat.le_trans hlo h
  have hS : va_S (fun q : Nat => s.heap.size ≤ q) s.heap s.heap [] := va_S.rf
  have hl := lv_entry ([.ref (a 0), .int p0, .int p1]) (n := 3) (Nat.le_of_ble_eq_true rfl)
  rw [lg_entry_eq]
  generalize (lg_sl ([.ref (a 0), .int p0, .int p1]) ++ List.replicate (3 - (lg_sl ([.ref (a 0), .int p0, .int p1])).length) Slot.unset).toArray = ls at hl ⊢
  have hl : lv_has ls 3 [(0, .ref (a 0)), (1, .int p0), (2, .int p1)] := hl
  refine lv_aload_n hx hb dX7_start_0 rfl (lv_at hl 0 rfl) ?_
  refine lv_iload_n hx hb dX7_start_1 rfl (lv_at hl 1 rfl) ?_
  refine ro_i (D := D) (va_runV (As := [.int p0]) (rest := []) ⟨hx, hb, hml, hown, hts⟩ ((k_isStreet l D k st lo a p0) s.heap.size) (cwV 1 hts (gV tw_589 tw_591 tw_8 tw_79 tw_592) rfl rfl rfl (by decide +kernel) ⟨Nat.le_of_ble_eq_true rfl, Nat.le_of_ble_eq_true rfl⟩) (pV hS hAlo hlo hP hK hDL hZ [0, 1, 2, 3, 4, 5, 6, 7] (by decide) rfl (ci := 7) (q0 := 0) rfl rfl) rfl rfl hl.1 rfl (lv_room (Nat.le_of_ble_eq_true rfl)) dX7_start_2 ⟨Nat.le_of_ble_eq_true rfl, Nat.le_of_ble_eq_true rfl⟩) hS hA hP (fun r_1 H locs hw_1 hP hS => ?_)
  try dsimp only at hw_1
  subst hw_1
  refine lv_if_ne (tgt := 12) hx hb dX7_start_5 (by decide) (fun h => absurd (by decide) h) (fun _ => ?_)
  refine lv_sipush (v := (-1001)) hx hb dX7_start_8 (by decide) ?_
  exact W.iret (v := (-1001)) hx hb hr (fun t ht hW => ⟨⟨(-1001), (), rfl, rfl, trivial⟩, hS.F ht⟩) hS.2.2 dX7_start_11
end
section
theorem dX7_end_0 : decode cX7_end 0 = .ok (.aload_n 0, 1) := by decide +kernel
theorem dX7_end_1 : decode cX7_end 1 = .ok (.iload_n 1, 1) := by decide +kernel
theorem dX7_end_2 : decode cX7_end 2 = .ok (.invokevirtual 108, 3) := by decide +kernel
theorem dX7_end_5 : decode cX7_end 5 = .ok (.ifCond .ne 7, 3) := by decide +kernel
theorem dX7_end_8 : decode cX7_end 8 = .ok (.sipush (-1001), 3) := by decide +kernel
theorem dX7_end_11 : decode cX7_end 11 = .ok (.ireturn, 1) := by decide +kernel
set_option maxHeartbeats 4000000 in
set_option maxRecDepth 100000 in
theorem k_end (l : Launch) (D : va_G) (k : Nat → ClassId) (st : Nat → Nat) (lo : Nat) (a : Nat → Nat) (p0 : Int32) (p1 : Int32) (p2 : Int32)  : CRi l D k st lo yX7_end cX7_end 4 (some .int) ({ frames := 2, cells := 0, slots := 0, locals := 41 }) [.ref (a 0), .int p0, .int p1, .int p2] [((a 0), .inr (7, [.ref (a 1), .ref (a 3), .ref (a 19), .ref (a 20), .ref (a 25), .int 0, .int (-1), .ref (a 32), .ref (a 35), .ref (a 42), .ref (a 43), .ref (a 44)])), ((a 3), .inl (k 3, 3, .inr (.inr (.inr (.inr (a3 (a 4) (a 5) (a 6))))))), ((a 4), .inr (5, [.ref (a 7), .ref (a 10), .ref (a 13), .ref (a 16)])), ((a 5), .inr (5, [.ref (a 8), .ref (a 11), .ref (a 14), .ref (a 17)])), ((a 6), .inr (5, [.ref (a 9), .ref (a 12), .ref (a 15), .ref (a 18)])), ((a 7), .inl (k 1, 10, .inl (fun _ => 0))), ((a 8), .inl (k 1, 10, .inl (fun _ => 0))), ((a 9), .inl (k 1, 10, .inl (fun _ => 0)))] (fun r => r = -1001) := by
  intro sz
  refine Met.ofW (cc := cX7_end) (maxL := 4) (ret := (some .int)) (by decide) rfl ?_
  intro p e s m args below meth c s₁ B hml hv
  obtain ⟨rfl, hsz, hlo, hP, hK, hDL, hZ⟩ := hv
  have hx := B.exec
  have hb := B.bytes
  have hr := B.returns
  have hts := WS_ts B.pre
  have hown : s.vm.findClass RX7 = some m.cls := findClass_of_methodNamed B.named
  have hlocks := B.notSynchronized
  subst hsz
  have hA : ∀ q : Nat, s.heap.size ≤ q → (fun q : Nat => s.heap.size ≤ q) q := fun _ h => h
  have hAlo : ∀ q : Nat, (fun q : Nat => s.heap.size ≤ q) q → lo ≤ q := fun q h => Nat.le_trans hlo h
  have hS : va_S (fun q : Nat => s.heap.size ≤ q) s.heap s.heap [] := va_S.rf
  have hl := lv_entry ([.ref (a 0), .int p0, .int p1, .int p2]) (n := 4) (Nat.le_of_ble_eq_true rfl)
  rw [lg_entry_eq]
  generalize (lg_sl ([.ref (a 0), .int p0, .int p1, .int p2]) ++ List.replicate (4 - (lg_sl ([.ref (a 0), .int p0, .int p1, .int p2])).length) Slot.unset).toArray = ls at hl ⊢
  have hl : lv_has ls 4 [(0, .ref (a 0)), (1, .int p0), (2, .int p1), (3, .int p2)] := hl
  refine lv_aload_n hx hb dX7_end_0 rfl (lv_at hl 0 rfl) ?_
  refine lv_iload_n hx hb dX7_end_1 rfl (lv_at hl 1 rfl) ?_
  refine ro_i (D := D) (va_runV (As := [.int p0]) (rest := []) ⟨hx, hb, hml, hown, hts⟩ ((k_isStreet l D k st lo a p0) s.heap.size) (cwV 1 hts (gV tw_589 tw_591 tw_8 tw_79 tw_592) rfl rfl rfl (by decide +kernel) ⟨Nat.le_of_ble_eq_true rfl, Nat.le_of_ble_eq_true rfl⟩) (pV hS hAlo hlo hP hK hDL hZ [0, 1, 2, 3, 4, 5, 6, 7] (by decide) rfl (ci := 7) (q0 := 0) rfl rfl) rfl rfl hl.1 rfl (lv_room (Nat.le_of_ble_eq_true rfl)) dX7_end_2 ⟨Nat.le_of_ble_eq_true rfl, Nat.le_of_ble_eq_true rfl⟩) hS hA hP (fun r_1 H locs hw_1 hP hS => ?_)
  try dsimp only at hw_1
  subst hw_1
  refine lv_if_ne (tgt := 12) hx hb dX7_end_5 (by decide) (fun h => absurd (by decide) h) (fun _ => ?_)
  refine lv_sipush (v := (-1001)) hx hb dX7_end_8 (by decide) ?_
  exact W.iret (v := (-1001)) hx hb hr (fun t ht hW => ⟨⟨(-1001), (), rfl, rfl, trivial⟩, hS.F ht⟩) hS.2.2 dX7_end_11
end
section
theorem dX7_bar_0 : decode cX7_bar 0 = .ok (.aload_n 0, 1) := by decide +kernel
theorem dX7_bar_1 : decode cX7_bar 1 = .ok (.iload_n 1, 1) := by decide +kernel
theorem dX7_bar_2 : decode cX7_bar 2 = .ok (.invokevirtual 108, 3) := by decide +kernel
theorem dX7_bar_5 : decode cX7_bar 5 = .ok (.ifCond .ne 7, 3) := by decide +kernel
theorem dX7_bar_8 : decode cX7_bar 8 = .ok (.sipush (-1001), 3) := by decide +kernel
theorem dX7_bar_11 : decode cX7_bar 11 = .ok (.ireturn, 1) := by decide +kernel
set_option maxHeartbeats 4000000 in
set_option maxRecDepth 100000 in
theorem k_bar (l : Launch) (D : va_G) (k : Nat → ClassId) (st : Nat → Nat) (lo : Nat) (a : Nat → Nat) (p0 : Int32) (p1 : Int32)  : CRi l D k st lo yX7_bar cX7_bar 3 (some .int) ({ frames := 2, cells := 0, slots := 0, locals := 41 }) [.ref (a 0), .int p0, .int p1] [((a 0), .inr (7, [.ref (a 1), .ref (a 3), .ref (a 19), .ref (a 20), .ref (a 25), .int 0, .int (-1), .ref (a 32), .ref (a 35), .ref (a 42), .ref (a 43), .ref (a 44)])), ((a 3), .inl (k 3, 3, .inr (.inr (.inr (.inr (a3 (a 4) (a 5) (a 6))))))), ((a 4), .inr (5, [.ref (a 7), .ref (a 10), .ref (a 13), .ref (a 16)])), ((a 5), .inr (5, [.ref (a 8), .ref (a 11), .ref (a 14), .ref (a 17)])), ((a 6), .inr (5, [.ref (a 9), .ref (a 12), .ref (a 15), .ref (a 18)])), ((a 7), .inl (k 1, 10, .inl (fun _ => 0))), ((a 8), .inl (k 1, 10, .inl (fun _ => 0))), ((a 9), .inl (k 1, 10, .inl (fun _ => 0)))] (fun r => r = -1001) := by
  intro sz
  refine Met.ofW (cc := cX7_bar) (maxL := 3) (ret := (some .int)) (by decide) rfl ?_
  intro p e s m args below meth c s₁ B hml hv
  obtain ⟨rfl, hsz, hlo, hP, hK, hDL, hZ⟩ := hv
  have hx := B.exec
  have hb := B.bytes
  have hr := B.returns
  have hts := WS_ts B.pre
  have hown : s.vm.findClass RX7 = some m.cls := findClass_of_methodNamed B.named
  have hlocks := B.notSynchronized
  subst hsz
  have hA : ∀ q : Nat, s.heap.size ≤ q → (fun q : Nat => s.heap.size ≤ q) q := fun _ h => h
  have hAlo : ∀ q : Nat, (fun q : Nat => s.heap.size ≤ q) q → lo ≤ q := fun q h => Nat.le_trans hlo h
  have hS : va_S (fun q : Nat => s.heap.size ≤ q) s.heap s.heap [] := va_S.rf
  have hl := lv_entry ([.ref (a 0), .int p0, .int p1]) (n := 3) (Nat.le_of_ble_eq_true rfl)
  rw [lg_entry_eq]
  generalize (lg_sl ([.ref (a 0), .int p0, .int p1]) ++ List.replicate (3 - (lg_sl ([.ref (a 0), .int p0, .int p1])).length) Slot.unset).toArray = ls at hl ⊢
  have hl : lv_has ls 3 [(0, .ref (a 0)), (1, .int p0), (2, .int p1)] := hl
  refine lv_aload_n hx hb dX7_bar_0 rfl (lv_at hl 0 rfl) ?_
  refine lv_iload_n hx hb dX7_bar_1 rfl (lv_at hl 1 rfl) ?_
  refine ro_i (D := D) (va_runV (As := [.int p0]) (rest := []) ⟨hx, hb, hml, hown, hts⟩ ((k_isStreet l D k st lo a p0) s.heap.size) (cwV 1 hts (gV tw_589 tw_591 tw_8 tw_79 tw_592) rfl rfl rfl (by decide +kernel) ⟨Nat.le_of_ble_eq_true rfl, Nat.le_of_ble_eq_true rfl⟩) (pV hS hAlo hlo hP hK hDL hZ [0, 1, 2, 3, 4, 5, 6, 7] (by decide) rfl (ci := 7) (q0 := 0) rfl rfl) rfl rfl hl.1 rfl (lv_room (Nat.le_of_ble_eq_true rfl)) dX7_bar_2 ⟨Nat.le_of_ble_eq_true rfl, Nat.le_of_ble_eq_true rfl⟩) hS hA hP (fun r_1 H locs hw_1 hP hS => ?_)
  try dsimp only at hw_1
  subst hw_1
  refine lv_if_ne (tgt := 12) hx hb dX7_bar_5 (by decide) (fun h => absurd (by decide) h) (fun _ => ?_)
  refine lv_sipush (v := (-1001)) hx hb dX7_bar_8 (by decide) ?_
  exact W.iret (v := (-1001)) hx hb hr (fun t ht hW => ⟨⟨(-1001), (), rfl, rfl, trivial⟩, hS.F ht⟩) hS.2.2 dX7_bar_11
end
section
theorem dX7_which_0 : decode cX7_which 0 = .ok (.aload_n 0, 1) := by decide +kernel
theorem dX7_which_1 : decode cX7_which 1 = .ok (.iload_n 1, 1) := by decide +kernel
theorem dX7_which_2 : decode cX7_which 2 = .ok (.invokevirtual 108, 3) := by decide +kernel
theorem dX7_which_5 : decode cX7_which 5 = .ok (.ifCond .eq 11, 3) := by decide +kernel
theorem dX7_which_16 : decode cX7_which 16 = .ok (.sipush (-1001), 3) := by decide +kernel
theorem dX7_which_19 : decode cX7_which 19 = .ok (.ireturn, 1) := by decide +kernel
set_option maxHeartbeats 4000000 in
set_option maxRecDepth 100000 in
theorem k_which (l : Launch) (D : va_G) (k : Nat → ClassId) (st : Nat → Nat) (lo : Nat) (a : Nat → Nat) (p0 : Int32) (p1 : Int32)  : CRi l D k st lo yX7_which cX7_which 3 (some .int) ({ frames := 2, cells := 0, slots := 0, locals := 41 }) [.ref (a 0), .int p0, .int p1] [((a 0), .inr (7, [.ref (a 1), .ref (a 3), .ref (a 19), .ref (a 20), .ref (a 25), .int 0, .int (-1), .ref (a 32), .ref (a 35), .ref (a 42), .ref (a 43), .ref (a 44)])), ((a 3), .inl (k 3, 3, .inr (.inr (.inr (.inr (a3 (a 4) (a 5) (a 6))))))), ((a 4), .inr (5, [.ref (a 7), .ref (a 10), .ref (a 13), .ref (a 16)])), ((a 5), .inr (5, [.ref (a 8), .ref (a 11), .ref (a 14), .ref (a 17)])), ((a 6), .inr (5, [.ref (a 9), .ref (a 12), .ref (a 15), .ref (a 18)])), ((a 7), .inl (k 1, 10, .inl (fun _ => 0))), ((a 8), .inl (k 1, 10, .inl (fun _ => 0))), ((a 9), .inl (k 1, 10, .inl (fun _ => 0)))] (fun r => r = -1001) := by
  intro sz
  refine Met.ofW (cc := cX7_which) (maxL := 3) (ret := (some .int)) (by decide) rfl ?_
  intro p e s m args below meth c s₁ B hml hv
  obtain ⟨rfl, hsz, hlo, hP, hK, hDL, hZ⟩ := hv
  have hx := B.exec
  have hb := B.bytes
  have hr := B.returns
  have hts := WS_ts B.pre
  have hown : s.vm.findClass RX7 = some m.cls := findClass_of_methodNamed B.named
  have hlocks := B.notSynchronized
  subst hsz
  have hA : ∀ q : Nat, s.heap.size ≤ q → (fun q : Nat => s.heap.size ≤ q) q := fun _ h => h
  have hAlo : ∀ q : Nat, (fun q : Nat => s.heap.size ≤ q) q → lo ≤ q := fun q h => Nat.le_trans hlo h
  have hS : va_S (fun q : Nat => s.heap.size ≤ q) s.heap s.heap [] := va_S.rf
  have hl := lv_entry ([.ref (a 0), .int p0, .int p1]) (n := 3) (Nat.le_of_ble_eq_true rfl)
  rw [lg_entry_eq]
  generalize (lg_sl ([.ref (a 0), .int p0, .int p1]) ++ List.replicate (3 - (lg_sl ([.ref (a 0), .int p0, .int p1])).length) Slot.unset).toArray = ls at hl ⊢
  have hl : lv_has ls 3 [(0, .ref (a 0)), (1, .int p0), (2, .int p1)] := hl
  refine lv_aload_n hx hb dX7_which_0 rfl (lv_at hl 0 rfl) ?_
  refine lv_iload_n hx hb dX7_which_1 rfl (lv_at hl 1 rfl) ?_
  refine ro_i (D := D) (va_runV (As := [.int p0]) (rest := []) ⟨hx, hb, hml, hown, hts⟩ ((k_isStreet l D k st lo a p0) s.heap.size) (cwV 1 hts (gV tw_589 tw_591 tw_8 tw_79 tw_592) rfl rfl rfl (by decide +kernel) ⟨Nat.le_of_ble_eq_true rfl, Nat.le_of_ble_eq_true rfl⟩) (pV hS hAlo hlo hP hK hDL hZ [0, 1, 2, 3, 4, 5, 6, 7] (by decide) rfl (ci := 7) (q0 := 0) rfl rfl) rfl rfl hl.1 rfl (lv_room (Nat.le_of_ble_eq_true rfl)) dX7_which_2 ⟨Nat.le_of_ble_eq_true rfl, Nat.le_of_ble_eq_true rfl⟩) hS hA hP (fun r_1 H locs hw_1 hP hS => ?_)
  try dsimp only at hw_1
  subst hw_1
  refine lv_if_eq (tgt := 16) hx hb dX7_which_5 (by decide) (fun _ => ?_) (fun h => absurd (by decide) h)
  refine lv_sipush (v := (-1001)) hx hb dX7_which_16 (by decide) ?_
  exact W.iret (v := (-1001)) hx hb hr (fun t ht hW => ⟨⟨(-1001), (), rfl, rfl, trivial⟩, hS.F ht⟩) hS.2.2 dX7_which_19
end
section
theorem dX7_mean_0 : decode cX7_mean 0 = .ok (.aload_n 0, 1) := by decide +kernel
theorem dX7_mean_1 : decode cX7_mean 1 = .ok (.iload_n 1, 1) := by decide +kernel
theorem dX7_mean_2 : decode cX7_mean 2 = .ok (.invokevirtual 108, 3) := by decide +kernel
theorem dX7_mean_5 : decode cX7_mean 5 = .ok (.ifCond .eq 11, 3) := by decide +kernel
theorem dX7_mean_16 : decode cX7_mean 16 = .ok (.sipush (-1001), 3) := by decide +kernel
theorem dX7_mean_19 : decode cX7_mean 19 = .ok (.ireturn, 1) := by decide +kernel
set_option maxHeartbeats 4000000 in
set_option maxRecDepth 100000 in
theorem k_mean (l : Launch) (D : va_G) (k : Nat → ClassId) (st : Nat → Nat) (lo : Nat) (a : Nat → Nat) (p0 : Int32) (p1 : Int32) (p2 : Int32)  : CRi l D k st lo yX7_mean cX7_mean 4 (some .int) ({ frames := 2, cells := 0, slots := 0, locals := 41 }) [.ref (a 0), .int p0, .int p1, .int p2] [((a 0), .inr (7, [.ref (a 1), .ref (a 3), .ref (a 19), .ref (a 20), .ref (a 25), .int 0, .int (-1), .ref (a 32), .ref (a 35), .ref (a 42), .ref (a 43), .ref (a 44)])), ((a 3), .inl (k 3, 3, .inr (.inr (.inr (.inr (a3 (a 4) (a 5) (a 6))))))), ((a 4), .inr (5, [.ref (a 7), .ref (a 10), .ref (a 13), .ref (a 16)])), ((a 5), .inr (5, [.ref (a 8), .ref (a 11), .ref (a 14), .ref (a 17)])), ((a 6), .inr (5, [.ref (a 9), .ref (a 12), .ref (a 15), .ref (a 18)])), ((a 7), .inl (k 1, 10, .inl (fun _ => 0))), ((a 8), .inl (k 1, 10, .inl (fun _ => 0))), ((a 9), .inl (k 1, 10, .inl (fun _ => 0)))] (fun r => r = -1001) := by
  intro sz
  refine Met.ofW (cc := cX7_mean) (maxL := 4) (ret := (some .int)) (by decide) rfl ?_
  intro p e s m args below meth c s₁ B hml hv
  obtain ⟨rfl, hsz, hlo, hP, hK, hDL, hZ⟩ := hv
  have hx := B.exec
  have hb := B.bytes
  have hr := B.returns
  have hts := WS_ts B.pre
  have hown : s.vm.findClass RX7 = some m.cls := findClass_of_methodNamed B.named
  have hlocks := B.notSynchronized
  subst hsz
  have hA : ∀ q : Nat, s.heap.size ≤ q → (fun q : Nat => s.heap.size ≤ q) q := fun _ h => h
  have hAlo : ∀ q : Nat, (fun q : Nat => s.heap.size ≤ q) q → lo ≤ q := fun q h => Nat.le_trans hlo h
  have hS : va_S (fun q : Nat => s.heap.size ≤ q) s.heap s.heap [] := va_S.rf
  have hl := lv_entry ([.ref (a 0), .int p0, .int p1, .int p2]) (n := 4) (Nat.le_of_ble_eq_true rfl)
  rw [lg_entry_eq]
  generalize (lg_sl ([.ref (a 0), .int p0, .int p1, .int p2]) ++ List.replicate (4 - (lg_sl ([.ref (a 0), .int p0, .int p1, .int p2])).length) Slot.unset).toArray = ls at hl ⊢
  have hl : lv_has ls 4 [(0, .ref (a 0)), (1, .int p0), (2, .int p1), (3, .int p2)] := hl
  refine lv_aload_n hx hb dX7_mean_0 rfl (lv_at hl 0 rfl) ?_
  refine lv_iload_n hx hb dX7_mean_1 rfl (lv_at hl 1 rfl) ?_
  refine ro_i (D := D) (va_runV (As := [.int p0]) (rest := []) ⟨hx, hb, hml, hown, hts⟩ ((k_isStreet l D k st lo a p0) s.heap.size) (cwV 1 hts (gV tw_589 tw_591 tw_8 tw_79 tw_592) rfl rfl rfl (by decide +kernel) ⟨Nat.le_of_ble_eq_true rfl, Nat.le_of_ble_eq_true rfl⟩) (pV hS hAlo hlo hP hK hDL hZ [0, 1, 2, 3, 4, 5, 6, 7] (by decide) rfl (ci := 7) (q0 := 0) rfl rfl) rfl rfl hl.1 rfl (lv_room (Nat.le_of_ble_eq_true rfl)) dX7_mean_2 ⟨Nat.le_of_ble_eq_true rfl, Nat.le_of_ble_eq_true rfl⟩) hS hA hP (fun r_1 H locs hw_1 hP hS => ?_)
  try dsimp only at hw_1
  subst hw_1
  refine lv_if_eq (tgt := 16) hx hb dX7_mean_5 (by decide) (fun _ => ?_) (fun h => absurd (by decide) h)
  refine lv_sipush (v := (-1001)) hx hb dX7_mean_16 (by decide) ?_
  exact W.iret (v := (-1001)) hx hb hr (fun t ht hW => ⟨⟨(-1001), (), rfl, rfl, trivial⟩, hS.F ht⟩) hS.2.2 dX7_mean_19
end
section
theorem dX7_judge_0 : decode cX7_judge 0 = .ok (.aload_n 0, 1) := by decide +kernel
theorem dX7_judge_1 : decode cX7_judge 1 = .ok (.iload_n 1, 1) := by decide +kernel
theorem dX7_judge_2 : decode cX7_judge 2 = .ok (.invokevirtual 108, 3) := by decide +kernel
theorem dX7_judge_5 : decode cX7_judge 5 = .ok (.ifCond .ne 7, 3) := by decide +kernel
theorem dX7_judge_8 : decode cX7_judge 8 = .ok (.sipush (-1001), 3) := by decide +kernel
theorem dX7_judge_11 : decode cX7_judge 11 = .ok (.ireturn, 1) := by decide +kernel
set_option maxHeartbeats 4000000 in
set_option maxRecDepth 100000 in
theorem k_judge (l : Launch) (D : va_G) (k : Nat → ClassId) (st : Nat → Nat) (lo : Nat) (a : Nat → Nat) (p0 : Int32) (p1 : Int32) (p2 : Int32)  : CRi l D k st lo yX7_judge cX7_judge 5 (some .int) ({ frames := 2, cells := 0, slots := 0, locals := 41 }) [.ref (a 0), .int p0, .int p1, .int p2] [((a 0), .inr (7, [.ref (a 1), .ref (a 3), .ref (a 19), .ref (a 20), .ref (a 25), .int 0, .int (-1), .ref (a 32), .ref (a 35), .ref (a 42), .ref (a 43), .ref (a 44)])), ((a 3), .inl (k 3, 3, .inr (.inr (.inr (.inr (a3 (a 4) (a 5) (a 6))))))), ((a 4), .inr (5, [.ref (a 7), .ref (a 10), .ref (a 13), .ref (a 16)])), ((a 5), .inr (5, [.ref (a 8), .ref (a 11), .ref (a 14), .ref (a 17)])), ((a 6), .inr (5, [.ref (a 9), .ref (a 12), .ref (a 15), .ref (a 18)])), ((a 7), .inl (k 1, 10, .inl (fun _ => 0))), ((a 8), .inl (k 1, 10, .inl (fun _ => 0))), ((a 9), .inl (k 1, 10, .inl (fun _ => 0)))] (fun r => r = -1001) := by
  intro sz
  refine Met.ofW (cc := cX7_judge) (maxL := 5) (ret := (some .int)) (by decide) rfl ?_
  intro p e s m args below meth c s₁ B hml hv
  obtain ⟨rfl, hsz, hlo, hP, hK, hDL, hZ⟩ := hv
  have hx := B.exec
  have hb := B.bytes
  have hr := B.returns
  have hts := WS_ts B.pre
  have hown : s.vm.findClass RX7 = some m.cls := findClass_of_methodNamed B.named
  have hlocks := B.notSynchronized
  subst hsz
  have hA : ∀ q : Nat, s.heap.size ≤ q → (fun q : Nat => s.heap.size ≤ q) q := fun _ h => h
  have hAlo : ∀ q : Nat, (fun q : Nat => s.heap.size ≤ q) q → lo ≤ q := fun q h => Nat.le_trans hlo h
  have hS : va_S (fun q : Nat => s.heap.size ≤ q) s.heap s.heap [] := va_S.rf
  have hl := lv_entry ([.ref (a 0), .int p0, .int p1, .int p2]) (n := 5) (Nat.le_of_ble_eq_true rfl)
  rw [lg_entry_eq]
  generalize (lg_sl ([.ref (a 0), .int p0, .int p1, .int p2]) ++ List.replicate (5 - (lg_sl ([.ref (a 0), .int p0, .int p1, .int p2])).length) Slot.unset).toArray = ls at hl ⊢
  have hl : lv_has ls 5 [(0, .ref (a 0)), (1, .int p0), (2, .int p1), (3, .int p2)] := hl
  refine lv_aload_n hx hb dX7_judge_0 rfl (lv_at hl 0 rfl) ?_
  refine lv_iload_n hx hb dX7_judge_1 rfl (lv_at hl 1 rfl) ?_
  refine ro_i (D := D) (va_runV (As := [.int p0]) (rest := []) ⟨hx, hb, hml, hown, hts⟩ ((k_isStreet l D k st lo a p0) s.heap.size) (cwV 1 hts (gV tw_589 tw_591 tw_8 tw_79 tw_592) rfl rfl rfl (by decide +kernel) ⟨Nat.le_of_ble_eq_true rfl, Nat.le_of_ble_eq_true rfl⟩) (pV hS hAlo hlo hP hK hDL hZ [0, 1, 2, 3, 4, 5, 6, 7] (by decide) rfl (ci := 7) (q0 := 0) rfl rfl) rfl rfl hl.1 rfl (lv_room (Nat.le_of_ble_eq_true rfl)) dX7_judge_2 ⟨Nat.le_of_ble_eq_true rfl, Nat.le_of_ble_eq_true rfl⟩) hS hA hP (fun r_1 H locs hw_1 hP hS => ?_)
  try dsimp only at hw_1
  subst hw_1
  refine lv_if_ne (tgt := 12) hx hb dX7_judge_5 (by decide) (fun h => absurd (by decide) h) (fun _ => ?_)
  refine lv_sipush (v := (-1001)) hx hb dX7_judge_8 (by decide) ?_
  exact W.iret (v := (-1001)) hx hb hr (fun t ht hW => ⟨⟨(-1001), (), rfl, rfl, trivial⟩, hS.F ht⟩) hS.2.2 dX7_judge_11
end
section
theorem dX7_thought_0 : decode cX7_thought 0 = .ok (.aload_n 0, 1) := by decide +kernel
theorem dX7_thought_1 : decode cX7_thought 1 = .ok (.iload_n 1, 1) := by decide +kernel
theorem dX7_thought_2 : decode cX7_thought 2 = .ok (.invokevirtual 108, 3) := by decide +kernel
theorem dX7_thought_5 : decode cX7_thought 5 = .ok (.ifCond .eq 11, 3) := by decide +kernel
theorem dX7_thought_16 : decode cX7_thought 16 = .ok (.sipush (-1001), 3) := by decide +kernel
theorem dX7_thought_19 : decode cX7_thought 19 = .ok (.ireturn, 1) := by decide +kernel
set_option maxHeartbeats 4000000 in
set_option maxRecDepth 100000 in
theorem k_thought (l : Launch) (D : va_G) (k : Nat → ClassId) (st : Nat → Nat) (lo : Nat) (a : Nat → Nat) (p0 : Int32) (p1 : Int32)  : CRi l D k st lo yX7_thought cX7_thought 3 (some .int) ({ frames := 2, cells := 0, slots := 0, locals := 41 }) [.ref (a 0), .int p0, .int p1] [((a 0), .inr (7, [.ref (a 1), .ref (a 3), .ref (a 19), .ref (a 20), .ref (a 25), .int 0, .int (-1), .ref (a 32), .ref (a 35), .ref (a 42), .ref (a 43), .ref (a 44)])), ((a 3), .inl (k 3, 3, .inr (.inr (.inr (.inr (a3 (a 4) (a 5) (a 6))))))), ((a 4), .inr (5, [.ref (a 7), .ref (a 10), .ref (a 13), .ref (a 16)])), ((a 5), .inr (5, [.ref (a 8), .ref (a 11), .ref (a 14), .ref (a 17)])), ((a 6), .inr (5, [.ref (a 9), .ref (a 12), .ref (a 15), .ref (a 18)])), ((a 7), .inl (k 1, 10, .inl (fun _ => 0))), ((a 8), .inl (k 1, 10, .inl (fun _ => 0))), ((a 9), .inl (k 1, 10, .inl (fun _ => 0)))] (fun r => r = -1001) := by
  intro sz
  refine Met.ofW (cc := cX7_thought) (maxL := 3) (ret := (some .int)) (by decide) rfl ?_
  intro p e s m args below meth c s₁ B hml hv
  obtain ⟨rfl, hsz, hlo, hP, hK, hDL, hZ⟩ := hv
  have hx := B.exec
  have hb := B.bytes
  have hr := B.returns
  have hts := WS_ts B.pre
  have hown : s.vm.findClass RX7 = some m.cls := findClass_of_methodNamed B.named
  have hlocks := B.notSynchronized
  subst hsz
  have hA : ∀ q : Nat, s.heap.size ≤ q → (fun q : Nat => s.heap.size ≤ q) q := fun _ h => h
  have hAlo : ∀ q : Nat, (fun q : Nat => s.heap.size ≤ q) q → lo ≤ q := fun q h => Nat.le_trans hlo h
  have hS : va_S (fun q : Nat => s.heap.size ≤ q) s.heap s.heap [] := va_S.rf
  have hl := lv_entry ([.ref (a 0), .int p0, .int p1]) (n := 3) (Nat.le_of_ble_eq_true rfl)
  rw [lg_entry_eq]
  generalize (lg_sl ([.ref (a 0), .int p0, .int p1]) ++ List.replicate (3 - (lg_sl ([.ref (a 0), .int p0, .int p1])).length) Slot.unset).toArray = ls at hl ⊢
  have hl : lv_has ls 3 [(0, .ref (a 0)), (1, .int p0), (2, .int p1)] := hl
  refine lv_aload_n hx hb dX7_thought_0 rfl (lv_at hl 0 rfl) ?_
  refine lv_iload_n hx hb dX7_thought_1 rfl (lv_at hl 1 rfl) ?_
  refine ro_i (D := D) (va_runV (As := [.int p0]) (rest := []) ⟨hx, hb, hml, hown, hts⟩ ((k_isStreet l D k st lo a p0) s.heap.size) (cwV 1 hts (gV tw_589 tw_591 tw_8 tw_79 tw_592) rfl rfl rfl (by decide +kernel) ⟨Nat.le_of_ble_eq_true rfl, Nat.le_of_ble_eq_true rfl⟩) (pV hS hAlo hlo hP hK hDL hZ [0, 1, 2, 3, 4, 5, 6, 7] (by decide) rfl (ci := 7) (q0 := 0) rfl rfl) rfl rfl hl.1 rfl (lv_room (Nat.le_of_ble_eq_true rfl)) dX7_thought_2 ⟨Nat.le_of_ble_eq_true rfl, Nat.le_of_ble_eq_true rfl⟩) hS hA hP (fun r_1 H locs hw_1 hP hS => ?_)
  try dsimp only at hw_1
  subst hw_1
  refine lv_if_eq (tgt := 16) hx hb dX7_thought_5 (by decide) (fun _ => ?_) (fun h => absurd (by decide) h)
  refine lv_sipush (v := (-1001)) hx hb dX7_thought_16 (by decide) ?_
  exact W.iret (v := (-1001)) hx hb hr (fun t ht hW => ⟨⟨(-1001), (), rfl, rfl, trivial⟩, hS.F ht⟩) hS.2.2 dX7_thought_19
end
section
theorem dX7_waits_0 : decode cX7_waits 0 = .ok (.aload_n 0, 1) := by decide +kernel
theorem dX7_waits_1 : decode cX7_waits 1 = .ok (.iload_n 1, 1) := by decide +kernel
theorem dX7_waits_2 : decode cX7_waits 2 = .ok (.iload_n 2, 1) := by decide +kernel
theorem dX7_waits_3 : decode cX7_waits 3 = .ok (.iload_n 3, 1) := by decide +kernel
theorem dX7_waits_4 : decode cX7_waits 4 = .ok (.iload 4, 2) := by decide +kernel
theorem dX7_waits_6 : decode cX7_waits 6 = .ok (.invokevirtual 141, 3) := by decide +kernel
theorem dX7_waits_9 : decode cX7_waits 9 = .ok (.istore 8, 2) := by decide +kernel
theorem dX7_waits_11 : decode cX7_waits 11 = .ok (.iload 8, 2) := by decide +kernel
theorem dX7_waits_13 : decode cX7_waits 13 = .ok (.ifCond .eq 6, 3) := by decide +kernel
theorem dX7_waits_16 : decode cX7_waits 16 = .ok (.iload 8, 2) := by decide +kernel
theorem dX7_waits_18 : decode cX7_waits 18 = .ok (.ireturn, 1) := by decide +kernel
set_option maxHeartbeats 4000000 in
set_option maxRecDepth 100000 in
theorem k_waits (l : Launch) (D : va_G) (k : Nat → ClassId) (st : Nat → Nat) (lo : Nat) (a : Nat → Nat) (p0 : Int32) (p1 : Int32) (p2 : Int32) (p3 : Int32) (p4 : Int32) (p5 : Int32) (p6 : Int32)  : CRi l D k st lo yX7_waits cX7_waits 9 (some .int) ({ frames := 4, cells := 0, slots := 0, locals := 88 }) [.ref (a 0), .int p0, .int p1, .int p2, .int p3, .int p4, .int p5, .int p6] [((a 0), .inr (7, [.ref (a 1), .ref (a 3), .ref (a 19), .ref (a 20), .ref (a 25), .int 0, .int (-1), .ref (a 32), .ref (a 35), .ref (a 42), .ref (a 43), .ref (a 44)])), ((a 3), .inl (k 3, 3, .inr (.inr (.inr (.inr (a3 (a 4) (a 5) (a 6))))))), ((a 4), .inr (5, [.ref (a 7), .ref (a 10), .ref (a 13), .ref (a 16)])), ((a 5), .inr (5, [.ref (a 8), .ref (a 11), .ref (a 14), .ref (a 17)])), ((a 6), .inr (5, [.ref (a 9), .ref (a 12), .ref (a 15), .ref (a 18)])), ((a 7), .inl (k 1, 10, .inl (fun _ => 0))), ((a 8), .inl (k 1, 10, .inl (fun _ => 0))), ((a 9), .inl (k 1, 10, .inl (fun _ => 0)))] (fun r => r = -1001) := by
  intro sz
  refine Met.ofW (cc := cX7_waits) (maxL := 9) (ret := (some .int)) (by decide) rfl ?_
  intro p e s m args below meth c s₁ B hml hv
  obtain ⟨rfl, hsz, hlo, hP, hK, hDL, hZ⟩ := hv
  have hx := B.exec
  have hb := B.bytes
  have hr := B.returns
  have hts := WS_ts B.pre
  have hown : s.vm.findClass RX7 = some m.cls := findClass_of_methodNamed B.named
  have hlocks := B.notSynchronized
  subst hsz
  have hA : ∀ q : Nat, s.heap.size ≤ q → (fun q : Nat => s.heap.size ≤ q) q := fun _ h => h
  have hAlo : ∀ q : Nat, (fun q : Nat => s.heap.size ≤ q) q → lo ≤ q := fun q h => Nat.le_trans hlo h
  have hS : va_S (fun q : Nat => s.heap.size ≤ q) s.heap s.heap [] := va_S.rf
  have hl := lv_entry ([.ref (a 0), .int p0, .int p1, .int p2, .int p3, .int p4, .int p5, .int p6]) (n := 9) (Nat.le_of_ble_eq_true rfl)
  rw [lg_entry_eq]
  generalize (lg_sl ([.ref (a 0), .int p0, .int p1, .int p2, .int p3, .int p4, .int p5, .int p6]) ++ List.replicate (9 - (lg_sl ([.ref (a 0), .int p0, .int p1, .int p2, .int p3, .int p4, .int p5, .int p6])).length) Slot.unset).toArray = ls at hl ⊢
  have hl : lv_has ls 9 [(0, .ref (a 0)), (1, .int p0), (2, .int p1), (3, .int p2), (4, .int p3), (5, .int p4), (6, .int p5), (7, .int p6)] := hl
  refine lv_aload_n hx hb dX7_waits_0 rfl (lv_at hl 0 rfl) ?_
  refine lv_iload_n hx hb dX7_waits_1 rfl (lv_at hl 1 rfl) ?_
  refine lv_iload_n hx hb dX7_waits_2 rfl (lv_at hl 2 rfl) ?_
  refine lv_iload_n hx hb dX7_waits_3 rfl (lv_at hl 3 rfl) ?_
  refine lv_iload hx hb dX7_waits_4 (lv_at hl 4 rfl) ?_
  refine ro_i (D := D) (va_runV (As := [.int p0, .int p1, .int p2, .int p3]) (rest := []) ⟨hx, hb, hml, hown, hts⟩ ((k_refuseSight l D k st lo a p0 p1 p2 p3) s.heap.size) (cwV 4 hts (gV tw_622 tw_624 tw_11 tw_79 tw_625) rfl rfl rfl (by decide +kernel) ⟨Nat.le_of_ble_eq_true rfl, Nat.le_of_ble_eq_true rfl⟩) (pV hS hAlo hlo hP hK hDL hZ [0, 1, 2, 3, 4, 5, 6, 7] (by decide) rfl (ci := 7) (q0 := 0) rfl rfl) rfl rfl hl.1 rfl (lv_room (Nat.le_of_ble_eq_true rfl)) dX7_waits_6 ⟨Nat.le_of_ble_eq_true rfl, Nat.le_of_ble_eq_true rfl⟩) hS hA hP (fun r_1 H locs hw_1 hP hS => ?_)
  try dsimp only at hw_1
  subst hw_1
  refine lv_istore (lv' := [(8, .int (-1001)), (0, .ref (a 0)), (1, .int p0), (2, .int p1), (3, .int p2), (4, .int p3), (5, .int p4), (6, .int p5), (7, .int p6)]) hx hb dX7_waits_9 hl (by decide) rfl (fun ls hl => ?_)
  refine lv_iload hx hb dX7_waits_11 (lv_at hl 0 rfl) ?_
  refine lv_if_eq (tgt := 19) hx hb dX7_waits_13 (by decide) (fun h => absurd h (by decide)) (fun _ => ?_)
  refine lv_iload hx hb dX7_waits_16 (lv_at hl 0 rfl) ?_
  exact W.iret (v := (-1001)) hx hb hr (fun t ht hW => ⟨⟨(-1001), (), rfl, rfl, trivial⟩, hS.F ht⟩) hS.2.2 dX7_waits_18
end
section
theorem dX7_boy_0 : decode cX7_boy 0 = .ok (.aload_n 0, 1) := by decide +kernel
theorem dX7_boy_1 : decode cX7_boy 1 = .ok (.iload_n 1, 1) := by decide +kernel
theorem dX7_boy_2 : decode cX7_boy 2 = .ok (.invokevirtual 108, 3) := by decide +kernel
theorem dX7_boy_5 : decode cX7_boy 5 = .ok (.ifCond .eq 30, 3) := by decide +kernel
theorem dX7_boy_35 : decode cX7_boy 35 = .ok (.sipush (-1001), 3) := by decide +kernel
theorem dX7_boy_38 : decode cX7_boy 38 = .ok (.ireturn, 1) := by decide +kernel
set_option maxHeartbeats 4000000 in
set_option maxRecDepth 100000 in
theorem k_boy (l : Launch) (D : va_G) (k : Nat → ClassId) (st : Nat → Nat) (lo : Nat) (a : Nat → Nat) (p0 : Int32)  : CRi l D k st lo yX7_boy cX7_boy 2 (some .int) ({ frames := 2, cells := 0, slots := 0, locals := 41 }) [.ref (a 0), .int p0] [((a 0), .inr (7, [.ref (a 1), .ref (a 3), .ref (a 19), .ref (a 20), .ref (a 25), .int 0, .int (-1), .ref (a 32), .ref (a 35), .ref (a 42), .ref (a 43), .ref (a 44)])), ((a 3), .inl (k 3, 3, .inr (.inr (.inr (.inr (a3 (a 4) (a 5) (a 6))))))), ((a 4), .inr (5, [.ref (a 7), .ref (a 10), .ref (a 13), .ref (a 16)])), ((a 5), .inr (5, [.ref (a 8), .ref (a 11), .ref (a 14), .ref (a 17)])), ((a 6), .inr (5, [.ref (a 9), .ref (a 12), .ref (a 15), .ref (a 18)])), ((a 7), .inl (k 1, 10, .inl (fun _ => 0))), ((a 8), .inl (k 1, 10, .inl (fun _ => 0))), ((a 9), .inl (k 1, 10, .inl (fun _ => 0)))] (fun r => r = -1001) := by
  intro sz
  refine Met.ofW (cc := cX7_boy) (maxL := 2) (ret := (some .int)) (by decide) rfl ?_
  intro p e s m args below meth c s₁ B hml hv
  obtain ⟨rfl, hsz, hlo, hP, hK, hDL, hZ⟩ := hv
  have hx := B.exec
  have hb := B.bytes
  have hr := B.returns
  have hts := WS_ts B.pre
  have hown : s.vm.findClass RX7 = some m.cls := findClass_of_methodNamed B.named
  have hlocks := B.notSynchronized
  subst hsz
  have hA : ∀ q : Nat, s.heap.size ≤ q → (fun q : Nat => s.heap.size ≤ q) q := fun _ h => h
  have hAlo : ∀ q : Nat, (fun q : Nat => s.heap.size ≤ q) q → lo ≤ q := fun q h => Nat.le_trans hlo h
  have hS : va_S (fun q : Nat => s.heap.size ≤ q) s.heap s.heap [] := va_S.rf
  have hl := lv_entry ([.ref (a 0), .int p0]) (n := 2) (Nat.le_of_ble_eq_true rfl)
  rw [lg_entry_eq]
  generalize (lg_sl ([.ref (a 0), .int p0]) ++ List.replicate (2 - (lg_sl ([.ref (a 0), .int p0])).length) Slot.unset).toArray = ls at hl ⊢
  have hl : lv_has ls 2 [(0, .ref (a 0)), (1, .int p0)] := hl
  refine lv_aload_n hx hb dX7_boy_0 rfl (lv_at hl 0 rfl) ?_
  refine lv_iload_n hx hb dX7_boy_1 rfl (lv_at hl 1 rfl) ?_
  refine ro_i (D := D) (va_runV (As := [.int p0]) (rest := []) ⟨hx, hb, hml, hown, hts⟩ ((k_isStreet l D k st lo a p0) s.heap.size) (cwV 1 hts (gV tw_589 tw_591 tw_8 tw_79 tw_592) rfl rfl rfl (by decide +kernel) ⟨Nat.le_of_ble_eq_true rfl, Nat.le_of_ble_eq_true rfl⟩) (pV hS hAlo hlo hP hK hDL hZ [0, 1, 2, 3, 4, 5, 6, 7] (by decide) rfl (ci := 7) (q0 := 0) rfl rfl) rfl rfl hl.1 rfl (lv_room (Nat.le_of_ble_eq_true rfl)) dX7_boy_2 ⟨Nat.le_of_ble_eq_true rfl, Nat.le_of_ble_eq_true rfl⟩) hS hA hP (fun r_1 H locs hw_1 hP hS => ?_)
  try dsimp only at hw_1
  subst hw_1
  refine lv_if_eq (tgt := 35) hx hb dX7_boy_5 (by decide) (fun _ => ?_) (fun h => absurd (by decide) h)
  refine lv_sipush (v := (-1001)) hx hb dX7_boy_35 (by decide) ?_
  exact W.iret (v := (-1001)) hx hb hr (fun t ht hW => ⟨⟨(-1001), (), rfl, rfl, trivial⟩, hS.F ht⟩) hS.2.2 dX7_boy_38
end
section
theorem dX7_parks_0 : decode cX7_parks 0 = .ok (.aload_n 0, 1) := by decide +kernel
theorem dX7_parks_1 : decode cX7_parks 1 = .ok (.iload_n 1, 1) := by decide +kernel
theorem dX7_parks_2 : decode cX7_parks 2 = .ok (.invokevirtual 108, 3) := by decide +kernel
theorem dX7_parks_5 : decode cX7_parks 5 = .ok (.ifCond .eq 11, 3) := by decide +kernel
theorem dX7_parks_16 : decode cX7_parks 16 = .ok (.sipush (-1001), 3) := by decide +kernel
theorem dX7_parks_19 : decode cX7_parks 19 = .ok (.ireturn, 1) := by decide +kernel
set_option maxHeartbeats 4000000 in
set_option maxRecDepth 100000 in
theorem k_parks (l : Launch) (D : va_G) (k : Nat → ClassId) (st : Nat → Nat) (lo : Nat) (a : Nat → Nat) (p0 : Int32) (p1 : Int32) (p2 : Int32) (p3 : Int32)  : CRi l D k st lo yX7_parks cX7_parks 6 (some .int) ({ frames := 2, cells := 0, slots := 0, locals := 41 }) [.ref (a 0), .int p0, .int p1, .int p2, .int p3] [((a 0), .inr (7, [.ref (a 1), .ref (a 3), .ref (a 19), .ref (a 20), .ref (a 25), .int 0, .int (-1), .ref (a 32), .ref (a 35), .ref (a 42), .ref (a 43), .ref (a 44)])), ((a 3), .inl (k 3, 3, .inr (.inr (.inr (.inr (a3 (a 4) (a 5) (a 6))))))), ((a 4), .inr (5, [.ref (a 7), .ref (a 10), .ref (a 13), .ref (a 16)])), ((a 5), .inr (5, [.ref (a 8), .ref (a 11), .ref (a 14), .ref (a 17)])), ((a 6), .inr (5, [.ref (a 9), .ref (a 12), .ref (a 15), .ref (a 18)])), ((a 7), .inl (k 1, 10, .inl (fun _ => 0))), ((a 8), .inl (k 1, 10, .inl (fun _ => 0))), ((a 9), .inl (k 1, 10, .inl (fun _ => 0)))] (fun r => r = -1001) := by
  intro sz
  refine Met.ofW (cc := cX7_parks) (maxL := 6) (ret := (some .int)) (by decide) rfl ?_
  intro p e s m args below meth c s₁ B hml hv
  obtain ⟨rfl, hsz, hlo, hP, hK, hDL, hZ⟩ := hv
  have hx := B.exec
  have hb := B.bytes
  have hr := B.returns
  have hts := WS_ts B.pre
  have hown : s.vm.findClass RX7 = some m.cls := findClass_of_methodNamed B.named
  have hlocks := B.notSynchronized
  subst hsz
  have hA : ∀ q : Nat, s.heap.size ≤ q → (fun q : Nat => s.heap.size ≤ q) q := fun _ h => h
  have hAlo : ∀ q : Nat, (fun q : Nat => s.heap.size ≤ q) q → lo ≤ q := fun q h => Nat.le_trans hlo h
  have hS : va_S (fun q : Nat => s.heap.size ≤ q) s.heap s.heap [] := va_S.rf
  have hl := lv_entry ([.ref (a 0), .int p0, .int p1, .int p2, .int p3]) (n := 6) (Nat.le_of_ble_eq_true rfl)
  rw [lg_entry_eq]
  generalize (lg_sl ([.ref (a 0), .int p0, .int p1, .int p2, .int p3]) ++ List.replicate (6 - (lg_sl ([.ref (a 0), .int p0, .int p1, .int p2, .int p3])).length) Slot.unset).toArray = ls at hl ⊢
  have hl : lv_has ls 6 [(0, .ref (a 0)), (1, .int p0), (2, .int p1), (3, .int p2), (4, .int p3)] := hl
  refine lv_aload_n hx hb dX7_parks_0 rfl (lv_at hl 0 rfl) ?_
  refine lv_iload_n hx hb dX7_parks_1 rfl (lv_at hl 1 rfl) ?_
  refine ro_i (D := D) (va_runV (As := [.int p0]) (rest := []) ⟨hx, hb, hml, hown, hts⟩ ((k_isStreet l D k st lo a p0) s.heap.size) (cwV 1 hts (gV tw_589 tw_591 tw_8 tw_79 tw_592) rfl rfl rfl (by decide +kernel) ⟨Nat.le_of_ble_eq_true rfl, Nat.le_of_ble_eq_true rfl⟩) (pV hS hAlo hlo hP hK hDL hZ [0, 1, 2, 3, 4, 5, 6, 7] (by decide) rfl (ci := 7) (q0 := 0) rfl rfl) rfl rfl hl.1 rfl (lv_room (Nat.le_of_ble_eq_true rfl)) dX7_parks_2 ⟨Nat.le_of_ble_eq_true rfl, Nat.le_of_ble_eq_true rfl⟩) hS hA hP (fun r_1 H locs hw_1 hP hS => ?_)
  try dsimp only at hw_1
  subst hw_1
  refine lv_if_eq (tgt := 16) hx hb dX7_parks_5 (by decide) (fun _ => ?_) (fun h => absurd (by decide) h)
  refine lv_sipush (v := (-1001)) hx hb dX7_parks_16 (by decide) ?_
  exact W.iret (v := (-1001)) hx hb hr (fun t ht hW => ⟨⟨(-1001), (), rfl, rfl, trivial⟩, hS.F ht⟩) hS.2.2 dX7_parks_19
end
section
theorem dX7_rests_0 : decode cX7_rests 0 = .ok (.aload_n 0, 1) := by decide +kernel
theorem dX7_rests_1 : decode cX7_rests 1 = .ok (.iload_n 1, 1) := by decide +kernel
theorem dX7_rests_2 : decode cX7_rests 2 = .ok (.iload_n 2, 1) := by decide +kernel
theorem dX7_rests_3 : decode cX7_rests 3 = .ok (.invokevirtual 239, 3) := by decide +kernel
theorem dX7_rests_6 : decode cX7_rests 6 = .ok (.istore_n 3, 1) := by decide +kernel
theorem dX7_rests_7 : decode cX7_rests 7 = .ok (.iload_n 3, 1) := by decide +kernel
theorem dX7_rests_8 : decode cX7_rests 8 = .ok (.ifCond .eq 5, 3) := by decide +kernel
theorem dX7_rests_11 : decode cX7_rests 11 = .ok (.iload_n 3, 1) := by decide +kernel
theorem dX7_rests_12 : decode cX7_rests 12 = .ok (.ireturn, 1) := by decide +kernel
set_option maxHeartbeats 4000000 in
set_option maxRecDepth 100000 in
theorem k_rests (l : Launch) (D : va_G) (k : Nat → ClassId) (st : Nat → Nat) (lo : Nat) (a : Nat → Nat) (p0 : Int32) (p1 : Int32)  : CRi l D k st lo yX7_rests cX7_rests 4 (some .int) ({ frames := 3, cells := 0, slots := 0, locals := 63 }) [.ref (a 0), .int p0, .int p1] [((a 0), .inr (7, [.ref (a 1), .ref (a 3), .ref (a 19), .ref (a 20), .ref (a 25), .int 0, .int (-1), .ref (a 32), .ref (a 35), .ref (a 42), .ref (a 43), .ref (a 44)])), ((a 3), .inl (k 3, 3, .inr (.inr (.inr (.inr (a3 (a 4) (a 5) (a 6))))))), ((a 4), .inr (5, [.ref (a 7), .ref (a 10), .ref (a 13), .ref (a 16)])), ((a 5), .inr (5, [.ref (a 8), .ref (a 11), .ref (a 14), .ref (a 17)])), ((a 6), .inr (5, [.ref (a 9), .ref (a 12), .ref (a 15), .ref (a 18)])), ((a 7), .inl (k 1, 10, .inl (fun _ => 0))), ((a 8), .inl (k 1, 10, .inl (fun _ => 0))), ((a 9), .inl (k 1, 10, .inl (fun _ => 0)))] (fun r => r = -1001) := by
  intro sz
  refine Met.ofW (cc := cX7_rests) (maxL := 4) (ret := (some .int)) (by decide) rfl ?_
  intro p e s m args below meth c s₁ B hml hv
  obtain ⟨rfl, hsz, hlo, hP, hK, hDL, hZ⟩ := hv
  have hx := B.exec
  have hb := B.bytes
  have hr := B.returns
  have hts := WS_ts B.pre
  have hown : s.vm.findClass RX7 = some m.cls := findClass_of_methodNamed B.named
  have hlocks := B.notSynchronized
  subst hsz
  have hA : ∀ q : Nat, s.heap.size ≤ q → (fun q : Nat => s.heap.size ≤ q) q := fun _ h => h
  have hAlo : ∀ q : Nat, (fun q : Nat => s.heap.size ≤ q) q → lo ≤ q := fun q h => Nat.le_trans hlo h
  have hS : va_S (fun q : Nat => s.heap.size ≤ q) s.heap s.heap [] := va_S.rf
  have hl := lv_entry ([.ref (a 0), .int p0, .int p1]) (n := 4) (Nat.le_of_ble_eq_true rfl)
  rw [lg_entry_eq]
  generalize (lg_sl ([.ref (a 0), .int p0, .int p1]) ++ List.replicate (4 - (lg_sl ([.ref (a 0), .int p0, .int p1])).length) Slot.unset).toArray = ls at hl ⊢
  have hl : lv_has ls 4 [(0, .ref (a 0)), (1, .int p0), (2, .int p1)] := hl
  refine lv_aload_n hx hb dX7_rests_0 rfl (lv_at hl 0 rfl) ?_
  refine lv_iload_n hx hb dX7_rests_1 rfl (lv_at hl 1 rfl) ?_
  refine lv_iload_n hx hb dX7_rests_2 rfl (lv_at hl 2 rfl) ?_
  refine ro_i (D := D) (va_runV (As := [.int p0, .int p1]) (rest := []) ⟨hx, hb, hml, hown, hts⟩ ((k_refuseSet l D k st lo a p0 p1) s.heap.size) (cwV 2 hts (gV tw_850 tw_852 tw_21 tw_79 tw_853) rfl rfl rfl (by decide +kernel) ⟨Nat.le_of_ble_eq_true rfl, Nat.le_of_ble_eq_true rfl⟩) (pV hS hAlo hlo hP hK hDL hZ [0, 1, 2, 3, 4, 5, 6, 7] (by decide) rfl (ci := 7) (q0 := 0) rfl rfl) rfl rfl hl.1 rfl (lv_room (Nat.le_of_ble_eq_true rfl)) dX7_rests_3 ⟨Nat.le_of_ble_eq_true rfl, Nat.le_of_ble_eq_true rfl⟩) hS hA hP (fun r_1 H locs hw_1 hP hS => ?_)
  try dsimp only at hw_1
  subst hw_1
  refine lv_istore_n (lv' := [(3, .int (-1001)), (0, .ref (a 0)), (1, .int p0), (2, .int p1)]) hx hb dX7_rests_6 rfl hl (by decide) rfl (fun ls hl => ?_)
  refine lv_iload_n hx hb dX7_rests_7 rfl (lv_at hl 0 rfl) ?_
  refine lv_if_eq (tgt := 13) hx hb dX7_rests_8 (by decide) (fun h => absurd h (by decide)) (fun _ => ?_)
  refine lv_iload_n hx hb dX7_rests_11 rfl (lv_at hl 0 rfl) ?_
  exact W.iret (v := (-1001)) hx hb hr (fun t ht hW => ⟨⟨(-1001), (), rfl, rfl, trivial⟩, hS.F ht⟩) hS.2.2 dX7_rests_12
end
section
theorem dX7_turn_0 : decode cX7_turn 0 = .ok (.aload_n 0, 1) := by decide +kernel
theorem dX7_turn_1 : decode cX7_turn 1 = .ok (.iload_n 1, 1) := by decide +kernel
theorem dX7_turn_2 : decode cX7_turn 2 = .ok (.iload_n 2, 1) := by decide +kernel
theorem dX7_turn_3 : decode cX7_turn 3 = .ok (.invokevirtual 239, 3) := by decide +kernel
theorem dX7_turn_6 : decode cX7_turn 6 = .ok (.istore_n 3, 1) := by decide +kernel
theorem dX7_turn_7 : decode cX7_turn 7 = .ok (.iload_n 3, 1) := by decide +kernel
theorem dX7_turn_8 : decode cX7_turn 8 = .ok (.ifCond .eq 5, 3) := by decide +kernel
theorem dX7_turn_11 : decode cX7_turn 11 = .ok (.iload_n 3, 1) := by decide +kernel
theorem dX7_turn_12 : decode cX7_turn 12 = .ok (.ireturn, 1) := by decide +kernel
set_option maxHeartbeats 4000000 in
set_option maxRecDepth 100000 in
theorem k_turn (l : Launch) (D : va_G) (k : Nat → ClassId) (st : Nat → Nat) (lo : Nat) (a : Nat → Nat) (p0 : Int32) (p1 : Int32)  : CRi l D k st lo yX7_turn cX7_turn 5 (some .int) ({ frames := 3, cells := 0, slots := 0, locals := 63 }) [.ref (a 0), .int p0, .int p1] [((a 0), .inr (7, [.ref (a 1), .ref (a 3), .ref (a 19), .ref (a 20), .ref (a 25), .int 0, .int (-1), .ref (a 32), .ref (a 35), .ref (a 42), .ref (a 43), .ref (a 44)])), ((a 3), .inl (k 3, 3, .inr (.inr (.inr (.inr (a3 (a 4) (a 5) (a 6))))))), ((a 4), .inr (5, [.ref (a 7), .ref (a 10), .ref (a 13), .ref (a 16)])), ((a 5), .inr (5, [.ref (a 8), .ref (a 11), .ref (a 14), .ref (a 17)])), ((a 6), .inr (5, [.ref (a 9), .ref (a 12), .ref (a 15), .ref (a 18)])), ((a 7), .inl (k 1, 10, .inl (fun _ => 0))), ((a 8), .inl (k 1, 10, .inl (fun _ => 0))), ((a 9), .inl (k 1, 10, .inl (fun _ => 0)))] (fun r => r = -1001) := by
  intro sz
  refine Met.ofW (cc := cX7_turn) (maxL := 5) (ret := (some .int)) (by decide) rfl ?_
  intro p e s m args below meth c s₁ B hml hv
  obtain ⟨rfl, hsz, hlo, hP, hK, hDL, hZ⟩ := hv
  have hx := B.exec
  have hb := B.bytes
  have hr := B.returns
  have hts := WS_ts B.pre
  have hown : s.vm.findClass RX7 = some m.cls := findClass_of_methodNamed B.named
  have hlocks := B.notSynchronized
  subst hsz
  have hA : ∀ q : Nat, s.heap.size ≤ q → (fun q : Nat => s.heap.size ≤ q) q := fun _ h => h
  have hAlo : ∀ q : Nat, (fun q : Nat => s.heap.size ≤ q) q → lo ≤ q := fun q h => Nat.le_trans hlo h
  have hS : va_S (fun q : Nat => s.heap.size ≤ q) s.heap s.heap [] := va_S.rf
  have hl := lv_entry ([.ref (a 0), .int p0, .int p1]) (n := 5) (Nat.le_of_ble_eq_true rfl)
  rw [lg_entry_eq]
  generalize (lg_sl ([.ref (a 0), .int p0, .int p1]) ++ List.replicate (5 - (lg_sl ([.ref (a 0), .int p0, .int p1])).length) Slot.unset).toArray = ls at hl ⊢
  have hl : lv_has ls 5 [(0, .ref (a 0)), (1, .int p0), (2, .int p1)] := hl
  refine lv_aload_n hx hb dX7_turn_0 rfl (lv_at hl 0 rfl) ?_
  refine lv_iload_n hx hb dX7_turn_1 rfl (lv_at hl 1 rfl) ?_
  refine lv_iload_n hx hb dX7_turn_2 rfl (lv_at hl 2 rfl) ?_
  refine ro_i (D := D) (va_runV (As := [.int p0, .int p1]) (rest := []) ⟨hx, hb, hml, hown, hts⟩ ((k_refuseSet l D k st lo a p0 p1) s.heap.size) (cwV 2 hts (gV tw_850 tw_852 tw_21 tw_79 tw_853) rfl rfl rfl (by decide +kernel) ⟨Nat.le_of_ble_eq_true rfl, Nat.le_of_ble_eq_true rfl⟩) (pV hS hAlo hlo hP hK hDL hZ [0, 1, 2, 3, 4, 5, 6, 7] (by decide) rfl (ci := 7) (q0 := 0) rfl rfl) rfl rfl hl.1 rfl (lv_room (Nat.le_of_ble_eq_true rfl)) dX7_turn_3 ⟨Nat.le_of_ble_eq_true rfl, Nat.le_of_ble_eq_true rfl⟩) hS hA hP (fun r_1 H locs hw_1 hP hS => ?_)
  try dsimp only at hw_1
  subst hw_1
  refine lv_istore_n (lv' := [(3, .int (-1001)), (0, .ref (a 0)), (1, .int p0), (2, .int p1)]) hx hb dX7_turn_6 rfl hl (by decide) rfl (fun ls hl => ?_)
  refine lv_iload_n hx hb dX7_turn_7 rfl (lv_at hl 0 rfl) ?_
  refine lv_if_eq (tgt := 13) hx hb dX7_turn_8 (by decide) (fun h => absurd h (by decide)) (fun _ => ?_)
  refine lv_iload_n hx hb dX7_turn_11 rfl (lv_at hl 0 rfl) ?_
  exact W.iret (v := (-1001)) hx hb hr (fun t ht hW => ⟨⟨(-1001), (), rfl, rfl, trivial⟩, hS.F ht⟩) hS.2.2 dX7_turn_12
end
section
theorem dX7_allRests_0 : decode cX7_allRests 0 = .ok (.aload_n 0, 1) := by decide +kernel
theorem dX7_allRests_1 : decode cX7_allRests 1 = .ok (.iload_n 1, 1) := by decide +kernel
theorem dX7_allRests_2 : decode cX7_allRests 2 = .ok (.iload_n 2, 1) := by decide +kernel
theorem dX7_allRests_3 : decode cX7_allRests 3 = .ok (.invokevirtual 239, 3) := by decide +kernel
theorem dX7_allRests_6 : decode cX7_allRests 6 = .ok (.istore_n 3, 1) := by decide +kernel
theorem dX7_allRests_7 : decode cX7_allRests 7 = .ok (.iload_n 3, 1) := by decide +kernel
theorem dX7_allRests_8 : decode cX7_allRests 8 = .ok (.ifCond .eq 5, 3) := by decide +kernel
theorem dX7_allRests_11 : decode cX7_allRests 11 = .ok (.iload_n 3, 1) := by decide +kernel
theorem dX7_allRests_12 : decode cX7_allRests 12 = .ok (.ireturn, 1) := by decide +kernel
set_option maxHeartbeats 4000000 in
set_option maxRecDepth 100000 in
theorem k_allRests (l : Launch) (D : va_G) (k : Nat → ClassId) (st : Nat → Nat) (lo : Nat) (a : Nat → Nat) (p0 : Int32) (p1 : Int32)  : CRi l D k st lo yX7_allRests cX7_allRests 4 (some .int) ({ frames := 3, cells := 0, slots := 0, locals := 63 }) [.ref (a 0), .int p0, .int p1] [((a 0), .inr (7, [.ref (a 1), .ref (a 3), .ref (a 19), .ref (a 20), .ref (a 25), .int 0, .int (-1), .ref (a 32), .ref (a 35), .ref (a 42), .ref (a 43), .ref (a 44)])), ((a 3), .inl (k 3, 3, .inr (.inr (.inr (.inr (a3 (a 4) (a 5) (a 6))))))), ((a 4), .inr (5, [.ref (a 7), .ref (a 10), .ref (a 13), .ref (a 16)])), ((a 5), .inr (5, [.ref (a 8), .ref (a 11), .ref (a 14), .ref (a 17)])), ((a 6), .inr (5, [.ref (a 9), .ref (a 12), .ref (a 15), .ref (a 18)])), ((a 7), .inl (k 1, 10, .inl (fun _ => 0))), ((a 8), .inl (k 1, 10, .inl (fun _ => 0))), ((a 9), .inl (k 1, 10, .inl (fun _ => 0)))] (fun r => r = -1001) := by
  intro sz
  refine Met.ofW (cc := cX7_allRests) (maxL := 4) (ret := (some .int)) (by decide) rfl ?_
  intro p e s m args below meth c s₁ B hml hv
  obtain ⟨rfl, hsz, hlo, hP, hK, hDL, hZ⟩ := hv
  have hx := B.exec
  have hb := B.bytes
  have hr := B.returns
  have hts := WS_ts B.pre
  have hown : s.vm.findClass RX7 = some m.cls := findClass_of_methodNamed B.named
  have hlocks := B.notSynchronized
  subst hsz
  have hA : ∀ q : Nat, s.heap.size ≤ q → (fun q : Nat => s.heap.size ≤ q) q := fun _ h => h
  have hAlo : ∀ q : Nat, (fun q : Nat => s.heap.size ≤ q) q → lo ≤ q := fun q h => Nat.le_trans hlo h
  have hS : va_S (fun q : Nat => s.heap.size ≤ q) s.heap s.heap [] := va_S.rf
  have hl := lv_entry ([.ref (a 0), .int p0, .int p1]) (n := 4) (Nat.le_of_ble_eq_true rfl)
  rw [lg_entry_eq]
  generalize (lg_sl ([.ref (a 0), .int p0, .int p1]) ++ List.replicate (4 - (lg_sl ([.ref (a 0), .int p0, .int p1])).length) Slot.unset).toArray = ls at hl ⊢
  have hl : lv_has ls 4 [(0, .ref (a 0)), (1, .int p0), (2, .int p1)] := hl
  refine lv_aload_n hx hb dX7_allRests_0 rfl (lv_at hl 0 rfl) ?_
  refine lv_iload_n hx hb dX7_allRests_1 rfl (lv_at hl 1 rfl) ?_
  refine lv_iload_n hx hb dX7_allRests_2 rfl (lv_at hl 2 rfl) ?_
  refine ro_i (D := D) (va_runV (As := [.int p0, .int p1]) (rest := []) ⟨hx, hb, hml, hown, hts⟩ ((k_refuseSet l D k st lo a p0 p1) s.heap.size) (cwV 2 hts (gV tw_850 tw_852 tw_21 tw_79 tw_853) rfl rfl rfl (by decide +kernel) ⟨Nat.le_of_ble_eq_true rfl, Nat.le_of_ble_eq_true rfl⟩) (pV hS hAlo hlo hP hK hDL hZ [0, 1, 2, 3, 4, 5, 6, 7] (by decide) rfl (ci := 7) (q0 := 0) rfl rfl) rfl rfl hl.1 rfl (lv_room (Nat.le_of_ble_eq_true rfl)) dX7_allRests_3 ⟨Nat.le_of_ble_eq_true rfl, Nat.le_of_ble_eq_true rfl⟩) hS hA hP (fun r_1 H locs hw_1 hP hS => ?_)
  try dsimp only at hw_1
  subst hw_1
  refine lv_istore_n (lv' := [(3, .int (-1001)), (0, .ref (a 0)), (1, .int p0), (2, .int p1)]) hx hb dX7_allRests_6 rfl hl (by decide) rfl (fun ls hl => ?_)
  refine lv_iload_n hx hb dX7_allRests_7 rfl (lv_at hl 0 rfl) ?_
  refine lv_if_eq (tgt := 13) hx hb dX7_allRests_8 (by decide) (fun h => absurd h (by decide)) (fun _ => ?_)
  refine lv_iload_n hx hb dX7_allRests_11 rfl (lv_at hl 0 rfl) ?_
  exact W.iret (v := (-1001)) hx hb hr (fun t ht hW => ⟨⟨(-1001), (), rfl, rfl, trivial⟩, hS.F ht⟩) hS.2.2 dX7_allRests_12
end
section
theorem dX7_lost_0 : decode cX7_lost 0 = .ok (.aload_n 0, 1) := by decide +kernel
theorem dX7_lost_1 : decode cX7_lost 1 = .ok (.iload_n 1, 1) := by decide +kernel
theorem dX7_lost_2 : decode cX7_lost 2 = .ok (.iload_n 2, 1) := by decide +kernel
theorem dX7_lost_3 : decode cX7_lost 3 = .ok (.invokevirtual 239, 3) := by decide +kernel
theorem dX7_lost_6 : decode cX7_lost 6 = .ok (.istore_n 3, 1) := by decide +kernel
theorem dX7_lost_7 : decode cX7_lost 7 = .ok (.iload_n 3, 1) := by decide +kernel
theorem dX7_lost_8 : decode cX7_lost 8 = .ok (.ifCond .eq 5, 3) := by decide +kernel
theorem dX7_lost_11 : decode cX7_lost 11 = .ok (.iload_n 3, 1) := by decide +kernel
theorem dX7_lost_12 : decode cX7_lost 12 = .ok (.ireturn, 1) := by decide +kernel
set_option maxHeartbeats 4000000 in
set_option maxRecDepth 100000 in
theorem k_lost (l : Launch) (D : va_G) (k : Nat → ClassId) (st : Nat → Nat) (lo : Nat) (a : Nat → Nat) (p0 : Int32) (p1 : Int32)  : CRi l D k st lo yX7_lost cX7_lost 4 (some .int) ({ frames := 3, cells := 0, slots := 0, locals := 63 }) [.ref (a 0), .int p0, .int p1] [((a 0), .inr (7, [.ref (a 1), .ref (a 3), .ref (a 19), .ref (a 20), .ref (a 25), .int 0, .int (-1), .ref (a 32), .ref (a 35), .ref (a 42), .ref (a 43), .ref (a 44)])), ((a 3), .inl (k 3, 3, .inr (.inr (.inr (.inr (a3 (a 4) (a 5) (a 6))))))), ((a 4), .inr (5, [.ref (a 7), .ref (a 10), .ref (a 13), .ref (a 16)])), ((a 5), .inr (5, [.ref (a 8), .ref (a 11), .ref (a 14), .ref (a 17)])), ((a 6), .inr (5, [.ref (a 9), .ref (a 12), .ref (a 15), .ref (a 18)])), ((a 7), .inl (k 1, 10, .inl (fun _ => 0))), ((a 8), .inl (k 1, 10, .inl (fun _ => 0))), ((a 9), .inl (k 1, 10, .inl (fun _ => 0)))] (fun r => r = -1001) := by
  intro sz
  refine Met.ofW (cc := cX7_lost) (maxL := 4) (ret := (some .int)) (by decide) rfl ?_
  intro p e s m args below meth c s₁ B hml hv
  obtain ⟨rfl, hsz, hlo, hP, hK, hDL, hZ⟩ := hv
  have hx := B.exec
  have hb := B.bytes
  have hr := B.returns
  have hts := WS_ts B.pre
  have hown : s.vm.findClass RX7 = some m.cls := findClass_of_methodNamed B.named
  have hlocks := B.notSynchronized
  subst hsz
  have hA : ∀ q : Nat, s.heap.size ≤ q → (fun q : Nat => s.heap.size ≤ q) q := fun _ h => h
  have hAlo : ∀ q : Nat, (fun q : Nat => s.heap.size ≤ q) q → lo ≤ q := fun q h => Nat.le_trans hlo h
  have hS : va_S (fun q : Nat => s.heap.size ≤ q) s.heap s.heap [] := va_S.rf
  have hl := lv_entry ([.ref (a 0), .int p0, .int p1]) (n := 4) (Nat.le_of_ble_eq_true rfl)
  rw [lg_entry_eq]
  generalize (lg_sl ([.ref (a 0), .int p0, .int p1]) ++ List.replicate (4 - (lg_sl ([.ref (a 0), .int p0, .int p1])).length) Slot.unset).toArray = ls at hl ⊢
  have hl : lv_has ls 4 [(0, .ref (a 0)), (1, .int p0), (2, .int p1)] := hl
  refine lv_aload_n hx hb dX7_lost_0 rfl (lv_at hl 0 rfl) ?_
  refine lv_iload_n hx hb dX7_lost_1 rfl (lv_at hl 1 rfl) ?_
  refine lv_iload_n hx hb dX7_lost_2 rfl (lv_at hl 2 rfl) ?_
  refine ro_i (D := D) (va_runV (As := [.int p0, .int p1]) (rest := []) ⟨hx, hb, hml, hown, hts⟩ ((k_refuseSet l D k st lo a p0 p1) s.heap.size) (cwV 2 hts (gV tw_850 tw_852 tw_21 tw_79 tw_853) rfl rfl rfl (by decide +kernel) ⟨Nat.le_of_ble_eq_true rfl, Nat.le_of_ble_eq_true rfl⟩) (pV hS hAlo hlo hP hK hDL hZ [0, 1, 2, 3, 4, 5, 6, 7] (by decide) rfl (ci := 7) (q0 := 0) rfl rfl) rfl rfl hl.1 rfl (lv_room (Nat.le_of_ble_eq_true rfl)) dX7_lost_3 ⟨Nat.le_of_ble_eq_true rfl, Nat.le_of_ble_eq_true rfl⟩) hS hA hP (fun r_1 H locs hw_1 hP hS => ?_)
  try dsimp only at hw_1
  subst hw_1
  refine lv_istore_n (lv' := [(3, .int (-1001)), (0, .ref (a 0)), (1, .int p0), (2, .int p1)]) hx hb dX7_lost_6 rfl hl (by decide) rfl (fun ls hl => ?_)
  refine lv_iload_n hx hb dX7_lost_7 rfl (lv_at hl 0 rfl) ?_
  refine lv_if_eq (tgt := 13) hx hb dX7_lost_8 (by decide) (fun h => absurd h (by decide)) (fun _ => ?_)
  refine lv_iload_n hx hb dX7_lost_11 rfl (lv_at hl 0 rfl) ?_
  exact W.iret (v := (-1001)) hx hb hr (fun t ht hW => ⟨⟨(-1001), (), rfl, rfl, trivial⟩, hS.F ht⟩) hS.2.2 dX7_lost_12
end
section
theorem dX7_mend_0 : decode cX7_mend 0 = .ok (.aload_n 0, 1) := by decide +kernel
theorem dX7_mend_1 : decode cX7_mend 1 = .ok (.iload_n 1, 1) := by decide +kernel
theorem dX7_mend_2 : decode cX7_mend 2 = .ok (.iload_n 3, 1) := by decide +kernel
theorem dX7_mend_3 : decode cX7_mend 3 = .ok (.invokevirtual 120, 3) := by decide +kernel
theorem dX7_mend_6 : decode cX7_mend 6 = .ok (.ifCond .ne 7, 3) := by decide +kernel
theorem dX7_mend_9 : decode cX7_mend 9 = .ok (.sipush (-1001), 3) := by decide +kernel
theorem dX7_mend_12 : decode cX7_mend 12 = .ok (.ireturn, 1) := by decide +kernel
set_option maxHeartbeats 4000000 in
set_option maxRecDepth 100000 in
theorem k_mend (l : Launch) (D : va_G) (k : Nat → ClassId) (st : Nat → Nat) (lo : Nat) (a : Nat → Nat) (p0 : Int32) (p1 : Int32) (p2 : Int32)  : CRi l D k st lo yX7_mend cX7_mend 4 (some .int) ({ frames := 3, cells := 0, slots := 0, locals := 63 }) [.ref (a 0), .int p0, .int p1, .int p2] [((a 0), .inr (7, [.ref (a 1), .ref (a 3), .ref (a 19), .ref (a 20), .ref (a 25), .int 0, .int (-1), .ref (a 32), .ref (a 35), .ref (a 42), .ref (a 43), .ref (a 44)])), ((a 3), .inl (k 3, 3, .inr (.inr (.inr (.inr (a3 (a 4) (a 5) (a 6))))))), ((a 4), .inr (5, [.ref (a 7), .ref (a 10), .ref (a 13), .ref (a 16)])), ((a 5), .inr (5, [.ref (a 8), .ref (a 11), .ref (a 14), .ref (a 17)])), ((a 6), .inr (5, [.ref (a 9), .ref (a 12), .ref (a 15), .ref (a 18)])), ((a 7), .inl (k 1, 10, .inl (fun _ => 0))), ((a 8), .inl (k 1, 10, .inl (fun _ => 0))), ((a 9), .inl (k 1, 10, .inl (fun _ => 0)))] (fun r => r = -1001) := by
  intro sz
  refine Met.ofW (cc := cX7_mend) (maxL := 4) (ret := (some .int)) (by decide) rfl ?_
  intro p e s m args below meth c s₁ B hml hv
  obtain ⟨rfl, hsz, hlo, hP, hK, hDL, hZ⟩ := hv
  have hx := B.exec
  have hb := B.bytes
  have hr := B.returns
  have hts := WS_ts B.pre
  have hown : s.vm.findClass RX7 = some m.cls := findClass_of_methodNamed B.named
  have hlocks := B.notSynchronized
  subst hsz
  have hA : ∀ q : Nat, s.heap.size ≤ q → (fun q : Nat => s.heap.size ≤ q) q := fun _ h => h
  have hAlo : ∀ q : Nat, (fun q : Nat => s.heap.size ≤ q) q → lo ≤ q := fun q h => Nat.le_trans hlo h
  have hS : va_S (fun q : Nat => s.heap.size ≤ q) s.heap s.heap [] := va_S.rf
  have hl := lv_entry ([.ref (a 0), .int p0, .int p1, .int p2]) (n := 4) (Nat.le_of_ble_eq_true rfl)
  rw [lg_entry_eq]
  generalize (lg_sl ([.ref (a 0), .int p0, .int p1, .int p2]) ++ List.replicate (4 - (lg_sl ([.ref (a 0), .int p0, .int p1, .int p2])).length) Slot.unset).toArray = ls at hl ⊢
  have hl : lv_has ls 4 [(0, .ref (a 0)), (1, .int p0), (2, .int p1), (3, .int p2)] := hl
  refine lv_aload_n hx hb dX7_mend_0 rfl (lv_at hl 0 rfl) ?_
  refine lv_iload_n hx hb dX7_mend_1 rfl (lv_at hl 1 rfl) ?_
  refine lv_iload_n hx hb dX7_mend_2 rfl (lv_at hl 3 rfl) ?_
  refine ro_i (D := D) (va_runV (As := [.int p0, .int p2]) (rest := []) ⟨hx, hb, hml, hown, hts⟩ ((k_isDoor l D k st lo a p0 p2) s.heap.size) (cwV 2 hts (gV tw_600 tw_602 tw_9 tw_79 tw_603) rfl rfl rfl (by decide +kernel) ⟨Nat.le_of_ble_eq_true rfl, Nat.le_of_ble_eq_true rfl⟩) (pV hS hAlo hlo hP hK hDL hZ [0, 1, 2, 3, 4, 5, 6, 7] (by decide) rfl (ci := 7) (q0 := 0) rfl rfl) rfl rfl hl.1 rfl (lv_room (Nat.le_of_ble_eq_true rfl)) dX7_mend_3 ⟨Nat.le_of_ble_eq_true rfl, Nat.le_of_ble_eq_true rfl⟩) hS hA hP (fun r_1 H locs hw_1 hP hS => ?_)
  try dsimp only at hw_1
  subst hw_1
  refine lv_if_ne (tgt := 13) hx hb dX7_mend_6 (by decide) (fun h => absurd (by decide) h) (fun _ => ?_)
  refine lv_sipush (v := (-1001)) hx hb dX7_mend_9 (by decide) ?_
  exact W.iret (v := (-1001)) hx hb hr (fun t ht hW => ⟨⟨(-1001), (), rfl, rfl, trivial⟩, hS.F ht⟩) hS.2.2 dX7_mend_12
end
section
theorem dX7_evening_0 : decode cX7_evening 0 = .ok (.aload_n 0, 1) := by decide +kernel
theorem dX7_evening_1 : decode cX7_evening 1 = .ok (.iload_n 1, 1) := by decide +kernel
theorem dX7_evening_2 : decode cX7_evening 2 = .ok (.invokevirtual 108, 3) := by decide +kernel
theorem dX7_evening_5 : decode cX7_evening 5 = .ok (.ifCond .eq 11, 3) := by decide +kernel
theorem dX7_evening_16 : decode cX7_evening 16 = .ok (.sipush (-1001), 3) := by decide +kernel
theorem dX7_evening_19 : decode cX7_evening 19 = .ok (.ireturn, 1) := by decide +kernel
set_option maxHeartbeats 4000000 in
set_option maxRecDepth 100000 in
theorem k_evening (l : Launch) (D : va_G) (k : Nat → ClassId) (st : Nat → Nat) (lo : Nat) (a : Nat → Nat) (p0 : Int32) (p1 : Int32) (p2 : Int32)  : CRi l D k st lo yX7_evening cX7_evening 7 (some .int) ({ frames := 2, cells := 0, slots := 0, locals := 41 }) [.ref (a 0), .int p0, .int p1, .int p2] [((a 0), .inr (7, [.ref (a 1), .ref (a 3), .ref (a 19), .ref (a 20), .ref (a 25), .int 0, .int (-1), .ref (a 32), .ref (a 35), .ref (a 42), .ref (a 43), .ref (a 44)])), ((a 3), .inl (k 3, 3, .inr (.inr (.inr (.inr (a3 (a 4) (a 5) (a 6))))))), ((a 4), .inr (5, [.ref (a 7), .ref (a 10), .ref (a 13), .ref (a 16)])), ((a 5), .inr (5, [.ref (a 8), .ref (a 11), .ref (a 14), .ref (a 17)])), ((a 6), .inr (5, [.ref (a 9), .ref (a 12), .ref (a 15), .ref (a 18)])), ((a 7), .inl (k 1, 10, .inl (fun _ => 0))), ((a 8), .inl (k 1, 10, .inl (fun _ => 0))), ((a 9), .inl (k 1, 10, .inl (fun _ => 0)))] (fun r => r = -1001) := by
  intro sz
  refine Met.ofW (cc := cX7_evening) (maxL := 7) (ret := (some .int)) (by decide) rfl ?_
  intro p e s m args below meth c s₁ B hml hv
  obtain ⟨rfl, hsz, hlo, hP, hK, hDL, hZ⟩ := hv
  have hx := B.exec
  have hb := B.bytes
  have hr := B.returns
  have hts := WS_ts B.pre
  have hown : s.vm.findClass RX7 = some m.cls := findClass_of_methodNamed B.named
  have hlocks := B.notSynchronized
  subst hsz
  have hA : ∀ q : Nat, s.heap.size ≤ q → (fun q : Nat => s.heap.size ≤ q) q := fun _ h => h
  have hAlo : ∀ q : Nat, (fun q : Nat => s.heap.size ≤ q) q → lo ≤ q := fun q h => Nat.le_trans hlo h
  have hS : va_S (fun q : Nat => s.heap.size ≤ q) s.heap s.heap [] := va_S.rf
  have hl := lv_entry ([.ref (a 0), .int p0, .int p1, .int p2]) (n := 7) (Nat.le_of_ble_eq_true rfl)
  rw [lg_entry_eq]
  generalize (lg_sl ([.ref (a 0), .int p0, .int p1, .int p2]) ++ List.replicate (7 - (lg_sl ([.ref (a 0), .int p0, .int p1, .int p2])).length) Slot.unset).toArray = ls at hl ⊢
  have hl : lv_has ls 7 [(0, .ref (a 0)), (1, .int p0), (2, .int p1), (3, .int p2)] := hl
  refine lv_aload_n hx hb dX7_evening_0 rfl (lv_at hl 0 rfl) ?_
  refine lv_iload_n hx hb dX7_evening_1 rfl (lv_at hl 1 rfl) ?_
  refine ro_i (D := D) (va_runV (As := [.int p0]) (rest := []) ⟨hx, hb, hml, hown, hts⟩ ((k_isStreet l D k st lo a p0) s.heap.size) (cwV 1 hts (gV tw_589 tw_591 tw_8 tw_79 tw_592) rfl rfl rfl (by decide +kernel) ⟨Nat.le_of_ble_eq_true rfl, Nat.le_of_ble_eq_true rfl⟩) (pV hS hAlo hlo hP hK hDL hZ [0, 1, 2, 3, 4, 5, 6, 7] (by decide) rfl (ci := 7) (q0 := 0) rfl rfl) rfl rfl hl.1 rfl (lv_room (Nat.le_of_ble_eq_true rfl)) dX7_evening_2 ⟨Nat.le_of_ble_eq_true rfl, Nat.le_of_ble_eq_true rfl⟩) hS hA hP (fun r_1 H locs hw_1 hP hS => ?_)
  try dsimp only at hw_1
  subst hw_1
  refine lv_if_eq (tgt := 16) hx hb dX7_evening_5 (by decide) (fun _ => ?_) (fun h => absurd (by decide) h)
  refine lv_sipush (v := (-1001)) hx hb dX7_evening_16 (by decide) ?_
  exact W.iret (v := (-1001)) hx hb hr (fun t ht hW => ⟨⟨(-1001), (), rfl, rfl, trivial⟩, hS.F ht⟩) hS.2.2 dX7_evening_19
end
section
theorem dX7_fault_0 : decode cX7_fault 0 = .ok (.aload_n 0, 1) := by decide +kernel
theorem dX7_fault_1 : decode cX7_fault 1 = .ok (.getfield 43, 3) := by decide +kernel
theorem dX7_fault_4 : decode cX7_fault 4 = .ok (.ireturn, 1) := by decide +kernel
set_option maxHeartbeats 4000000 in
set_option maxRecDepth 100000 in
theorem k_fault (l : Launch) (D : va_G) (k : Nat → ClassId) (st : Nat → Nat) (lo : Nat) (a : Nat → Nat)  : CRi l D k st lo yX7_fault cX7_fault 1 (some .int) ({ frames := 0, cells := 0, slots := 0, locals := 0 }) [.ref (a 0)] [((a 0), .inr (7, [.ref (a 1), .ref (a 3), .ref (a 19), .ref (a 20), .ref (a 25), .int 0, .int (-1), .ref (a 32), .ref (a 35), .ref (a 42), .ref (a 43), .ref (a 44)]))] (fun r => r = -1) := by
  intro sz
  refine Met.ofW (cc := cX7_fault) (maxL := 1) (ret := (some .int)) (by decide) rfl ?_
  intro p e s m args below meth c s₁ B hml hv
  obtain ⟨rfl, hsz, hlo, hP, hK, hDL, hZ⟩ := hv
  have hx := B.exec
  have hb := B.bytes
  have hr := B.returns
  have hts := WS_ts B.pre
  have hown : s.vm.findClass RX7 = some m.cls := findClass_of_methodNamed B.named
  have hlocks := B.notSynchronized
  subst hsz
  have hA : ∀ q : Nat, s.heap.size ≤ q → (fun q : Nat => s.heap.size ≤ q) q := fun _ h => h
  have hAlo : ∀ q : Nat, (fun q : Nat => s.heap.size ≤ q) q → lo ≤ q := fun q h => Nat.le_trans hlo h
  have hS : va_S (fun q : Nat => s.heap.size ≤ q) s.heap s.heap [] := va_S.rf
  have hl := lv_entry ([.ref (a 0)]) (n := 1) (Nat.le_of_ble_eq_true rfl)
  rw [lg_entry_eq]
  generalize (lg_sl ([.ref (a 0)]) ++ List.replicate (1 - (lg_sl ([.ref (a 0)])).length) Slot.unset).toArray = ls at hl ⊢
  have hl : lv_has ls 1 [(0, .ref (a 0))] := hl
  refine lv_aload_n hx hb dX7_fault_0 rfl (lv_at hl 0 rfl) ?_
  refine va_get (D := D) (ci := 7) (v := .int (-1)) (C := RX7) (T := TX7) (N := 12) hx hb hts inX7 hown hK hP 0 rfl rfl 6 (by decide) (hts _ tw_311) (fun _ h9 => h9) rfl dX7_fault_1 ?_
  exact W.iret (v := (-1)) hx hb hr (fun t ht hW => ⟨⟨(-1), (), rfl, rfl, trivial⟩, hS.F ht⟩) hS.2.2 dX7_fault_4
end
section
theorem dX7_steer_0 : decode cX7_steer 0 = .ok (.aload_n 0, 1) := by decide +kernel
theorem dX7_steer_1 : decode cX7_steer 1 = .ok (.iload_n 1, 1) := by decide +kernel
theorem dX7_steer_2 : decode cX7_steer 2 = .ok (.invokevirtual 220, 3) := by decide +kernel
theorem dX7_steer_5 : decode cX7_steer 5 = .ok (.ifCond .ne 7, 3) := by decide +kernel
theorem dX7_steer_8 : decode cX7_steer 8 = .ok (.sipush (-1001), 3) := by decide +kernel
theorem dX7_steer_11 : decode cX7_steer 11 = .ok (.ireturn, 1) := by decide +kernel
set_option maxHeartbeats 4000000 in
set_option maxRecDepth 100000 in
theorem k_steer (l : Launch) (D : va_G) (k : Nat → ClassId) (st : Nat → Nat) (lo : Nat) (a : Nat → Nat) (p0 : Int32) (p1 : Int32)  : CRi l D k st lo yX7_steer cX7_steer 4 (some .int) ({ frames := 1, cells := 0, slots := 0, locals := 21 }) [.ref (a 0), .int p0, .int p1] [((a 0), .inr (7, [.ref (a 1), .ref (a 3), .ref (a 19), .ref (a 20), .ref (a 25), .int 0, .int (-1), .ref (a 32), .ref (a 35), .ref (a 42), .ref (a 43), .ref (a 44)])), ((a 32), .inr (4, [.ref (a 33), .ref (a 34), .int 0, .int 0, .int 0, .int 0]))] (fun r => r = -1001) := by
  intro sz
  refine Met.ofW (cc := cX7_steer) (maxL := 4) (ret := (some .int)) (by decide) rfl ?_
  intro p e s m args below meth c s₁ B hml hv
  obtain ⟨rfl, hsz, hlo, hP, hK, hDL, hZ⟩ := hv
  have hx := B.exec
  have hb := B.bytes
  have hr := B.returns
  have hts := WS_ts B.pre
  have hown : s.vm.findClass RX7 = some m.cls := findClass_of_methodNamed B.named
  have hlocks := B.notSynchronized
  subst hsz
  have hA : ∀ q : Nat, s.heap.size ≤ q → (fun q : Nat => s.heap.size ≤ q) q := fun _ h => h
  have hAlo : ∀ q : Nat, (fun q : Nat => s.heap.size ≤ q) q → lo ≤ q := fun q h => Nat.le_trans hlo h
  have hS : va_S (fun q : Nat => s.heap.size ≤ q) s.heap s.heap [] := va_S.rf
  have hl := lv_entry ([.ref (a 0), .int p0, .int p1]) (n := 4) (Nat.le_of_ble_eq_true rfl)
  rw [lg_entry_eq]
  generalize (lg_sl ([.ref (a 0), .int p0, .int p1]) ++ List.replicate (4 - (lg_sl ([.ref (a 0), .int p0, .int p1])).length) Slot.unset).toArray = ls at hl ⊢
  have hl : lv_has ls 4 [(0, .ref (a 0)), (1, .int p0), (2, .int p1)] := hl
  refine lv_aload_n hx hb dX7_steer_0 rfl (lv_at hl 0 rfl) ?_
  refine lv_iload_n hx hb dX7_steer_1 rfl (lv_at hl 1 rfl) ?_
  refine ro_i (D := D) (va_runV (As := [.int p0]) (rest := []) ⟨hx, hb, hml, hown, hts⟩ ((k_isCar l D k st lo a p0) s.heap.size) (cwV 1 hts (gV tw_809 tw_811 tw_17 tw_79 tw_812) rfl rfl rfl (by decide +kernel) ⟨Nat.le_of_ble_eq_true rfl, Nat.le_of_ble_eq_true rfl⟩) (pV hS hAlo hlo hP hK hDL hZ [0, 1] (by decide) rfl (ci := 7) (q0 := 0) rfl rfl) rfl rfl hl.1 rfl (lv_room (Nat.le_of_ble_eq_true rfl)) dX7_steer_2 ⟨Nat.le_of_ble_eq_true rfl, Nat.le_of_ble_eq_true rfl⟩) hS hA hP (fun r_1 H locs hw_1 hP hS => ?_)
  try dsimp only at hw_1
  subst hw_1
  refine lv_if_ne (tgt := 12) hx hb dX7_steer_5 (by decide) (fun h => absurd (by decide) h) (fun _ => ?_)
  refine lv_sipush (v := (-1001)) hx hb dX7_steer_8 (by decide) ?_
  exact W.iret (v := (-1001)) hx hb hr (fun t ht hW => ⟨⟨(-1001), (), rfl, rfl, trivial⟩, hS.F ht⟩) hS.2.2 dX7_steer_11
end
section
theorem tw_2 : Cond.selects RX7 yX7_closeText yX7_closeText ∈ LW := LWm (i := 2) (by decide +kernel) rfl
theorem tw_82 : Cond.initialized RX4 ∈ LW := LWm (i := 82) (by decide +kernel) rfl
theorem tw_83 : Cond.initialized RX2 ∈ LW := LWm (i := 83) (by decide +kernel) rfl
theorem tw_84 : Cond.initialized RX1 ∈ LW := LWm (i := 84) (by decide +kernel) rfl
theorem tw_85 : Cond.initialized RX0 ∈ LW := LWm (i := 85) (by decide +kernel) rfl
theorem tw_86 : Cond.initialized RX3 ∈ LW := LWm (i := 86) (by decide +kernel) rfl
theorem tw_94 : Cond.initialized RJ6 ∈ LW := LWm (i := 94) (by decide +kernel) rfl
theorem tw_100 : Cond.methodLink RX7 3 objectInit ∈ LW := LWm (i := 100) (by decide +kernel) rfl
theorem tw_103 : Cond.classLink RX7 9 RX6 ∈ LW := LWm (i := 103) (by decide +kernel) rfl
theorem tw_104 : Cond.instantiable RX6 6 ∈ LW := LWm (i := 104) (by decide +kernel) rfl
theorem tw_106 : Cond.instanceMethod yX6_init ∈ LW := LWm (i := 106) (by decide +kernel) rfl
theorem tw_107 : Cond.code yX6_init cX6_init 1 none ∈ LW := LWm (i := 107) (by decide +kernel) rfl
theorem tw_111 : Cond.fieldLink RX7 81 "LastPlace$Text" "size" "I" ∈ LW := LWm (i := 111) (by decide +kernel) rfl
theorem tw_120 : Cond.fieldLink RX7 292 "LastPlace$Text" "faultNumber" "I" ∈ LW := LWm (i := 120) (by decide +kernel) rfl
theorem tw_122 : Cond.fieldLink RX7 289 "LastPlace$Text" "faultByte" "I" ∈ LW := LWm (i := 122) (by decide +kernel) rfl
theorem tw_137 : Cond.classLink RX7 16 RX5 ∈ LW := LWm (i := 137) (by decide +kernel) rfl
theorem tw_139 : Cond.classLink RX7 22 RX0 ∈ LW := LWm (i := 139) (by decide +kernel) rfl
theorem tw_141 : Cond.instantiable RX5 4 ∈ LW := LWm (i := 141) (by decide +kernel) rfl
theorem tw_143 : Cond.instanceMethod yX5_init ∈ LW := LWm (i := 143) (by decide +kernel) rfl
theorem tw_144 : Cond.code yX5_init cX5_init 1 none ∈ LW := LWm (i := 144) (by decide +kernel) rfl
theorem tw_165 : Cond.classLink RX7 33 RX3 ∈ LW := LWm (i := 165) (by decide +kernel) rfl
theorem tw_167 : Cond.classLink RX7 46 RX4 ∈ LW := LWm (i := 167) (by decide +kernel) rfl
theorem tw_168 : Cond.instantiable RX4 6 ∈ LW := LWm (i := 168) (by decide +kernel) rfl
theorem tw_170 : Cond.instanceMethod yX4_init ∈ LW := LWm (i := 170) (by decide +kernel) rfl
theorem tw_171 : Cond.code yX4_init cX4_init 1 none ∈ LW := LWm (i := 171) (by decide +kernel) rfl
theorem tw_184 : Cond.fieldLink RX7 176 "LastPlace$Scene" "rowSize" "I" ∈ LW := LWm (i := 184) (by decide +kernel) rfl
theorem tw_187 : Cond.fieldLink RX7 183 "LastPlace$Scene" "rowFree" "I" ∈ LW := LWm (i := 187) (by decide +kernel) rfl
theorem tw_189 : Cond.fieldLink RX7 266 "LastPlace$Scene" "seedNow" "I" ∈ LW := LWm (i := 189) (by decide +kernel) rfl
theorem tw_204 : Cond.classLink RX7 61 RX2 ∈ LW := LWm (i := 204) (by decide +kernel) rfl
theorem tw_205 : Cond.instantiable RX2 5 ∈ LW := LWm (i := 205) (by decide +kernel) rfl
theorem tw_207 : Cond.instanceMethod yX2_init ∈ LW := LWm (i := 207) (by decide +kernel) rfl
theorem tw_208 : Cond.code yX2_init cX2_init 1 none ∈ LW := LWm (i := 208) (by decide +kernel) rfl
theorem tw_228 : Cond.arrayClass .boolean ∈ LW := LWm (i := 228) (by decide +kernel) rfl
theorem tw_229 : Cond.classLink RX7 68 RX1 ∈ LW := LWm (i := 229) (by decide +kernel) rfl
theorem tw_230 : Cond.instantiable RX1 8 ∈ LW := LWm (i := 230) (by decide +kernel) rfl
theorem tw_231 : Cond.methodLink RX7 70 yX1_init ∈ LW := LWm (i := 231) (by decide +kernel) rfl
theorem tw_232 : Cond.instanceMethod yX1_init ∈ LW := LWm (i := 232) (by decide +kernel) rfl
theorem tw_233 : Cond.code yX1_init cX1_init 2 none ∈ LW := LWm (i := 233) (by decide +kernel) rfl
theorem tw_261 : Cond.instantiable RX0 5 ∈ LW := LWm (i := 261) (by decide +kernel) rfl
theorem tw_262 : Cond.methodLink RX7 77 yX0_init ∈ LW := LWm (i := 262) (by decide +kernel) rfl
theorem tw_263 : Cond.instanceMethod yX0_init ∈ LW := LWm (i := 263) (by decide +kernel) rfl
theorem tw_264 : Cond.code yX0_init cX0_init 2 none ∈ LW := LWm (i := 264) (by decide +kernel) rfl
theorem tw_284 : Cond.instantiable RX3 5 ∈ LW := LWm (i := 284) (by decide +kernel) rfl
theorem tw_286 : Cond.instanceMethod yX3_init ∈ LW := LWm (i := 286) (by decide +kernel) rfl
theorem tw_287 : Cond.code yX3_init cX3_init 1 none ∈ LW := LWm (i := 287) (by decide +kernel) rfl
theorem tw_305 : Cond.fieldLink RX7 12 "LastPlace" "text" "LLastPlace$Text;" ∈ LW := LWm (i := 305) (by decide +kernel) rfl
theorem tw_307 : Cond.fieldLink RX7 24 "LastPlace" "ways" "[LLastPlace$BestWay;" ∈ LW := LWm (i := 307) (by decide +kernel) rfl
theorem tw_308 : Cond.fieldLink RX7 29 "LastPlace" "draft" "LLastPlace$Street;" ∈ LW := LWm (i := 308) (by decide +kernel) rfl
theorem tw_309 : Cond.fieldLink RX7 35 "LastPlace" "rules" "[LLastPlace$Rule;" ∈ LW := LWm (i := 309) (by decide +kernel) rfl
theorem tw_310 : Cond.fieldLink RX7 39 "LastPlace" "ruleCount" "I" ∈ LW := LWm (i := 310) (by decide +kernel) rfl
theorem tw_313 : Cond.fieldLink RX7 53 "LastPlace" "images" "[LLastPlace$Scene;" ∈ LW := LWm (i := 313) (by decide +kernel) rfl
theorem tw_314 : Cond.fieldLink RX7 57 "LastPlace" "kept" "[Z" ∈ LW := LWm (i := 314) (by decide +kernel) rfl
theorem tw_315 : Cond.fieldLink RX7 64 "LastPlace" "reckoner" "LLastPlace$Reckoner;" ∈ LW := LWm (i := 315) (by decide +kernel) rfl
theorem tw_316 : Cond.fieldLink RX7 73 "LastPlace" "parking" "LLastPlace$Parking;" ∈ LW := LWm (i := 316) (by decide +kernel) rfl
theorem tw_346 : Cond.methodLink RX7 84 yX6_append ∈ LW := LWm (i := 346) (by decide +kernel) rfl
theorem tw_347 : Cond.instanceMethod yX6_append ∈ LW := LWm (i := 347) (by decide +kernel) rfl
theorem tw_348 : Cond.selects RX6 yX6_append yX6_append ∈ LW := LWm (i := 348) (by decide +kernel) rfl
theorem tw_349 : Cond.code yX6_append cX6_append 2 none ∈ LW := LWm (i := 349) (by decide +kernel) rfl
theorem tw_354 : Cond.methodLink RX7 88 yX6_rewind ∈ LW := LWm (i := 354) (by decide +kernel) rfl
theorem tw_355 : Cond.instanceMethod yX6_rewind ∈ LW := LWm (i := 355) (by decide +kernel) rfl
theorem tw_356 : Cond.selects RX6 yX6_rewind yX6_rewind ∈ LW := LWm (i := 356) (by decide +kernel) rfl
theorem tw_357 : Cond.code yX6_rewind cX6_rewind 1 none ∈ LW := LWm (i := 357) (by decide +kernel) rfl
theorem tw_358 : Cond.methodLink RX7 91 yX5_readFrom ∈ LW := LWm (i := 358) (by decide +kernel) rfl
theorem tw_359 : Cond.instanceMethod yX5_readFrom ∈ LW := LWm (i := 359) (by decide +kernel) rfl
theorem tw_360 : Cond.selects RX5 yX5_readFrom yX5_readFrom ∈ LW := LWm (i := 360) (by decide +kernel) rfl
theorem tw_361 : Cond.code yX5_readFrom cX5_readFrom 6 none ∈ LW := LWm (i := 361) (by decide +kernel) rfl
theorem tw_496 : Cond.methodLink RX7 95 yX7_closeText ∈ LW := LWm (i := 496) (by decide +kernel) rfl
theorem tw_498 : Cond.instanceMethod yX7_closeText ∈ LW := LWm (i := 498) (by decide +kernel) rfl
theorem tw_499 : Cond.code yX7_closeText cX7_closeText 1 (some .int) ∈ LW := LWm (i := 499) (by decide +kernel) rfl
theorem tw_500 : Cond.methodLink RX7 286 yX6_failed ∈ LW := LWm (i := 500) (by decide +kernel) rfl
theorem tw_593 : Cond.methodLink RX7 112 yX7_isIn ∈ LW := LWm (i := 593) (by decide +kernel) rfl
theorem tw_594 : Cond.static yX7_isIn ∈ LW := LWm (i := 594) (by decide +kernel) rfl
theorem tw_595 : Cond.code yX7_isIn cX7_isIn 3 (some .boolean) ∈ LW := LWm (i := 595) (by decide +kernel) rfl
theorem tw_675 : Cond.methodLink RX7 168 yX3_readFrom ∈ LW := LWm (i := 675) (by decide +kernel) rfl
theorem tw_676 : Cond.instanceMethod yX3_readFrom ∈ LW := LWm (i := 676) (by decide +kernel) rfl
theorem tw_677 : Cond.selects RX3 yX3_readFrom yX3_readFrom ∈ LW := LWm (i := 677) (by decide +kernel) rfl
theorem tw_678 : Cond.code yX3_readFrom cX3_readFrom 3 none ∈ LW := LWm (i := 678) (by decide +kernel) rfl
theorem tw_740 : Cond.methodLink RX7 179 yX4_see ∈ LW := LWm (i := 740) (by decide +kernel) rfl
theorem tw_741 : Cond.instanceMethod yX4_see ∈ LW := LWm (i := 741) (by decide +kernel) rfl
theorem tw_742 : Cond.selects RX4 yX4_see yX4_see ∈ LW := LWm (i := 742) (by decide +kernel) rfl
theorem tw_743 : Cond.code yX4_see cX4_see 2 (some .int) ∈ LW := LWm (i := 743) (by decide +kernel) rfl
theorem tw_800 : Cond.fieldLink RX7 211 "LastPlace" "MOST" "[I" ∈ LW := LWm (i := 800) (by decide +kernel) rfl
theorem tw_801 : Cond.methodLink RX7 217 yX4_addCar ∈ LW := LWm (i := 801) (by decide +kernel) rfl
theorem tw_802 : Cond.instanceMethod yX4_addCar ∈ LW := LWm (i := 802) (by decide +kernel) rfl
theorem tw_803 : Cond.selects RX4 yX4_addCar yX4_addCar ∈ LW := LWm (i := 803) (by decide +kernel) rfl
theorem tw_804 : Cond.code yX4_addCar cX4_addCar 4 (some .int) ∈ LW := LWm (i := 804) (by decide +kernel) rfl
theorem tw_883 : Cond.methodLink RX4 31 arraycopyName ∈ LW := LWm (i := 883) (by decide +kernel) rfl
theorem tw_945 : Cond.methodLink RX7 275 yJ6_bitCount_0f7a4 ∈ LW := LWm (i := 945) (by decide +kernel) rfl
theorem tw_946 : Cond.static yJ6_bitCount_0f7a4 ∈ LW := LWm (i := 946) (by decide +kernel) rfl
theorem tw_947 : Cond.code yJ6_bitCount_0f7a4 cJ6_bitCount_0f7a4 1 (some .int) ∈ LW := LWm (i := 947) (by decide +kernel) rfl
theorem tw_948 : Cond.constant RJ6 265 (1431655765) ∈ LW := LWm (i := 948) (by decide +kernel) rfl
theorem tw_949 : Cond.constant RJ6 266 (858993459) ∈ LW := LWm (i := 949) (by decide +kernel) rfl
theorem tw_950 : Cond.constant RJ6 267 (252645135) ∈ LW := LWm (i := 950) (by decide +kernel) rfl
theorem tw_955 : Cond.methodLink RX7 280 yX4_copyFrom ∈ LW := LWm (i := 955) (by decide +kernel) rfl
theorem tw_956 : Cond.instanceMethod yX4_copyFrom ∈ LW := LWm (i := 956) (by decide +kernel) rfl
theorem tw_957 : Cond.selects RX4 yX4_copyFrom yX4_copyFrom ∈ LW := LWm (i := 957) (by decide +kernel) rfl
theorem tw_958 : Cond.code yX4_copyFrom cX4_copyFrom 2 none ∈ LW := LWm (i := 958) (by decide +kernel) rfl
end
section
theorem dX4_see_0 : decode cX4_see 0 = .ok (.iload_n 1, 1) := by decide +kernel
theorem dX4_see_1 : decode cX4_see 1 = .ok (.ifCond .eq 18, 3) := by decide +kernel
theorem dX4_see_4 : decode cX4_see 4 = .ok (.aload_n 0, 1) := by decide +kernel
theorem dX4_see_5 : decode cX4_see 5 = .ok (.dup, 1) := by decide +kernel
theorem dX4_see_6 : decode cX4_see 6 = .ok (.getfield 25, 3) := by decide +kernel
theorem dX4_see_9 : decode cX4_see 9 = .ok (.iconst 1, 1) := by decide +kernel
theorem dX4_see_10 : decode cX4_see 10 = .ok (.aload_n 0, 1) := by decide +kernel
theorem dX4_see_11 : decode cX4_see 11 = .ok (.getfield 22, 3) := by decide +kernel
theorem dX4_see_14 : decode cX4_see 14 = .ok (.ishl, 1) := by decide +kernel
theorem dX4_see_15 : decode cX4_see 15 = .ok (.ior, 1) := by decide +kernel
theorem dX4_see_16 : decode cX4_see 16 = .ok (.putfield 25, 3) := by decide +kernel
theorem dX4_see_19 : decode cX4_see 19 = .ok (.aload_n 0, 1) := by decide +kernel
theorem dX4_see_20 : decode cX4_see 20 = .ok (.dup, 1) := by decide +kernel
theorem dX4_see_21 : decode cX4_see 21 = .ok (.getfield 22, 3) := by decide +kernel
theorem dX4_see_24 : decode cX4_see 24 = .ok (.iconst 1, 1) := by decide +kernel
theorem dX4_see_25 : decode cX4_see 25 = .ok (.iadd, 1) := by decide +kernel
theorem dX4_see_26 : decode cX4_see 26 = .ok (.putfield 22, 3) := by decide +kernel
theorem dX4_see_29 : decode cX4_see 29 = .ok (.aload_n 0, 1) := by decide +kernel
theorem dX4_see_30 : decode cX4_see 30 = .ok (.getfield 22, 3) := by decide +kernel
theorem dX4_see_33 : decode cX4_see 33 = .ok (.ireturn, 1) := by decide +kernel
set_option maxHeartbeats 4000000 in
set_option maxRecDepth 100000 in
theorem k_see (l : Launch) (D : va_G) (k : Nat → ClassId) (st : Nat → Nat) (lo : Nat) (h0 : Nat) (h1 : Nat) (h2 : Nat) (p0 : Int32)  : CWi l D k st lo yX4_see cX4_see 2 (some .int) ({ frames := 0, cells := 0, slots := 0, locals := 0 }) 0 0 [.ref h0, .int p0] [(h0, .inr (4, [.ref h1, .ref h2, .int 0, .int 0, .int 0, .int 0]))] (fun (r : Int32) (_ : Unit) => r = 1) (fun (_ : Unit) => []) := by
  intro sz
  refine Met.ofW (cc := cX4_see) (maxL := 2) (ret := (some .int)) (by decide) rfl ?_
  intro p e s m args below meth c s₁ B hml hv
  obtain ⟨rfl, hsz, hlo, hP, hK, hDL, hZ⟩ := hv
  have hx := B.exec
  have hb := B.bytes
  have hr := B.returns
  have hts := WS_ts B.pre
  have hown : s.vm.findClass RX4 = some m.cls := findClass_of_methodNamed B.named
  have hlocks := B.notSynchronized
  subst hsz
  have hD := hDL.self (sz := s.heap.size)
  have hAlo := A_lo hDL hlo
  generalize hAe : va_A [(h0, .inr (4, [.ref h1, .ref h2, .int 0, .int 0, .int 0, .int 0]))] s.heap.size = A at hD hAlo ⊢
  have hA : ∀ q : Nat, s.heap.size ≤ q → A q := fun q h => by rw [← hAe]; exact Or.inr h
  have hS : va_S A s.heap s.heap [] := va_S.rf
  have hl := lv_entry ([.ref h0, .int p0]) (n := 2) (Nat.le_of_ble_eq_true rfl)
  rw [lg_entry_eq]
  generalize (lg_sl ([.ref h0, .int p0]) ++ List.replicate (2 - (lg_sl ([.ref h0, .int p0])).length) Slot.unset).toArray = ls at hl ⊢
  have hl : lv_has ls 2 [(0, .ref h0), (1, .int p0)] := hl
  refine lv_iload_n hx hb dX4_see_0 rfl (lv_at hl 1 rfl) ?_
  refine lv_if_eq (tgt := 19) hx hb dX4_see_1 (by decide) (fun c_1 => ?_) (fun c_1 => ?_)
  · refine lv_aload_n hx hb dX4_see_19 rfl (lv_at hl 0 rfl) ?_
    refine lv_dup hx hb dX4_see_20 rfl ?_
    refine va_get (D := D) (ci := 4) (v := .int 0) (C := RX4) (T := TX4) (N := 6) hx hb hts inX4 hown hK hP 0 rfl rfl 3 (by decide) (hts _ tw_181) (fun _ h9 => h9) rfl dX4_see_21 ?_
    refine lv_iconst (v := 1) hx hb dX4_see_24 (by decide) ?_
    refine lv_iadd hx hb dX4_see_25 ?_
    refine lv_ti (y := 1) (by decide) ?_
    refine va_put (D := D) (ci := 4) (v := .int 1) (ty := .int) (C := RX4) (T := TX4) (N := 6) hx hb hts inX4 tyX4 tyX4_ok nmX4 hown hK hP hD hS 0 rfl rfl 3 (by decide) (hts _ tw_181) (fun _ h9 => h9) rfl (by decide +kernel) rfl rfl (Nat.le_of_ble_eq_true rfl) dX4_see_26 (fun H locs hP hD hS => ?_)
    have hP : va_P D classes [(h0, .inr (4, [.ref h1, .ref h2, .int 0, .int 1, .int 0, .int 0]))] H := hP
    have hD : va_D A [(h0, .inr (4, [.ref h1, .ref h2, .int 0, .int 1, .int 0, .int 0]))] := hD
    refine lv_aload_n hx hb dX4_see_29 rfl (lv_at hl 0 rfl) ?_
    refine va_get (D := D) (ci := 4) (v := .int 1) (C := RX4) (T := TX4) (N := 6) hx hb hts inX4 hown hK hP 0 rfl rfl 3 (by decide) (hts _ tw_181) (fun _ h9 => h9) rfl dX4_see_30 ?_
    have hP9 := hP.sub (ws' := []) [] rfl
    have hD9 := hD.sub (ws' := []) [] (by decide) rfl
    exact W.iret (v := 1) hx hb hr (fun t ht hW => ⟨⟨1, (), rfl, rfl, by rw [ht]; exact hP9, hD9⟩, hS.F ht⟩) hS.2.2 dX4_see_33
  · refine lv_aload_n hx hb dX4_see_4 rfl (lv_at hl 0 rfl) ?_
    refine lv_dup hx hb dX4_see_5 rfl ?_
    refine va_get (D := D) (ci := 4) (v := .int 0) (C := RX4) (T := TX4) (N := 6) hx hb hts inX4 hown hK hP 0 rfl rfl 4 (by decide) (hts _ tw_185) (fun _ h9 => h9) rfl dX4_see_6 ?_
    refine lv_iconst (v := 1) hx hb dX4_see_9 (by decide) ?_
    refine lv_aload_n hx hb dX4_see_10 rfl (lv_at hl 0 rfl) ?_
    refine va_get (D := D) (ci := 4) (v := .int 0) (C := RX4) (T := TX4) (N := 6) hx hb hts inX4 hown hK hP 0 rfl rfl 3 (by decide) (hts _ tw_181) (fun _ h9 => h9) rfl dX4_see_11 ?_
    refine lv_ishl hx hb dX4_see_14 ?_
    refine lv_ti (y := 1) (by decide) ?_
    refine lv_ior hx hb dX4_see_15 ?_
    refine lv_ti (y := 1) (by decide) ?_
    refine va_put (D := D) (ci := 4) (v := .int 1) (ty := .int) (C := RX4) (T := TX4) (N := 6) hx hb hts inX4 tyX4 tyX4_ok nmX4 hown hK hP hD hS 0 rfl rfl 4 (by decide) (hts _ tw_185) (fun _ h9 => h9) rfl (by decide +kernel) rfl rfl (Nat.le_of_ble_eq_true rfl) dX4_see_16 (fun H locs hP hD hS => ?_)
    have hP : va_P D classes [(h0, .inr (4, [.ref h1, .ref h2, .int 0, .int 0, .int 1, .int 0]))] H := hP
    have hD : va_D A [(h0, .inr (4, [.ref h1, .ref h2, .int 0, .int 0, .int 1, .int 0]))] := hD
    refine lv_aload_n hx hb dX4_see_19 rfl (lv_at hl 0 rfl) ?_
    refine lv_dup hx hb dX4_see_20 rfl ?_
    refine va_get (D := D) (ci := 4) (v := .int 0) (C := RX4) (T := TX4) (N := 6) hx hb hts inX4 hown hK hP 0 rfl rfl 3 (by decide) (hts _ tw_181) (fun _ h9 => h9) rfl dX4_see_21 ?_
    refine lv_iconst (v := 1) hx hb dX4_see_24 (by decide) ?_
    refine lv_iadd hx hb dX4_see_25 ?_
    refine lv_ti (y := 1) (by decide) ?_
    refine va_put (D := D) (ci := 4) (v := .int 1) (ty := .int) (C := RX4) (T := TX4) (N := 6) hx hb hts inX4 tyX4 tyX4_ok nmX4 hown hK hP hD hS 0 rfl rfl 3 (by decide) (hts _ tw_181) (fun _ h9 => h9) rfl (by decide +kernel) rfl rfl (Nat.le_of_ble_eq_true rfl) dX4_see_26 (fun H locs hP hD hS => ?_)
    have hP : va_P D classes [(h0, .inr (4, [.ref h1, .ref h2, .int 0, .int 1, .int 1, .int 0]))] H := hP
    have hD : va_D A [(h0, .inr (4, [.ref h1, .ref h2, .int 0, .int 1, .int 1, .int 0]))] := hD
    refine lv_aload_n hx hb dX4_see_29 rfl (lv_at hl 0 rfl) ?_
    refine va_get (D := D) (ci := 4) (v := .int 1) (C := RX4) (T := TX4) (N := 6) hx hb hts inX4 hown hK hP 0 rfl rfl 3 (by decide) (hts _ tw_181) (fun _ h9 => h9) rfl dX4_see_30 ?_
    have hP9 := hP.sub (ws' := []) [] rfl
    have hD9 := hD.sub (ws' := []) [] (by decide) rfl
    exact W.iret (v := 1) hx hb hr (fun t ht hW => ⟨⟨1, (), rfl, rfl, by rw [ht]; exact hP9, hD9⟩, hS.F ht⟩) hS.2.2 dX4_see_33
end
section
theorem dX4_addCar_0 : decode cX4_addCar 0 = .ok (.aload_n 0, 1) := by decide +kernel
theorem dX4_addCar_1 : decode cX4_addCar 1 = .ok (.getfield 18, 3) := by decide +kernel
theorem dX4_addCar_4 : decode cX4_addCar 4 = .ok (.istore_n 3, 1) := by decide +kernel
theorem dX4_addCar_5 : decode cX4_addCar 5 = .ok (.iload_n 3, 1) := by decide +kernel
theorem dX4_addCar_6 : decode cX4_addCar 6 = .ok (.iconst 4, 1) := by decide +kernel
theorem dX4_addCar_7 : decode cX4_addCar 7 = .ok (.if_icmp .ge 27, 3) := by decide +kernel
theorem dX4_addCar_10 : decode cX4_addCar 10 = .ok (.aload_n 0, 1) := by decide +kernel
theorem dX4_addCar_11 : decode cX4_addCar 11 = .ok (.getfield 9, 3) := by decide +kernel
theorem dX4_addCar_14 : decode cX4_addCar 14 = .ok (.iload_n 3, 1) := by decide +kernel
theorem dX4_addCar_15 : decode cX4_addCar 15 = .ok (.iload_n 1, 1) := by decide +kernel
theorem dX4_addCar_16 : decode cX4_addCar 16 = .ok (.iastore, 1) := by decide +kernel
theorem dX4_addCar_17 : decode cX4_addCar 17 = .ok (.aload_n 0, 1) := by decide +kernel
theorem dX4_addCar_18 : decode cX4_addCar 18 = .ok (.getfield 15, 3) := by decide +kernel
theorem dX4_addCar_21 : decode cX4_addCar 21 = .ok (.iload_n 3, 1) := by decide +kernel
theorem dX4_addCar_22 : decode cX4_addCar 22 = .ok (.iload_n 2, 1) := by decide +kernel
theorem dX4_addCar_23 : decode cX4_addCar 23 = .ok (.iastore, 1) := by decide +kernel
theorem dX4_addCar_24 : decode cX4_addCar 24 = .ok (.aload_n 0, 1) := by decide +kernel
theorem dX4_addCar_25 : decode cX4_addCar 25 = .ok (.dup, 1) := by decide +kernel
theorem dX4_addCar_26 : decode cX4_addCar 26 = .ok (.getfield 18, 3) := by decide +kernel
theorem dX4_addCar_29 : decode cX4_addCar 29 = .ok (.iconst 1, 1) := by decide +kernel
theorem dX4_addCar_30 : decode cX4_addCar 30 = .ok (.iadd, 1) := by decide +kernel
theorem dX4_addCar_31 : decode cX4_addCar 31 = .ok (.putfield 18, 3) := by decide +kernel
theorem dX4_addCar_34 : decode cX4_addCar 34 = .ok (.iload_n 3, 1) := by decide +kernel
theorem dX4_addCar_35 : decode cX4_addCar 35 = .ok (.ireturn, 1) := by decide +kernel
set_option maxHeartbeats 4000000 in
set_option maxRecDepth 100000 in
theorem k_addCar (l : Launch) (D : va_G) (k : Nat → ClassId) (st : Nat → Nat) (lo : Nat) (h0 : Nat) (h1 : Nat) (h2 : Nat) (f : Nat → Int32) (g : Nat → Int32) (p0 : Int32) (p1 : Int32)  : CWi l D k st lo yX4_addCar cX4_addCar 4 (some .int) ({ frames := 0, cells := 0, slots := 0, locals := 0 }) 0 0 [.ref h0, .int p0, .int p1] [(h0, .inr (4, [.ref h1, .ref h2, .int 0, .int 0, .int 0, .int 0])), (h1, .inl (k 1, 4, .inl f)), (h2, .inl (k 1, 4, .inl g))] (fun (r : Int32) (_ : Unit) => r = 0) (fun (_ : Unit) => []) := by
  intro sz
  refine Met.ofW (cc := cX4_addCar) (maxL := 4) (ret := (some .int)) (by decide) rfl ?_
  intro p e s m args below meth c s₁ B hml hv
  obtain ⟨rfl, hsz, hlo, hP, hK, hDL, hZ⟩ := hv
  have hx := B.exec
  have hb := B.bytes
  have hr := B.returns
  have hts := WS_ts B.pre
  have hown : s.vm.findClass RX4 = some m.cls := findClass_of_methodNamed B.named
  have hlocks := B.notSynchronized
  subst hsz
  have hD := hDL.self (sz := s.heap.size)
  have hAlo := A_lo hDL hlo
  generalize hAe : va_A [(h0, .inr (4, [.ref h1, .ref h2, .int 0, .int 0, .int 0, .int 0])), (h1, .inl (k 1, 4, .inl f)), (h2, .inl (k 1, 4, .inl g))] s.heap.size = A at hD hAlo ⊢
  have hA : ∀ q : Nat, s.heap.size ≤ q → A q := fun q h => by rw [← hAe]; exact Or.inr h
  have hS : va_S A s.heap s.heap [] := va_S.rf
  have hl := lv_entry ([.ref h0, .int p0, .int p1]) (n := 4) (Nat.le_of_ble_eq_true rfl)
  rw [lg_entry_eq]
  generalize (lg_sl ([.ref h0, .int p0, .int p1]) ++ List.replicate (4 - (lg_sl ([.ref h0, .int p0, .int p1])).length) Slot.unset).toArray = ls at hl ⊢
  have hl : lv_has ls 4 [(0, .ref h0), (1, .int p0), (2, .int p1)] := hl
  refine lv_aload_n hx hb dX4_addCar_0 rfl (lv_at hl 0 rfl) ?_
  refine va_get (D := D) (ci := 4) (v := .int 0) (C := RX4) (T := TX4) (N := 6) hx hb hts inX4 hown hK hP 0 rfl rfl 2 (by decide) (hts _ tw_178) (fun _ h9 => h9) rfl dX4_addCar_1 ?_
  refine lv_istore_n (lv' := [(3, .int 0), (0, .ref h0), (1, .int p0), (2, .int p1)]) hx hb dX4_addCar_4 rfl hl (by decide) rfl (fun ls hl => ?_)
  refine lv_iload_n hx hb dX4_addCar_5 rfl (lv_at hl 0 rfl) ?_
  refine lv_iconst (v := 4) hx hb dX4_addCar_6 (by decide) ?_
  refine lv_icmp_ge (tgt := 34) hx hb dX4_addCar_7 (by decide) (fun h => absurd h (by decide)) (fun _ => ?_)
  refine lv_aload_n hx hb dX4_addCar_10 rfl (lv_at hl 1 rfl) ?_
  refine va_get (D := D) (ci := 4) (v := .ref h1) (C := RX4) (T := TX4) (N := 6) hx hb hts inX4 hown hK hP 0 rfl rfl 0 (by decide) (hts _ tw_173) (fun _ h9 => h9) rfl dX4_addCar_11 ?_
  refine lv_iload_n hx hb dX4_addCar_14 rfl (lv_at hl 0 rfl) ?_
  refine lv_iload_n hx hb dX4_addCar_15 rfl (lv_at hl 2 rfl) ?_
  refine va_iast hx hb hK hP hD hS 1 1 rfl rfl (by unfold vp_in; decide) dX4_addCar_16 (fun H locs hP hD hS => ?_)
  have hP : va_P D classes [(h0, .inr (4, [.ref h1, .ref h2, .int 0, .int 0, .int 0, .int 0])), (h1, .inl (k 1, 4, .inl (upd f (Int32.toNatClampNeg 0) p0))), (h2, .inl (k 1, 4, .inl g))] H := hP
  have hD : va_D A [(h0, .inr (4, [.ref h1, .ref h2, .int 0, .int 0, .int 0, .int 0])), (h1, .inl (k 1, 4, .inl (upd f (Int32.toNatClampNeg 0) p0))), (h2, .inl (k 1, 4, .inl g))] := hD
  generalize (upd f (Int32.toNatClampNeg 0) p0) = f_1 at hP hD
  refine lv_aload_n hx hb dX4_addCar_17 rfl (lv_at hl 1 rfl) ?_
  refine va_get (D := D) (ci := 4) (v := .ref h2) (C := RX4) (T := TX4) (N := 6) hx hb hts inX4 hown hK hP 0 rfl rfl 1 (by decide) (hts _ tw_175) (fun _ h9 => h9) rfl dX4_addCar_18 ?_
  refine lv_iload_n hx hb dX4_addCar_21 rfl (lv_at hl 0 rfl) ?_
  refine lv_iload_n hx hb dX4_addCar_22 rfl (lv_at hl 3 rfl) ?_
  refine va_iast hx hb hK hP hD hS 2 1 rfl rfl (by unfold vp_in; decide) dX4_addCar_23 (fun H locs hP hD hS => ?_)
  have hP : va_P D classes [(h0, .inr (4, [.ref h1, .ref h2, .int 0, .int 0, .int 0, .int 0])), (h1, .inl (k 1, 4, .inl f_1)), (h2, .inl (k 1, 4, .inl (upd g (Int32.toNatClampNeg 0) p1)))] H := hP
  have hD : va_D A [(h0, .inr (4, [.ref h1, .ref h2, .int 0, .int 0, .int 0, .int 0])), (h1, .inl (k 1, 4, .inl f_1)), (h2, .inl (k 1, 4, .inl (upd g (Int32.toNatClampNeg 0) p1)))] := hD
  generalize (upd g (Int32.toNatClampNeg 0) p1) = f_2 at hP hD
  refine lv_aload_n hx hb dX4_addCar_24 rfl (lv_at hl 1 rfl) ?_
  refine lv_dup hx hb dX4_addCar_25 rfl ?_
  refine va_get (D := D) (ci := 4) (v := .int 0) (C := RX4) (T := TX4) (N := 6) hx hb hts inX4 hown hK hP 0 rfl rfl 2 (by decide) (hts _ tw_178) (fun _ h9 => h9) rfl dX4_addCar_26 ?_
  refine lv_iconst (v := 1) hx hb dX4_addCar_29 (by decide) ?_
  refine lv_iadd hx hb dX4_addCar_30 ?_
  refine lv_ti (y := 1) (by decide) ?_
  refine va_put (D := D) (ci := 4) (v := .int 1) (ty := .int) (C := RX4) (T := TX4) (N := 6) hx hb hts inX4 tyX4 tyX4_ok nmX4 hown hK hP hD hS 0 rfl rfl 2 (by decide) (hts _ tw_178) (fun _ h9 => h9) rfl (by decide +kernel) rfl rfl (Nat.le_of_ble_eq_true rfl) dX4_addCar_31 (fun H locs hP hD hS => ?_)
  have hP : va_P D classes [(h0, .inr (4, [.ref h1, .ref h2, .int 1, .int 0, .int 0, .int 0])), (h1, .inl (k 1, 4, .inl f_1)), (h2, .inl (k 1, 4, .inl f_2))] H := hP
  have hD : va_D A [(h0, .inr (4, [.ref h1, .ref h2, .int 1, .int 0, .int 0, .int 0])), (h1, .inl (k 1, 4, .inl f_1)), (h2, .inl (k 1, 4, .inl f_2))] := hD
  refine lv_iload_n hx hb dX4_addCar_34 rfl (lv_at hl 0 rfl) ?_
  have hP9 := hP.sub (ws' := []) [] rfl
  have hD9 := hD.sub (ws' := []) [] (by decide) rfl
  exact W.iret (v := 0) hx hb hr (fun t ht hW => ⟨⟨0, (), rfl, rfl, by rw [ht]; exact hP9, hD9⟩, hS.F ht⟩) hS.2.2 dX4_addCar_35
end
section
theorem dX4_copyFrom_0 : decode cX4_copyFrom 0 = .ok (.aload_n 1, 1) := by decide +kernel
theorem dX4_copyFrom_1 : decode cX4_copyFrom 1 = .ok (.getfield 9, 3) := by decide +kernel
theorem dX4_copyFrom_4 : decode cX4_copyFrom 4 = .ok (.iconst 0, 1) := by decide +kernel
theorem dX4_copyFrom_5 : decode cX4_copyFrom 5 = .ok (.aload_n 0, 1) := by decide +kernel
theorem dX4_copyFrom_6 : decode cX4_copyFrom 6 = .ok (.getfield 9, 3) := by decide +kernel
theorem dX4_copyFrom_9 : decode cX4_copyFrom 9 = .ok (.iconst 0, 1) := by decide +kernel
theorem dX4_copyFrom_10 : decode cX4_copyFrom 10 = .ok (.iconst 4, 1) := by decide +kernel
theorem dX4_copyFrom_11 : decode cX4_copyFrom 11 = .ok (.invokestatic 31, 3) := by decide +kernel
theorem dX4_copyFrom_14 : decode cX4_copyFrom 14 = .ok (.aload_n 1, 1) := by decide +kernel
theorem dX4_copyFrom_15 : decode cX4_copyFrom 15 = .ok (.getfield 15, 3) := by decide +kernel
theorem dX4_copyFrom_18 : decode cX4_copyFrom 18 = .ok (.iconst 0, 1) := by decide +kernel
theorem dX4_copyFrom_19 : decode cX4_copyFrom 19 = .ok (.aload_n 0, 1) := by decide +kernel
theorem dX4_copyFrom_20 : decode cX4_copyFrom 20 = .ok (.getfield 15, 3) := by decide +kernel
theorem dX4_copyFrom_23 : decode cX4_copyFrom 23 = .ok (.iconst 0, 1) := by decide +kernel
theorem dX4_copyFrom_24 : decode cX4_copyFrom 24 = .ok (.iconst 4, 1) := by decide +kernel
theorem dX4_copyFrom_25 : decode cX4_copyFrom 25 = .ok (.invokestatic 31, 3) := by decide +kernel
theorem dX4_copyFrom_28 : decode cX4_copyFrom 28 = .ok (.aload_n 0, 1) := by decide +kernel
theorem dX4_copyFrom_29 : decode cX4_copyFrom 29 = .ok (.aload_n 1, 1) := by decide +kernel
theorem dX4_copyFrom_30 : decode cX4_copyFrom 30 = .ok (.getfield 18, 3) := by decide +kernel
theorem dX4_copyFrom_33 : decode cX4_copyFrom 33 = .ok (.putfield 18, 3) := by decide +kernel
theorem dX4_copyFrom_36 : decode cX4_copyFrom 36 = .ok (.aload_n 0, 1) := by decide +kernel
theorem dX4_copyFrom_37 : decode cX4_copyFrom 37 = .ok (.aload_n 1, 1) := by decide +kernel
theorem dX4_copyFrom_38 : decode cX4_copyFrom 38 = .ok (.getfield 22, 3) := by decide +kernel
theorem dX4_copyFrom_41 : decode cX4_copyFrom 41 = .ok (.putfield 22, 3) := by decide +kernel
theorem dX4_copyFrom_44 : decode cX4_copyFrom 44 = .ok (.aload_n 0, 1) := by decide +kernel
theorem dX4_copyFrom_45 : decode cX4_copyFrom 45 = .ok (.aload_n 1, 1) := by decide +kernel
theorem dX4_copyFrom_46 : decode cX4_copyFrom 46 = .ok (.getfield 25, 3) := by decide +kernel
theorem dX4_copyFrom_49 : decode cX4_copyFrom 49 = .ok (.putfield 25, 3) := by decide +kernel
theorem dX4_copyFrom_52 : decode cX4_copyFrom 52 = .ok (.aload_n 0, 1) := by decide +kernel
theorem dX4_copyFrom_53 : decode cX4_copyFrom 53 = .ok (.aload_n 1, 1) := by decide +kernel
theorem dX4_copyFrom_54 : decode cX4_copyFrom 54 = .ok (.getfield 28, 3) := by decide +kernel
theorem dX4_copyFrom_57 : decode cX4_copyFrom 57 = .ok (.putfield 28, 3) := by decide +kernel
theorem dX4_copyFrom_60 : decode cX4_copyFrom 60 = .ok (.return_, 1) := by decide +kernel
set_option maxHeartbeats 4000000 in
set_option maxRecDepth 100000 in
theorem k_copyFrom (l : Launch) (D : va_G) (k : Nat → ClassId) (st : Nat → Nat) (lo : Nat) (h0 : Nat) (h1 : Nat) (h2 : Nat) (o0 : Nat) (o1 : Nat) (o2 : Nat) (f : Nat → Int32) (g : Nat → Int32) (f2 : Nat → Int32) (g2 : Nat → Int32)  : CWv l D k st lo yX4_copyFrom cX4_copyFrom 2 none ({ frames := 1, cells := 0, slots := 0, locals := 60 }) 0 0 [.ref h0, .ref o0] [(h0, .inr (4, [.ref h1, .ref h2, .int 0, .int 0, .int 0, .int 0])), (h1, .inl (k 1, 4, .inl f)), (h2, .inl (k 1, 4, .inl g)), (o0, .inr (4, [.ref o1, .ref o2, .int 0, .int 0, .int 0, .int 0])), (o1, .inl (k 1, 4, .inl f2)), (o2, .inl (k 1, 4, .inl g2))] (fun (_ : Unit) => True) (fun (_ : Unit) => []) := by
  intro sz
  refine Met.ofW (cc := cX4_copyFrom) (maxL := 2) (ret := none) (by decide) rfl ?_
  intro p e s m args below meth c s₁ B hml hv
  obtain ⟨rfl, hsz, hlo, hP, hK, hDL, hZ⟩ := hv
  have hx := B.exec
  have hb := B.bytes
  have hr := B.returns
  have hts := WS_ts B.pre
  have hown : s.vm.findClass RX4 = some m.cls := findClass_of_methodNamed B.named
  have hlocks := B.notSynchronized
  subst hsz
  have hD := hDL.self (sz := s.heap.size)
  have hAlo := A_lo hDL hlo
  generalize hAe : va_A [(h0, .inr (4, [.ref h1, .ref h2, .int 0, .int 0, .int 0, .int 0])), (h1, .inl (k 1, 4, .inl f)), (h2, .inl (k 1, 4, .inl g)), (o0, .inr (4, [.ref o1, .ref o2, .int 0, .int 0, .int 0, .int 0])), (o1, .inl (k 1, 4, .inl f2)), (o2, .inl (k 1, 4, .inl g2))] s.heap.size = A at hD hAlo ⊢
  have hA : ∀ q : Nat, s.heap.size ≤ q → A q := fun q h => by rw [← hAe]; exact Or.inr h
  have hS : va_S A s.heap s.heap [] := va_S.rf
  have hl := lv_entry ([.ref h0, .ref o0]) (n := 2) (Nat.le_of_ble_eq_true rfl)
  rw [lg_entry_eq]
  generalize (lg_sl ([.ref h0, .ref o0]) ++ List.replicate (2 - (lg_sl ([.ref h0, .ref o0])).length) Slot.unset).toArray = ls at hl ⊢
  have hl : lv_has ls 2 [(0, .ref h0), (1, .ref o0)] := hl
  refine lv_aload_n hx hb dX4_copyFrom_0 rfl (lv_at hl 1 rfl) ?_
  refine va_get (D := D) (ci := 4) (v := .ref o1) (C := RX4) (T := TX4) (N := 6) hx hb hts inX4 hown hK hP 3 rfl rfl 0 (by decide) (hts _ tw_173) (fun _ h9 => h9) rfl dX4_copyFrom_1 ?_
  refine lv_iconst (v := 0) hx hb dX4_copyFrom_4 (by decide) ?_
  refine lv_aload_n hx hb dX4_copyFrom_5 rfl (lv_at hl 0 rfl) ?_
  refine va_get (D := D) (ci := 4) (v := .ref h1) (C := RX4) (T := TX4) (N := 6) hx hb hts inX4 hown hK hP 0 rfl rfl 0 (by decide) (hts _ tw_173) (fun _ h9 => h9) rfl dX4_copyFrom_6 ?_
  refine lv_iconst (v := 0) hx hb dX4_copyFrom_9 (by decide) ?_
  refine lv_iconst (v := 4) hx hb dX4_copyFrom_10 (by decide) ?_
  refine va_copyi hx hb (by rw [hml]; exact hl.1.symm) hown (hts _ tw_883) (hts _ tw_366) (hts _ tw_365) (hts _ tw_88) hK hP hD hS 4 1 1 1 rfl rfl rfl rfl rfl (by decide) (by decide) (by decide) (by decide) (by decide) (fun _ _ => rfl) (Nat.le_of_ble_eq_true rfl) (Nat.le_of_ble_eq_true rfl) dX4_copyFrom_11 (fun H locs hP hD hS => ?_)
  have hP : va_P D classes [(h0, .inr (4, [.ref h1, .ref h2, .int 0, .int 0, .int 0, .int 0])), (h1, .inl (k 1, 4, .inl (va_cpy f2 f 0 0 4))), (h2, .inl (k 1, 4, .inl g)), (o0, .inr (4, [.ref o1, .ref o2, .int 0, .int 0, .int 0, .int 0])), (o1, .inl (k 1, 4, .inl f2)), (o2, .inl (k 1, 4, .inl g2))] H := hP
  have hD : va_D A [(h0, .inr (4, [.ref h1, .ref h2, .int 0, .int 0, .int 0, .int 0])), (h1, .inl (k 1, 4, .inl (va_cpy f2 f 0 0 4))), (h2, .inl (k 1, 4, .inl g)), (o0, .inr (4, [.ref o1, .ref o2, .int 0, .int 0, .int 0, .int 0])), (o1, .inl (k 1, 4, .inl f2)), (o2, .inl (k 1, 4, .inl g2))] := hD
  generalize (va_cpy f2 f 0 0 4) = f_1 at hP hD
  refine lv_aload_n hx hb dX4_copyFrom_14 rfl (lv_at hl 1 rfl) ?_
  refine va_get (D := D) (ci := 4) (v := .ref o2) (C := RX4) (T := TX4) (N := 6) hx hb hts inX4 hown hK hP 3 rfl rfl 1 (by decide) (hts _ tw_175) (fun _ h9 => h9) rfl dX4_copyFrom_15 ?_
  refine lv_iconst (v := 0) hx hb dX4_copyFrom_18 (by decide) ?_
  refine lv_aload_n hx hb dX4_copyFrom_19 rfl (lv_at hl 0 rfl) ?_
  refine va_get (D := D) (ci := 4) (v := .ref h2) (C := RX4) (T := TX4) (N := 6) hx hb hts inX4 hown hK hP 0 rfl rfl 1 (by decide) (hts _ tw_175) (fun _ h9 => h9) rfl dX4_copyFrom_20 ?_
  refine lv_iconst (v := 0) hx hb dX4_copyFrom_23 (by decide) ?_
  refine lv_iconst (v := 4) hx hb dX4_copyFrom_24 (by decide) ?_
  refine va_copyi hx hb (by rw [hml]; exact hl.1.symm) hown (hts _ tw_883) (hts _ tw_366) (hts _ tw_365) (hts _ tw_88) hK hP hD hS 5 2 1 1 rfl rfl rfl rfl rfl (by decide) (by decide) (by decide) (by decide) (by decide) (fun _ _ => rfl) (Nat.le_of_ble_eq_true rfl) (Nat.le_of_ble_eq_true rfl) dX4_copyFrom_25 (fun H locs hP hD hS => ?_)
  have hP : va_P D classes [(h0, .inr (4, [.ref h1, .ref h2, .int 0, .int 0, .int 0, .int 0])), (h1, .inl (k 1, 4, .inl f_1)), (h2, .inl (k 1, 4, .inl (va_cpy g2 g 0 0 4))), (o0, .inr (4, [.ref o1, .ref o2, .int 0, .int 0, .int 0, .int 0])), (o1, .inl (k 1, 4, .inl f2)), (o2, .inl (k 1, 4, .inl g2))] H := hP
  have hD : va_D A [(h0, .inr (4, [.ref h1, .ref h2, .int 0, .int 0, .int 0, .int 0])), (h1, .inl (k 1, 4, .inl f_1)), (h2, .inl (k 1, 4, .inl (va_cpy g2 g 0 0 4))), (o0, .inr (4, [.ref o1, .ref o2, .int 0, .int 0, .int 0, .int 0])), (o1, .inl (k 1, 4, .inl f2)), (o2, .inl (k 1, 4, .inl g2))] := hD
  generalize (va_cpy g2 g 0 0 4) = f_2 at hP hD
  refine lv_aload_n hx hb dX4_copyFrom_28 rfl (lv_at hl 0 rfl) ?_
  refine lv_aload_n hx hb dX4_copyFrom_29 rfl (lv_at hl 1 rfl) ?_
  refine va_get (D := D) (ci := 4) (v := .int 0) (C := RX4) (T := TX4) (N := 6) hx hb hts inX4 hown hK hP 3 rfl rfl 2 (by decide) (hts _ tw_178) (fun _ h9 => h9) rfl dX4_copyFrom_30 ?_
  refine va_put (D := D) (ci := 4) (v := .int 0) (ty := .int) (C := RX4) (T := TX4) (N := 6) hx hb hts inX4 tyX4 tyX4_ok nmX4 hown hK hP hD hS 0 rfl rfl 2 (by decide) (hts _ tw_178) (fun _ h9 => h9) rfl (by decide +kernel) rfl rfl (Nat.le_of_ble_eq_true rfl) dX4_copyFrom_33 (fun H locs hP hD hS => ?_)
  have hP : va_P D classes [(h0, .inr (4, [.ref h1, .ref h2, .int 0, .int 0, .int 0, .int 0])), (h1, .inl (k 1, 4, .inl f_1)), (h2, .inl (k 1, 4, .inl f_2)), (o0, .inr (4, [.ref o1, .ref o2, .int 0, .int 0, .int 0, .int 0])), (o1, .inl (k 1, 4, .inl f2)), (o2, .inl (k 1, 4, .inl g2))] H := hP
  have hD : va_D A [(h0, .inr (4, [.ref h1, .ref h2, .int 0, .int 0, .int 0, .int 0])), (h1, .inl (k 1, 4, .inl f_1)), (h2, .inl (k 1, 4, .inl f_2)), (o0, .inr (4, [.ref o1, .ref o2, .int 0, .int 0, .int 0, .int 0])), (o1, .inl (k 1, 4, .inl f2)), (o2, .inl (k 1, 4, .inl g2))] := hD
  refine lv_aload_n hx hb dX4_copyFrom_36 rfl (lv_at hl 0 rfl) ?_
  refine lv_aload_n hx hb dX4_copyFrom_37 rfl (lv_at hl 1 rfl) ?_
  refine va_get (D := D) (ci := 4) (v := .int 0) (C := RX4) (T := TX4) (N := 6) hx hb hts inX4 hown hK hP 3 rfl rfl 3 (by decide) (hts _ tw_181) (fun _ h9 => h9) rfl dX4_copyFrom_38 ?_
  refine va_put (D := D) (ci := 4) (v := .int 0) (ty := .int) (C := RX4) (T := TX4) (N := 6) hx hb hts inX4 tyX4 tyX4_ok nmX4 hown hK hP hD hS 0 rfl rfl 3 (by decide) (hts _ tw_181) (fun _ h9 => h9) rfl (by decide +kernel) rfl rfl (Nat.le_of_ble_eq_true rfl) dX4_copyFrom_41 (fun H locs hP hD hS => ?_)
  have hP : va_P D classes [(h0, .inr (4, [.ref h1, .ref h2, .int 0, .int 0, .int 0, .int 0])), (h1, .inl (k 1, 4, .inl f_1)), (h2, .inl (k 1, 4, .inl f_2)), (o0, .inr (4, [.ref o1, .ref o2, .int 0, .int 0, .int 0, .int 0])), (o1, .inl (k 1, 4, .inl f2)), (o2, .inl (k 1, 4, .inl g2))] H := hP
  have hD : va_D A [(h0, .inr (4, [.ref h1, .ref h2, .int 0, .int 0, .int 0, .int 0])), (h1, .inl (k 1, 4, .inl f_1)), (h2, .inl (k 1, 4, .inl f_2)), (o0, .inr (4, [.ref o1, .ref o2, .int 0, .int 0, .int 0, .int 0])), (o1, .inl (k 1, 4, .inl f2)), (o2, .inl (k 1, 4, .inl g2))] := hD
  refine lv_aload_n hx hb dX4_copyFrom_44 rfl (lv_at hl 0 rfl) ?_
  refine lv_aload_n hx hb dX4_copyFrom_45 rfl (lv_at hl 1 rfl) ?_
  refine va_get (D := D) (ci := 4) (v := .int 0) (C := RX4) (T := TX4) (N := 6) hx hb hts inX4 hown hK hP 3 rfl rfl 4 (by decide) (hts _ tw_185) (fun _ h9 => h9) rfl dX4_copyFrom_46 ?_
  refine va_put (D := D) (ci := 4) (v := .int 0) (ty := .int) (C := RX4) (T := TX4) (N := 6) hx hb hts inX4 tyX4 tyX4_ok nmX4 hown hK hP hD hS 0 rfl rfl 4 (by decide) (hts _ tw_185) (fun _ h9 => h9) rfl (by decide +kernel) rfl rfl (Nat.le_of_ble_eq_true rfl) dX4_copyFrom_49 (fun H locs hP hD hS => ?_)
  have hP : va_P D classes [(h0, .inr (4, [.ref h1, .ref h2, .int 0, .int 0, .int 0, .int 0])), (h1, .inl (k 1, 4, .inl f_1)), (h2, .inl (k 1, 4, .inl f_2)), (o0, .inr (4, [.ref o1, .ref o2, .int 0, .int 0, .int 0, .int 0])), (o1, .inl (k 1, 4, .inl f2)), (o2, .inl (k 1, 4, .inl g2))] H := hP
  have hD : va_D A [(h0, .inr (4, [.ref h1, .ref h2, .int 0, .int 0, .int 0, .int 0])), (h1, .inl (k 1, 4, .inl f_1)), (h2, .inl (k 1, 4, .inl f_2)), (o0, .inr (4, [.ref o1, .ref o2, .int 0, .int 0, .int 0, .int 0])), (o1, .inl (k 1, 4, .inl f2)), (o2, .inl (k 1, 4, .inl g2))] := hD
  refine lv_aload_n hx hb dX4_copyFrom_52 rfl (lv_at hl 0 rfl) ?_
  refine lv_aload_n hx hb dX4_copyFrom_53 rfl (lv_at hl 1 rfl) ?_
  refine va_get (D := D) (ci := 4) (v := .int 0) (C := RX4) (T := TX4) (N := 6) hx hb hts inX4 hown hK hP 3 rfl rfl 5 (by decide) (hts _ tw_188) (fun _ h9 => h9) rfl dX4_copyFrom_54 ?_
  refine va_put (D := D) (ci := 4) (v := .int 0) (ty := .int) (C := RX4) (T := TX4) (N := 6) hx hb hts inX4 tyX4 tyX4_ok nmX4 hown hK hP hD hS 0 rfl rfl 5 (by decide) (hts _ tw_188) (fun _ h9 => h9) rfl (by decide +kernel) rfl rfl (Nat.le_of_ble_eq_true rfl) dX4_copyFrom_57 (fun H locs hP hD hS => ?_)
  have hP : va_P D classes [(h0, .inr (4, [.ref h1, .ref h2, .int 0, .int 0, .int 0, .int 0])), (h1, .inl (k 1, 4, .inl f_1)), (h2, .inl (k 1, 4, .inl f_2)), (o0, .inr (4, [.ref o1, .ref o2, .int 0, .int 0, .int 0, .int 0])), (o1, .inl (k 1, 4, .inl f2)), (o2, .inl (k 1, 4, .inl g2))] H := hP
  have hD : va_D A [(h0, .inr (4, [.ref h1, .ref h2, .int 0, .int 0, .int 0, .int 0])), (h1, .inl (k 1, 4, .inl f_1)), (h2, .inl (k 1, 4, .inl f_2)), (o0, .inr (4, [.ref o1, .ref o2, .int 0, .int 0, .int 0, .int 0])), (o1, .inl (k 1, 4, .inl f2)), (o2, .inl (k 1, 4, .inl g2))] := hD
  have hP9 := hP.sub (ws' := []) [] rfl
  have hD9 := hD.sub (ws' := []) [] (by decide) rfl
  exact W.vret hx hb hr (fun t ht hW => ⟨⟨(), rfl, trivial, by rw [ht]; exact hP9, hD9⟩, hS.F ht⟩) hS.2.2 dX4_copyFrom_60
end
section
theorem dJ6_bitCount_0f7a4_0 : decode cJ6_bitCount_0f7a4 0 = .ok (.iload_n 0, 1) := by decide +kernel
theorem dJ6_bitCount_0f7a4_1 : decode cJ6_bitCount_0f7a4 1 = .ok (.iload_n 0, 1) := by decide +kernel
theorem dJ6_bitCount_0f7a4_2 : decode cJ6_bitCount_0f7a4 2 = .ok (.iconst 1, 1) := by decide +kernel
theorem dJ6_bitCount_0f7a4_3 : decode cJ6_bitCount_0f7a4 3 = .ok (.iushr, 1) := by decide +kernel
theorem dJ6_bitCount_0f7a4_4 : decode cJ6_bitCount_0f7a4 4 = .ok (.ldc_w 265, 3) := by decide +kernel
theorem dJ6_bitCount_0f7a4_7 : decode cJ6_bitCount_0f7a4 7 = .ok (.iand, 1) := by decide +kernel
theorem dJ6_bitCount_0f7a4_8 : decode cJ6_bitCount_0f7a4 8 = .ok (.isub, 1) := by decide +kernel
theorem dJ6_bitCount_0f7a4_9 : decode cJ6_bitCount_0f7a4 9 = .ok (.istore_n 0, 1) := by decide +kernel
theorem dJ6_bitCount_0f7a4_10 : decode cJ6_bitCount_0f7a4 10 = .ok (.iload_n 0, 1) := by decide +kernel
theorem dJ6_bitCount_0f7a4_11 : decode cJ6_bitCount_0f7a4 11 = .ok (.ldc_w 266, 3) := by decide +kernel
theorem dJ6_bitCount_0f7a4_14 : decode cJ6_bitCount_0f7a4 14 = .ok (.iand, 1) := by decide +kernel
theorem dJ6_bitCount_0f7a4_15 : decode cJ6_bitCount_0f7a4 15 = .ok (.iload_n 0, 1) := by decide +kernel
theorem dJ6_bitCount_0f7a4_16 : decode cJ6_bitCount_0f7a4 16 = .ok (.iconst 2, 1) := by decide +kernel
theorem dJ6_bitCount_0f7a4_17 : decode cJ6_bitCount_0f7a4 17 = .ok (.iushr, 1) := by decide +kernel
theorem dJ6_bitCount_0f7a4_18 : decode cJ6_bitCount_0f7a4 18 = .ok (.ldc_w 266, 3) := by decide +kernel
theorem dJ6_bitCount_0f7a4_21 : decode cJ6_bitCount_0f7a4 21 = .ok (.iand, 1) := by decide +kernel
theorem dJ6_bitCount_0f7a4_22 : decode cJ6_bitCount_0f7a4 22 = .ok (.iadd, 1) := by decide +kernel
theorem dJ6_bitCount_0f7a4_23 : decode cJ6_bitCount_0f7a4 23 = .ok (.istore_n 0, 1) := by decide +kernel
theorem dJ6_bitCount_0f7a4_24 : decode cJ6_bitCount_0f7a4 24 = .ok (.iload_n 0, 1) := by decide +kernel
theorem dJ6_bitCount_0f7a4_25 : decode cJ6_bitCount_0f7a4 25 = .ok (.iload_n 0, 1) := by decide +kernel
theorem dJ6_bitCount_0f7a4_26 : decode cJ6_bitCount_0f7a4 26 = .ok (.iconst 4, 1) := by decide +kernel
theorem dJ6_bitCount_0f7a4_27 : decode cJ6_bitCount_0f7a4 27 = .ok (.iushr, 1) := by decide +kernel
theorem dJ6_bitCount_0f7a4_28 : decode cJ6_bitCount_0f7a4 28 = .ok (.iadd, 1) := by decide +kernel
theorem dJ6_bitCount_0f7a4_29 : decode cJ6_bitCount_0f7a4 29 = .ok (.ldc_w 267, 3) := by decide +kernel
theorem dJ6_bitCount_0f7a4_32 : decode cJ6_bitCount_0f7a4 32 = .ok (.iand, 1) := by decide +kernel
theorem dJ6_bitCount_0f7a4_33 : decode cJ6_bitCount_0f7a4 33 = .ok (.istore_n 0, 1) := by decide +kernel
theorem dJ6_bitCount_0f7a4_34 : decode cJ6_bitCount_0f7a4 34 = .ok (.iload_n 0, 1) := by decide +kernel
theorem dJ6_bitCount_0f7a4_35 : decode cJ6_bitCount_0f7a4 35 = .ok (.iload_n 0, 1) := by decide +kernel
theorem dJ6_bitCount_0f7a4_36 : decode cJ6_bitCount_0f7a4 36 = .ok (.bipush 8, 2) := by decide +kernel
theorem dJ6_bitCount_0f7a4_38 : decode cJ6_bitCount_0f7a4 38 = .ok (.iushr, 1) := by decide +kernel
theorem dJ6_bitCount_0f7a4_39 : decode cJ6_bitCount_0f7a4 39 = .ok (.iadd, 1) := by decide +kernel
theorem dJ6_bitCount_0f7a4_40 : decode cJ6_bitCount_0f7a4 40 = .ok (.istore_n 0, 1) := by decide +kernel
theorem dJ6_bitCount_0f7a4_41 : decode cJ6_bitCount_0f7a4 41 = .ok (.iload_n 0, 1) := by decide +kernel
theorem dJ6_bitCount_0f7a4_42 : decode cJ6_bitCount_0f7a4 42 = .ok (.iload_n 0, 1) := by decide +kernel
theorem dJ6_bitCount_0f7a4_43 : decode cJ6_bitCount_0f7a4 43 = .ok (.bipush 16, 2) := by decide +kernel
theorem dJ6_bitCount_0f7a4_45 : decode cJ6_bitCount_0f7a4 45 = .ok (.iushr, 1) := by decide +kernel
theorem dJ6_bitCount_0f7a4_46 : decode cJ6_bitCount_0f7a4 46 = .ok (.iadd, 1) := by decide +kernel
theorem dJ6_bitCount_0f7a4_47 : decode cJ6_bitCount_0f7a4 47 = .ok (.istore_n 0, 1) := by decide +kernel
theorem dJ6_bitCount_0f7a4_48 : decode cJ6_bitCount_0f7a4 48 = .ok (.iload_n 0, 1) := by decide +kernel
theorem dJ6_bitCount_0f7a4_49 : decode cJ6_bitCount_0f7a4 49 = .ok (.bipush 63, 2) := by decide +kernel
theorem dJ6_bitCount_0f7a4_51 : decode cJ6_bitCount_0f7a4 51 = .ok (.iand, 1) := by decide +kernel
theorem dJ6_bitCount_0f7a4_52 : decode cJ6_bitCount_0f7a4 52 = .ok (.ireturn, 1) := by decide +kernel
set_option maxHeartbeats 4000000 in
set_option maxRecDepth 100000 in
theorem k_bitCount (l : Launch) (D : va_G) (k : Nat → ClassId) (st : Nat → Nat) (lo : Nat)   : CRi l D k st lo yJ6_bitCount_0f7a4 cJ6_bitCount_0f7a4 1 (some .int) ({ frames := 0, cells := 0, slots := 0, locals := 0 }) [.int 0] [] (fun r => r = 0) := by
  intro sz
  refine Met.ofW (cc := cJ6_bitCount_0f7a4) (maxL := 1) (ret := (some .int)) (by decide) rfl ?_
  intro p e s m args below meth c s₁ B hml hv
  obtain ⟨rfl, hsz, hlo, hP, hK, hDL, hZ⟩ := hv
  have hx := B.exec
  have hb := B.bytes
  have hr := B.returns
  have hts := WS_ts B.pre
  have hown : s.vm.findClass RJ6 = some m.cls := findClass_of_methodNamed B.named
  have hlocks := B.notSynchronized
  subst hsz
  have hA : ∀ q : Nat, s.heap.size ≤ q → (fun q : Nat => s.heap.size ≤ q) q := fun _ h => h
  have hAlo : ∀ q : Nat, (fun q : Nat => s.heap.size ≤ q) q → lo ≤ q := fun q h => Nat.le_trans hlo h
  have hS : va_S (fun q : Nat => s.heap.size ≤ q) s.heap s.heap [] := va_S.rf
  have hl := lv_entry ([.int 0]) (n := 1) (Nat.le_of_ble_eq_true rfl)
  rw [lg_entry_eq]
  generalize (lg_sl ([.int 0]) ++ List.replicate (1 - (lg_sl ([.int 0])).length) Slot.unset).toArray = ls at hl ⊢
  have hl : lv_has ls 1 [(0, .int 0)] := hl
  refine lv_iload_n hx hb dJ6_bitCount_0f7a4_0 rfl (lv_at hl 0 rfl) ?_
  refine lv_iload_n hx hb dJ6_bitCount_0f7a4_1 rfl (lv_at hl 0 rfl) ?_
  refine lv_iconst (v := 1) hx hb dJ6_bitCount_0f7a4_2 (by decide) ?_
  refine lv_iushr (v := 0) hx hb dJ6_bitCount_0f7a4_3 (by decide) ?_
  refine lv_ldcw hx hb hown (hts _ tw_948) dJ6_bitCount_0f7a4_4 ?_
  refine lv_iand hx hb dJ6_bitCount_0f7a4_7 ?_
  refine lv_ti (y := 0) (by decide) ?_
  refine lv_isub hx hb dJ6_bitCount_0f7a4_8 ?_
  refine lv_ti (y := 0) (by decide) ?_
  refine lv_istore_n (lv' := [(0, .int 0)]) hx hb dJ6_bitCount_0f7a4_9 rfl hl (by decide) rfl (fun ls hl => ?_)
  refine lv_iload_n hx hb dJ6_bitCount_0f7a4_10 rfl (lv_at hl 0 rfl) ?_
  refine lv_ldcw hx hb hown (hts _ tw_949) dJ6_bitCount_0f7a4_11 ?_
  refine lv_iand hx hb dJ6_bitCount_0f7a4_14 ?_
  refine lv_ti (y := 0) (by decide) ?_
  refine lv_iload_n hx hb dJ6_bitCount_0f7a4_15 rfl (lv_at hl 0 rfl) ?_
  refine lv_iconst (v := 2) hx hb dJ6_bitCount_0f7a4_16 (by decide) ?_
  refine lv_iushr (v := 0) hx hb dJ6_bitCount_0f7a4_17 (by decide) ?_
  refine lv_ldcw hx hb hown (hts _ tw_949) dJ6_bitCount_0f7a4_18 ?_
  refine lv_iand hx hb dJ6_bitCount_0f7a4_21 ?_
  refine lv_ti (y := 0) (by decide) ?_
  refine lv_iadd hx hb dJ6_bitCount_0f7a4_22 ?_
  refine lv_ti (y := 0) (by decide) ?_
  refine lv_istore_n (lv' := [(0, .int 0)]) hx hb dJ6_bitCount_0f7a4_23 rfl hl (by decide) rfl (fun ls hl => ?_)
  refine lv_iload_n hx hb dJ6_bitCount_0f7a4_24 rfl (lv_at hl 0 rfl) ?_
  refine lv_iload_n hx hb dJ6_bitCount_0f7a4_25 rfl (lv_at hl 0 rfl) ?_
  refine lv_iconst (v := 4) hx hb dJ6_bitCount_0f7a4_26 (by decide) ?_
  refine lv_iushr (v := 0) hx hb dJ6_bitCount_0f7a4_27 (by decide) ?_
  refine lv_iadd hx hb dJ6_bitCount_0f7a4_28 ?_
  refine lv_ti (y := 0) (by decide) ?_
  refine lv_ldcw hx hb hown (hts _ tw_950) dJ6_bitCount_0f7a4_29 ?_
  refine lv_iand hx hb dJ6_bitCount_0f7a4_32 ?_
  refine lv_ti (y := 0) (by decide) ?_
  refine lv_istore_n (lv' := [(0, .int 0)]) hx hb dJ6_bitCount_0f7a4_33 rfl hl (by decide) rfl (fun ls hl => ?_)
  refine lv_iload_n hx hb dJ6_bitCount_0f7a4_34 rfl (lv_at hl 0 rfl) ?_
  refine lv_iload_n hx hb dJ6_bitCount_0f7a4_35 rfl (lv_at hl 0 rfl) ?_
  refine lv_bipush (v := 8) hx hb dJ6_bitCount_0f7a4_36 (by decide) ?_
  refine lv_iushr (v := 0) hx hb dJ6_bitCount_0f7a4_38 (by decide) ?_
  refine lv_iadd hx hb dJ6_bitCount_0f7a4_39 ?_
  refine lv_ti (y := 0) (by decide) ?_
  refine lv_istore_n (lv' := [(0, .int 0)]) hx hb dJ6_bitCount_0f7a4_40 rfl hl (by decide) rfl (fun ls hl => ?_)
  refine lv_iload_n hx hb dJ6_bitCount_0f7a4_41 rfl (lv_at hl 0 rfl) ?_
  refine lv_iload_n hx hb dJ6_bitCount_0f7a4_42 rfl (lv_at hl 0 rfl) ?_
  refine lv_bipush (v := 16) hx hb dJ6_bitCount_0f7a4_43 (by decide) ?_
  refine lv_iushr (v := 0) hx hb dJ6_bitCount_0f7a4_45 (by decide) ?_
  refine lv_iadd hx hb dJ6_bitCount_0f7a4_46 ?_
  refine lv_ti (y := 0) (by decide) ?_
  refine lv_istore_n (lv' := [(0, .int 0)]) hx hb dJ6_bitCount_0f7a4_47 rfl hl (by decide) rfl (fun ls hl => ?_)
  refine lv_iload_n hx hb dJ6_bitCount_0f7a4_48 rfl (lv_at hl 0 rfl) ?_
  refine lv_bipush (v := 63) hx hb dJ6_bitCount_0f7a4_49 (by decide) ?_
  refine lv_iand hx hb dJ6_bitCount_0f7a4_51 ?_
  refine lv_ti (y := 0) (by decide) ?_
  exact W.iret (v := 0) hx hb hr (fun t ht hW => ⟨⟨0, (), rfl, rfl, trivial⟩, hS.F ht⟩) hS.2.2 dJ6_bitCount_0f7a4_52
end
section
theorem dX7_saw_0 : decode cX7_saw 0 = .ok (.aload_n 0, 1) := by decide +kernel
theorem dX7_saw_1 : decode cX7_saw 1 = .ok (.getfield 49, 3) := by decide +kernel
theorem dX7_saw_4 : decode cX7_saw 4 = .ok (.getfield 176, 3) := by decide +kernel
theorem dX7_saw_7 : decode cX7_saw 7 = .ok (.bipush 24, 2) := by decide +kernel
theorem dX7_saw_9 : decode cX7_saw 9 = .ok (.if_icmp .ge 14, 3) := by decide +kernel
theorem dX7_saw_12 : decode cX7_saw 12 = .ok (.aload_n 0, 1) := by decide +kernel
theorem dX7_saw_13 : decode cX7_saw 13 = .ok (.getfield 49, 3) := by decide +kernel
theorem dX7_saw_16 : decode cX7_saw 16 = .ok (.iload_n 1, 1) := by decide +kernel
theorem dX7_saw_17 : decode cX7_saw 17 = .ok (.invokevirtual 179, 3) := by decide +kernel
theorem dX7_saw_20 : decode cX7_saw 20 = .ok (.goto 6, 3) := by decide +kernel
theorem dX7_saw_26 : decode cX7_saw 26 = .ok (.ireturn, 1) := by decide +kernel
set_option maxHeartbeats 4000000 in
set_option maxRecDepth 100000 in
theorem k_saw (l : Launch) (D : va_G) (k : Nat → ClassId) (st : Nat → Nat) (lo : Nat) (a : Nat → Nat) (p0 : Int32)  : CWi l D k st lo yX7_saw cX7_saw 2 (some .int) ({ frames := 1, cells := 0, slots := 0, locals := 21 }) 0 0 [.ref (a 0), .int p0] [((a 0), .inr (7, [.ref (a 1), .ref (a 3), .ref (a 19), .ref (a 20), .ref (a 25), .int 0, .int (-1), .ref (a 32), .ref (a 35), .ref (a 42), .ref (a 43), .ref (a 44)])), ((a 32), .inr (4, [.ref (a 33), .ref (a 34), .int 0, .int 0, .int 0, .int 0]))] (fun (r : Int32) (_ : Unit) => r = 1) (fun (_ : Unit) => []) := by
  intro sz
  refine Met.ofW (cc := cX7_saw) (maxL := 2) (ret := (some .int)) (by decide) rfl ?_
  intro p e s m args below meth c s₁ B hml hv
  obtain ⟨rfl, hsz, hlo, hP, hK, hDL, hZ⟩ := hv
  have hx := B.exec
  have hb := B.bytes
  have hr := B.returns
  have hts := WS_ts B.pre
  have hown : s.vm.findClass RX7 = some m.cls := findClass_of_methodNamed B.named
  have hlocks := B.notSynchronized
  subst hsz
  have hD := hDL.self (sz := s.heap.size)
  have hAlo := A_lo hDL hlo
  generalize hAe : va_A [((a 0), .inr (7, [.ref (a 1), .ref (a 3), .ref (a 19), .ref (a 20), .ref (a 25), .int 0, .int (-1), .ref (a 32), .ref (a 35), .ref (a 42), .ref (a 43), .ref (a 44)])), ((a 32), .inr (4, [.ref (a 33), .ref (a 34), .int 0, .int 0, .int 0, .int 0]))] s.heap.size = A at hD hAlo ⊢
  have hA : ∀ q : Nat, s.heap.size ≤ q → A q := fun q h => by rw [← hAe]; exact Or.inr h
  have hS : va_S A s.heap s.heap [] := va_S.rf
  have hl := lv_entry ([.ref (a 0), .int p0]) (n := 2) (Nat.le_of_ble_eq_true rfl)
  rw [lg_entry_eq]
  generalize (lg_sl ([.ref (a 0), .int p0]) ++ List.replicate (2 - (lg_sl ([.ref (a 0), .int p0])).length) Slot.unset).toArray = ls at hl ⊢
  have hl : lv_has ls 2 [(0, .ref (a 0)), (1, .int p0)] := hl
  refine lv_aload_n hx hb dX7_saw_0 rfl (lv_at hl 0 rfl) ?_
  refine va_get (D := D) (ci := 7) (v := .ref (a 32)) (C := RX7) (T := TX7) (N := 12) hx hb hts inX7 hown hK hP 0 rfl rfl 7 (by decide) (hts _ tw_312) (fun _ h9 => h9) rfl dX7_saw_1 ?_
  refine va_get (D := D) (ci := 4) (v := .int 0) (C := RX4) (T := TX4) (N := 6) hx hb hts inX4 hown hK hP 1 rfl rfl 3 (by decide) (hts _ tw_184) (fun _ h9 => h9) rfl dX7_saw_4 ?_
  refine lv_bipush (v := 24) hx hb dX7_saw_7 (by decide) ?_
  refine lv_icmp_ge (tgt := 23) hx hb dX7_saw_9 (by decide) (fun h => absurd h (by decide)) (fun _ => ?_)
  refine lv_aload_n hx hb dX7_saw_12 rfl (lv_at hl 0 rfl) ?_
  refine va_get (D := D) (ci := 7) (v := .ref (a 32)) (C := RX7) (T := TX7) (N := 12) hx hb hts inX7 hown hK hP 0 rfl rfl 7 (by decide) (hts _ tw_312) (fun _ h9 => h9) rfl dX7_saw_13 ?_
  refine lv_iload_n hx hb dX7_saw_16 rfl (lv_at hl 1 rfl) ?_
  refine rw_i (D := D) (wr := [((a 0), .inr (7, [.ref (a 1), .ref (a 3), .ref (a 19), .ref (a 20), .ref (a 25), .int 0, .int (-1), .ref (a 32), .ref (a 35), .ref (a 42), .ref (a 43), .ref (a 44)]))]) (va_runV (As := [.int p0]) (rest := []) ⟨hx, hb, hml, hown, hts⟩ ((k_see l D k st lo (a 32) (a 33) (a 34) p0) s.heap.size) (cwV 1 hts (gV tw_740 tw_741 tw_742 tw_82 tw_743) rfl rfl rfl (by decide +kernel) ⟨Nat.le_of_ble_eq_true rfl, Nat.le_of_ble_eq_true rfl⟩) (pV hS hAlo hlo hP hK (va_Dlo hD hAlo) hZ [1] (by decide) rfl (ci := 4) (q0 := 0) rfl rfl) rfl rfl hl.1 rfl (lv_room (Nat.le_of_ble_eq_true rfl)) dX7_saw_17 ⟨Nat.le_of_ble_eq_true rfl, Nat.le_of_ble_eq_true rfl⟩) hS hA hP hD [1] [0] rfl rfl (by decide) (by decide) (fun r_1 u H locs hw_1 hP hD hS => ?_)
  have hP : va_P D classes [((a 0), .inr (7, [.ref (a 1), .ref (a 3), .ref (a 19), .ref (a 20), .ref (a 25), .int 0, .int (-1), .ref (a 32), .ref (a 35), .ref (a 42), .ref (a 43), .ref (a 44)]))] H := hP
  have hD : va_D A [((a 0), .inr (7, [.ref (a 1), .ref (a 3), .ref (a 19), .ref (a 20), .ref (a 25), .int 0, .int (-1), .ref (a 32), .ref (a 35), .ref (a 42), .ref (a 43), .ref (a 44)]))] := hD
  try dsimp only at hw_1
  subst hw_1
  refine lv_goto (tgt := 26) hx hb dX7_saw_20 (by decide) ?_
  have hP9 := hP.sub (ws' := []) [] rfl
  have hD9 := hD.sub (ws' := []) [] (by decide) rfl
  exact W.iret (v := 1) hx hb hr (fun t ht hW => ⟨⟨1, (), rfl, rfl, by rw [ht]; exact hP9, hD9⟩, hS.F ht⟩) hS.2.2 dX7_saw_26
end
section
theorem dX7_clear_0 : decode cX7_clear 0 = .ok (.aload_n 0, 1) := by decide +kernel
theorem dX7_clear_1 : decode cX7_clear 1 = .ok (.getfield 49, 3) := by decide +kernel
theorem dX7_clear_4 : decode cX7_clear 4 = .ok (.getfield 176, 3) := by decide +kernel
theorem dX7_clear_7 : decode cX7_clear 7 = .ok (.istore_n 1, 1) := by decide +kernel
theorem dX7_clear_8 : decode cX7_clear 8 = .ok (.aload_n 0, 1) := by decide +kernel
theorem dX7_clear_9 : decode cX7_clear 9 = .ok (.getfield 49, 3) := by decide +kernel
theorem dX7_clear_12 : decode cX7_clear 12 = .ok (.iconst 0, 1) := by decide +kernel
theorem dX7_clear_13 : decode cX7_clear 13 = .ok (.putfield 176, 3) := by decide +kernel
theorem dX7_clear_16 : decode cX7_clear 16 = .ok (.aload_n 0, 1) := by decide +kernel
theorem dX7_clear_17 : decode cX7_clear 17 = .ok (.getfield 49, 3) := by decide +kernel
theorem dX7_clear_20 : decode cX7_clear 20 = .ok (.iconst 0, 1) := by decide +kernel
theorem dX7_clear_21 : decode cX7_clear 21 = .ok (.putfield 183, 3) := by decide +kernel
theorem dX7_clear_24 : decode cX7_clear 24 = .ok (.iload_n 1, 1) := by decide +kernel
theorem dX7_clear_25 : decode cX7_clear 25 = .ok (.ireturn, 1) := by decide +kernel
set_option maxHeartbeats 4000000 in
set_option maxRecDepth 100000 in
theorem k_clear (l : Launch) (D : va_G) (k : Nat → ClassId) (st : Nat → Nat) (lo : Nat) (a : Nat → Nat)  : CWi l D k st lo yX7_clear cX7_clear 2 (some .int) ({ frames := 0, cells := 0, slots := 0, locals := 0 }) 0 0 [.ref (a 0)] [((a 0), .inr (7, [.ref (a 1), .ref (a 3), .ref (a 19), .ref (a 20), .ref (a 25), .int 0, .int (-1), .ref (a 32), .ref (a 35), .ref (a 42), .ref (a 43), .ref (a 44)])), ((a 32), .inr (4, [.ref (a 33), .ref (a 34), .int 0, .int 0, .int 0, .int 0]))] (fun (r : Int32) (_ : Unit) => r = 0) (fun (_ : Unit) => []) := by
  intro sz
  refine Met.ofW (cc := cX7_clear) (maxL := 2) (ret := (some .int)) (by decide) rfl ?_
  intro p e s m args below meth c s₁ B hml hv
  obtain ⟨rfl, hsz, hlo, hP, hK, hDL, hZ⟩ := hv
  have hx := B.exec
  have hb := B.bytes
  have hr := B.returns
  have hts := WS_ts B.pre
  have hown : s.vm.findClass RX7 = some m.cls := findClass_of_methodNamed B.named
  have hlocks := B.notSynchronized
  subst hsz
  have hD := hDL.self (sz := s.heap.size)
  have hAlo := A_lo hDL hlo
  generalize hAe : va_A [((a 0), .inr (7, [.ref (a 1), .ref (a 3), .ref (a 19), .ref (a 20), .ref (a 25), .int 0, .int (-1), .ref (a 32), .ref (a 35), .ref (a 42), .ref (a 43), .ref (a 44)])), ((a 32), .inr (4, [.ref (a 33), .ref (a 34), .int 0, .int 0, .int 0, .int 0]))] s.heap.size = A at hD hAlo ⊢
  have hA : ∀ q : Nat, s.heap.size ≤ q → A q := fun q h => by rw [← hAe]; exact Or.inr h
  have hS : va_S A s.heap s.heap [] := va_S.rf
  have hl := lv_entry ([.ref (a 0)]) (n := 2) (Nat.le_of_ble_eq_true rfl)
  rw [lg_entry_eq]
  generalize (lg_sl ([.ref (a 0)]) ++ List.replicate (2 - (lg_sl ([.ref (a 0)])).length) Slot.unset).toArray = ls at hl ⊢
  have hl : lv_has ls 2 [(0, .ref (a 0))] := hl
  refine lv_aload_n hx hb dX7_clear_0 rfl (lv_at hl 0 rfl) ?_
  refine va_get (D := D) (ci := 7) (v := .ref (a 32)) (C := RX7) (T := TX7) (N := 12) hx hb hts inX7 hown hK hP 0 rfl rfl 7 (by decide) (hts _ tw_312) (fun _ h9 => h9) rfl dX7_clear_1 ?_
  refine va_get (D := D) (ci := 4) (v := .int 0) (C := RX4) (T := TX4) (N := 6) hx hb hts inX4 hown hK hP 1 rfl rfl 3 (by decide) (hts _ tw_184) (fun _ h9 => h9) rfl dX7_clear_4 ?_
  refine lv_istore_n (lv' := [(1, .int 0), (0, .ref (a 0))]) hx hb dX7_clear_7 rfl hl (by decide) rfl (fun ls hl => ?_)
  refine lv_aload_n hx hb dX7_clear_8 rfl (lv_at hl 1 rfl) ?_
  refine va_get (D := D) (ci := 7) (v := .ref (a 32)) (C := RX7) (T := TX7) (N := 12) hx hb hts inX7 hown hK hP 0 rfl rfl 7 (by decide) (hts _ tw_312) (fun _ h9 => h9) rfl dX7_clear_9 ?_
  refine lv_iconst (v := 0) hx hb dX7_clear_12 (by decide) ?_
  refine va_put (D := D) (ci := 4) (v := .int 0) (ty := .int) (C := RX4) (T := TX4) (N := 6) hx hb hts inX4 tyX4 tyX4_ok nmX4 hown hK hP hD hS 1 rfl rfl 3 (by decide) (hts _ tw_184) (fun _ h9 => h9) rfl (by decide +kernel) rfl rfl (Nat.le_of_ble_eq_true rfl) dX7_clear_13 (fun H locs hP hD hS => ?_)
  have hP : va_P D classes [((a 0), .inr (7, [.ref (a 1), .ref (a 3), .ref (a 19), .ref (a 20), .ref (a 25), .int 0, .int (-1), .ref (a 32), .ref (a 35), .ref (a 42), .ref (a 43), .ref (a 44)])), ((a 32), .inr (4, [.ref (a 33), .ref (a 34), .int 0, .int 0, .int 0, .int 0]))] H := hP
  have hD : va_D A [((a 0), .inr (7, [.ref (a 1), .ref (a 3), .ref (a 19), .ref (a 20), .ref (a 25), .int 0, .int (-1), .ref (a 32), .ref (a 35), .ref (a 42), .ref (a 43), .ref (a 44)])), ((a 32), .inr (4, [.ref (a 33), .ref (a 34), .int 0, .int 0, .int 0, .int 0]))] := hD
  refine lv_aload_n hx hb dX7_clear_16 rfl (lv_at hl 1 rfl) ?_
  refine va_get (D := D) (ci := 7) (v := .ref (a 32)) (C := RX7) (T := TX7) (N := 12) hx hb hts inX7 hown hK hP 0 rfl rfl 7 (by decide) (hts _ tw_312) (fun _ h9 => h9) rfl dX7_clear_17 ?_
  refine lv_iconst (v := 0) hx hb dX7_clear_20 (by decide) ?_
  refine va_put (D := D) (ci := 4) (v := .int 0) (ty := .int) (C := RX4) (T := TX4) (N := 6) hx hb hts inX4 tyX4 tyX4_ok nmX4 hown hK hP hD hS 1 rfl rfl 4 (by decide) (hts _ tw_187) (fun _ h9 => h9) rfl (by decide +kernel) rfl rfl (Nat.le_of_ble_eq_true rfl) dX7_clear_21 (fun H locs hP hD hS => ?_)
  have hP : va_P D classes [((a 0), .inr (7, [.ref (a 1), .ref (a 3), .ref (a 19), .ref (a 20), .ref (a 25), .int 0, .int (-1), .ref (a 32), .ref (a 35), .ref (a 42), .ref (a 43), .ref (a 44)])), ((a 32), .inr (4, [.ref (a 33), .ref (a 34), .int 0, .int 0, .int 0, .int 0]))] H := hP
  have hD : va_D A [((a 0), .inr (7, [.ref (a 1), .ref (a 3), .ref (a 19), .ref (a 20), .ref (a 25), .int 0, .int (-1), .ref (a 32), .ref (a 35), .ref (a 42), .ref (a 43), .ref (a 44)])), ((a 32), .inr (4, [.ref (a 33), .ref (a 34), .int 0, .int 0, .int 0, .int 0]))] := hD
  refine lv_iload_n hx hb dX7_clear_24 rfl (lv_at hl 0 rfl) ?_
  have hP9 := hP.sub (ws' := []) [] rfl
  have hD9 := hD.sub (ws' := []) [] (by decide) rfl
  exact W.iret (v := 0) hx hb hr (fun t ht hW => ⟨⟨0, (), rfl, rfl, by rw [ht]; exact hP9, hD9⟩, hS.F ht⟩) hS.2.2 dX7_clear_25
end
section
theorem dX7_seed_0 : decode cX7_seed 0 = .ok (.iload_n 1, 1) := by decide +kernel
theorem dX7_seed_1 : decode cX7_seed 1 = .ok (.ifCond .ge 7, 3) := by decide +kernel
theorem dX7_seed_4 : decode cX7_seed 4 = .ok (.sipush (-1002), 3) := by decide +kernel
theorem dX7_seed_7 : decode cX7_seed 7 = .ok (.ireturn, 1) := by decide +kernel
theorem dX7_seed_8 : decode cX7_seed 8 = .ok (.aload_n 0, 1) := by decide +kernel
theorem dX7_seed_9 : decode cX7_seed 9 = .ok (.getfield 49, 3) := by decide +kernel
theorem dX7_seed_12 : decode cX7_seed 12 = .ok (.getfield 266, 3) := by decide +kernel
theorem dX7_seed_15 : decode cX7_seed 15 = .ok (.istore_n 2, 1) := by decide +kernel
theorem dX7_seed_16 : decode cX7_seed 16 = .ok (.aload_n 0, 1) := by decide +kernel
theorem dX7_seed_17 : decode cX7_seed 17 = .ok (.getfield 49, 3) := by decide +kernel
theorem dX7_seed_20 : decode cX7_seed 20 = .ok (.iload_n 1, 1) := by decide +kernel
theorem dX7_seed_21 : decode cX7_seed 21 = .ok (.putfield 266, 3) := by decide +kernel
theorem dX7_seed_24 : decode cX7_seed 24 = .ok (.iload_n 2, 1) := by decide +kernel
theorem dX7_seed_25 : decode cX7_seed 25 = .ok (.ireturn, 1) := by decide +kernel
set_option maxHeartbeats 4000000 in
set_option maxRecDepth 100000 in
theorem k_seed (l : Launch) (D : va_G) (k : Nat → ClassId) (st : Nat → Nat) (lo : Nat) (a : Nat → Nat) (p0 : Int32)  : CWi l D k st lo yX7_seed cX7_seed 3 (some .int) ({ frames := 0, cells := 0, slots := 0, locals := 0 }) 0 0 [.ref (a 0), .int p0] [((a 0), .inr (7, [.ref (a 1), .ref (a 3), .ref (a 19), .ref (a 20), .ref (a 25), .int 0, .int (-1), .ref (a 32), .ref (a 35), .ref (a 42), .ref (a 43), .ref (a 44)])), ((a 32), .inr (4, [.ref (a 33), .ref (a 34), .int 0, .int 0, .int 0, .int 0]))] (fun (r : Int32) (_ : Unit) => (p0 < 0 → r = -1002) ∧ (¬ (p0 < 0) → r = 0)) (fun (_ : Unit) => []) := by
  intro sz
  refine Met.ofW (cc := cX7_seed) (maxL := 3) (ret := (some .int)) (by decide) rfl ?_
  intro p e s m args below meth c s₁ B hml hv
  obtain ⟨rfl, hsz, hlo, hP, hK, hDL, hZ⟩ := hv
  have hx := B.exec
  have hb := B.bytes
  have hr := B.returns
  have hts := WS_ts B.pre
  have hown : s.vm.findClass RX7 = some m.cls := findClass_of_methodNamed B.named
  have hlocks := B.notSynchronized
  subst hsz
  have hD := hDL.self (sz := s.heap.size)
  have hAlo := A_lo hDL hlo
  generalize hAe : va_A [((a 0), .inr (7, [.ref (a 1), .ref (a 3), .ref (a 19), .ref (a 20), .ref (a 25), .int 0, .int (-1), .ref (a 32), .ref (a 35), .ref (a 42), .ref (a 43), .ref (a 44)])), ((a 32), .inr (4, [.ref (a 33), .ref (a 34), .int 0, .int 0, .int 0, .int 0]))] s.heap.size = A at hD hAlo ⊢
  have hA : ∀ q : Nat, s.heap.size ≤ q → A q := fun q h => by rw [← hAe]; exact Or.inr h
  have hS : va_S A s.heap s.heap [] := va_S.rf
  have hl := lv_entry ([.ref (a 0), .int p0]) (n := 3) (Nat.le_of_ble_eq_true rfl)
  rw [lg_entry_eq]
  generalize (lg_sl ([.ref (a 0), .int p0]) ++ List.replicate (3 - (lg_sl ([.ref (a 0), .int p0])).length) Slot.unset).toArray = ls at hl ⊢
  have hl : lv_has ls 3 [(0, .ref (a 0)), (1, .int p0)] := hl
  refine lv_iload_n hx hb dX7_seed_0 rfl (lv_at hl 1 rfl) ?_
  refine lv_if_ge (tgt := 8) hx hb dX7_seed_1 (by decide) (fun c_1 => ?_) (fun c_1 => ?_)
  · refine lv_aload_n hx hb dX7_seed_8 rfl (lv_at hl 0 rfl) ?_
    refine va_get (D := D) (ci := 7) (v := .ref (a 32)) (C := RX7) (T := TX7) (N := 12) hx hb hts inX7 hown hK hP 0 rfl rfl 7 (by decide) (hts _ tw_312) (fun _ h9 => h9) rfl dX7_seed_9 ?_
    refine va_get (D := D) (ci := 4) (v := .int 0) (C := RX4) (T := TX4) (N := 6) hx hb hts inX4 hown hK hP 1 rfl rfl 5 (by decide) (hts _ tw_189) (fun _ h9 => h9) rfl dX7_seed_12 ?_
    refine lv_istore_n (lv' := [(2, .int 0), (0, .ref (a 0)), (1, .int p0)]) hx hb dX7_seed_15 rfl hl (by decide) rfl (fun ls hl => ?_)
    refine lv_aload_n hx hb dX7_seed_16 rfl (lv_at hl 1 rfl) ?_
    refine va_get (D := D) (ci := 7) (v := .ref (a 32)) (C := RX7) (T := TX7) (N := 12) hx hb hts inX7 hown hK hP 0 rfl rfl 7 (by decide) (hts _ tw_312) (fun _ h9 => h9) rfl dX7_seed_17 ?_
    refine lv_iload_n hx hb dX7_seed_20 rfl (lv_at hl 2 rfl) ?_
    refine va_put (D := D) (ci := 4) (v := .int p0) (ty := .int) (C := RX4) (T := TX4) (N := 6) hx hb hts inX4 tyX4 tyX4_ok nmX4 hown hK hP hD hS 1 rfl rfl 5 (by decide) (hts _ tw_189) (fun _ h9 => h9) rfl (by decide +kernel) rfl rfl (Nat.le_of_ble_eq_true rfl) dX7_seed_21 (fun H locs hP hD hS => ?_)
    have hP : va_P D classes [((a 0), .inr (7, [.ref (a 1), .ref (a 3), .ref (a 19), .ref (a 20), .ref (a 25), .int 0, .int (-1), .ref (a 32), .ref (a 35), .ref (a 42), .ref (a 43), .ref (a 44)])), ((a 32), .inr (4, [.ref (a 33), .ref (a 34), .int 0, .int 0, .int 0, .int p0]))] H := hP
    have hD : va_D A [((a 0), .inr (7, [.ref (a 1), .ref (a 3), .ref (a 19), .ref (a 20), .ref (a 25), .int 0, .int (-1), .ref (a 32), .ref (a 35), .ref (a 42), .ref (a 43), .ref (a 44)])), ((a 32), .inr (4, [.ref (a 33), .ref (a 34), .int 0, .int 0, .int 0, .int p0]))] := hD
    refine lv_iload_n hx hb dX7_seed_24 rfl (lv_at hl 0 rfl) ?_
    have hP9 := hP.sub (ws' := []) [] rfl
    have hD9 := hD.sub (ws' := []) [] (by decide) rfl
    exact W.iret (v := 0) hx hb hr (fun t ht hW => ⟨⟨0, (), rfl, ⟨fun h => absurd h c_1, fun _ => rfl⟩, by rw [ht]; exact hP9, hD9⟩, hS.F ht⟩) hS.2.2 dX7_seed_25
  · refine lv_sipush (v := (-1002)) hx hb dX7_seed_4 (by decide) ?_
    have hP9 := hP.sub (ws' := []) [] rfl
    have hD9 := hD.sub (ws' := []) [] (by decide) rfl
    exact W.iret (v := (-1002)) hx hb hr (fun t ht hW => ⟨⟨(-1002), (), rfl, ⟨fun _ => rfl, fun h => absurd c_1 h⟩, by rw [ht]; exact hP9, hD9⟩, hS.F ht⟩) hS.2.2 dX7_seed_7
end
section
theorem dX7_count_0 : decode cX7_count 0 = .ok (.iload_n 1, 1) := by decide +kernel
theorem dX7_count_1 : decode cX7_count 1 = .ok (.tableswitch 75 0 4 #[35, 40, 48, 59, 67], 35) := by decide +kernel
theorem dX7_count_36 : decode cX7_count 36 = .ok (.aload_n 0, 1) := by decide +kernel
theorem dX7_count_37 : decode cX7_count 37 = .ok (.getfield 39, 3) := by decide +kernel
theorem dX7_count_40 : decode cX7_count 40 = .ok (.ireturn, 1) := by decide +kernel
theorem dX7_count_41 : decode cX7_count 41 = .ok (.aload_n 0, 1) := by decide +kernel
theorem dX7_count_42 : decode cX7_count 42 = .ok (.getfield 49, 3) := by decide +kernel
theorem dX7_count_45 : decode cX7_count 45 = .ok (.getfield 176, 3) := by decide +kernel
theorem dX7_count_48 : decode cX7_count 48 = .ok (.ireturn, 1) := by decide +kernel
theorem dX7_count_49 : decode cX7_count 49 = .ok (.aload_n 0, 1) := by decide +kernel
theorem dX7_count_50 : decode cX7_count 50 = .ok (.getfield 49, 3) := by decide +kernel
theorem dX7_count_53 : decode cX7_count 53 = .ok (.getfield 183, 3) := by decide +kernel
theorem dX7_count_56 : decode cX7_count 56 = .ok (.invokestatic 275, 3) := by decide +kernel
theorem dX7_count_59 : decode cX7_count 59 = .ok (.ireturn, 1) := by decide +kernel
theorem dX7_count_60 : decode cX7_count 60 = .ok (.aload_n 0, 1) := by decide +kernel
theorem dX7_count_61 : decode cX7_count 61 = .ok (.getfield 49, 3) := by decide +kernel
theorem dX7_count_64 : decode cX7_count 64 = .ok (.getfield 214, 3) := by decide +kernel
theorem dX7_count_67 : decode cX7_count 67 = .ok (.ireturn, 1) := by decide +kernel
theorem dX7_count_68 : decode cX7_count 68 = .ok (.aload_n 0, 1) := by decide +kernel
theorem dX7_count_69 : decode cX7_count 69 = .ok (.getfield 12, 3) := by decide +kernel
theorem dX7_count_72 : decode cX7_count 72 = .ok (.getfield 81, 3) := by decide +kernel
theorem dX7_count_75 : decode cX7_count 75 = .ok (.ireturn, 1) := by decide +kernel
theorem dX7_count_76 : decode cX7_count 76 = .ok (.sipush (-1002), 3) := by decide +kernel
theorem dX7_count_79 : decode cX7_count 79 = .ok (.ireturn, 1) := by decide +kernel
set_option maxHeartbeats 4000000 in
set_option maxRecDepth 100000 in
theorem k_count (l : Launch) (D : va_G) (k : Nat → ClassId) (st : Nat → Nat) (lo : Nat) (a : Nat → Nat) (p0 : Int32)  : CRi l D k st lo yX7_count cX7_count 2 (some .int) ({ frames := 1, cells := 0, slots := 0, locals := 20 }) [.ref (a 0), .int p0] [((a 0), .inr (7, [.ref (a 1), .ref (a 3), .ref (a 19), .ref (a 20), .ref (a 25), .int 0, .int (-1), .ref (a 32), .ref (a 35), .ref (a 42), .ref (a 43), .ref (a 44)])), ((a 32), .inr (4, [.ref (a 33), .ref (a 34), .int 0, .int 0, .int 0, .int 0])), ((a 1), .inr (6, [.ref (a 2), .int 0, .int 0, .int 0, .int 0, .int 0]))] (fun r => (inB p0 0 4 → r = 0) ∧ (¬ (inB p0 0 4) → r = -1002)) := by
  intro sz
  refine Met.ofW (cc := cX7_count) (maxL := 2) (ret := (some .int)) (by decide) rfl ?_
  intro p e s m args below meth c s₁ B hml hv
  obtain ⟨rfl, hsz, hlo, hP, hK, hDL, hZ⟩ := hv
  have hx := B.exec
  have hb := B.bytes
  have hr := B.returns
  have hts := WS_ts B.pre
  have hown : s.vm.findClass RX7 = some m.cls := findClass_of_methodNamed B.named
  have hlocks := B.notSynchronized
  subst hsz
  have hA : ∀ q : Nat, s.heap.size ≤ q → (fun q : Nat => s.heap.size ≤ q) q := fun _ h => h
  have hAlo : ∀ q : Nat, (fun q : Nat => s.heap.size ≤ q) q → lo ≤ q := fun q h => Nat.le_trans hlo h
  have hS : va_S (fun q : Nat => s.heap.size ≤ q) s.heap s.heap [] := va_S.rf
  have hl := lv_entry ([.ref (a 0), .int p0]) (n := 2) (Nat.le_of_ble_eq_true rfl)
  rw [lg_entry_eq]
  generalize (lg_sl ([.ref (a 0), .int p0]) ++ List.replicate (2 - (lg_sl ([.ref (a 0), .int p0])).length) Slot.unset).toArray = ls at hl ⊢
  have hl : lv_has ls 2 [(0, .ref (a 0)), (1, .int p0)] := hl
  refine lv_iload_n hx hb dX7_count_0 rfl (lv_at hl 1 rfl) ?_
  rcases sw5 p0 with rfl | rfl | rfl | rfl | rfl | hsw_1
  · refine lv_tableIn (tgt := 36) hx hb dX7_count_1 (by decide) (by decide) rfl (by decide) ?_
    refine lv_aload_n hx hb dX7_count_36 rfl (lv_at hl 0 rfl) ?_
    refine va_get (D := D) (ci := 7) (v := .int 0) (C := RX7) (T := TX7) (N := 12) hx hb hts inX7 hown hK hP 0 rfl rfl 5 (by decide) (hts _ tw_310) (fun _ h9 => h9) rfl dX7_count_37 ?_
    exact W.iret (v := 0) hx hb hr (fun t ht hW => ⟨⟨0, (), rfl, ⟨fun _ => rfl, fun h => absurd ⟨by decide, by decide⟩ h⟩, trivial⟩, hS.F ht⟩) hS.2.2 dX7_count_40
  · refine lv_tableIn (tgt := 41) hx hb dX7_count_1 (by decide) (by decide) rfl (by decide) ?_
    refine lv_aload_n hx hb dX7_count_41 rfl (lv_at hl 0 rfl) ?_
    refine va_get (D := D) (ci := 7) (v := .ref (a 32)) (C := RX7) (T := TX7) (N := 12) hx hb hts inX7 hown hK hP 0 rfl rfl 7 (by decide) (hts _ tw_312) (fun _ h9 => h9) rfl dX7_count_42 ?_
    refine va_get (D := D) (ci := 4) (v := .int 0) (C := RX4) (T := TX4) (N := 6) hx hb hts inX4 hown hK hP 1 rfl rfl 3 (by decide) (hts _ tw_184) (fun _ h9 => h9) rfl dX7_count_45 ?_
    exact W.iret (v := 0) hx hb hr (fun t ht hW => ⟨⟨0, (), rfl, ⟨fun _ => rfl, fun h => absurd ⟨by decide, by decide⟩ h⟩, trivial⟩, hS.F ht⟩) hS.2.2 dX7_count_48
  · refine lv_tableIn (tgt := 49) hx hb dX7_count_1 (by decide) (by decide) rfl (by decide) ?_
    refine lv_aload_n hx hb dX7_count_49 rfl (lv_at hl 0 rfl) ?_
    refine va_get (D := D) (ci := 7) (v := .ref (a 32)) (C := RX7) (T := TX7) (N := 12) hx hb hts inX7 hown hK hP 0 rfl rfl 7 (by decide) (hts _ tw_312) (fun _ h9 => h9) rfl dX7_count_50 ?_
    refine va_get (D := D) (ci := 4) (v := .int 0) (C := RX4) (T := TX4) (N := 6) hx hb hts inX4 hown hK hP 1 rfl rfl 4 (by decide) (hts _ tw_187) (fun _ h9 => h9) rfl dX7_count_53 ?_
    refine ro_i (D := D) (va_runS (As := [.int 0]) (rest := []) ⟨hx, hb, hml, hown, hts⟩ ((k_bitCount l D k st lo ) s.heap.size) (va_cwS 1 hts (gS tw_945 tw_946 tw_94 tw_947) rfl rfl rfl (by decide +kernel) ⟨Nat.le_of_ble_eq_true rfl, Nat.le_of_ble_eq_true rfl⟩) (pS hS hAlo hlo hP hK hDL hZ [] (by decide) rfl) rfl rfl hl.1 rfl (lv_room (Nat.le_of_ble_eq_true rfl)) dX7_count_56 ⟨Nat.le_of_ble_eq_true rfl, Nat.le_of_ble_eq_true rfl⟩) hS hA hP (fun r_2 H locs hw_2 hP hS => ?_)
    try dsimp only at hw_2
    subst hw_2
    exact W.iret (v := 0) hx hb hr (fun t ht hW => ⟨⟨0, (), rfl, ⟨fun _ => rfl, fun h => absurd ⟨by decide, by decide⟩ h⟩, trivial⟩, hS.F ht⟩) hS.2.2 dX7_count_59
  · refine lv_tableIn (tgt := 60) hx hb dX7_count_1 (by decide) (by decide) rfl (by decide) ?_
    refine lv_aload_n hx hb dX7_count_60 rfl (lv_at hl 0 rfl) ?_
    refine va_get (D := D) (ci := 7) (v := .ref (a 32)) (C := RX7) (T := TX7) (N := 12) hx hb hts inX7 hown hK hP 0 rfl rfl 7 (by decide) (hts _ tw_312) (fun _ h9 => h9) rfl dX7_count_61 ?_
    refine va_get (D := D) (ci := 4) (v := .int 0) (C := RX4) (T := TX4) (N := 6) hx hb hts inX4 hown hK hP 1 rfl rfl 2 (by decide) (hts _ tw_180) (fun _ h9 => h9) rfl dX7_count_64 ?_
    exact W.iret (v := 0) hx hb hr (fun t ht hW => ⟨⟨0, (), rfl, ⟨fun _ => rfl, fun h => absurd ⟨by decide, by decide⟩ h⟩, trivial⟩, hS.F ht⟩) hS.2.2 dX7_count_67
  · refine lv_tableIn (tgt := 68) hx hb dX7_count_1 (by decide) (by decide) rfl (by decide) ?_
    refine lv_aload_n hx hb dX7_count_68 rfl (lv_at hl 0 rfl) ?_
    refine va_get (D := D) (ci := 7) (v := .ref (a 1)) (C := RX7) (T := TX7) (N := 12) hx hb hts inX7 hown hK hP 0 rfl rfl 0 (by decide) (hts _ tw_305) (fun _ h9 => h9) rfl dX7_count_69 ?_
    refine va_get (D := D) (ci := 6) (v := .int 0) (C := RX6) (T := TX6) (N := 6) hx hb hts inX6 hown hK hP 2 rfl rfl 1 (by decide) (hts _ tw_111) (fun _ h9 => h9) rfl dX7_count_72 ?_
    exact W.iret (v := 0) hx hb hr (fun t ht hW => ⟨⟨0, (), rfl, ⟨fun _ => rfl, fun h => absurd ⟨by decide, by decide⟩ h⟩, trivial⟩, hS.F ht⟩) hS.2.2 dX7_count_75
  · refine lv_tableOut (tgt := 76) hx hb dX7_count_1 hsw_1 (by decide) ?_
    refine lv_sipush (v := (-1002)) hx hb dX7_count_76 (by decide) ?_
    exact W.iret (v := (-1002)) hx hb hr (fun t ht hW => ⟨⟨(-1002), (), rfl, ⟨fun h => absurd h (sw_out hsw_1), fun _ => rfl⟩, trivial⟩, hS.F ht⟩) hS.2.2 dX7_count_79
end
section
theorem dX7_car_0 : decode cX7_car 0 = .ok (.iload_n 1, 1) := by decide +kernel
theorem dX7_car_1 : decode cX7_car 1 = .ok (.iconst 0, 1) := by decide +kernel
theorem dX7_car_2 : decode cX7_car 2 = .ok (.getstatic 211, 3) := by decide +kernel
theorem dX7_car_5 : decode cX7_car 5 = .ok (.iconst 2, 1) := by decide +kernel
theorem dX7_car_6 : decode cX7_car 6 = .ok (.iaload, 1) := by decide +kernel
theorem dX7_car_7 : decode cX7_car 7 = .ok (.invokestatic 112, 3) := by decide +kernel
theorem dX7_car_10 : decode cX7_car 10 = .ok (.ifCond .eq 13, 3) := by decide +kernel
theorem dX7_car_13 : decode cX7_car 13 = .ok (.iload_n 2, 1) := by decide +kernel
theorem dX7_car_14 : decode cX7_car 14 = .ok (.iconst 0, 1) := by decide +kernel
theorem dX7_car_15 : decode cX7_car 15 = .ok (.bipush 24, 2) := by decide +kernel
theorem dX7_car_17 : decode cX7_car 17 = .ok (.invokestatic 112, 3) := by decide +kernel
theorem dX7_car_20 : decode cX7_car 20 = .ok (.ifCond .ne 7, 3) := by decide +kernel
theorem dX7_car_23 : decode cX7_car 23 = .ok (.sipush (-1002), 3) := by decide +kernel
theorem dX7_car_26 : decode cX7_car 26 = .ok (.ireturn, 1) := by decide +kernel
theorem dX7_car_27 : decode cX7_car 27 = .ok (.aload_n 0, 1) := by decide +kernel
theorem dX7_car_28 : decode cX7_car 28 = .ok (.getfield 49, 3) := by decide +kernel
theorem dX7_car_31 : decode cX7_car 31 = .ok (.getfield 214, 3) := by decide +kernel
theorem dX7_car_34 : decode cX7_car 34 = .ok (.iconst 4, 1) := by decide +kernel
theorem dX7_car_35 : decode cX7_car 35 = .ok (.if_icmp .ge 15, 3) := by decide +kernel
theorem dX7_car_38 : decode cX7_car 38 = .ok (.aload_n 0, 1) := by decide +kernel
theorem dX7_car_39 : decode cX7_car 39 = .ok (.getfield 49, 3) := by decide +kernel
theorem dX7_car_42 : decode cX7_car 42 = .ok (.iload_n 1, 1) := by decide +kernel
theorem dX7_car_43 : decode cX7_car 43 = .ok (.iload_n 2, 1) := by decide +kernel
theorem dX7_car_44 : decode cX7_car 44 = .ok (.invokevirtual 217, 3) := by decide +kernel
theorem dX7_car_47 : decode cX7_car 47 = .ok (.goto 6, 3) := by decide +kernel
theorem dX7_car_53 : decode cX7_car 53 = .ok (.ireturn, 1) := by decide +kernel
set_option maxHeartbeats 4000000 in
set_option maxRecDepth 100000 in
theorem k_car (l : Launch) (D : va_G) (k : Nat → ClassId) (st : Nat → Nat) (lo : Nat) (a : Nat → Nat) (p0 : Int32) (p1 : Int32)  : CWi l D k st lo yX7_car cX7_car 3 (some .int) ({ frames := 1, cells := 0, slots := 0, locals := 23 }) 0 0 [.ref (a 0), .int p0, .int p1] [((a 0), .inr (7, [.ref (a 1), .ref (a 3), .ref (a 19), .ref (a 20), .ref (a 25), .int 0, .int (-1), .ref (a 32), .ref (a 35), .ref (a 42), .ref (a 43), .ref (a 44)])), ((a 32), .inr (4, [.ref (a 33), .ref (a 34), .int 0, .int 0, .int 0, .int 0])), ((a 33), .inl (k 1, 4, .inl (fun _ => 0))), ((a 34), .inl (k 1, 4, .inl (fun _ => 0)))] (fun (r : Int32) (_ : Unit) => (inB p0 0 99 ∧ inB p1 0 24 → r = 0) ∧ (¬ (inB p0 0 99 ∧ inB p1 0 24) → r = -1002)) (fun (_ : Unit) => []) := by
  intro sz
  refine Met.ofW (cc := cX7_car) (maxL := 3) (ret := (some .int)) (by decide) rfl ?_
  intro p e s m args below meth c s₁ B hml hv
  obtain ⟨rfl, hsz, hlo, hP, hK, hDL, hZ⟩ := hv
  have hx := B.exec
  have hb := B.bytes
  have hr := B.returns
  have hts := WS_ts B.pre
  have hown : s.vm.findClass RX7 = some m.cls := findClass_of_methodNamed B.named
  have hlocks := B.notSynchronized
  subst hsz
  have hD := hDL.self (sz := s.heap.size)
  have hAlo := A_lo hDL hlo
  generalize hAe : va_A [((a 0), .inr (7, [.ref (a 1), .ref (a 3), .ref (a 19), .ref (a 20), .ref (a 25), .int 0, .int (-1), .ref (a 32), .ref (a 35), .ref (a 42), .ref (a 43), .ref (a 44)])), ((a 32), .inr (4, [.ref (a 33), .ref (a 34), .int 0, .int 0, .int 0, .int 0])), ((a 33), .inl (k 1, 4, .inl (fun _ => 0))), ((a 34), .inl (k 1, 4, .inl (fun _ => 0)))] s.heap.size = A at hD hAlo ⊢
  have hA : ∀ q : Nat, s.heap.size ≤ q → A q := fun q h => by rw [← hAe]; exact Or.inr h
  have hS : va_S A s.heap s.heap [] := va_S.rf
  have hl := lv_entry ([.ref (a 0), .int p0, .int p1]) (n := 3) (Nat.le_of_ble_eq_true rfl)
  rw [lg_entry_eq]
  generalize (lg_sl ([.ref (a 0), .int p0, .int p1]) ++ List.replicate (3 - (lg_sl ([.ref (a 0), .int p0, .int p1])).length) Slot.unset).toArray = ls at hl ⊢
  have hl : lv_has ls 3 [(0, .ref (a 0)), (1, .int p0), (2, .int p1)] := hl
  refine lv_iload_n hx hb dX7_car_0 rfl (lv_at hl 1 rfl) ?_
  refine lv_iconst (v := 0) hx hb dX7_car_1 (by decide) ?_
  refine va_gets (A := A) hx hb (hZ.2.2.1.narrow hAlo) hS hown (hts _ tw_800) (fun _ h9 => h9) dX7_car_2 ?_
  refine lv_iconst (v := 2) hx hb dX7_car_5 (by decide) ?_
  refine va_ti (A := A) hx hb (hZ.2.2.2.1.narrow hAlo) hS (i := 2) (by unfold vp_in; decide) (v := .int 99) rfl dX7_car_6 ?_
  refine ro_i (D := D) (va_runS (As := [.int p0, .int 0, .int 99]) (rest := []) ⟨hx, hb, hml, hown, hts⟩ ((k_isIn l D k st lo p0 0 99) s.heap.size) (va_cwS 3 hts (gS tw_593 tw_594 tw_79 tw_595) rfl rfl rfl (by decide +kernel) ⟨Nat.le_of_ble_eq_true rfl, Nat.le_of_ble_eq_true rfl⟩) (pS hS hAlo hlo hP hK (va_Dlo hD hAlo) hZ [] (by decide) rfl) rfl rfl hl.1 rfl (lv_room (Nat.le_of_ble_eq_true rfl)) dX7_car_7 ⟨Nat.le_of_ble_eq_true rfl, Nat.le_of_ble_eq_true rfl⟩) hS hA hP (fun r_1 H locs hw_1 hP hS => ?_)
  try dsimp only at hw_1
  rcases hw_1 with ⟨rfl, hw_1⟩ | ⟨rfl, hw_1⟩
  · refine lv_if_eq (tgt := 23) hx hb dX7_car_10 (by decide) (fun h => absurd h (by decide)) (fun _ => ?_)
    refine lv_iload_n hx hb dX7_car_13 rfl (lv_at hl 2 rfl) ?_
    refine lv_iconst (v := 0) hx hb dX7_car_14 (by decide) ?_
    refine lv_bipush (v := 24) hx hb dX7_car_15 (by decide) ?_
    refine ro_i (D := D) (va_runS (As := [.int p1, .int 0, .int 24]) (rest := []) ⟨hx, hb, hml, hown, hts⟩ ((k_isIn l D k st lo p1 0 24) H.size) (va_cwS 3 hts (gS tw_593 tw_594 tw_79 tw_595) rfl rfl rfl (by decide +kernel) ⟨Nat.le_of_ble_eq_true rfl, Nat.le_of_ble_eq_true rfl⟩) (pS hS hAlo hlo hP hK (va_Dlo hD hAlo) hZ [] (by decide) rfl) rfl rfl hl.1 rfl (lv_room (Nat.le_of_ble_eq_true rfl)) dX7_car_17 ⟨Nat.le_of_ble_eq_true rfl, Nat.le_of_ble_eq_true rfl⟩) hS hA hP (fun r_2 H locs hw_2 hP hS => ?_)
    try dsimp only at hw_2
    rcases hw_2 with ⟨rfl, hw_2⟩ | ⟨rfl, hw_2⟩
    · refine lv_if_ne (tgt := 27) hx hb dX7_car_20 (by decide) (fun _ => ?_) (fun h => absurd h (by decide))
      refine lv_aload_n hx hb dX7_car_27 rfl (lv_at hl 0 rfl) ?_
      refine va_get (D := D) (ci := 7) (v := .ref (a 32)) (C := RX7) (T := TX7) (N := 12) hx hb hts inX7 hown hK hP 0 rfl rfl 7 (by decide) (hts _ tw_312) (fun _ h9 => h9) rfl dX7_car_28 ?_
      refine va_get (D := D) (ci := 4) (v := .int 0) (C := RX4) (T := TX4) (N := 6) hx hb hts inX4 hown hK hP 1 rfl rfl 2 (by decide) (hts _ tw_180) (fun _ h9 => h9) rfl dX7_car_31 ?_
      refine lv_iconst (v := 4) hx hb dX7_car_34 (by decide) ?_
      refine lv_icmp_ge (tgt := 50) hx hb dX7_car_35 (by decide) (fun h => absurd h (by decide)) (fun _ => ?_)
      refine lv_aload_n hx hb dX7_car_38 rfl (lv_at hl 0 rfl) ?_
      refine va_get (D := D) (ci := 7) (v := .ref (a 32)) (C := RX7) (T := TX7) (N := 12) hx hb hts inX7 hown hK hP 0 rfl rfl 7 (by decide) (hts _ tw_312) (fun _ h9 => h9) rfl dX7_car_39 ?_
      refine lv_iload_n hx hb dX7_car_42 rfl (lv_at hl 1 rfl) ?_
      refine lv_iload_n hx hb dX7_car_43 rfl (lv_at hl 2 rfl) ?_
      refine rw_i (D := D) (wr := [((a 0), .inr (7, [.ref (a 1), .ref (a 3), .ref (a 19), .ref (a 20), .ref (a 25), .int 0, .int (-1), .ref (a 32), .ref (a 35), .ref (a 42), .ref (a 43), .ref (a 44)]))]) (va_runV (As := [.int p0, .int p1]) (rest := []) ⟨hx, hb, hml, hown, hts⟩ ((k_addCar l D k st lo (a 32) (a 33) (a 34) (fun _ => 0) (fun _ => 0) p0 p1) H.size) (cwV 2 hts (gV tw_801 tw_802 tw_803 tw_82 tw_804) rfl rfl rfl (by decide +kernel) ⟨Nat.le_of_ble_eq_true rfl, Nat.le_of_ble_eq_true rfl⟩) (pV hS hAlo hlo hP hK (va_Dlo hD hAlo) hZ [1, 2, 3] (by decide) rfl (ci := 4) (q0 := 0) rfl rfl) rfl rfl hl.1 rfl (lv_room (Nat.le_of_ble_eq_true rfl)) dX7_car_44 ⟨Nat.le_of_ble_eq_true rfl, Nat.le_of_ble_eq_true rfl⟩) hS hA hP hD [1, 2, 3] [0] rfl rfl (by decide) (by decide) (fun r_3 u H locs hw_3 hP hD hS => ?_)
      have hP : va_P D classes [((a 0), .inr (7, [.ref (a 1), .ref (a 3), .ref (a 19), .ref (a 20), .ref (a 25), .int 0, .int (-1), .ref (a 32), .ref (a 35), .ref (a 42), .ref (a 43), .ref (a 44)]))] H := hP
      have hD : va_D A [((a 0), .inr (7, [.ref (a 1), .ref (a 3), .ref (a 19), .ref (a 20), .ref (a 25), .int 0, .int (-1), .ref (a 32), .ref (a 35), .ref (a 42), .ref (a 43), .ref (a 44)]))] := hD
      try dsimp only at hw_3
      subst hw_3
      refine lv_goto (tgt := 53) hx hb dX7_car_47 (by decide) ?_
      have hP9 := hP.sub (ws' := []) [] rfl
      have hD9 := hD.sub (ws' := []) [] (by decide) rfl
      exact W.iret (v := 0) hx hb hr (fun t ht hW => ⟨⟨0, (), rfl, ⟨fun _ => rfl, fun h => absurd ⟨hw_1, hw_2⟩ h⟩, by rw [ht]; exact hP9, hD9⟩, hS.F ht⟩) hS.2.2 dX7_car_53
    · refine lv_if_ne (tgt := 27) hx hb dX7_car_20 (by decide) (fun h => absurd (by decide) h) (fun _ => ?_)
      refine lv_sipush (v := (-1002)) hx hb dX7_car_23 (by decide) ?_
      have hP9 := hP.sub (ws' := []) [] rfl
      have hD9 := hD.sub (ws' := []) [] (by decide) rfl
      exact W.iret (v := (-1002)) hx hb hr (fun t ht hW => ⟨⟨(-1002), (), rfl, ⟨fun h => absurd h.2 hw_2, fun _ => rfl⟩, by rw [ht]; exact hP9, hD9⟩, hS.F ht⟩) hS.2.2 dX7_car_26
  · refine lv_if_eq (tgt := 23) hx hb dX7_car_10 (by decide) (fun _ => ?_) (fun h => absurd (by decide) h)
    refine lv_sipush (v := (-1002)) hx hb dX7_car_23 (by decide) ?_
    have hP9 := hP.sub (ws' := []) [] rfl
    have hD9 := hD.sub (ws' := []) [] (by decide) rfl
    exact W.iret (v := (-1002)) hx hb hr (fun t ht hW => ⟨⟨(-1002), (), rfl, ⟨fun h => absurd h.1 hw_1, fun _ => rfl⟩, by rw [ht]; exact hP9, hD9⟩, hS.F ht⟩) hS.2.2 dX7_car_26
end
section
theorem dX7_keep_0 : decode cX7_keep 0 = .ok (.iload_n 1, 1) := by decide +kernel
theorem dX7_keep_1 : decode cX7_keep 1 = .ok (.iconst 0, 1) := by decide +kernel
theorem dX7_keep_2 : decode cX7_keep 2 = .ok (.iconst 1, 1) := by decide +kernel
theorem dX7_keep_3 : decode cX7_keep 3 = .ok (.invokestatic 112, 3) := by decide +kernel
theorem dX7_keep_6 : decode cX7_keep 6 = .ok (.ifCond .ne 7, 3) := by decide +kernel
theorem dX7_keep_9 : decode cX7_keep 9 = .ok (.sipush (-1001), 3) := by decide +kernel
theorem dX7_keep_12 : decode cX7_keep 12 = .ok (.ireturn, 1) := by decide +kernel
theorem dX7_keep_13 : decode cX7_keep 13 = .ok (.aload_n 0, 1) := by decide +kernel
theorem dX7_keep_14 : decode cX7_keep 14 = .ok (.getfield 53, 3) := by decide +kernel
theorem dX7_keep_17 : decode cX7_keep 17 = .ok (.iload_n 1, 1) := by decide +kernel
theorem dX7_keep_18 : decode cX7_keep 18 = .ok (.aaload, 1) := by decide +kernel
theorem dX7_keep_19 : decode cX7_keep 19 = .ok (.aload_n 0, 1) := by decide +kernel
theorem dX7_keep_20 : decode cX7_keep 20 = .ok (.getfield 49, 3) := by decide +kernel
theorem dX7_keep_23 : decode cX7_keep 23 = .ok (.invokevirtual 280, 3) := by decide +kernel
theorem dX7_keep_26 : decode cX7_keep 26 = .ok (.aload_n 0, 1) := by decide +kernel
theorem dX7_keep_27 : decode cX7_keep 27 = .ok (.getfield 57, 3) := by decide +kernel
theorem dX7_keep_30 : decode cX7_keep 30 = .ok (.iload_n 1, 1) := by decide +kernel
theorem dX7_keep_31 : decode cX7_keep 31 = .ok (.iconst 1, 1) := by decide +kernel
theorem dX7_keep_32 : decode cX7_keep 32 = .ok (.bastore, 1) := by decide +kernel
theorem dX7_keep_33 : decode cX7_keep 33 = .ok (.iconst 1, 1) := by decide +kernel
theorem dX7_keep_34 : decode cX7_keep 34 = .ok (.ireturn, 1) := by decide +kernel
set_option maxHeartbeats 4000000 in
set_option maxRecDepth 100000 in
theorem k_keep (l : Launch) (D : va_G) (k : Nat → ClassId) (st : Nat → Nat) (lo : Nat) (a : Nat → Nat) (p0 : Int32)  : CWi l D k st lo yX7_keep cX7_keep 2 (some .int) ({ frames := 2, cells := 0, slots := 0, locals := 81 }) 0 0 [.ref (a 0), .int p0] [((a 0), .inr (7, [.ref (a 1), .ref (a 3), .ref (a 19), .ref (a 20), .ref (a 25), .int 0, .int (-1), .ref (a 32), .ref (a 35), .ref (a 42), .ref (a 43), .ref (a 44)])), ((a 32), .inr (4, [.ref (a 33), .ref (a 34), .int 0, .int 0, .int 0, .int 0])), ((a 33), .inl (k 1, 4, .inl (fun _ => 0))), ((a 34), .inl (k 1, 4, .inl (fun _ => 0))), ((a 35), .inl (k 6, 2, .inr (.inr (.inr (.inr (a2 (a 36) (a 37))))))), ((a 36), .inr (4, [.ref (a 38), .ref (a 39), .int 0, .int 0, .int 0, .int 0])), ((a 38), .inl (k 1, 4, .inl (fun _ => 0))), ((a 39), .inl (k 1, 4, .inl (fun _ => 0))), ((a 37), .inr (4, [.ref (a 40), .ref (a 41), .int 0, .int 0, .int 0, .int 0])), ((a 40), .inl (k 1, 4, .inl (fun _ => 0))), ((a 41), .inl (k 1, 4, .inl (fun _ => 0))), ((a 42), .inl (k 2, 2, .inl (fun _ => 0)))] (fun (r : Int32) (_ : Unit) => (inB p0 0 1 → r = 1) ∧ (¬ (inB p0 0 1) → r = -1001)) (fun (_ : Unit) => []) := by
  intro sz
  refine Met.ofW (cc := cX7_keep) (maxL := 2) (ret := (some .int)) (by decide) rfl ?_
  intro p e s m args below meth c s₁ B hml hv
  obtain ⟨rfl, hsz, hlo, hP, hK, hDL, hZ⟩ := hv
  have hx := B.exec
  have hb := B.bytes
  have hr := B.returns
  have hts := WS_ts B.pre
  have hown : s.vm.findClass RX7 = some m.cls := findClass_of_methodNamed B.named
  have hlocks := B.notSynchronized
  subst hsz
  have hD := hDL.self (sz := s.heap.size)
  have hAlo := A_lo hDL hlo
  generalize hAe : va_A [((a 0), .inr (7, [.ref (a 1), .ref (a 3), .ref (a 19), .ref (a 20), .ref (a 25), .int 0, .int (-1), .ref (a 32), .ref (a 35), .ref (a 42), .ref (a 43), .ref (a 44)])), ((a 32), .inr (4, [.ref (a 33), .ref (a 34), .int 0, .int 0, .int 0, .int 0])), ((a 33), .inl (k 1, 4, .inl (fun _ => 0))), ((a 34), .inl (k 1, 4, .inl (fun _ => 0))), ((a 35), .inl (k 6, 2, .inr (.inr (.inr (.inr (a2 (a 36) (a 37))))))), ((a 36), .inr (4, [.ref (a 38), .ref (a 39), .int 0, .int 0, .int 0, .int 0])), ((a 38), .inl (k 1, 4, .inl (fun _ => 0))), ((a 39), .inl (k 1, 4, .inl (fun _ => 0))), ((a 37), .inr (4, [.ref (a 40), .ref (a 41), .int 0, .int 0, .int 0, .int 0])), ((a 40), .inl (k 1, 4, .inl (fun _ => 0))), ((a 41), .inl (k 1, 4, .inl (fun _ => 0))), ((a 42), .inl (k 2, 2, .inl (fun _ => 0)))] s.heap.size = A at hD hAlo ⊢
  have hA : ∀ q : Nat, s.heap.size ≤ q → A q := fun q h => by rw [← hAe]; exact Or.inr h
  have hS : va_S A s.heap s.heap [] := va_S.rf
  have hl := lv_entry ([.ref (a 0), .int p0]) (n := 2) (Nat.le_of_ble_eq_true rfl)
  rw [lg_entry_eq]
  generalize (lg_sl ([.ref (a 0), .int p0]) ++ List.replicate (2 - (lg_sl ([.ref (a 0), .int p0])).length) Slot.unset).toArray = ls at hl ⊢
  have hl : lv_has ls 2 [(0, .ref (a 0)), (1, .int p0)] := hl
  refine lv_iload_n hx hb dX7_keep_0 rfl (lv_at hl 1 rfl) ?_
  refine lv_iconst (v := 0) hx hb dX7_keep_1 (by decide) ?_
  refine lv_iconst (v := 1) hx hb dX7_keep_2 (by decide) ?_
  refine ro_i (D := D) (va_runS (As := [.int p0, .int 0, .int 1]) (rest := []) ⟨hx, hb, hml, hown, hts⟩ ((k_isIn l D k st lo p0 0 1) s.heap.size) (va_cwS 3 hts (gS tw_593 tw_594 tw_79 tw_595) rfl rfl rfl (by decide +kernel) ⟨Nat.le_of_ble_eq_true rfl, Nat.le_of_ble_eq_true rfl⟩) (pS hS hAlo hlo hP hK (va_Dlo hD hAlo) hZ [] (by decide) rfl) rfl rfl hl.1 rfl (lv_room (Nat.le_of_ble_eq_true rfl)) dX7_keep_3 ⟨Nat.le_of_ble_eq_true rfl, Nat.le_of_ble_eq_true rfl⟩) hS hA hP (fun r_1 H locs hw_1 hP hS => ?_)
  try dsimp only at hw_1
  rcases hw_1 with ⟨rfl, hw_1⟩ | ⟨rfl, hw_1⟩
  · refine lv_if_ne (tgt := 13) hx hb dX7_keep_6 (by decide) (fun _ => ?_) (fun h => absurd h (by decide))
    refine lv_aload_n hx hb dX7_keep_13 rfl (lv_at hl 0 rfl) ?_
    refine va_get (D := D) (ci := 7) (v := .ref (a 35)) (C := RX7) (T := TX7) (N := 12) hx hb hts inX7 hown hK hP 0 rfl rfl 8 (by decide) (hts _ tw_313) (fun _ h9 => h9) rfl dX7_keep_14 ?_
    refine lv_iload_n hx hb dX7_keep_17 rfl (lv_at hl 1 rfl) ?_
    rcases spl2 hw_1 with rfl | rfl
    · refine va_aldq hx hb hK hP 4 6 rfl rfl (by unfold vp_in; decide) dX7_keep_18 ?_
      refine lv_tr (y := .ref (a 36)) rfl ?_
      refine lv_aload_n hx hb dX7_keep_19 rfl (lv_at hl 0 rfl) ?_
      refine va_get (D := D) (ci := 7) (v := .ref (a 32)) (C := RX7) (T := TX7) (N := 12) hx hb hts inX7 hown hK hP 0 rfl rfl 7 (by decide) (hts _ tw_312) (fun _ h9 => h9) rfl dX7_keep_20 ?_
      refine rw_v (D := D) (wr := [((a 0), .inr (7, [.ref (a 1), .ref (a 3), .ref (a 19), .ref (a 20), .ref (a 25), .int 0, .int (-1), .ref (a 32), .ref (a 35), .ref (a 42), .ref (a 43), .ref (a 44)])), ((a 35), .inl (k 6, 2, .inr (.inr (.inr (.inr (a2 (a 36) (a 37))))))), ((a 37), .inr (4, [.ref (a 40), .ref (a 41), .int 0, .int 0, .int 0, .int 0])), ((a 40), .inl (k 1, 4, .inl (fun _ => 0))), ((a 41), .inl (k 1, 4, .inl (fun _ => 0))), ((a 42), .inl (k 2, 2, .inl (fun _ => 0)))]) (va_runV (As := [.ref (a 32)]) (rest := []) ⟨hx, hb, hml, hown, hts⟩ ((k_copyFrom l D k st lo (a 36) (a 38) (a 39) (a 32) (a 33) (a 34) (fun _ => 0) (fun _ => 0) (fun _ => 0) (fun _ => 0)) H.size) (cwV 1 hts (gV tw_955 tw_956 tw_957 tw_82 tw_958) rfl rfl rfl (by decide +kernel) ⟨Nat.le_of_ble_eq_true rfl, Nat.le_of_ble_eq_true rfl⟩) (pV hS hAlo hlo hP hK (va_Dlo hD hAlo) hZ [5, 6, 7, 1, 2, 3] (by decide) rfl (ci := 4) (q0 := 0) rfl rfl) rfl rfl hl.1 rfl (lv_room (Nat.le_of_ble_eq_true rfl)) dX7_keep_23 ⟨Nat.le_of_ble_eq_true rfl, Nat.le_of_ble_eq_true rfl⟩) hS hA hP hD [5, 6, 7, 1, 2, 3] [0, 4, 8, 9, 10, 11] rfl rfl (by decide) (by decide) (fun u H locs hw_2 hP hD hS => ?_)
      have hP : va_P D classes [((a 0), .inr (7, [.ref (a 1), .ref (a 3), .ref (a 19), .ref (a 20), .ref (a 25), .int 0, .int (-1), .ref (a 32), .ref (a 35), .ref (a 42), .ref (a 43), .ref (a 44)])), ((a 35), .inl (k 6, 2, .inr (.inr (.inr (.inr (a2 (a 36) (a 37))))))), ((a 37), .inr (4, [.ref (a 40), .ref (a 41), .int 0, .int 0, .int 0, .int 0])), ((a 40), .inl (k 1, 4, .inl (fun _ => 0))), ((a 41), .inl (k 1, 4, .inl (fun _ => 0))), ((a 42), .inl (k 2, 2, .inl (fun _ => 0)))] H := hP
      have hD : va_D A [((a 0), .inr (7, [.ref (a 1), .ref (a 3), .ref (a 19), .ref (a 20), .ref (a 25), .int 0, .int (-1), .ref (a 32), .ref (a 35), .ref (a 42), .ref (a 43), .ref (a 44)])), ((a 35), .inl (k 6, 2, .inr (.inr (.inr (.inr (a2 (a 36) (a 37))))))), ((a 37), .inr (4, [.ref (a 40), .ref (a 41), .int 0, .int 0, .int 0, .int 0])), ((a 40), .inl (k 1, 4, .inl (fun _ => 0))), ((a 41), .inl (k 1, 4, .inl (fun _ => 0))), ((a 42), .inl (k 2, 2, .inl (fun _ => 0)))] := hD
      try dsimp only at hw_2
      refine lv_aload_n hx hb dX7_keep_26 rfl (lv_at hl 0 rfl) ?_
      refine va_get (D := D) (ci := 7) (v := .ref (a 42)) (C := RX7) (T := TX7) (N := 12) hx hb hts inX7 hown hK hP 0 rfl rfl 9 (by decide) (hts _ tw_314) (fun _ h9 => h9) rfl dX7_keep_27 ?_
      refine lv_iload_n hx hb dX7_keep_30 rfl (lv_at hl 1 rfl) ?_
      refine lv_iconst (v := 1) hx hb dX7_keep_31 (by decide) ?_
      refine va_zast hx hb hK hP hD hS 5 2 rfl rfl (by unfold vp_in; decide) dX7_keep_32 (fun H locs hP hD hS => ?_)
      have hP : va_P D classes [((a 0), .inr (7, [.ref (a 1), .ref (a 3), .ref (a 19), .ref (a 20), .ref (a 25), .int 0, .int (-1), .ref (a 32), .ref (a 35), .ref (a 42), .ref (a 43), .ref (a 44)])), ((a 35), .inl (k 6, 2, .inr (.inr (.inr (.inr (a2 (a 36) (a 37))))))), ((a 37), .inr (4, [.ref (a 40), .ref (a 41), .int 0, .int 0, .int 0, .int 0])), ((a 40), .inl (k 1, 4, .inl (fun _ => 0))), ((a 41), .inl (k 1, 4, .inl (fun _ => 0))), ((a 42), .inl (k 2, 2, .inl (upd (fun _ => 0) (Int32.toNatClampNeg 0) (vp_nar .boolean 1))))] H := hP
      have hD : va_D A [((a 0), .inr (7, [.ref (a 1), .ref (a 3), .ref (a 19), .ref (a 20), .ref (a 25), .int 0, .int (-1), .ref (a 32), .ref (a 35), .ref (a 42), .ref (a 43), .ref (a 44)])), ((a 35), .inl (k 6, 2, .inr (.inr (.inr (.inr (a2 (a 36) (a 37))))))), ((a 37), .inr (4, [.ref (a 40), .ref (a 41), .int 0, .int 0, .int 0, .int 0])), ((a 40), .inl (k 1, 4, .inl (fun _ => 0))), ((a 41), .inl (k 1, 4, .inl (fun _ => 0))), ((a 42), .inl (k 2, 2, .inl (upd (fun _ => 0) (Int32.toNatClampNeg 0) (vp_nar .boolean 1))))] := hD
      generalize (upd (fun _ => 0) (Int32.toNatClampNeg 0) (vp_nar .boolean 1)) = f_3 at hP hD
      refine lv_iconst (v := 1) hx hb dX7_keep_33 (by decide) ?_
      have hP9 := hP.sub (ws' := []) [] rfl
      have hD9 := hD.sub (ws' := []) [] (by decide) rfl
      exact W.iret (v := 1) hx hb hr (fun t ht hW => ⟨⟨1, (), rfl, ⟨fun _ => rfl, fun h => absurd ⟨by decide, by decide⟩ h⟩, by rw [ht]; exact hP9, hD9⟩, hS.F ht⟩) hS.2.2 dX7_keep_34
    · refine va_aldq hx hb hK hP 4 6 rfl rfl (by unfold vp_in; decide) dX7_keep_18 ?_
      refine lv_tr (y := .ref (a 37)) rfl ?_
      refine lv_aload_n hx hb dX7_keep_19 rfl (lv_at hl 0 rfl) ?_
      refine va_get (D := D) (ci := 7) (v := .ref (a 32)) (C := RX7) (T := TX7) (N := 12) hx hb hts inX7 hown hK hP 0 rfl rfl 7 (by decide) (hts _ tw_312) (fun _ h9 => h9) rfl dX7_keep_20 ?_
      refine rw_v (D := D) (wr := [((a 0), .inr (7, [.ref (a 1), .ref (a 3), .ref (a 19), .ref (a 20), .ref (a 25), .int 0, .int (-1), .ref (a 32), .ref (a 35), .ref (a 42), .ref (a 43), .ref (a 44)])), ((a 35), .inl (k 6, 2, .inr (.inr (.inr (.inr (a2 (a 36) (a 37))))))), ((a 36), .inr (4, [.ref (a 38), .ref (a 39), .int 0, .int 0, .int 0, .int 0])), ((a 38), .inl (k 1, 4, .inl (fun _ => 0))), ((a 39), .inl (k 1, 4, .inl (fun _ => 0))), ((a 42), .inl (k 2, 2, .inl (fun _ => 0)))]) (va_runV (As := [.ref (a 32)]) (rest := []) ⟨hx, hb, hml, hown, hts⟩ ((k_copyFrom l D k st lo (a 37) (a 40) (a 41) (a 32) (a 33) (a 34) (fun _ => 0) (fun _ => 0) (fun _ => 0) (fun _ => 0)) H.size) (cwV 1 hts (gV tw_955 tw_956 tw_957 tw_82 tw_958) rfl rfl rfl (by decide +kernel) ⟨Nat.le_of_ble_eq_true rfl, Nat.le_of_ble_eq_true rfl⟩) (pV hS hAlo hlo hP hK (va_Dlo hD hAlo) hZ [8, 9, 10, 1, 2, 3] (by decide) rfl (ci := 4) (q0 := 0) rfl rfl) rfl rfl hl.1 rfl (lv_room (Nat.le_of_ble_eq_true rfl)) dX7_keep_23 ⟨Nat.le_of_ble_eq_true rfl, Nat.le_of_ble_eq_true rfl⟩) hS hA hP hD [8, 9, 10, 1, 2, 3] [0, 4, 5, 6, 7, 11] rfl rfl (by decide) (by decide) (fun u H locs hw_4 hP hD hS => ?_)
      have hP : va_P D classes [((a 0), .inr (7, [.ref (a 1), .ref (a 3), .ref (a 19), .ref (a 20), .ref (a 25), .int 0, .int (-1), .ref (a 32), .ref (a 35), .ref (a 42), .ref (a 43), .ref (a 44)])), ((a 35), .inl (k 6, 2, .inr (.inr (.inr (.inr (a2 (a 36) (a 37))))))), ((a 36), .inr (4, [.ref (a 38), .ref (a 39), .int 0, .int 0, .int 0, .int 0])), ((a 38), .inl (k 1, 4, .inl (fun _ => 0))), ((a 39), .inl (k 1, 4, .inl (fun _ => 0))), ((a 42), .inl (k 2, 2, .inl (fun _ => 0)))] H := hP
      have hD : va_D A [((a 0), .inr (7, [.ref (a 1), .ref (a 3), .ref (a 19), .ref (a 20), .ref (a 25), .int 0, .int (-1), .ref (a 32), .ref (a 35), .ref (a 42), .ref (a 43), .ref (a 44)])), ((a 35), .inl (k 6, 2, .inr (.inr (.inr (.inr (a2 (a 36) (a 37))))))), ((a 36), .inr (4, [.ref (a 38), .ref (a 39), .int 0, .int 0, .int 0, .int 0])), ((a 38), .inl (k 1, 4, .inl (fun _ => 0))), ((a 39), .inl (k 1, 4, .inl (fun _ => 0))), ((a 42), .inl (k 2, 2, .inl (fun _ => 0)))] := hD
      try dsimp only at hw_4
      refine lv_aload_n hx hb dX7_keep_26 rfl (lv_at hl 0 rfl) ?_
      refine va_get (D := D) (ci := 7) (v := .ref (a 42)) (C := RX7) (T := TX7) (N := 12) hx hb hts inX7 hown hK hP 0 rfl rfl 9 (by decide) (hts _ tw_314) (fun _ h9 => h9) rfl dX7_keep_27 ?_
      refine lv_iload_n hx hb dX7_keep_30 rfl (lv_at hl 1 rfl) ?_
      refine lv_iconst (v := 1) hx hb dX7_keep_31 (by decide) ?_
      refine va_zast hx hb hK hP hD hS 5 2 rfl rfl (by unfold vp_in; decide) dX7_keep_32 (fun H locs hP hD hS => ?_)
      have hP : va_P D classes [((a 0), .inr (7, [.ref (a 1), .ref (a 3), .ref (a 19), .ref (a 20), .ref (a 25), .int 0, .int (-1), .ref (a 32), .ref (a 35), .ref (a 42), .ref (a 43), .ref (a 44)])), ((a 35), .inl (k 6, 2, .inr (.inr (.inr (.inr (a2 (a 36) (a 37))))))), ((a 36), .inr (4, [.ref (a 38), .ref (a 39), .int 0, .int 0, .int 0, .int 0])), ((a 38), .inl (k 1, 4, .inl (fun _ => 0))), ((a 39), .inl (k 1, 4, .inl (fun _ => 0))), ((a 42), .inl (k 2, 2, .inl (upd (fun _ => 0) (Int32.toNatClampNeg 1) (vp_nar .boolean 1))))] H := hP
      have hD : va_D A [((a 0), .inr (7, [.ref (a 1), .ref (a 3), .ref (a 19), .ref (a 20), .ref (a 25), .int 0, .int (-1), .ref (a 32), .ref (a 35), .ref (a 42), .ref (a 43), .ref (a 44)])), ((a 35), .inl (k 6, 2, .inr (.inr (.inr (.inr (a2 (a 36) (a 37))))))), ((a 36), .inr (4, [.ref (a 38), .ref (a 39), .int 0, .int 0, .int 0, .int 0])), ((a 38), .inl (k 1, 4, .inl (fun _ => 0))), ((a 39), .inl (k 1, 4, .inl (fun _ => 0))), ((a 42), .inl (k 2, 2, .inl (upd (fun _ => 0) (Int32.toNatClampNeg 1) (vp_nar .boolean 1))))] := hD
      generalize (upd (fun _ => 0) (Int32.toNatClampNeg 1) (vp_nar .boolean 1)) = f_5 at hP hD
      refine lv_iconst (v := 1) hx hb dX7_keep_33 (by decide) ?_
      have hP9 := hP.sub (ws' := []) [] rfl
      have hD9 := hD.sub (ws' := []) [] (by decide) rfl
      exact W.iret (v := 1) hx hb hr (fun t ht hW => ⟨⟨1, (), rfl, ⟨fun _ => rfl, fun h => absurd ⟨by decide, by decide⟩ h⟩, by rw [ht]; exact hP9, hD9⟩, hS.F ht⟩) hS.2.2 dX7_keep_34
  · refine lv_if_ne (tgt := 13) hx hb dX7_keep_6 (by decide) (fun h => absurd (by decide) h) (fun _ => ?_)
    refine lv_sipush (v := (-1001)) hx hb dX7_keep_9 (by decide) ?_
    have hP9 := hP.sub (ws' := []) [] rfl
    have hD9 := hD.sub (ws' := []) [] (by decide) rfl
    exact W.iret (v := (-1001)) hx hb hr (fun t ht hW => ⟨⟨(-1001), (), rfl, ⟨fun h => absurd h hw_1, fun _ => rfl⟩, by rw [ht]; exact hP9, hD9⟩, hS.F ht⟩) hS.2.2 dX7_keep_12
end
section
theorem dX7_goBack_0 : decode cX7_goBack 0 = .ok (.iload_n 1, 1) := by decide +kernel
theorem dX7_goBack_1 : decode cX7_goBack 1 = .ok (.iconst 0, 1) := by decide +kernel
theorem dX7_goBack_2 : decode cX7_goBack 2 = .ok (.iconst 1, 1) := by decide +kernel
theorem dX7_goBack_3 : decode cX7_goBack 3 = .ok (.invokestatic 112, 3) := by decide +kernel
theorem dX7_goBack_6 : decode cX7_goBack 6 = .ok (.ifCond .ne 7, 3) := by decide +kernel
theorem dX7_goBack_9 : decode cX7_goBack 9 = .ok (.sipush (-1001), 3) := by decide +kernel
theorem dX7_goBack_12 : decode cX7_goBack 12 = .ok (.ireturn, 1) := by decide +kernel
theorem dX7_goBack_13 : decode cX7_goBack 13 = .ok (.aload_n 0, 1) := by decide +kernel
theorem dX7_goBack_14 : decode cX7_goBack 14 = .ok (.getfield 57, 3) := by decide +kernel
theorem dX7_goBack_17 : decode cX7_goBack 17 = .ok (.iload_n 1, 1) := by decide +kernel
theorem dX7_goBack_18 : decode cX7_goBack 18 = .ok (.baload, 1) := by decide +kernel
theorem dX7_goBack_19 : decode cX7_goBack 19 = .ok (.ifCond .ne 7, 3) := by decide +kernel
theorem dX7_goBack_22 : decode cX7_goBack 22 = .ok (.sipush (-1003), 3) := by decide +kernel
theorem dX7_goBack_25 : decode cX7_goBack 25 = .ok (.ireturn, 1) := by decide +kernel
set_option maxHeartbeats 4000000 in
set_option maxRecDepth 100000 in
theorem k_goBack (l : Launch) (D : va_G) (k : Nat → ClassId) (st : Nat → Nat) (lo : Nat) (a : Nat → Nat) (p0 : Int32)  : CRi l D k st lo yX7_goBack cX7_goBack 2 (some .int) ({ frames := 1, cells := 0, slots := 0, locals := 22 }) [.ref (a 0), .int p0] [((a 0), .inr (7, [.ref (a 1), .ref (a 3), .ref (a 19), .ref (a 20), .ref (a 25), .int 0, .int (-1), .ref (a 32), .ref (a 35), .ref (a 42), .ref (a 43), .ref (a 44)])), ((a 42), .inl (k 2, 2, .inl (fun _ => 0)))] (fun r => (inB p0 0 1 → r = -1003) ∧ (¬ (inB p0 0 1) → r = -1001)) := by
  intro sz
  refine Met.ofW (cc := cX7_goBack) (maxL := 2) (ret := (some .int)) (by decide) rfl ?_
  intro p e s m args below meth c s₁ B hml hv
  obtain ⟨rfl, hsz, hlo, hP, hK, hDL, hZ⟩ := hv
  have hx := B.exec
  have hb := B.bytes
  have hr := B.returns
  have hts := WS_ts B.pre
  have hown : s.vm.findClass RX7 = some m.cls := findClass_of_methodNamed B.named
  have hlocks := B.notSynchronized
  subst hsz
  have hA : ∀ q : Nat, s.heap.size ≤ q → (fun q : Nat => s.heap.size ≤ q) q := fun _ h => h
  have hAlo : ∀ q : Nat, (fun q : Nat => s.heap.size ≤ q) q → lo ≤ q := fun q h => Nat.le_trans hlo h
  have hS : va_S (fun q : Nat => s.heap.size ≤ q) s.heap s.heap [] := va_S.rf
  have hl := lv_entry ([.ref (a 0), .int p0]) (n := 2) (Nat.le_of_ble_eq_true rfl)
  rw [lg_entry_eq]
  generalize (lg_sl ([.ref (a 0), .int p0]) ++ List.replicate (2 - (lg_sl ([.ref (a 0), .int p0])).length) Slot.unset).toArray = ls at hl ⊢
  have hl : lv_has ls 2 [(0, .ref (a 0)), (1, .int p0)] := hl
  refine lv_iload_n hx hb dX7_goBack_0 rfl (lv_at hl 1 rfl) ?_
  refine lv_iconst (v := 0) hx hb dX7_goBack_1 (by decide) ?_
  refine lv_iconst (v := 1) hx hb dX7_goBack_2 (by decide) ?_
  refine ro_i (D := D) (va_runS (As := [.int p0, .int 0, .int 1]) (rest := []) ⟨hx, hb, hml, hown, hts⟩ ((k_isIn l D k st lo p0 0 1) s.heap.size) (va_cwS 3 hts (gS tw_593 tw_594 tw_79 tw_595) rfl rfl rfl (by decide +kernel) ⟨Nat.le_of_ble_eq_true rfl, Nat.le_of_ble_eq_true rfl⟩) (pS hS hAlo hlo hP hK hDL hZ [] (by decide) rfl) rfl rfl hl.1 rfl (lv_room (Nat.le_of_ble_eq_true rfl)) dX7_goBack_3 ⟨Nat.le_of_ble_eq_true rfl, Nat.le_of_ble_eq_true rfl⟩) hS hA hP (fun r_1 H locs hw_1 hP hS => ?_)
  try dsimp only at hw_1
  rcases hw_1 with ⟨rfl, hw_1⟩ | ⟨rfl, hw_1⟩
  · refine lv_if_ne (tgt := 13) hx hb dX7_goBack_6 (by decide) (fun _ => ?_) (fun h => absurd h (by decide))
    refine lv_aload_n hx hb dX7_goBack_13 rfl (lv_at hl 0 rfl) ?_
    refine va_get (D := D) (ci := 7) (v := .ref (a 42)) (C := RX7) (T := TX7) (N := 12) hx hb hts inX7 hown hK hP 0 rfl rfl 9 (by decide) (hts _ tw_314) (fun _ h9 => h9) rfl dX7_goBack_14 ?_
    refine lv_iload_n hx hb dX7_goBack_17 rfl (lv_at hl 1 rfl) ?_
    refine va_zald hx hb hK hP 1 2 rfl rfl (vinB hw_1 (by decide)) dX7_goBack_18 ?_
    refine lv_ti (y := 0) (by rfl) ?_
    refine lv_if_ne (tgt := 26) hx hb dX7_goBack_19 (by decide) (fun h => absurd (by decide) h) (fun _ => ?_)
    refine lv_sipush (v := (-1003)) hx hb dX7_goBack_22 (by decide) ?_
    exact W.iret (v := (-1003)) hx hb hr (fun t ht hW => ⟨⟨(-1003), (), rfl, ⟨fun _ => rfl, fun h => absurd hw_1 h⟩, trivial⟩, hS.F ht⟩) hS.2.2 dX7_goBack_25
  · refine lv_if_ne (tgt := 13) hx hb dX7_goBack_6 (by decide) (fun h => absurd (by decide) h) (fun _ => ?_)
    refine lv_sipush (v := (-1001)) hx hb dX7_goBack_9 (by decide) ?_
    exact W.iret (v := (-1001)) hx hb hr (fun t ht hW => ⟨⟨(-1001), (), rfl, ⟨fun h => absurd h hw_1, fun _ => rfl⟩, trivial⟩, hS.F ht⟩) hS.2.2 dX7_goBack_12
end
section
theorem dX7_closeText_0 : decode cX7_closeText 0 = .ok (.aload_n 0, 1) := by decide +kernel
theorem dX7_closeText_1 : decode cX7_closeText 1 = .ok (.getfield 12, 3) := by decide +kernel
theorem dX7_closeText_4 : decode cX7_closeText 4 = .ok (.iconst 0, 1) := by decide +kernel
theorem dX7_closeText_5 : decode cX7_closeText 5 = .ok (.putfield 81, 3) := by decide +kernel
theorem dX7_closeText_8 : decode cX7_closeText 8 = .ok (.aload_n 0, 1) := by decide +kernel
theorem dX7_closeText_9 : decode cX7_closeText 9 = .ok (.getfield 12, 3) := by decide +kernel
theorem dX7_closeText_12 : decode cX7_closeText 12 = .ok (.invokevirtual 286, 3) := by decide +kernel
theorem dX7_closeText_15 : decode cX7_closeText 15 = .ok (.ifCond .ne 10, 3) := by decide +kernel
theorem dX7_closeText_25 : decode cX7_closeText 25 = .ok (.aload_n 0, 1) := by decide +kernel
theorem dX7_closeText_26 : decode cX7_closeText 26 = .ok (.aload_n 0, 1) := by decide +kernel
theorem dX7_closeText_27 : decode cX7_closeText 27 = .ok (.getfield 12, 3) := by decide +kernel
theorem dX7_closeText_30 : decode cX7_closeText 30 = .ok (.getfield 289, 3) := by decide +kernel
theorem dX7_closeText_33 : decode cX7_closeText 33 = .ok (.putfield 43, 3) := by decide +kernel
theorem dX7_closeText_36 : decode cX7_closeText 36 = .ok (.bipush (-10), 2) := by decide +kernel
theorem dX7_closeText_38 : decode cX7_closeText 38 = .ok (.aload_n 0, 1) := by decide +kernel
theorem dX7_closeText_39 : decode cX7_closeText 39 = .ok (.getfield 12, 3) := by decide +kernel
theorem dX7_closeText_42 : decode cX7_closeText 42 = .ok (.getfield 292, 3) := by decide +kernel
theorem dX7_closeText_45 : decode cX7_closeText 45 = .ok (.isub, 1) := by decide +kernel
theorem dX7_closeText_46 : decode cX7_closeText 46 = .ok (.ireturn, 1) := by decide +kernel
set_option maxHeartbeats 4000000 in
set_option maxRecDepth 100000 in
theorem k_closeText (l : Launch) (D : va_G) (k : Nat → ClassId) (st : Nat → Nat) (lo : Nat) (a : Nat → Nat)  : CWi l D k st lo yX7_closeText cX7_closeText 1 (some .int) ({ frames := 1, cells := 0, slots := 0, locals := 20 }) 0 0 [.ref (a 0)] [((a 0), .inr (7, [.ref (a 1), .ref (a 3), .ref (a 19), .ref (a 20), .ref (a 25), .int 0, .int (-1), .ref (a 32), .ref (a 35), .ref (a 42), .ref (a 43), .ref (a 44)])), ((a 1), .inr (6, [.ref (a 2), .int 0, .int 0, .int 0, .int 1, .int 0]))] (fun (r : Int32) (_ : Unit) => r = -11) (fun (_ : Unit) => []) := by
  intro sz
  refine Met.ofW (cc := cX7_closeText) (maxL := 1) (ret := (some .int)) (by decide) rfl ?_
  intro p e s m args below meth c s₁ B hml hv
  obtain ⟨rfl, hsz, hlo, hP, hK, hDL, hZ⟩ := hv
  have hx := B.exec
  have hb := B.bytes
  have hr := B.returns
  have hts := WS_ts B.pre
  have hown : s.vm.findClass RX7 = some m.cls := findClass_of_methodNamed B.named
  have hlocks := B.notSynchronized
  subst hsz
  have hD := hDL.self (sz := s.heap.size)
  have hAlo := A_lo hDL hlo
  generalize hAe : va_A [((a 0), .inr (7, [.ref (a 1), .ref (a 3), .ref (a 19), .ref (a 20), .ref (a 25), .int 0, .int (-1), .ref (a 32), .ref (a 35), .ref (a 42), .ref (a 43), .ref (a 44)])), ((a 1), .inr (6, [.ref (a 2), .int 0, .int 0, .int 0, .int 1, .int 0]))] s.heap.size = A at hD hAlo ⊢
  have hA : ∀ q : Nat, s.heap.size ≤ q → A q := fun q h => by rw [← hAe]; exact Or.inr h
  have hS : va_S A s.heap s.heap [] := va_S.rf
  have hl := lv_entry ([.ref (a 0)]) (n := 1) (Nat.le_of_ble_eq_true rfl)
  rw [lg_entry_eq]
  generalize (lg_sl ([.ref (a 0)]) ++ List.replicate (1 - (lg_sl ([.ref (a 0)])).length) Slot.unset).toArray = ls at hl ⊢
  have hl : lv_has ls 1 [(0, .ref (a 0))] := hl
  refine lv_aload_n hx hb dX7_closeText_0 rfl (lv_at hl 0 rfl) ?_
  refine va_get (D := D) (ci := 7) (v := .ref (a 1)) (C := RX7) (T := TX7) (N := 12) hx hb hts inX7 hown hK hP 0 rfl rfl 0 (by decide) (hts _ tw_305) (fun _ h9 => h9) rfl dX7_closeText_1 ?_
  refine lv_iconst (v := 0) hx hb dX7_closeText_4 (by decide) ?_
  refine va_put (D := D) (ci := 6) (v := .int 0) (ty := .int) (C := RX6) (T := TX6) (N := 6) hx hb hts inX6 tyX6 tyX6_ok nmX6 hown hK hP hD hS 1 rfl rfl 1 (by decide) (hts _ tw_111) (fun _ h9 => h9) rfl (by decide +kernel) rfl rfl (Nat.le_of_ble_eq_true rfl) dX7_closeText_5 (fun H locs hP hD hS => ?_)
  have hP : va_P D classes [((a 0), .inr (7, [.ref (a 1), .ref (a 3), .ref (a 19), .ref (a 20), .ref (a 25), .int 0, .int (-1), .ref (a 32), .ref (a 35), .ref (a 42), .ref (a 43), .ref (a 44)])), ((a 1), .inr (6, [.ref (a 2), .int 0, .int 0, .int 0, .int 1, .int 0]))] H := hP
  have hD : va_D A [((a 0), .inr (7, [.ref (a 1), .ref (a 3), .ref (a 19), .ref (a 20), .ref (a 25), .int 0, .int (-1), .ref (a 32), .ref (a 35), .ref (a 42), .ref (a 43), .ref (a 44)])), ((a 1), .inr (6, [.ref (a 2), .int 0, .int 0, .int 0, .int 1, .int 0]))] := hD
  refine lv_aload_n hx hb dX7_closeText_8 rfl (lv_at hl 0 rfl) ?_
  refine va_get (D := D) (ci := 7) (v := .ref (a 1)) (C := RX7) (T := TX7) (N := 12) hx hb hts inX7 hown hK hP 0 rfl rfl 0 (by decide) (hts _ tw_305) (fun _ h9 => h9) rfl dX7_closeText_9 ?_
  refine ro_i (D := D) (va_runV (As := []) (rest := []) ⟨hx, hb, hml, hown, hts⟩ ((k_failed l D k st lo (a 1) (a 2) 0 0 0 1 0) H.size) (cwV 0 hts (gV tw_500 tw_368 tw_369 tw_80 tw_370) rfl rfl rfl (by decide +kernel) ⟨Nat.le_of_ble_eq_true rfl, Nat.le_of_ble_eq_true rfl⟩) (pV hS hAlo hlo hP hK (va_Dlo hD hAlo) hZ [1] (by decide) rfl (ci := 6) (q0 := 0) rfl rfl) rfl rfl hl.1 rfl (lv_room (Nat.le_of_ble_eq_true rfl)) dX7_closeText_12 ⟨Nat.le_of_ble_eq_true rfl, Nat.le_of_ble_eq_true rfl⟩) hS hA hP (fun r_1 H locs hw_1 hP hS => ?_)
  try dsimp only at hw_1
  rcases hw_1 with ⟨rfl, hw_1⟩ | ⟨rfl, hw_1⟩
  · refine lv_if_ne (tgt := 25) hx hb dX7_closeText_15 (by decide) (fun _ => ?_) (fun h => absurd h (by decide))
    refine lv_aload_n hx hb dX7_closeText_25 rfl (lv_at hl 0 rfl) ?_
    refine lv_aload_n hx hb dX7_closeText_26 rfl (lv_at hl 0 rfl) ?_
    refine va_get (D := D) (ci := 7) (v := .ref (a 1)) (C := RX7) (T := TX7) (N := 12) hx hb hts inX7 hown hK hP 0 rfl rfl 0 (by decide) (hts _ tw_305) (fun _ h9 => h9) rfl dX7_closeText_27 ?_
    refine va_get (D := D) (ci := 6) (v := .int 0) (C := RX6) (T := TX6) (N := 6) hx hb hts inX6 hown hK hP 1 rfl rfl 5 (by decide) (hts _ tw_122) (fun _ h9 => h9) rfl dX7_closeText_30 ?_
    refine va_put (D := D) (ci := 7) (v := .int 0) (ty := .int) (C := RX7) (T := TX7) (N := 12) hx hb hts inX7 tyX7 tyX7_ok nmX7 hown hK hP hD hS 0 rfl rfl 6 (by decide) (hts _ tw_311) (fun _ h9 => h9) rfl (by decide +kernel) rfl rfl (Nat.le_of_ble_eq_true rfl) dX7_closeText_33 (fun H locs hP hD hS => ?_)
    have hP : va_P D classes [((a 0), .inr (7, [.ref (a 1), .ref (a 3), .ref (a 19), .ref (a 20), .ref (a 25), .int 0, .int 0, .ref (a 32), .ref (a 35), .ref (a 42), .ref (a 43), .ref (a 44)])), ((a 1), .inr (6, [.ref (a 2), .int 0, .int 0, .int 0, .int 1, .int 0]))] H := hP
    have hD : va_D A [((a 0), .inr (7, [.ref (a 1), .ref (a 3), .ref (a 19), .ref (a 20), .ref (a 25), .int 0, .int 0, .ref (a 32), .ref (a 35), .ref (a 42), .ref (a 43), .ref (a 44)])), ((a 1), .inr (6, [.ref (a 2), .int 0, .int 0, .int 0, .int 1, .int 0]))] := hD
    refine lv_bipush (v := (-10)) hx hb dX7_closeText_36 (by decide) ?_
    refine lv_aload_n hx hb dX7_closeText_38 rfl (lv_at hl 0 rfl) ?_
    refine va_get (D := D) (ci := 7) (v := .ref (a 1)) (C := RX7) (T := TX7) (N := 12) hx hb hts inX7 hown hK hP 0 rfl rfl 0 (by decide) (hts _ tw_305) (fun _ h9 => h9) rfl dX7_closeText_39 ?_
    refine va_get (D := D) (ci := 6) (v := .int 1) (C := RX6) (T := TX6) (N := 6) hx hb hts inX6 hown hK hP 1 rfl rfl 4 (by decide) (hts _ tw_120) (fun _ h9 => h9) rfl dX7_closeText_42 ?_
    refine lv_isub hx hb dX7_closeText_45 ?_
    refine lv_ti (y := (-11)) (by decide) ?_
    have hP9 := hP.sub (ws' := []) [] rfl
    have hD9 := hD.sub (ws' := []) [] (by decide) rfl
    exact W.iret (v := (-11)) hx hb hr (fun t ht hW => ⟨⟨(-11), (), rfl, rfl, by rw [ht]; exact hP9, hD9⟩, hS.F ht⟩) hS.2.2 dX7_closeText_46
  · exact absurd hw_1 (by decide)
end
section
theorem dX7_street_0 : decode cX7_street 0 = .ok (.iload_n 1, 1) := by decide +kernel
theorem dX7_street_1 : decode cX7_street 1 = .ok (.ifCond .lt 8, 3) := by decide +kernel
theorem dX7_street_4 : decode cX7_street 4 = .ok (.iload_n 1, 1) := by decide +kernel
theorem dX7_street_5 : decode cX7_street 5 = .ok (.iconst 3, 1) := by decide +kernel
theorem dX7_street_6 : decode cX7_street 6 = .ok (.if_icmp .lt 7, 3) := by decide +kernel
theorem dX7_street_9 : decode cX7_street 9 = .ok (.sipush (-1001), 3) := by decide +kernel
theorem dX7_street_12 : decode cX7_street 12 = .ok (.ireturn, 1) := by decide +kernel
theorem dX7_street_13 : decode cX7_street 13 = .ok (.aload_n 0, 1) := by decide +kernel
theorem dX7_street_14 : decode cX7_street 14 = .ok (.getfield 12, 3) := by decide +kernel
theorem dX7_street_17 : decode cX7_street 17 = .ok (.invokevirtual 88, 3) := by decide +kernel
theorem dX7_street_20 : decode cX7_street 20 = .ok (.aload_n 0, 1) := by decide +kernel
theorem dX7_street_21 : decode cX7_street 21 = .ok (.getfield 29, 3) := by decide +kernel
theorem dX7_street_24 : decode cX7_street 24 = .ok (.aload_n 0, 1) := by decide +kernel
theorem dX7_street_25 : decode cX7_street 25 = .ok (.getfield 12, 3) := by decide +kernel
theorem dX7_street_28 : decode cX7_street 28 = .ok (.invokevirtual 91, 3) := by decide +kernel
theorem dX7_street_31 : decode cX7_street 31 = .ok (.aload_n 0, 1) := by decide +kernel
theorem dX7_street_32 : decode cX7_street 32 = .ok (.invokevirtual 95, 3) := by decide +kernel
theorem dX7_street_35 : decode cX7_street 35 = .ok (.istore_n 2, 1) := by decide +kernel
theorem dX7_street_36 : decode cX7_street 36 = .ok (.iload_n 2, 1) := by decide +kernel
theorem dX7_street_37 : decode cX7_street 37 = .ok (.ifCond .ge 5, 3) := by decide +kernel
theorem dX7_street_40 : decode cX7_street 40 = .ok (.iload_n 2, 1) := by decide +kernel
theorem dX7_street_41 : decode cX7_street 41 = .ok (.ireturn, 1) := by decide +kernel
set_option maxHeartbeats 4000000 in
set_option maxRecDepth 100000 in
theorem k_street (l : Launch) (D : va_G) (k : Nat → ClassId) (st : Nat → Nat) (lo : Nat) (a : Nat → Nat) (p0 : Int32)  : CWi l D k st lo yX7_street cX7_street 3 (some .int) ({ frames := 3, cells := 0, slots := 0, locals := 85 }) 0 0 [.ref (a 0), .int p0] [((a 0), .inr (7, [.ref (a 1), .ref (a 3), .ref (a 19), .ref (a 20), .ref (a 25), .int 0, .int (-1), .ref (a 32), .ref (a 35), .ref (a 42), .ref (a 43), .ref (a 44)])), ((a 1), .inr (6, [.ref (a 2), .int 0, .int 0, .int 0, .int 0, .int 0])), ((a 20), .inr (5, [.ref (a 21), .ref (a 22), .ref (a 23), .ref (a 24)])), ((a 21), .inl (k 1, 10, .inl (fun _ => 0)))] (fun (r : Int32) (_ : Unit) => (inB p0 0 2 → r = -11) ∧ (¬ (inB p0 0 2) → r = -1001)) (fun (_ : Unit) => []) := by
  intro sz
  refine Met.ofW (cc := cX7_street) (maxL := 3) (ret := (some .int)) (by decide) rfl ?_
  intro p e s m args below meth c s₁ B hml hv
  obtain ⟨rfl, hsz, hlo, hP, hK, hDL, hZ⟩ := hv
  have hx := B.exec
  have hb := B.bytes
  have hr := B.returns
  have hts := WS_ts B.pre
  have hown : s.vm.findClass RX7 = some m.cls := findClass_of_methodNamed B.named
  have hlocks := B.notSynchronized
  subst hsz
  have hD := hDL.self (sz := s.heap.size)
  have hAlo := A_lo hDL hlo
  generalize hAe : va_A [((a 0), .inr (7, [.ref (a 1), .ref (a 3), .ref (a 19), .ref (a 20), .ref (a 25), .int 0, .int (-1), .ref (a 32), .ref (a 35), .ref (a 42), .ref (a 43), .ref (a 44)])), ((a 1), .inr (6, [.ref (a 2), .int 0, .int 0, .int 0, .int 0, .int 0])), ((a 20), .inr (5, [.ref (a 21), .ref (a 22), .ref (a 23), .ref (a 24)])), ((a 21), .inl (k 1, 10, .inl (fun _ => 0)))] s.heap.size = A at hD hAlo ⊢
  have hA : ∀ q : Nat, s.heap.size ≤ q → A q := fun q h => by rw [← hAe]; exact Or.inr h
  have hS : va_S A s.heap s.heap [] := va_S.rf
  have hl := lv_entry ([.ref (a 0), .int p0]) (n := 3) (Nat.le_of_ble_eq_true rfl)
  rw [lg_entry_eq]
  generalize (lg_sl ([.ref (a 0), .int p0]) ++ List.replicate (3 - (lg_sl ([.ref (a 0), .int p0])).length) Slot.unset).toArray = ls at hl ⊢
  have hl : lv_has ls 3 [(0, .ref (a 0)), (1, .int p0)] := hl
  refine lv_iload_n hx hb dX7_street_0 rfl (lv_at hl 1 rfl) ?_
  refine lv_if_lt (tgt := 9) hx hb dX7_street_1 (by decide) (fun c_1 => ?_) (fun c_1 => ?_)
  · refine lv_sipush (v := (-1001)) hx hb dX7_street_9 (by decide) ?_
    have hP9 := hP.sub (ws' := []) [] rfl
    have hD9 := hD.sub (ws' := []) [] (by decide) rfl
    exact W.iret (v := (-1001)) hx hb hr (fun t ht hW => ⟨⟨(-1001), (), rfl, (by first | exact ⟨fun h => absurd c_1 (Int32.not_lt.mpr h.1), fun _ => rfl⟩ | exact ⟨fun h => absurd (lt3.mpr h.2) c_2, fun _ => rfl⟩), by rw [ht]; exact hP9, hD9⟩, hS.F ht⟩) hS.2.2 dX7_street_12
  · refine lv_iload_n hx hb dX7_street_4 rfl (lv_at hl 1 rfl) ?_
    refine lv_iconst (v := 3) hx hb dX7_street_5 (by decide) ?_
    refine lv_icmp_lt (tgt := 13) hx hb dX7_street_6 (by decide) (fun c_2 => ?_) (fun c_2 => ?_)
    · refine lv_aload_n hx hb dX7_street_13 rfl (lv_at hl 0 rfl) ?_
      refine va_get (D := D) (ci := 7) (v := .ref (a 1)) (C := RX7) (T := TX7) (N := 12) hx hb hts inX7 hown hK hP 0 rfl rfl 0 (by decide) (hts _ tw_305) (fun _ h9 => h9) rfl dX7_street_14 ?_
      refine rw_v (D := D) (wr := [((a 0), .inr (7, [.ref (a 1), .ref (a 3), .ref (a 19), .ref (a 20), .ref (a 25), .int 0, .int (-1), .ref (a 32), .ref (a 35), .ref (a 42), .ref (a 43), .ref (a 44)])), ((a 20), .inr (5, [.ref (a 21), .ref (a 22), .ref (a 23), .ref (a 24)])), ((a 21), .inl (k 1, 10, .inl (fun _ => 0)))]) (va_runV (As := []) (rest := []) ⟨hx, hb, hml, hown, hts⟩ ((k_rewind l D k st lo (a 1) (a 2)) s.heap.size) (cwV 0 hts (gV tw_354 tw_355 tw_356 tw_80 tw_357) rfl rfl rfl (by decide +kernel) ⟨Nat.le_of_ble_eq_true rfl, Nat.le_of_ble_eq_true rfl⟩) (pV hS hAlo hlo hP hK (va_Dlo hD hAlo) hZ [1] (by decide) rfl (ci := 6) (q0 := 0) rfl rfl) rfl rfl hl.1 rfl (lv_room (Nat.le_of_ble_eq_true rfl)) dX7_street_17 ⟨Nat.le_of_ble_eq_true rfl, Nat.le_of_ble_eq_true rfl⟩) hS hA hP hD [1] [0, 2, 3] rfl rfl (by decide) (by decide) (fun u H locs hw_3 hP hD hS => ?_)
      have hP : va_P D classes [((a 0), .inr (7, [.ref (a 1), .ref (a 3), .ref (a 19), .ref (a 20), .ref (a 25), .int 0, .int (-1), .ref (a 32), .ref (a 35), .ref (a 42), .ref (a 43), .ref (a 44)])), ((a 20), .inr (5, [.ref (a 21), .ref (a 22), .ref (a 23), .ref (a 24)])), ((a 21), .inl (k 1, 10, .inl (fun _ => 0))), ((a 1), .inr (6, [.ref (a 2), .int 0, .int 0, .int 0, .int 0, .int 0]))] H := hP
      have hD : va_D A [((a 0), .inr (7, [.ref (a 1), .ref (a 3), .ref (a 19), .ref (a 20), .ref (a 25), .int 0, .int (-1), .ref (a 32), .ref (a 35), .ref (a 42), .ref (a 43), .ref (a 44)])), ((a 20), .inr (5, [.ref (a 21), .ref (a 22), .ref (a 23), .ref (a 24)])), ((a 21), .inl (k 1, 10, .inl (fun _ => 0))), ((a 1), .inr (6, [.ref (a 2), .int 0, .int 0, .int 0, .int 0, .int 0]))] := hD
      try dsimp only at hw_3
      refine lv_aload_n hx hb dX7_street_20 rfl (lv_at hl 0 rfl) ?_
      refine va_get (D := D) (ci := 7) (v := .ref (a 20)) (C := RX7) (T := TX7) (N := 12) hx hb hts inX7 hown hK hP 0 rfl rfl 3 (by decide) (hts _ tw_308) (fun _ h9 => h9) rfl dX7_street_21 ?_
      refine lv_aload_n hx hb dX7_street_24 rfl (lv_at hl 0 rfl) ?_
      refine va_get (D := D) (ci := 7) (v := .ref (a 1)) (C := RX7) (T := TX7) (N := 12) hx hb hts inX7 hown hK hP 0 rfl rfl 0 (by decide) (hts _ tw_305) (fun _ h9 => h9) rfl dX7_street_25 ?_
      refine rw_v (D := D) (wr := [((a 0), .inr (7, [.ref (a 1), .ref (a 3), .ref (a 19), .ref (a 20), .ref (a 25), .int 0, .int (-1), .ref (a 32), .ref (a 35), .ref (a 42), .ref (a 43), .ref (a 44)]))]) (va_runV (As := [.ref (a 1)]) (rest := []) ⟨hx, hb, hml, hown, hts⟩ ((k_Street_readFrom l D k st lo (a 20) (a 21) (a 22) (a 23) (a 24) (a 1) (a 2)) H.size) (cwV 1 hts (gV tw_358 tw_359 tw_360 tw_81 tw_361) rfl rfl rfl (by decide +kernel) ⟨Nat.le_of_ble_eq_true rfl, Nat.le_of_ble_eq_true rfl⟩) (pV hS hAlo hlo hP hK (va_Dlo hD hAlo) hZ [1, 2, 3] (by decide) rfl (ci := 5) (q0 := 0) rfl rfl) rfl rfl hl.1 rfl (lv_room (Nat.le_of_ble_eq_true rfl)) dX7_street_28 ⟨Nat.le_of_ble_eq_true rfl, Nat.le_of_ble_eq_true rfl⟩) hS hA hP hD [1, 2, 3] [0] rfl rfl (by decide) (by decide) (fun u H locs hw_4 hP hD hS => ?_)
      have hP : va_P D classes [((a 0), .inr (7, [.ref (a 1), .ref (a 3), .ref (a 19), .ref (a 20), .ref (a 25), .int 0, .int (-1), .ref (a 32), .ref (a 35), .ref (a 42), .ref (a 43), .ref (a 44)])), ((a 1), .inr (6, [.ref (a 2), .int 0, .int 0, .int 0, .int 1, .int 0]))] H := hP
      have hD : va_D A [((a 0), .inr (7, [.ref (a 1), .ref (a 3), .ref (a 19), .ref (a 20), .ref (a 25), .int 0, .int (-1), .ref (a 32), .ref (a 35), .ref (a 42), .ref (a 43), .ref (a 44)])), ((a 1), .inr (6, [.ref (a 2), .int 0, .int 0, .int 0, .int 1, .int 0]))] := hD
      try dsimp only at hw_4
      refine lv_aload_n hx hb dX7_street_31 rfl (lv_at hl 0 rfl) ?_
      refine rw_i (D := D) (wr := []) (va_runV (As := []) (rest := []) ⟨hx, hb, hml, hown, hts⟩ ((k_closeText l D k st lo a) H.size) (cwV 0 hts (gV tw_496 tw_498 tw_2 tw_79 tw_499) rfl rfl rfl (by decide +kernel) ⟨Nat.le_of_ble_eq_true rfl, Nat.le_of_ble_eq_true rfl⟩) (pV hS hAlo hlo hP hK (va_Dlo hD hAlo) hZ [0, 1] (by decide) rfl (ci := 7) (q0 := 0) rfl rfl) rfl rfl hl.1 rfl (lv_room (Nat.le_of_ble_eq_true rfl)) dX7_street_32 ⟨Nat.le_of_ble_eq_true rfl, Nat.le_of_ble_eq_true rfl⟩) hS hA hP hD [0, 1] [] rfl rfl (by decide) (by decide) (fun r_5 u H locs hw_5 hP hD hS => ?_)
      have hP : va_P D classes [] H := hP
      have hD : va_D A [] := hD
      try dsimp only at hw_5
      subst hw_5
      refine lv_istore_n (lv' := [(2, .int (-11)), (0, .ref (a 0)), (1, .int p0)]) hx hb dX7_street_35 rfl hl (by decide) rfl (fun ls hl => ?_)
      refine lv_iload_n hx hb dX7_street_36 rfl (lv_at hl 0 rfl) ?_
      refine lv_if_ge (tgt := 42) hx hb dX7_street_37 (by decide) (fun h => absurd h (by decide)) (fun _ => ?_)
      refine lv_iload_n hx hb dX7_street_40 rfl (lv_at hl 0 rfl) ?_
      have hP9 := hP.sub (ws' := []) [] rfl
      have hD9 := hD.sub (ws' := []) [] (by decide) rfl
      exact W.iret (v := (-11)) hx hb hr (fun t ht hW => ⟨⟨(-11), (), rfl, ⟨fun _ => rfl, fun h => absurd ⟨Int32.not_lt.mp c_1, lt3.mp c_2⟩ h⟩, by rw [ht]; exact hP9, hD9⟩, hS.F ht⟩) hS.2.2 dX7_street_41
    · refine lv_sipush (v := (-1001)) hx hb dX7_street_9 (by decide) ?_
      have hP9 := hP.sub (ws' := []) [] rfl
      have hD9 := hD.sub (ws' := []) [] (by decide) rfl
      exact W.iret (v := (-1001)) hx hb hr (fun t ht hW => ⟨⟨(-1001), (), rfl, (by first | exact ⟨fun h => absurd c_1 (Int32.not_lt.mpr h.1), fun _ => rfl⟩ | exact ⟨fun h => absurd (lt3.mpr h.2) c_2, fun _ => rfl⟩), by rw [ht]; exact hP9, hD9⟩, hS.F ht⟩) hS.2.2 dX7_street_12
end
section
theorem dX7_rule_0 : decode cX7_rule 0 = .ok (.aload_n 0, 1) := by decide +kernel
theorem dX7_rule_1 : decode cX7_rule 1 = .ok (.getfield 12, 3) := by decide +kernel
theorem dX7_rule_4 : decode cX7_rule 4 = .ok (.getfield 81, 3) := by decide +kernel
theorem dX7_rule_7 : decode cX7_rule 7 = .ok (.bipush 80, 2) := by decide +kernel
theorem dX7_rule_9 : decode cX7_rule 9 = .ok (.if_icmp .le 7, 3) := by decide +kernel
theorem dX7_rule_16 : decode cX7_rule 16 = .ok (.aload_n 0, 1) := by decide +kernel
theorem dX7_rule_17 : decode cX7_rule 17 = .ok (.getfield 39, 3) := by decide +kernel
theorem dX7_rule_20 : decode cX7_rule 20 = .ok (.iconst 4, 1) := by decide +kernel
theorem dX7_rule_21 : decode cX7_rule 21 = .ok (.if_icmp .lt 7, 3) := by decide +kernel
theorem dX7_rule_28 : decode cX7_rule 28 = .ok (.aload_n 0, 1) := by decide +kernel
theorem dX7_rule_29 : decode cX7_rule 29 = .ok (.getfield 12, 3) := by decide +kernel
theorem dX7_rule_32 : decode cX7_rule 32 = .ok (.invokevirtual 88, 3) := by decide +kernel
theorem dX7_rule_35 : decode cX7_rule 35 = .ok (.aload_n 0, 1) := by decide +kernel
theorem dX7_rule_36 : decode cX7_rule 36 = .ok (.getfield 35, 3) := by decide +kernel
theorem dX7_rule_39 : decode cX7_rule 39 = .ok (.aload_n 0, 1) := by decide +kernel
theorem dX7_rule_40 : decode cX7_rule 40 = .ok (.getfield 39, 3) := by decide +kernel
theorem dX7_rule_43 : decode cX7_rule 43 = .ok (.aaload, 1) := by decide +kernel
theorem dX7_rule_44 : decode cX7_rule 44 = .ok (.aload_n 0, 1) := by decide +kernel
theorem dX7_rule_45 : decode cX7_rule 45 = .ok (.getfield 12, 3) := by decide +kernel
theorem dX7_rule_48 : decode cX7_rule 48 = .ok (.invokevirtual 168, 3) := by decide +kernel
theorem dX7_rule_51 : decode cX7_rule 51 = .ok (.aload_n 0, 1) := by decide +kernel
theorem dX7_rule_52 : decode cX7_rule 52 = .ok (.invokevirtual 95, 3) := by decide +kernel
theorem dX7_rule_55 : decode cX7_rule 55 = .ok (.istore_n 1, 1) := by decide +kernel
theorem dX7_rule_56 : decode cX7_rule 56 = .ok (.iload_n 1, 1) := by decide +kernel
theorem dX7_rule_57 : decode cX7_rule 57 = .ok (.ifCond .ge 5, 3) := by decide +kernel
theorem dX7_rule_60 : decode cX7_rule 60 = .ok (.iload_n 1, 1) := by decide +kernel
theorem dX7_rule_61 : decode cX7_rule 61 = .ok (.ireturn, 1) := by decide +kernel
set_option maxHeartbeats 4000000 in
set_option maxRecDepth 100000 in
theorem k_rule (l : Launch) (D : va_G) (k : Nat → ClassId) (st : Nat → Nat) (lo : Nat) (a : Nat → Nat)  : CWi l D k st lo yX7_rule cX7_rule 2 (some .int) ({ frames := 7, cells := 0, slots := 0, locals := 151 }) 0 0 [.ref (a 0)] [((a 0), .inr (7, [.ref (a 1), .ref (a 3), .ref (a 19), .ref (a 20), .ref (a 25), .int 0, .int (-1), .ref (a 32), .ref (a 35), .ref (a 42), .ref (a 43), .ref (a 44)])), ((a 1), .inr (6, [.ref (a 2), .int 0, .int 0, .int 0, .int 0, .int 0])), ((a 25), .inl (k 5, 4, .inr (.inr (.inr (.inr (a4 (a 26) (a 27) (a 28) (a 29))))))), ((a 26), .inr (3, [.ref (a 30), .ref (a 31), .int 0, .int 0, .int 0]))] (fun (r : Int32) (_ : Unit) => r = -11) (fun (_ : Unit) => []) := by
  intro sz
  refine Met.ofW (cc := cX7_rule) (maxL := 2) (ret := (some .int)) (by decide) rfl ?_
  intro p e s m args below meth c s₁ B hml hv
  obtain ⟨rfl, hsz, hlo, hP, hK, hDL, hZ⟩ := hv
  have hx := B.exec
  have hb := B.bytes
  have hr := B.returns
  have hts := WS_ts B.pre
  have hown : s.vm.findClass RX7 = some m.cls := findClass_of_methodNamed B.named
  have hlocks := B.notSynchronized
  subst hsz
  have hD := hDL.self (sz := s.heap.size)
  have hAlo := A_lo hDL hlo
  generalize hAe : va_A [((a 0), .inr (7, [.ref (a 1), .ref (a 3), .ref (a 19), .ref (a 20), .ref (a 25), .int 0, .int (-1), .ref (a 32), .ref (a 35), .ref (a 42), .ref (a 43), .ref (a 44)])), ((a 1), .inr (6, [.ref (a 2), .int 0, .int 0, .int 0, .int 0, .int 0])), ((a 25), .inl (k 5, 4, .inr (.inr (.inr (.inr (a4 (a 26) (a 27) (a 28) (a 29))))))), ((a 26), .inr (3, [.ref (a 30), .ref (a 31), .int 0, .int 0, .int 0]))] s.heap.size = A at hD hAlo ⊢
  have hA : ∀ q : Nat, s.heap.size ≤ q → A q := fun q h => by rw [← hAe]; exact Or.inr h
  have hS : va_S A s.heap s.heap [] := va_S.rf
  have hl := lv_entry ([.ref (a 0)]) (n := 2) (Nat.le_of_ble_eq_true rfl)
  rw [lg_entry_eq]
  generalize (lg_sl ([.ref (a 0)]) ++ List.replicate (2 - (lg_sl ([.ref (a 0)])).length) Slot.unset).toArray = ls at hl ⊢
  have hl : lv_has ls 2 [(0, .ref (a 0))] := hl
  refine lv_aload_n hx hb dX7_rule_0 rfl (lv_at hl 0 rfl) ?_
  refine va_get (D := D) (ci := 7) (v := .ref (a 1)) (C := RX7) (T := TX7) (N := 12) hx hb hts inX7 hown hK hP 0 rfl rfl 0 (by decide) (hts _ tw_305) (fun _ h9 => h9) rfl dX7_rule_1 ?_
  refine va_get (D := D) (ci := 6) (v := .int 0) (C := RX6) (T := TX6) (N := 6) hx hb hts inX6 hown hK hP 1 rfl rfl 1 (by decide) (hts _ tw_111) (fun _ h9 => h9) rfl dX7_rule_4 ?_
  refine lv_bipush (v := 80) hx hb dX7_rule_7 (by decide) ?_
  refine lv_icmp_le (tgt := 16) hx hb dX7_rule_9 (by decide) (fun _ => ?_) (fun h => absurd (by decide) h)
  refine lv_aload_n hx hb dX7_rule_16 rfl (lv_at hl 0 rfl) ?_
  refine va_get (D := D) (ci := 7) (v := .int 0) (C := RX7) (T := TX7) (N := 12) hx hb hts inX7 hown hK hP 0 rfl rfl 5 (by decide) (hts _ tw_310) (fun _ h9 => h9) rfl dX7_rule_17 ?_
  refine lv_iconst (v := 4) hx hb dX7_rule_20 (by decide) ?_
  refine lv_icmp_lt (tgt := 28) hx hb dX7_rule_21 (by decide) (fun _ => ?_) (fun h => absurd (by decide) h)
  refine lv_aload_n hx hb dX7_rule_28 rfl (lv_at hl 0 rfl) ?_
  refine va_get (D := D) (ci := 7) (v := .ref (a 1)) (C := RX7) (T := TX7) (N := 12) hx hb hts inX7 hown hK hP 0 rfl rfl 0 (by decide) (hts _ tw_305) (fun _ h9 => h9) rfl dX7_rule_29 ?_
  refine rw_v (D := D) (wr := [((a 0), .inr (7, [.ref (a 1), .ref (a 3), .ref (a 19), .ref (a 20), .ref (a 25), .int 0, .int (-1), .ref (a 32), .ref (a 35), .ref (a 42), .ref (a 43), .ref (a 44)])), ((a 25), .inl (k 5, 4, .inr (.inr (.inr (.inr (a4 (a 26) (a 27) (a 28) (a 29))))))), ((a 26), .inr (3, [.ref (a 30), .ref (a 31), .int 0, .int 0, .int 0]))]) (va_runV (As := []) (rest := []) ⟨hx, hb, hml, hown, hts⟩ ((k_rewind l D k st lo (a 1) (a 2)) s.heap.size) (cwV 0 hts (gV tw_354 tw_355 tw_356 tw_80 tw_357) rfl rfl rfl (by decide +kernel) ⟨Nat.le_of_ble_eq_true rfl, Nat.le_of_ble_eq_true rfl⟩) (pV hS hAlo hlo hP hK (va_Dlo hD hAlo) hZ [1] (by decide) rfl (ci := 6) (q0 := 0) rfl rfl) rfl rfl hl.1 rfl (lv_room (Nat.le_of_ble_eq_true rfl)) dX7_rule_32 ⟨Nat.le_of_ble_eq_true rfl, Nat.le_of_ble_eq_true rfl⟩) hS hA hP hD [1] [0, 2, 3] rfl rfl (by decide) (by decide) (fun u H locs hw_1 hP hD hS => ?_)
  have hP : va_P D classes [((a 0), .inr (7, [.ref (a 1), .ref (a 3), .ref (a 19), .ref (a 20), .ref (a 25), .int 0, .int (-1), .ref (a 32), .ref (a 35), .ref (a 42), .ref (a 43), .ref (a 44)])), ((a 25), .inl (k 5, 4, .inr (.inr (.inr (.inr (a4 (a 26) (a 27) (a 28) (a 29))))))), ((a 26), .inr (3, [.ref (a 30), .ref (a 31), .int 0, .int 0, .int 0])), ((a 1), .inr (6, [.ref (a 2), .int 0, .int 0, .int 0, .int 0, .int 0]))] H := hP
  have hD : va_D A [((a 0), .inr (7, [.ref (a 1), .ref (a 3), .ref (a 19), .ref (a 20), .ref (a 25), .int 0, .int (-1), .ref (a 32), .ref (a 35), .ref (a 42), .ref (a 43), .ref (a 44)])), ((a 25), .inl (k 5, 4, .inr (.inr (.inr (.inr (a4 (a 26) (a 27) (a 28) (a 29))))))), ((a 26), .inr (3, [.ref (a 30), .ref (a 31), .int 0, .int 0, .int 0])), ((a 1), .inr (6, [.ref (a 2), .int 0, .int 0, .int 0, .int 0, .int 0]))] := hD
  try dsimp only at hw_1
  refine lv_aload_n hx hb dX7_rule_35 rfl (lv_at hl 0 rfl) ?_
  refine va_get (D := D) (ci := 7) (v := .ref (a 25)) (C := RX7) (T := TX7) (N := 12) hx hb hts inX7 hown hK hP 0 rfl rfl 4 (by decide) (hts _ tw_309) (fun _ h9 => h9) rfl dX7_rule_36 ?_
  refine lv_aload_n hx hb dX7_rule_39 rfl (lv_at hl 0 rfl) ?_
  refine va_get (D := D) (ci := 7) (v := .int 0) (C := RX7) (T := TX7) (N := 12) hx hb hts inX7 hown hK hP 0 rfl rfl 5 (by decide) (hts _ tw_310) (fun _ h9 => h9) rfl dX7_rule_40 ?_
  refine va_aldq hx hb hK hP 1 5 rfl rfl (by unfold vp_in; decide) dX7_rule_43 ?_
  refine lv_tr (y := .ref (a 26)) rfl ?_
  refine lv_aload_n hx hb dX7_rule_44 rfl (lv_at hl 0 rfl) ?_
  refine va_get (D := D) (ci := 7) (v := .ref (a 1)) (C := RX7) (T := TX7) (N := 12) hx hb hts inX7 hown hK hP 0 rfl rfl 0 (by decide) (hts _ tw_305) (fun _ h9 => h9) rfl dX7_rule_45 ?_
  refine rw_v (D := D) (wr := [((a 0), .inr (7, [.ref (a 1), .ref (a 3), .ref (a 19), .ref (a 20), .ref (a 25), .int 0, .int (-1), .ref (a 32), .ref (a 35), .ref (a 42), .ref (a 43), .ref (a 44)])), ((a 25), .inl (k 5, 4, .inr (.inr (.inr (.inr (a4 (a 26) (a 27) (a 28) (a 29)))))))]) (va_runV (As := [.ref (a 1)]) (rest := []) ⟨hx, hb, hml, hown, hts⟩ ((k_Rule_readFrom l D k st lo (a 26) (a 30) (a 31) (a 1) (a 2)) H.size) (cwV 1 hts (gV tw_675 tw_676 tw_677 tw_86 tw_678) rfl rfl rfl (by decide +kernel) ⟨Nat.le_of_ble_eq_true rfl, Nat.le_of_ble_eq_true rfl⟩) (pV hS hAlo hlo hP hK (va_Dlo hD hAlo) hZ [2, 3] (by decide) rfl (ci := 3) (q0 := 0) rfl rfl) rfl rfl hl.1 rfl (lv_room (Nat.le_of_ble_eq_true rfl)) dX7_rule_48 ⟨Nat.le_of_ble_eq_true rfl, Nat.le_of_ble_eq_true rfl⟩) hS hA hP hD [2, 3] [0, 1] rfl rfl (by decide) (by decide) (fun u H locs hw_2 hP hD hS => ?_)
  have hP : va_P D classes [((a 0), .inr (7, [.ref (a 1), .ref (a 3), .ref (a 19), .ref (a 20), .ref (a 25), .int 0, .int (-1), .ref (a 32), .ref (a 35), .ref (a 42), .ref (a 43), .ref (a 44)])), ((a 25), .inl (k 5, 4, .inr (.inr (.inr (.inr (a4 (a 26) (a 27) (a 28) (a 29))))))), ((a 1), .inr (6, [.ref (a 2), .int 0, .int 0, .int 0, .int 1, .int 0]))] H := hP
  have hD : va_D A [((a 0), .inr (7, [.ref (a 1), .ref (a 3), .ref (a 19), .ref (a 20), .ref (a 25), .int 0, .int (-1), .ref (a 32), .ref (a 35), .ref (a 42), .ref (a 43), .ref (a 44)])), ((a 25), .inl (k 5, 4, .inr (.inr (.inr (.inr (a4 (a 26) (a 27) (a 28) (a 29))))))), ((a 1), .inr (6, [.ref (a 2), .int 0, .int 0, .int 0, .int 1, .int 0]))] := hD
  try dsimp only at hw_2
  refine lv_aload_n hx hb dX7_rule_51 rfl (lv_at hl 0 rfl) ?_
  refine rw_i (D := D) (wr := [((a 25), .inl (k 5, 4, .inr (.inr (.inr (.inr (a4 (a 26) (a 27) (a 28) (a 29)))))))]) (va_runV (As := []) (rest := []) ⟨hx, hb, hml, hown, hts⟩ ((k_closeText l D k st lo a) H.size) (cwV 0 hts (gV tw_496 tw_498 tw_2 tw_79 tw_499) rfl rfl rfl (by decide +kernel) ⟨Nat.le_of_ble_eq_true rfl, Nat.le_of_ble_eq_true rfl⟩) (pV hS hAlo hlo hP hK (va_Dlo hD hAlo) hZ [0, 2] (by decide) rfl (ci := 7) (q0 := 0) rfl rfl) rfl rfl hl.1 rfl (lv_room (Nat.le_of_ble_eq_true rfl)) dX7_rule_52 ⟨Nat.le_of_ble_eq_true rfl, Nat.le_of_ble_eq_true rfl⟩) hS hA hP hD [0, 2] [1] rfl rfl (by decide) (by decide) (fun r_3 u H locs hw_3 hP hD hS => ?_)
  have hP : va_P D classes [((a 25), .inl (k 5, 4, .inr (.inr (.inr (.inr (a4 (a 26) (a 27) (a 28) (a 29)))))))] H := hP
  have hD : va_D A [((a 25), .inl (k 5, 4, .inr (.inr (.inr (.inr (a4 (a 26) (a 27) (a 28) (a 29)))))))] := hD
  try dsimp only at hw_3
  subst hw_3
  refine lv_istore_n (lv' := [(1, .int (-11)), (0, .ref (a 0))]) hx hb dX7_rule_55 rfl hl (by decide) rfl (fun ls hl => ?_)
  refine lv_iload_n hx hb dX7_rule_56 rfl (lv_at hl 0 rfl) ?_
  refine lv_if_ge (tgt := 62) hx hb dX7_rule_57 (by decide) (fun h => absurd h (by decide)) (fun _ => ?_)
  refine lv_iload_n hx hb dX7_rule_60 rfl (lv_at hl 0 rfl) ?_
  have hP9 := hP.sub (ws' := []) [] rfl
  have hD9 := hD.sub (ws' := []) [] (by decide) rfl
  exact W.iret (v := (-11)) hx hb hr (fun t ht hW => ⟨⟨(-11), (), rfl, rfl, by rw [ht]; exact hP9, hD9⟩, hS.F ht⟩) hS.2.2 dX7_rule_61
end
section
theorem dX7_feed_0 : decode cX7_feed 0 = .ok (.iload_n 1, 1) := by decide +kernel
theorem dX7_feed_1 : decode cX7_feed 1 = .ok (.iconst 1, 1) := by decide +kernel
theorem dX7_feed_2 : decode cX7_feed 2 = .ok (.if_icmp .lt 9, 3) := by decide +kernel
theorem dX7_feed_5 : decode cX7_feed 5 = .ok (.iload_n 1, 1) := by decide +kernel
theorem dX7_feed_6 : decode cX7_feed 6 = .ok (.bipush 8, 2) := by decide +kernel
theorem dX7_feed_8 : decode cX7_feed 8 = .ok (.if_icmp .le 7, 3) := by decide +kernel
theorem dX7_feed_11 : decode cX7_feed 11 = .ok (.sipush (-1002), 3) := by decide +kernel
theorem dX7_feed_14 : decode cX7_feed 14 = .ok (.ireturn, 1) := by decide +kernel
theorem dX7_feed_15 : decode cX7_feed 15 = .ok (.aload_n 0, 1) := by decide +kernel
theorem dX7_feed_16 : decode cX7_feed 16 = .ok (.getfield 12, 3) := by decide +kernel
theorem dX7_feed_19 : decode cX7_feed 19 = .ok (.getfield 81, 3) := by decide +kernel
theorem dX7_feed_22 : decode cX7_feed 22 = .ok (.iload_n 1, 1) := by decide +kernel
theorem dX7_feed_23 : decode cX7_feed 23 = .ok (.iadd, 1) := by decide +kernel
theorem dX7_feed_24 : decode cX7_feed 24 = .ok (.sipush 240, 3) := by decide +kernel
theorem dX7_feed_27 : decode cX7_feed 27 = .ok (.if_icmp .le 7, 3) := by decide +kernel
theorem dX7_feed_34 : decode cX7_feed 34 = .ok (.iload_n 1, 1) := by decide +kernel
theorem dX7_feed_35 : decode cX7_feed 35 = .ok (.iconst 1, 1) := by decide +kernel
theorem dX7_feed_36 : decode cX7_feed 36 = .ok (.isub, 1) := by decide +kernel
theorem dX7_feed_37 : decode cX7_feed 37 = .ok (.istore 4, 2) := by decide +kernel
theorem dX7_feed_39 : decode cX7_feed 39 = .ok (.iload 4, 2) := by decide +kernel
theorem dX7_feed_41 : decode cX7_feed 41 = .ok (.ifCond .lt 25, 3) := by decide +kernel
theorem dX7_feed_44 : decode cX7_feed 44 = .ok (.aload_n 0, 1) := by decide +kernel
theorem dX7_feed_45 : decode cX7_feed 45 = .ok (.getfield 12, 3) := by decide +kernel
theorem dX7_feed_48 : decode cX7_feed 48 = .ok (.lload_n 2, 1) := by decide +kernel
theorem dX7_feed_49 : decode cX7_feed 49 = .ok (.bipush 8, 2) := by decide +kernel
theorem dX7_feed_51 : decode cX7_feed 51 = .ok (.iload 4, 2) := by decide +kernel
theorem dX7_feed_53 : decode cX7_feed 53 = .ok (.imul, 1) := by decide +kernel
theorem dX7_feed_54 : decode cX7_feed 54 = .ok (.lshr, 1) := by decide +kernel
theorem dX7_feed_55 : decode cX7_feed 55 = .ok (.l2i, 1) := by decide +kernel
theorem dX7_feed_56 : decode cX7_feed 56 = .ok (.i2b, 1) := by decide +kernel
theorem dX7_feed_57 : decode cX7_feed 57 = .ok (.invokevirtual 84, 3) := by decide +kernel
theorem dX7_feed_60 : decode cX7_feed 60 = .ok (.iinc 4 (-1), 3) := by decide +kernel
theorem dX7_feed_63 : decode cX7_feed 63 = .ok (.goto (-24), 3) := by decide +kernel
theorem dX7_feed_66 : decode cX7_feed 66 = .ok (.aload_n 0, 1) := by decide +kernel
theorem dX7_feed_67 : decode cX7_feed 67 = .ok (.getfield 12, 3) := by decide +kernel
theorem dX7_feed_70 : decode cX7_feed 70 = .ok (.getfield 81, 3) := by decide +kernel
theorem dX7_feed_73 : decode cX7_feed 73 = .ok (.ireturn, 1) := by decide +kernel
set_option maxHeartbeats 4000000 in
set_option maxRecDepth 100000 in
theorem k_feed (l : Launch) (D : va_G) (k : Nat → ClassId) (st : Nat → Nat) (lo : Nat) (a : Nat → Nat) (p0 : Int32) (p1 : Int64)  : CWi l D k st lo yX7_feed cX7_feed 5 (some .int) ({ frames := 1, cells := 0, slots := 0, locals := 21 }) 0 0 [.ref (a 0), .int p0, .long p1] [((a 0), .inr (7, [.ref (a 1), .ref (a 3), .ref (a 19), .ref (a 20), .ref (a 25), .int 0, .int (-1), .ref (a 32), .ref (a 35), .ref (a 42), .ref (a 43), .ref (a 44)])), ((a 1), .inr (6, [.ref (a 2), .int 0, .int 0, .int 0, .int 0, .int 0])), ((a 2), .inl (k 0, 240, .inl (fun _ => 0)))] (fun (r : Int32) (_ : Unit) => (inB p0 1 8 → r = p0) ∧ (¬ (inB p0 1 8) → r = -1002)) (fun (_ : Unit) => []) := by
  intro sz
  refine Met.ofW (cc := cX7_feed) (maxL := 5) (ret := (some .int)) (by decide) rfl ?_
  intro p e s m args below meth c s₁ B hml hv
  obtain ⟨rfl, hsz, hlo, hP, hK, hDL, hZ⟩ := hv
  have hx := B.exec
  have hb := B.bytes
  have hr := B.returns
  have hts := WS_ts B.pre
  have hown : s.vm.findClass RX7 = some m.cls := findClass_of_methodNamed B.named
  have hlocks := B.notSynchronized
  subst hsz
  have hD := hDL.self (sz := s.heap.size)
  have hAlo := A_lo hDL hlo
  generalize hAe : va_A [((a 0), .inr (7, [.ref (a 1), .ref (a 3), .ref (a 19), .ref (a 20), .ref (a 25), .int 0, .int (-1), .ref (a 32), .ref (a 35), .ref (a 42), .ref (a 43), .ref (a 44)])), ((a 1), .inr (6, [.ref (a 2), .int 0, .int 0, .int 0, .int 0, .int 0])), ((a 2), .inl (k 0, 240, .inl (fun _ => 0)))] s.heap.size = A at hD hAlo ⊢
  have hA : ∀ q : Nat, s.heap.size ≤ q → A q := fun q h => by rw [← hAe]; exact Or.inr h
  have hS : va_S A s.heap s.heap [] := va_S.rf
  have hl := lv_entry ([.ref (a 0), .int p0, .long p1]) (n := 5) (Nat.le_of_ble_eq_true rfl)
  rw [lg_entry_eq]
  generalize (lg_sl ([.ref (a 0), .int p0, .long p1]) ++ List.replicate (5 - (lg_sl ([.ref (a 0), .int p0, .long p1])).length) Slot.unset).toArray = ls at hl ⊢
  have hl : lv_has ls 5 [(0, .ref (a 0)), (1, .int p0), (2, .long p1)] := hl
  refine lv_iload_n hx hb dX7_feed_0 rfl (lv_at hl 1 rfl) ?_
  refine lv_iconst (v := 1) hx hb dX7_feed_1 (by decide) ?_
  refine lv_icmp_lt (tgt := 11) hx hb dX7_feed_2 (by decide) (fun c_1 => ?_) (fun c_1 => ?_)
  · refine lv_sipush (v := (-1002)) hx hb dX7_feed_11 (by decide) ?_
    have hP9 := hP.sub (ws' := []) [] rfl
    have hD9 := hD.sub (ws' := []) [] (by decide) rfl
    exact W.iret (v := (-1002)) hx hb hr (fun t ht hW => ⟨⟨(-1002), (), rfl, (by first | exact ⟨fun h => absurd c_1 (Int32.not_lt.mpr h.1), fun _ => rfl⟩ | exact ⟨fun h => absurd h.2 c_2, fun _ => rfl⟩), by rw [ht]; exact hP9, hD9⟩, hS.F ht⟩) hS.2.2 dX7_feed_14
  · refine lv_iload_n hx hb dX7_feed_5 rfl (lv_at hl 1 rfl) ?_
    refine lv_bipush (v := 8) hx hb dX7_feed_6 (by decide) ?_
    refine lv_icmp_le (tgt := 15) hx hb dX7_feed_8 (by decide) (fun c_2 => ?_) (fun c_2 => ?_)
    · rcases spl8 ⟨Int32.not_lt.mp c_1, c_2⟩ with rfl | rfl | rfl | rfl | rfl | rfl | rfl | rfl
      · refine lv_aload_n hx hb dX7_feed_15 rfl (lv_at hl 0 rfl) ?_
        refine va_get (D := D) (ci := 7) (v := .ref (a 1)) (C := RX7) (T := TX7) (N := 12) hx hb hts inX7 hown hK hP 0 rfl rfl 0 (by decide) (hts _ tw_305) (fun _ h9 => h9) rfl dX7_feed_16 ?_
        refine va_get (D := D) (ci := 6) (v := .int 0) (C := RX6) (T := TX6) (N := 6) hx hb hts inX6 hown hK hP 1 rfl rfl 1 (by decide) (hts _ tw_111) (fun _ h9 => h9) rfl dX7_feed_19 ?_
        refine lv_iload_n hx hb dX7_feed_22 rfl (lv_at hl 1 rfl) ?_
        refine lv_iadd hx hb dX7_feed_23 ?_
        refine lv_ti (y := 1) (by decide) ?_
        refine lv_sipush (v := 240) hx hb dX7_feed_24 (by decide) ?_
        refine lv_icmp_le (tgt := 34) hx hb dX7_feed_27 (by decide) (fun _ => ?_) (fun h => absurd (by decide) h)
        refine lv_iload_n hx hb dX7_feed_34 rfl (lv_at hl 1 rfl) ?_
        refine lv_iconst (v := 1) hx hb dX7_feed_35 (by decide) ?_
        refine lv_isub hx hb dX7_feed_36 ?_
        refine lv_ti (y := 0) (by decide) ?_
        refine lv_istore (lv' := [(4, .int 0), (0, .ref (a 0)), (1, .int 1), (2, .long p1)]) hx hb dX7_feed_37 hl (by decide) rfl (fun ls hl => ?_)
        refine lv_iload hx hb dX7_feed_39 (lv_at hl 0 rfl) ?_
        refine lv_if_lt (tgt := 66) hx hb dX7_feed_41 (by decide) (fun h => absurd h (by decide)) (fun _ => ?_)
        refine lv_aload_n hx hb dX7_feed_44 rfl (lv_at hl 1 rfl) ?_
        refine va_get (D := D) (ci := 7) (v := .ref (a 1)) (C := RX7) (T := TX7) (N := 12) hx hb hts inX7 hown hK hP 0 rfl rfl 0 (by decide) (hts _ tw_305) (fun _ h9 => h9) rfl dX7_feed_45 ?_
        refine lv_lload_n hx hb dX7_feed_48 rfl (lv_at hl 3 rfl) ?_
        refine lv_bipush (v := 8) hx hb dX7_feed_49 (by decide) ?_
        refine lv_iload hx hb dX7_feed_51 (lv_at hl 0 rfl) ?_
        refine lv_imul hx hb dX7_feed_53 ?_
        refine lv_ti (y := 0) (by decide) ?_
        refine lv_lshr hx hb dX7_feed_54 rfl ?_
        refine lv_topl (fun x_3 ex_3 => ?_)
        refine lv_l2i hx hb dX7_feed_55 rfl ?_
        refine lv_topi (fun x_4 ex_4 => ?_)
        refine lv_i2b hx hb dX7_feed_56 rfl ?_
        refine lv_topi (fun x_5 ex_5 => ?_)
        refine rw_v (D := D) (wr := [((a 0), .inr (7, [.ref (a 1), .ref (a 3), .ref (a 19), .ref (a 20), .ref (a 25), .int 0, .int (-1), .ref (a 32), .ref (a 35), .ref (a 42), .ref (a 43), .ref (a 44)]))]) (va_runV (As := [.int x_5]) (rest := []) ⟨hx, hb, hml, hown, hts⟩ ((k_append l D k st lo (a 1) (a 2) 0 1 x_5 (fun _ => 0) (by decide) (by decide) (by unfold vp_in; decide) (by decide)) s.heap.size) (cwV 1 hts (gV tw_346 tw_347 tw_348 tw_80 tw_349) rfl rfl rfl (by decide +kernel) ⟨Nat.le_of_ble_eq_true rfl, Nat.le_of_ble_eq_true rfl⟩) (pV hS hAlo hlo hP hK (va_Dlo hD hAlo) hZ [1, 2] (by decide) rfl (ci := 6) (q0 := 0) rfl rfl) rfl rfl hl.1 rfl (lv_room (Nat.le_of_ble_eq_true rfl)) dX7_feed_57 ⟨Nat.le_of_ble_eq_true rfl, Nat.le_of_ble_eq_true rfl⟩) hS hA hP hD [1, 2] [0] rfl rfl (by decide) (by decide) (fun u H locs hw_6 hP hD hS => ?_)
        obtain ⟨g_6, rfl⟩ : ∃ z, z = u := ⟨_, rfl⟩
        have hP : va_P D classes [((a 0), .inr (7, [.ref (a 1), .ref (a 3), .ref (a 19), .ref (a 20), .ref (a 25), .int 0, .int (-1), .ref (a 32), .ref (a 35), .ref (a 42), .ref (a 43), .ref (a 44)])), ((a 1), .inr (6, [.ref (a 2), .int 1, .int 0, .int 0, .int 0, .int 0])), ((a 2), .inl (k 0, 240, .inl g_6))] H := hP
        have hD : va_D A [((a 0), .inr (7, [.ref (a 1), .ref (a 3), .ref (a 19), .ref (a 20), .ref (a 25), .int 0, .int (-1), .ref (a 32), .ref (a 35), .ref (a 42), .ref (a 43), .ref (a 44)])), ((a 1), .inr (6, [.ref (a 2), .int 1, .int 0, .int 0, .int 0, .int 0])), ((a 2), .inl (k 0, 240, .inl g_6))] := hD
        try dsimp only at hw_6
        refine lv_iinc (v := (-1)) (lv' := [(4, .int (-1)), (0, .ref (a 0)), (1, .int 1), (2, .long p1)]) hx hb dX7_feed_60 hl (k := 0) rfl (by decide) (by decide) rfl (fun ls hl => ?_)
        refine lv_goto (tgt := 39) hx hb dX7_feed_63 (by decide) ?_
        refine lv_iload hx hb dX7_feed_39 (lv_at hl 0 rfl) ?_
        refine lv_if_lt (tgt := 66) hx hb dX7_feed_41 (by decide) (fun _ => ?_) (fun h => absurd (by decide) h)
        refine lv_aload_n hx hb dX7_feed_66 rfl (lv_at hl 1 rfl) ?_
        refine va_get (D := D) (ci := 7) (v := .ref (a 1)) (C := RX7) (T := TX7) (N := 12) hx hb hts inX7 hown hK hP 0 rfl rfl 0 (by decide) (hts _ tw_305) (fun _ h9 => h9) rfl dX7_feed_67 ?_
        refine va_get (D := D) (ci := 6) (v := .int 1) (C := RX6) (T := TX6) (N := 6) hx hb hts inX6 hown hK hP 1 rfl rfl 1 (by decide) (hts _ tw_111) (fun _ h9 => h9) rfl dX7_feed_70 ?_
        have hP9 := hP.sub (ws' := []) [] rfl
        have hD9 := hD.sub (ws' := []) [] (by decide) rfl
        exact W.iret (v := 1) hx hb hr (fun t ht hW => ⟨⟨1, (), rfl, ⟨fun _ => rfl, fun h => absurd ⟨by decide, by decide⟩ h⟩, by rw [ht]; exact hP9, hD9⟩, hS.F ht⟩) hS.2.2 dX7_feed_73
      · refine lv_aload_n hx hb dX7_feed_15 rfl (lv_at hl 0 rfl) ?_
        refine va_get (D := D) (ci := 7) (v := .ref (a 1)) (C := RX7) (T := TX7) (N := 12) hx hb hts inX7 hown hK hP 0 rfl rfl 0 (by decide) (hts _ tw_305) (fun _ h9 => h9) rfl dX7_feed_16 ?_
        refine va_get (D := D) (ci := 6) (v := .int 0) (C := RX6) (T := TX6) (N := 6) hx hb hts inX6 hown hK hP 1 rfl rfl 1 (by decide) (hts _ tw_111) (fun _ h9 => h9) rfl dX7_feed_19 ?_
        refine lv_iload_n hx hb dX7_feed_22 rfl (lv_at hl 1 rfl) ?_
        refine lv_iadd hx hb dX7_feed_23 ?_
        refine lv_ti (y := 2) (by decide) ?_
        refine lv_sipush (v := 240) hx hb dX7_feed_24 (by decide) ?_
        refine lv_icmp_le (tgt := 34) hx hb dX7_feed_27 (by decide) (fun _ => ?_) (fun h => absurd (by decide) h)
        refine lv_iload_n hx hb dX7_feed_34 rfl (lv_at hl 1 rfl) ?_
        refine lv_iconst (v := 1) hx hb dX7_feed_35 (by decide) ?_
        refine lv_isub hx hb dX7_feed_36 ?_
        refine lv_ti (y := 1) (by decide) ?_
        refine lv_istore (lv' := [(4, .int 1), (0, .ref (a 0)), (1, .int 2), (2, .long p1)]) hx hb dX7_feed_37 hl (by decide) rfl (fun ls hl => ?_)
        refine lv_iload hx hb dX7_feed_39 (lv_at hl 0 rfl) ?_
        refine lv_if_lt (tgt := 66) hx hb dX7_feed_41 (by decide) (fun h => absurd h (by decide)) (fun _ => ?_)
        refine lv_aload_n hx hb dX7_feed_44 rfl (lv_at hl 1 rfl) ?_
        refine va_get (D := D) (ci := 7) (v := .ref (a 1)) (C := RX7) (T := TX7) (N := 12) hx hb hts inX7 hown hK hP 0 rfl rfl 0 (by decide) (hts _ tw_305) (fun _ h9 => h9) rfl dX7_feed_45 ?_
        refine lv_lload_n hx hb dX7_feed_48 rfl (lv_at hl 3 rfl) ?_
        refine lv_bipush (v := 8) hx hb dX7_feed_49 (by decide) ?_
        refine lv_iload hx hb dX7_feed_51 (lv_at hl 0 rfl) ?_
        refine lv_imul hx hb dX7_feed_53 ?_
        refine lv_ti (y := 8) (by decide) ?_
        refine lv_lshr hx hb dX7_feed_54 rfl ?_
        refine lv_topl (fun x_7 ex_7 => ?_)
        refine lv_l2i hx hb dX7_feed_55 rfl ?_
        refine lv_topi (fun x_8 ex_8 => ?_)
        refine lv_i2b hx hb dX7_feed_56 rfl ?_
        refine lv_topi (fun x_9 ex_9 => ?_)
        refine rw_v (D := D) (wr := [((a 0), .inr (7, [.ref (a 1), .ref (a 3), .ref (a 19), .ref (a 20), .ref (a 25), .int 0, .int (-1), .ref (a 32), .ref (a 35), .ref (a 42), .ref (a 43), .ref (a 44)]))]) (va_runV (As := [.int x_9]) (rest := []) ⟨hx, hb, hml, hown, hts⟩ ((k_append l D k st lo (a 1) (a 2) 0 1 x_9 (fun _ => 0) (by decide) (by decide) (by unfold vp_in; decide) (by decide)) s.heap.size) (cwV 1 hts (gV tw_346 tw_347 tw_348 tw_80 tw_349) rfl rfl rfl (by decide +kernel) ⟨Nat.le_of_ble_eq_true rfl, Nat.le_of_ble_eq_true rfl⟩) (pV hS hAlo hlo hP hK (va_Dlo hD hAlo) hZ [1, 2] (by decide) rfl (ci := 6) (q0 := 0) rfl rfl) rfl rfl hl.1 rfl (lv_room (Nat.le_of_ble_eq_true rfl)) dX7_feed_57 ⟨Nat.le_of_ble_eq_true rfl, Nat.le_of_ble_eq_true rfl⟩) hS hA hP hD [1, 2] [0] rfl rfl (by decide) (by decide) (fun u H locs hw_10 hP hD hS => ?_)
        obtain ⟨g_10, rfl⟩ : ∃ z, z = u := ⟨_, rfl⟩
        have hP : va_P D classes [((a 0), .inr (7, [.ref (a 1), .ref (a 3), .ref (a 19), .ref (a 20), .ref (a 25), .int 0, .int (-1), .ref (a 32), .ref (a 35), .ref (a 42), .ref (a 43), .ref (a 44)])), ((a 1), .inr (6, [.ref (a 2), .int 1, .int 0, .int 0, .int 0, .int 0])), ((a 2), .inl (k 0, 240, .inl g_10))] H := hP
        have hD : va_D A [((a 0), .inr (7, [.ref (a 1), .ref (a 3), .ref (a 19), .ref (a 20), .ref (a 25), .int 0, .int (-1), .ref (a 32), .ref (a 35), .ref (a 42), .ref (a 43), .ref (a 44)])), ((a 1), .inr (6, [.ref (a 2), .int 1, .int 0, .int 0, .int 0, .int 0])), ((a 2), .inl (k 0, 240, .inl g_10))] := hD
        try dsimp only at hw_10
        refine lv_iinc (v := 0) (lv' := [(4, .int 0), (0, .ref (a 0)), (1, .int 2), (2, .long p1)]) hx hb dX7_feed_60 hl (k := 0) rfl (by decide) (by decide) rfl (fun ls hl => ?_)
        refine lv_goto (tgt := 39) hx hb dX7_feed_63 (by decide) ?_
        refine lv_iload hx hb dX7_feed_39 (lv_at hl 0 rfl) ?_
        refine lv_if_lt (tgt := 66) hx hb dX7_feed_41 (by decide) (fun h => absurd h (by decide)) (fun _ => ?_)
        refine lv_aload_n hx hb dX7_feed_44 rfl (lv_at hl 1 rfl) ?_
        refine va_get (D := D) (ci := 7) (v := .ref (a 1)) (C := RX7) (T := TX7) (N := 12) hx hb hts inX7 hown hK hP 0 rfl rfl 0 (by decide) (hts _ tw_305) (fun _ h9 => h9) rfl dX7_feed_45 ?_
        refine lv_lload_n hx hb dX7_feed_48 rfl (lv_at hl 3 rfl) ?_
        refine lv_bipush (v := 8) hx hb dX7_feed_49 (by decide) ?_
        refine lv_iload hx hb dX7_feed_51 (lv_at hl 0 rfl) ?_
        refine lv_imul hx hb dX7_feed_53 ?_
        refine lv_ti (y := 0) (by decide) ?_
        refine lv_lshr hx hb dX7_feed_54 rfl ?_
        refine lv_topl (fun x_11 ex_11 => ?_)
        refine lv_l2i hx hb dX7_feed_55 rfl ?_
        refine lv_topi (fun x_12 ex_12 => ?_)
        refine lv_i2b hx hb dX7_feed_56 rfl ?_
        refine lv_topi (fun x_13 ex_13 => ?_)
        refine rw_v (D := D) (wr := [((a 0), .inr (7, [.ref (a 1), .ref (a 3), .ref (a 19), .ref (a 20), .ref (a 25), .int 0, .int (-1), .ref (a 32), .ref (a 35), .ref (a 42), .ref (a 43), .ref (a 44)]))]) (va_runV (As := [.int x_13]) (rest := []) ⟨hx, hb, hml, hown, hts⟩ ((k_append l D k st lo (a 1) (a 2) 1 2 x_13 g_10 (by decide) (by decide) (by unfold vp_in; decide) (by decide)) H.size) (cwV 1 hts (gV tw_346 tw_347 tw_348 tw_80 tw_349) rfl rfl rfl (by decide +kernel) ⟨Nat.le_of_ble_eq_true rfl, Nat.le_of_ble_eq_true rfl⟩) (pV hS hAlo hlo hP hK (va_Dlo hD hAlo) hZ [1, 2] (by decide) rfl (ci := 6) (q0 := 0) rfl rfl) rfl rfl hl.1 rfl (lv_room (Nat.le_of_ble_eq_true rfl)) dX7_feed_57 ⟨Nat.le_of_ble_eq_true rfl, Nat.le_of_ble_eq_true rfl⟩) hS hA hP hD [1, 2] [0] rfl rfl (by decide) (by decide) (fun u H locs hw_14 hP hD hS => ?_)
        obtain ⟨g_14, rfl⟩ : ∃ z, z = u := ⟨_, rfl⟩
        have hP : va_P D classes [((a 0), .inr (7, [.ref (a 1), .ref (a 3), .ref (a 19), .ref (a 20), .ref (a 25), .int 0, .int (-1), .ref (a 32), .ref (a 35), .ref (a 42), .ref (a 43), .ref (a 44)])), ((a 1), .inr (6, [.ref (a 2), .int 2, .int 0, .int 0, .int 0, .int 0])), ((a 2), .inl (k 0, 240, .inl g_14))] H := hP
        have hD : va_D A [((a 0), .inr (7, [.ref (a 1), .ref (a 3), .ref (a 19), .ref (a 20), .ref (a 25), .int 0, .int (-1), .ref (a 32), .ref (a 35), .ref (a 42), .ref (a 43), .ref (a 44)])), ((a 1), .inr (6, [.ref (a 2), .int 2, .int 0, .int 0, .int 0, .int 0])), ((a 2), .inl (k 0, 240, .inl g_14))] := hD
        try dsimp only at hw_14
        refine lv_iinc (v := (-1)) (lv' := [(4, .int (-1)), (0, .ref (a 0)), (1, .int 2), (2, .long p1)]) hx hb dX7_feed_60 hl (k := 0) rfl (by decide) (by decide) rfl (fun ls hl => ?_)
        refine lv_goto (tgt := 39) hx hb dX7_feed_63 (by decide) ?_
        refine lv_iload hx hb dX7_feed_39 (lv_at hl 0 rfl) ?_
        refine lv_if_lt (tgt := 66) hx hb dX7_feed_41 (by decide) (fun _ => ?_) (fun h => absurd (by decide) h)
        refine lv_aload_n hx hb dX7_feed_66 rfl (lv_at hl 1 rfl) ?_
        refine va_get (D := D) (ci := 7) (v := .ref (a 1)) (C := RX7) (T := TX7) (N := 12) hx hb hts inX7 hown hK hP 0 rfl rfl 0 (by decide) (hts _ tw_305) (fun _ h9 => h9) rfl dX7_feed_67 ?_
        refine va_get (D := D) (ci := 6) (v := .int 2) (C := RX6) (T := TX6) (N := 6) hx hb hts inX6 hown hK hP 1 rfl rfl 1 (by decide) (hts _ tw_111) (fun _ h9 => h9) rfl dX7_feed_70 ?_
        have hP9 := hP.sub (ws' := []) [] rfl
        have hD9 := hD.sub (ws' := []) [] (by decide) rfl
        exact W.iret (v := 2) hx hb hr (fun t ht hW => ⟨⟨2, (), rfl, ⟨fun _ => rfl, fun h => absurd ⟨by decide, by decide⟩ h⟩, by rw [ht]; exact hP9, hD9⟩, hS.F ht⟩) hS.2.2 dX7_feed_73
      · refine lv_aload_n hx hb dX7_feed_15 rfl (lv_at hl 0 rfl) ?_
        refine va_get (D := D) (ci := 7) (v := .ref (a 1)) (C := RX7) (T := TX7) (N := 12) hx hb hts inX7 hown hK hP 0 rfl rfl 0 (by decide) (hts _ tw_305) (fun _ h9 => h9) rfl dX7_feed_16 ?_
        refine va_get (D := D) (ci := 6) (v := .int 0) (C := RX6) (T := TX6) (N := 6) hx hb hts inX6 hown hK hP 1 rfl rfl 1 (by decide) (hts _ tw_111) (fun _ h9 => h9) rfl dX7_feed_19 ?_
        refine lv_iload_n hx hb dX7_feed_22 rfl (lv_at hl 1 rfl) ?_
        refine lv_iadd hx hb dX7_feed_23 ?_
        refine lv_ti (y := 3) (by decide) ?_
        refine lv_sipush (v := 240) hx hb dX7_feed_24 (by decide) ?_
        refine lv_icmp_le (tgt := 34) hx hb dX7_feed_27 (by decide) (fun _ => ?_) (fun h => absurd (by decide) h)
        refine lv_iload_n hx hb dX7_feed_34 rfl (lv_at hl 1 rfl) ?_
        refine lv_iconst (v := 1) hx hb dX7_feed_35 (by decide) ?_
        refine lv_isub hx hb dX7_feed_36 ?_
        refine lv_ti (y := 2) (by decide) ?_
        refine lv_istore (lv' := [(4, .int 2), (0, .ref (a 0)), (1, .int 3), (2, .long p1)]) hx hb dX7_feed_37 hl (by decide) rfl (fun ls hl => ?_)
        refine lv_iload hx hb dX7_feed_39 (lv_at hl 0 rfl) ?_
        refine lv_if_lt (tgt := 66) hx hb dX7_feed_41 (by decide) (fun h => absurd h (by decide)) (fun _ => ?_)
        refine lv_aload_n hx hb dX7_feed_44 rfl (lv_at hl 1 rfl) ?_
        refine va_get (D := D) (ci := 7) (v := .ref (a 1)) (C := RX7) (T := TX7) (N := 12) hx hb hts inX7 hown hK hP 0 rfl rfl 0 (by decide) (hts _ tw_305) (fun _ h9 => h9) rfl dX7_feed_45 ?_
        refine lv_lload_n hx hb dX7_feed_48 rfl (lv_at hl 3 rfl) ?_
        refine lv_bipush (v := 8) hx hb dX7_feed_49 (by decide) ?_
        refine lv_iload hx hb dX7_feed_51 (lv_at hl 0 rfl) ?_
        refine lv_imul hx hb dX7_feed_53 ?_
        refine lv_ti (y := 16) (by decide) ?_
        refine lv_lshr hx hb dX7_feed_54 rfl ?_
        refine lv_topl (fun x_15 ex_15 => ?_)
        refine lv_l2i hx hb dX7_feed_55 rfl ?_
        refine lv_topi (fun x_16 ex_16 => ?_)
        refine lv_i2b hx hb dX7_feed_56 rfl ?_
        refine lv_topi (fun x_17 ex_17 => ?_)
        refine rw_v (D := D) (wr := [((a 0), .inr (7, [.ref (a 1), .ref (a 3), .ref (a 19), .ref (a 20), .ref (a 25), .int 0, .int (-1), .ref (a 32), .ref (a 35), .ref (a 42), .ref (a 43), .ref (a 44)]))]) (va_runV (As := [.int x_17]) (rest := []) ⟨hx, hb, hml, hown, hts⟩ ((k_append l D k st lo (a 1) (a 2) 0 1 x_17 (fun _ => 0) (by decide) (by decide) (by unfold vp_in; decide) (by decide)) s.heap.size) (cwV 1 hts (gV tw_346 tw_347 tw_348 tw_80 tw_349) rfl rfl rfl (by decide +kernel) ⟨Nat.le_of_ble_eq_true rfl, Nat.le_of_ble_eq_true rfl⟩) (pV hS hAlo hlo hP hK (va_Dlo hD hAlo) hZ [1, 2] (by decide) rfl (ci := 6) (q0 := 0) rfl rfl) rfl rfl hl.1 rfl (lv_room (Nat.le_of_ble_eq_true rfl)) dX7_feed_57 ⟨Nat.le_of_ble_eq_true rfl, Nat.le_of_ble_eq_true rfl⟩) hS hA hP hD [1, 2] [0] rfl rfl (by decide) (by decide) (fun u H locs hw_18 hP hD hS => ?_)
        obtain ⟨g_18, rfl⟩ : ∃ z, z = u := ⟨_, rfl⟩
        have hP : va_P D classes [((a 0), .inr (7, [.ref (a 1), .ref (a 3), .ref (a 19), .ref (a 20), .ref (a 25), .int 0, .int (-1), .ref (a 32), .ref (a 35), .ref (a 42), .ref (a 43), .ref (a 44)])), ((a 1), .inr (6, [.ref (a 2), .int 1, .int 0, .int 0, .int 0, .int 0])), ((a 2), .inl (k 0, 240, .inl g_18))] H := hP
        have hD : va_D A [((a 0), .inr (7, [.ref (a 1), .ref (a 3), .ref (a 19), .ref (a 20), .ref (a 25), .int 0, .int (-1), .ref (a 32), .ref (a 35), .ref (a 42), .ref (a 43), .ref (a 44)])), ((a 1), .inr (6, [.ref (a 2), .int 1, .int 0, .int 0, .int 0, .int 0])), ((a 2), .inl (k 0, 240, .inl g_18))] := hD
        try dsimp only at hw_18
        refine lv_iinc (v := 1) (lv' := [(4, .int 1), (0, .ref (a 0)), (1, .int 3), (2, .long p1)]) hx hb dX7_feed_60 hl (k := 0) rfl (by decide) (by decide) rfl (fun ls hl => ?_)
        refine lv_goto (tgt := 39) hx hb dX7_feed_63 (by decide) ?_
        refine lv_iload hx hb dX7_feed_39 (lv_at hl 0 rfl) ?_
        refine lv_if_lt (tgt := 66) hx hb dX7_feed_41 (by decide) (fun h => absurd h (by decide)) (fun _ => ?_)
        refine lv_aload_n hx hb dX7_feed_44 rfl (lv_at hl 1 rfl) ?_
        refine va_get (D := D) (ci := 7) (v := .ref (a 1)) (C := RX7) (T := TX7) (N := 12) hx hb hts inX7 hown hK hP 0 rfl rfl 0 (by decide) (hts _ tw_305) (fun _ h9 => h9) rfl dX7_feed_45 ?_
        refine lv_lload_n hx hb dX7_feed_48 rfl (lv_at hl 3 rfl) ?_
        refine lv_bipush (v := 8) hx hb dX7_feed_49 (by decide) ?_
        refine lv_iload hx hb dX7_feed_51 (lv_at hl 0 rfl) ?_
        refine lv_imul hx hb dX7_feed_53 ?_
        refine lv_ti (y := 8) (by decide) ?_
        refine lv_lshr hx hb dX7_feed_54 rfl ?_
        refine lv_topl (fun x_19 ex_19 => ?_)
        refine lv_l2i hx hb dX7_feed_55 rfl ?_
        refine lv_topi (fun x_20 ex_20 => ?_)
        refine lv_i2b hx hb dX7_feed_56 rfl ?_
        refine lv_topi (fun x_21 ex_21 => ?_)
        refine rw_v (D := D) (wr := [((a 0), .inr (7, [.ref (a 1), .ref (a 3), .ref (a 19), .ref (a 20), .ref (a 25), .int 0, .int (-1), .ref (a 32), .ref (a 35), .ref (a 42), .ref (a 43), .ref (a 44)]))]) (va_runV (As := [.int x_21]) (rest := []) ⟨hx, hb, hml, hown, hts⟩ ((k_append l D k st lo (a 1) (a 2) 1 2 x_21 g_18 (by decide) (by decide) (by unfold vp_in; decide) (by decide)) H.size) (cwV 1 hts (gV tw_346 tw_347 tw_348 tw_80 tw_349) rfl rfl rfl (by decide +kernel) ⟨Nat.le_of_ble_eq_true rfl, Nat.le_of_ble_eq_true rfl⟩) (pV hS hAlo hlo hP hK (va_Dlo hD hAlo) hZ [1, 2] (by decide) rfl (ci := 6) (q0 := 0) rfl rfl) rfl rfl hl.1 rfl (lv_room (Nat.le_of_ble_eq_true rfl)) dX7_feed_57 ⟨Nat.le_of_ble_eq_true rfl, Nat.le_of_ble_eq_true rfl⟩) hS hA hP hD [1, 2] [0] rfl rfl (by decide) (by decide) (fun u H locs hw_22 hP hD hS => ?_)
        obtain ⟨g_22, rfl⟩ : ∃ z, z = u := ⟨_, rfl⟩
        have hP : va_P D classes [((a 0), .inr (7, [.ref (a 1), .ref (a 3), .ref (a 19), .ref (a 20), .ref (a 25), .int 0, .int (-1), .ref (a 32), .ref (a 35), .ref (a 42), .ref (a 43), .ref (a 44)])), ((a 1), .inr (6, [.ref (a 2), .int 2, .int 0, .int 0, .int 0, .int 0])), ((a 2), .inl (k 0, 240, .inl g_22))] H := hP
        have hD : va_D A [((a 0), .inr (7, [.ref (a 1), .ref (a 3), .ref (a 19), .ref (a 20), .ref (a 25), .int 0, .int (-1), .ref (a 32), .ref (a 35), .ref (a 42), .ref (a 43), .ref (a 44)])), ((a 1), .inr (6, [.ref (a 2), .int 2, .int 0, .int 0, .int 0, .int 0])), ((a 2), .inl (k 0, 240, .inl g_22))] := hD
        try dsimp only at hw_22
        refine lv_iinc (v := 0) (lv' := [(4, .int 0), (0, .ref (a 0)), (1, .int 3), (2, .long p1)]) hx hb dX7_feed_60 hl (k := 0) rfl (by decide) (by decide) rfl (fun ls hl => ?_)
        refine lv_goto (tgt := 39) hx hb dX7_feed_63 (by decide) ?_
        refine lv_iload hx hb dX7_feed_39 (lv_at hl 0 rfl) ?_
        refine lv_if_lt (tgt := 66) hx hb dX7_feed_41 (by decide) (fun h => absurd h (by decide)) (fun _ => ?_)
        refine lv_aload_n hx hb dX7_feed_44 rfl (lv_at hl 1 rfl) ?_
        refine va_get (D := D) (ci := 7) (v := .ref (a 1)) (C := RX7) (T := TX7) (N := 12) hx hb hts inX7 hown hK hP 0 rfl rfl 0 (by decide) (hts _ tw_305) (fun _ h9 => h9) rfl dX7_feed_45 ?_
        refine lv_lload_n hx hb dX7_feed_48 rfl (lv_at hl 3 rfl) ?_
        refine lv_bipush (v := 8) hx hb dX7_feed_49 (by decide) ?_
        refine lv_iload hx hb dX7_feed_51 (lv_at hl 0 rfl) ?_
        refine lv_imul hx hb dX7_feed_53 ?_
        refine lv_ti (y := 0) (by decide) ?_
        refine lv_lshr hx hb dX7_feed_54 rfl ?_
        refine lv_topl (fun x_23 ex_23 => ?_)
        refine lv_l2i hx hb dX7_feed_55 rfl ?_
        refine lv_topi (fun x_24 ex_24 => ?_)
        refine lv_i2b hx hb dX7_feed_56 rfl ?_
        refine lv_topi (fun x_25 ex_25 => ?_)
        refine rw_v (D := D) (wr := [((a 0), .inr (7, [.ref (a 1), .ref (a 3), .ref (a 19), .ref (a 20), .ref (a 25), .int 0, .int (-1), .ref (a 32), .ref (a 35), .ref (a 42), .ref (a 43), .ref (a 44)]))]) (va_runV (As := [.int x_25]) (rest := []) ⟨hx, hb, hml, hown, hts⟩ ((k_append l D k st lo (a 1) (a 2) 2 3 x_25 g_22 (by decide) (by decide) (by unfold vp_in; decide) (by decide)) H.size) (cwV 1 hts (gV tw_346 tw_347 tw_348 tw_80 tw_349) rfl rfl rfl (by decide +kernel) ⟨Nat.le_of_ble_eq_true rfl, Nat.le_of_ble_eq_true rfl⟩) (pV hS hAlo hlo hP hK (va_Dlo hD hAlo) hZ [1, 2] (by decide) rfl (ci := 6) (q0 := 0) rfl rfl) rfl rfl hl.1 rfl (lv_room (Nat.le_of_ble_eq_true rfl)) dX7_feed_57 ⟨Nat.le_of_ble_eq_true rfl, Nat.le_of_ble_eq_true rfl⟩) hS hA hP hD [1, 2] [0] rfl rfl (by decide) (by decide) (fun u H locs hw_26 hP hD hS => ?_)
        obtain ⟨g_26, rfl⟩ : ∃ z, z = u := ⟨_, rfl⟩
        have hP : va_P D classes [((a 0), .inr (7, [.ref (a 1), .ref (a 3), .ref (a 19), .ref (a 20), .ref (a 25), .int 0, .int (-1), .ref (a 32), .ref (a 35), .ref (a 42), .ref (a 43), .ref (a 44)])), ((a 1), .inr (6, [.ref (a 2), .int 3, .int 0, .int 0, .int 0, .int 0])), ((a 2), .inl (k 0, 240, .inl g_26))] H := hP
        have hD : va_D A [((a 0), .inr (7, [.ref (a 1), .ref (a 3), .ref (a 19), .ref (a 20), .ref (a 25), .int 0, .int (-1), .ref (a 32), .ref (a 35), .ref (a 42), .ref (a 43), .ref (a 44)])), ((a 1), .inr (6, [.ref (a 2), .int 3, .int 0, .int 0, .int 0, .int 0])), ((a 2), .inl (k 0, 240, .inl g_26))] := hD
        try dsimp only at hw_26
        refine lv_iinc (v := (-1)) (lv' := [(4, .int (-1)), (0, .ref (a 0)), (1, .int 3), (2, .long p1)]) hx hb dX7_feed_60 hl (k := 0) rfl (by decide) (by decide) rfl (fun ls hl => ?_)
        refine lv_goto (tgt := 39) hx hb dX7_feed_63 (by decide) ?_
        refine lv_iload hx hb dX7_feed_39 (lv_at hl 0 rfl) ?_
        refine lv_if_lt (tgt := 66) hx hb dX7_feed_41 (by decide) (fun _ => ?_) (fun h => absurd (by decide) h)
        refine lv_aload_n hx hb dX7_feed_66 rfl (lv_at hl 1 rfl) ?_
        refine va_get (D := D) (ci := 7) (v := .ref (a 1)) (C := RX7) (T := TX7) (N := 12) hx hb hts inX7 hown hK hP 0 rfl rfl 0 (by decide) (hts _ tw_305) (fun _ h9 => h9) rfl dX7_feed_67 ?_
        refine va_get (D := D) (ci := 6) (v := .int 3) (C := RX6) (T := TX6) (N := 6) hx hb hts inX6 hown hK hP 1 rfl rfl 1 (by decide) (hts _ tw_111) (fun _ h9 => h9) rfl dX7_feed_70 ?_
        have hP9 := hP.sub (ws' := []) [] rfl
        have hD9 := hD.sub (ws' := []) [] (by decide) rfl
        exact W.iret (v := 3) hx hb hr (fun t ht hW => ⟨⟨3, (), rfl, ⟨fun _ => rfl, fun h => absurd ⟨by decide, by decide⟩ h⟩, by rw [ht]; exact hP9, hD9⟩, hS.F ht⟩) hS.2.2 dX7_feed_73
      · refine lv_aload_n hx hb dX7_feed_15 rfl (lv_at hl 0 rfl) ?_
        refine va_get (D := D) (ci := 7) (v := .ref (a 1)) (C := RX7) (T := TX7) (N := 12) hx hb hts inX7 hown hK hP 0 rfl rfl 0 (by decide) (hts _ tw_305) (fun _ h9 => h9) rfl dX7_feed_16 ?_
        refine va_get (D := D) (ci := 6) (v := .int 0) (C := RX6) (T := TX6) (N := 6) hx hb hts inX6 hown hK hP 1 rfl rfl 1 (by decide) (hts _ tw_111) (fun _ h9 => h9) rfl dX7_feed_19 ?_
        refine lv_iload_n hx hb dX7_feed_22 rfl (lv_at hl 1 rfl) ?_
        refine lv_iadd hx hb dX7_feed_23 ?_
        refine lv_ti (y := 4) (by decide) ?_
        refine lv_sipush (v := 240) hx hb dX7_feed_24 (by decide) ?_
        refine lv_icmp_le (tgt := 34) hx hb dX7_feed_27 (by decide) (fun _ => ?_) (fun h => absurd (by decide) h)
        refine lv_iload_n hx hb dX7_feed_34 rfl (lv_at hl 1 rfl) ?_
        refine lv_iconst (v := 1) hx hb dX7_feed_35 (by decide) ?_
        refine lv_isub hx hb dX7_feed_36 ?_
        refine lv_ti (y := 3) (by decide) ?_
        refine lv_istore (lv' := [(4, .int 3), (0, .ref (a 0)), (1, .int 4), (2, .long p1)]) hx hb dX7_feed_37 hl (by decide) rfl (fun ls hl => ?_)
        refine lv_iload hx hb dX7_feed_39 (lv_at hl 0 rfl) ?_
        refine lv_if_lt (tgt := 66) hx hb dX7_feed_41 (by decide) (fun h => absurd h (by decide)) (fun _ => ?_)
        refine lv_aload_n hx hb dX7_feed_44 rfl (lv_at hl 1 rfl) ?_
        refine va_get (D := D) (ci := 7) (v := .ref (a 1)) (C := RX7) (T := TX7) (N := 12) hx hb hts inX7 hown hK hP 0 rfl rfl 0 (by decide) (hts _ tw_305) (fun _ h9 => h9) rfl dX7_feed_45 ?_
        refine lv_lload_n hx hb dX7_feed_48 rfl (lv_at hl 3 rfl) ?_
        refine lv_bipush (v := 8) hx hb dX7_feed_49 (by decide) ?_
        refine lv_iload hx hb dX7_feed_51 (lv_at hl 0 rfl) ?_
        refine lv_imul hx hb dX7_feed_53 ?_
        refine lv_ti (y := 24) (by decide) ?_
        refine lv_lshr hx hb dX7_feed_54 rfl ?_
        refine lv_topl (fun x_27 ex_27 => ?_)
        refine lv_l2i hx hb dX7_feed_55 rfl ?_
        refine lv_topi (fun x_28 ex_28 => ?_)
        refine lv_i2b hx hb dX7_feed_56 rfl ?_
        refine lv_topi (fun x_29 ex_29 => ?_)
        refine rw_v (D := D) (wr := [((a 0), .inr (7, [.ref (a 1), .ref (a 3), .ref (a 19), .ref (a 20), .ref (a 25), .int 0, .int (-1), .ref (a 32), .ref (a 35), .ref (a 42), .ref (a 43), .ref (a 44)]))]) (va_runV (As := [.int x_29]) (rest := []) ⟨hx, hb, hml, hown, hts⟩ ((k_append l D k st lo (a 1) (a 2) 0 1 x_29 (fun _ => 0) (by decide) (by decide) (by unfold vp_in; decide) (by decide)) s.heap.size) (cwV 1 hts (gV tw_346 tw_347 tw_348 tw_80 tw_349) rfl rfl rfl (by decide +kernel) ⟨Nat.le_of_ble_eq_true rfl, Nat.le_of_ble_eq_true rfl⟩) (pV hS hAlo hlo hP hK (va_Dlo hD hAlo) hZ [1, 2] (by decide) rfl (ci := 6) (q0 := 0) rfl rfl) rfl rfl hl.1 rfl (lv_room (Nat.le_of_ble_eq_true rfl)) dX7_feed_57 ⟨Nat.le_of_ble_eq_true rfl, Nat.le_of_ble_eq_true rfl⟩) hS hA hP hD [1, 2] [0] rfl rfl (by decide) (by decide) (fun u H locs hw_30 hP hD hS => ?_)
        obtain ⟨g_30, rfl⟩ : ∃ z, z = u := ⟨_, rfl⟩
        have hP : va_P D classes [((a 0), .inr (7, [.ref (a 1), .ref (a 3), .ref (a 19), .ref (a 20), .ref (a 25), .int 0, .int (-1), .ref (a 32), .ref (a 35), .ref (a 42), .ref (a 43), .ref (a 44)])), ((a 1), .inr (6, [.ref (a 2), .int 1, .int 0, .int 0, .int 0, .int 0])), ((a 2), .inl (k 0, 240, .inl g_30))] H := hP
        have hD : va_D A [((a 0), .inr (7, [.ref (a 1), .ref (a 3), .ref (a 19), .ref (a 20), .ref (a 25), .int 0, .int (-1), .ref (a 32), .ref (a 35), .ref (a 42), .ref (a 43), .ref (a 44)])), ((a 1), .inr (6, [.ref (a 2), .int 1, .int 0, .int 0, .int 0, .int 0])), ((a 2), .inl (k 0, 240, .inl g_30))] := hD
        try dsimp only at hw_30
        refine lv_iinc (v := 2) (lv' := [(4, .int 2), (0, .ref (a 0)), (1, .int 4), (2, .long p1)]) hx hb dX7_feed_60 hl (k := 0) rfl (by decide) (by decide) rfl (fun ls hl => ?_)
        refine lv_goto (tgt := 39) hx hb dX7_feed_63 (by decide) ?_
        refine lv_iload hx hb dX7_feed_39 (lv_at hl 0 rfl) ?_
        refine lv_if_lt (tgt := 66) hx hb dX7_feed_41 (by decide) (fun h => absurd h (by decide)) (fun _ => ?_)
        refine lv_aload_n hx hb dX7_feed_44 rfl (lv_at hl 1 rfl) ?_
        refine va_get (D := D) (ci := 7) (v := .ref (a 1)) (C := RX7) (T := TX7) (N := 12) hx hb hts inX7 hown hK hP 0 rfl rfl 0 (by decide) (hts _ tw_305) (fun _ h9 => h9) rfl dX7_feed_45 ?_
        refine lv_lload_n hx hb dX7_feed_48 rfl (lv_at hl 3 rfl) ?_
        refine lv_bipush (v := 8) hx hb dX7_feed_49 (by decide) ?_
        refine lv_iload hx hb dX7_feed_51 (lv_at hl 0 rfl) ?_
        refine lv_imul hx hb dX7_feed_53 ?_
        refine lv_ti (y := 16) (by decide) ?_
        refine lv_lshr hx hb dX7_feed_54 rfl ?_
        refine lv_topl (fun x_31 ex_31 => ?_)
        refine lv_l2i hx hb dX7_feed_55 rfl ?_
        refine lv_topi (fun x_32 ex_32 => ?_)
        refine lv_i2b hx hb dX7_feed_56 rfl ?_
        refine lv_topi (fun x_33 ex_33 => ?_)
        refine rw_v (D := D) (wr := [((a 0), .inr (7, [.ref (a 1), .ref (a 3), .ref (a 19), .ref (a 20), .ref (a 25), .int 0, .int (-1), .ref (a 32), .ref (a 35), .ref (a 42), .ref (a 43), .ref (a 44)]))]) (va_runV (As := [.int x_33]) (rest := []) ⟨hx, hb, hml, hown, hts⟩ ((k_append l D k st lo (a 1) (a 2) 1 2 x_33 g_30 (by decide) (by decide) (by unfold vp_in; decide) (by decide)) H.size) (cwV 1 hts (gV tw_346 tw_347 tw_348 tw_80 tw_349) rfl rfl rfl (by decide +kernel) ⟨Nat.le_of_ble_eq_true rfl, Nat.le_of_ble_eq_true rfl⟩) (pV hS hAlo hlo hP hK (va_Dlo hD hAlo) hZ [1, 2] (by decide) rfl (ci := 6) (q0 := 0) rfl rfl) rfl rfl hl.1 rfl (lv_room (Nat.le_of_ble_eq_true rfl)) dX7_feed_57 ⟨Nat.le_of_ble_eq_true rfl, Nat.le_of_ble_eq_true rfl⟩) hS hA hP hD [1, 2] [0] rfl rfl (by decide) (by decide) (fun u H locs hw_34 hP hD hS => ?_)
        obtain ⟨g_34, rfl⟩ : ∃ z, z = u := ⟨_, rfl⟩
        have hP : va_P D classes [((a 0), .inr (7, [.ref (a 1), .ref (a 3), .ref (a 19), .ref (a 20), .ref (a 25), .int 0, .int (-1), .ref (a 32), .ref (a 35), .ref (a 42), .ref (a 43), .ref (a 44)])), ((a 1), .inr (6, [.ref (a 2), .int 2, .int 0, .int 0, .int 0, .int 0])), ((a 2), .inl (k 0, 240, .inl g_34))] H := hP
        have hD : va_D A [((a 0), .inr (7, [.ref (a 1), .ref (a 3), .ref (a 19), .ref (a 20), .ref (a 25), .int 0, .int (-1), .ref (a 32), .ref (a 35), .ref (a 42), .ref (a 43), .ref (a 44)])), ((a 1), .inr (6, [.ref (a 2), .int 2, .int 0, .int 0, .int 0, .int 0])), ((a 2), .inl (k 0, 240, .inl g_34))] := hD
        try dsimp only at hw_34
        refine lv_iinc (v := 1) (lv' := [(4, .int 1), (0, .ref (a 0)), (1, .int 4), (2, .long p1)]) hx hb dX7_feed_60 hl (k := 0) rfl (by decide) (by decide) rfl (fun ls hl => ?_)
        refine lv_goto (tgt := 39) hx hb dX7_feed_63 (by decide) ?_
        refine lv_iload hx hb dX7_feed_39 (lv_at hl 0 rfl) ?_
        refine lv_if_lt (tgt := 66) hx hb dX7_feed_41 (by decide) (fun h => absurd h (by decide)) (fun _ => ?_)
        refine lv_aload_n hx hb dX7_feed_44 rfl (lv_at hl 1 rfl) ?_
        refine va_get (D := D) (ci := 7) (v := .ref (a 1)) (C := RX7) (T := TX7) (N := 12) hx hb hts inX7 hown hK hP 0 rfl rfl 0 (by decide) (hts _ tw_305) (fun _ h9 => h9) rfl dX7_feed_45 ?_
        refine lv_lload_n hx hb dX7_feed_48 rfl (lv_at hl 3 rfl) ?_
        refine lv_bipush (v := 8) hx hb dX7_feed_49 (by decide) ?_
        refine lv_iload hx hb dX7_feed_51 (lv_at hl 0 rfl) ?_
        refine lv_imul hx hb dX7_feed_53 ?_
        refine lv_ti (y := 8) (by decide) ?_
        refine lv_lshr hx hb dX7_feed_54 rfl ?_
        refine lv_topl (fun x_35 ex_35 => ?_)
        refine lv_l2i hx hb dX7_feed_55 rfl ?_
        refine lv_topi (fun x_36 ex_36 => ?_)
        refine lv_i2b hx hb dX7_feed_56 rfl ?_
        refine lv_topi (fun x_37 ex_37 => ?_)
        refine rw_v (D := D) (wr := [((a 0), .inr (7, [.ref (a 1), .ref (a 3), .ref (a 19), .ref (a 20), .ref (a 25), .int 0, .int (-1), .ref (a 32), .ref (a 35), .ref (a 42), .ref (a 43), .ref (a 44)]))]) (va_runV (As := [.int x_37]) (rest := []) ⟨hx, hb, hml, hown, hts⟩ ((k_append l D k st lo (a 1) (a 2) 2 3 x_37 g_34 (by decide) (by decide) (by unfold vp_in; decide) (by decide)) H.size) (cwV 1 hts (gV tw_346 tw_347 tw_348 tw_80 tw_349) rfl rfl rfl (by decide +kernel) ⟨Nat.le_of_ble_eq_true rfl, Nat.le_of_ble_eq_true rfl⟩) (pV hS hAlo hlo hP hK (va_Dlo hD hAlo) hZ [1, 2] (by decide) rfl (ci := 6) (q0 := 0) rfl rfl) rfl rfl hl.1 rfl (lv_room (Nat.le_of_ble_eq_true rfl)) dX7_feed_57 ⟨Nat.le_of_ble_eq_true rfl, Nat.le_of_ble_eq_true rfl⟩) hS hA hP hD [1, 2] [0] rfl rfl (by decide) (by decide) (fun u H locs hw_38 hP hD hS => ?_)
        obtain ⟨g_38, rfl⟩ : ∃ z, z = u := ⟨_, rfl⟩
        have hP : va_P D classes [((a 0), .inr (7, [.ref (a 1), .ref (a 3), .ref (a 19), .ref (a 20), .ref (a 25), .int 0, .int (-1), .ref (a 32), .ref (a 35), .ref (a 42), .ref (a 43), .ref (a 44)])), ((a 1), .inr (6, [.ref (a 2), .int 3, .int 0, .int 0, .int 0, .int 0])), ((a 2), .inl (k 0, 240, .inl g_38))] H := hP
        have hD : va_D A [((a 0), .inr (7, [.ref (a 1), .ref (a 3), .ref (a 19), .ref (a 20), .ref (a 25), .int 0, .int (-1), .ref (a 32), .ref (a 35), .ref (a 42), .ref (a 43), .ref (a 44)])), ((a 1), .inr (6, [.ref (a 2), .int 3, .int 0, .int 0, .int 0, .int 0])), ((a 2), .inl (k 0, 240, .inl g_38))] := hD
        try dsimp only at hw_38
        refine lv_iinc (v := 0) (lv' := [(4, .int 0), (0, .ref (a 0)), (1, .int 4), (2, .long p1)]) hx hb dX7_feed_60 hl (k := 0) rfl (by decide) (by decide) rfl (fun ls hl => ?_)
        refine lv_goto (tgt := 39) hx hb dX7_feed_63 (by decide) ?_
        refine lv_iload hx hb dX7_feed_39 (lv_at hl 0 rfl) ?_
        refine lv_if_lt (tgt := 66) hx hb dX7_feed_41 (by decide) (fun h => absurd h (by decide)) (fun _ => ?_)
        refine lv_aload_n hx hb dX7_feed_44 rfl (lv_at hl 1 rfl) ?_
        refine va_get (D := D) (ci := 7) (v := .ref (a 1)) (C := RX7) (T := TX7) (N := 12) hx hb hts inX7 hown hK hP 0 rfl rfl 0 (by decide) (hts _ tw_305) (fun _ h9 => h9) rfl dX7_feed_45 ?_
        refine lv_lload_n hx hb dX7_feed_48 rfl (lv_at hl 3 rfl) ?_
        refine lv_bipush (v := 8) hx hb dX7_feed_49 (by decide) ?_
        refine lv_iload hx hb dX7_feed_51 (lv_at hl 0 rfl) ?_
        refine lv_imul hx hb dX7_feed_53 ?_
        refine lv_ti (y := 0) (by decide) ?_
        refine lv_lshr hx hb dX7_feed_54 rfl ?_
        refine lv_topl (fun x_39 ex_39 => ?_)
        refine lv_l2i hx hb dX7_feed_55 rfl ?_
        refine lv_topi (fun x_40 ex_40 => ?_)
        refine lv_i2b hx hb dX7_feed_56 rfl ?_
        refine lv_topi (fun x_41 ex_41 => ?_)
        refine rw_v (D := D) (wr := [((a 0), .inr (7, [.ref (a 1), .ref (a 3), .ref (a 19), .ref (a 20), .ref (a 25), .int 0, .int (-1), .ref (a 32), .ref (a 35), .ref (a 42), .ref (a 43), .ref (a 44)]))]) (va_runV (As := [.int x_41]) (rest := []) ⟨hx, hb, hml, hown, hts⟩ ((k_append l D k st lo (a 1) (a 2) 3 4 x_41 g_38 (by decide) (by decide) (by unfold vp_in; decide) (by decide)) H.size) (cwV 1 hts (gV tw_346 tw_347 tw_348 tw_80 tw_349) rfl rfl rfl (by decide +kernel) ⟨Nat.le_of_ble_eq_true rfl, Nat.le_of_ble_eq_true rfl⟩) (pV hS hAlo hlo hP hK (va_Dlo hD hAlo) hZ [1, 2] (by decide) rfl (ci := 6) (q0 := 0) rfl rfl) rfl rfl hl.1 rfl (lv_room (Nat.le_of_ble_eq_true rfl)) dX7_feed_57 ⟨Nat.le_of_ble_eq_true rfl, Nat.le_of_ble_eq_true rfl⟩) hS hA hP hD [1, 2] [0] rfl rfl (by decide) (by decide) (fun u H locs hw_42 hP hD hS => ?_)
        obtain ⟨g_42, rfl⟩ : ∃ z, z = u := ⟨_, rfl⟩
        have hP : va_P D classes [((a 0), .inr (7, [.ref (a 1), .ref (a 3), .ref (a 19), .ref (a 20), .ref (a 25), .int 0, .int (-1), .ref (a 32), .ref (a 35), .ref (a 42), .ref (a 43), .ref (a 44)])), ((a 1), .inr (6, [.ref (a 2), .int 4, .int 0, .int 0, .int 0, .int 0])), ((a 2), .inl (k 0, 240, .inl g_42))] H := hP
        have hD : va_D A [((a 0), .inr (7, [.ref (a 1), .ref (a 3), .ref (a 19), .ref (a 20), .ref (a 25), .int 0, .int (-1), .ref (a 32), .ref (a 35), .ref (a 42), .ref (a 43), .ref (a 44)])), ((a 1), .inr (6, [.ref (a 2), .int 4, .int 0, .int 0, .int 0, .int 0])), ((a 2), .inl (k 0, 240, .inl g_42))] := hD
        try dsimp only at hw_42
        refine lv_iinc (v := (-1)) (lv' := [(4, .int (-1)), (0, .ref (a 0)), (1, .int 4), (2, .long p1)]) hx hb dX7_feed_60 hl (k := 0) rfl (by decide) (by decide) rfl (fun ls hl => ?_)
        refine lv_goto (tgt := 39) hx hb dX7_feed_63 (by decide) ?_
        refine lv_iload hx hb dX7_feed_39 (lv_at hl 0 rfl) ?_
        refine lv_if_lt (tgt := 66) hx hb dX7_feed_41 (by decide) (fun _ => ?_) (fun h => absurd (by decide) h)
        refine lv_aload_n hx hb dX7_feed_66 rfl (lv_at hl 1 rfl) ?_
        refine va_get (D := D) (ci := 7) (v := .ref (a 1)) (C := RX7) (T := TX7) (N := 12) hx hb hts inX7 hown hK hP 0 rfl rfl 0 (by decide) (hts _ tw_305) (fun _ h9 => h9) rfl dX7_feed_67 ?_
        refine va_get (D := D) (ci := 6) (v := .int 4) (C := RX6) (T := TX6) (N := 6) hx hb hts inX6 hown hK hP 1 rfl rfl 1 (by decide) (hts _ tw_111) (fun _ h9 => h9) rfl dX7_feed_70 ?_
        have hP9 := hP.sub (ws' := []) [] rfl
        have hD9 := hD.sub (ws' := []) [] (by decide) rfl
        exact W.iret (v := 4) hx hb hr (fun t ht hW => ⟨⟨4, (), rfl, ⟨fun _ => rfl, fun h => absurd ⟨by decide, by decide⟩ h⟩, by rw [ht]; exact hP9, hD9⟩, hS.F ht⟩) hS.2.2 dX7_feed_73
      · refine lv_aload_n hx hb dX7_feed_15 rfl (lv_at hl 0 rfl) ?_
        refine va_get (D := D) (ci := 7) (v := .ref (a 1)) (C := RX7) (T := TX7) (N := 12) hx hb hts inX7 hown hK hP 0 rfl rfl 0 (by decide) (hts _ tw_305) (fun _ h9 => h9) rfl dX7_feed_16 ?_
        refine va_get (D := D) (ci := 6) (v := .int 0) (C := RX6) (T := TX6) (N := 6) hx hb hts inX6 hown hK hP 1 rfl rfl 1 (by decide) (hts _ tw_111) (fun _ h9 => h9) rfl dX7_feed_19 ?_
        refine lv_iload_n hx hb dX7_feed_22 rfl (lv_at hl 1 rfl) ?_
        refine lv_iadd hx hb dX7_feed_23 ?_
        refine lv_ti (y := 5) (by decide) ?_
        refine lv_sipush (v := 240) hx hb dX7_feed_24 (by decide) ?_
        refine lv_icmp_le (tgt := 34) hx hb dX7_feed_27 (by decide) (fun _ => ?_) (fun h => absurd (by decide) h)
        refine lv_iload_n hx hb dX7_feed_34 rfl (lv_at hl 1 rfl) ?_
        refine lv_iconst (v := 1) hx hb dX7_feed_35 (by decide) ?_
        refine lv_isub hx hb dX7_feed_36 ?_
        refine lv_ti (y := 4) (by decide) ?_
        refine lv_istore (lv' := [(4, .int 4), (0, .ref (a 0)), (1, .int 5), (2, .long p1)]) hx hb dX7_feed_37 hl (by decide) rfl (fun ls hl => ?_)
        refine lv_iload hx hb dX7_feed_39 (lv_at hl 0 rfl) ?_
        refine lv_if_lt (tgt := 66) hx hb dX7_feed_41 (by decide) (fun h => absurd h (by decide)) (fun _ => ?_)
        refine lv_aload_n hx hb dX7_feed_44 rfl (lv_at hl 1 rfl) ?_
        refine va_get (D := D) (ci := 7) (v := .ref (a 1)) (C := RX7) (T := TX7) (N := 12) hx hb hts inX7 hown hK hP 0 rfl rfl 0 (by decide) (hts _ tw_305) (fun _ h9 => h9) rfl dX7_feed_45 ?_
        refine lv_lload_n hx hb dX7_feed_48 rfl (lv_at hl 3 rfl) ?_
        refine lv_bipush (v := 8) hx hb dX7_feed_49 (by decide) ?_
        refine lv_iload hx hb dX7_feed_51 (lv_at hl 0 rfl) ?_
        refine lv_imul hx hb dX7_feed_53 ?_
        refine lv_ti (y := 32) (by decide) ?_
        refine lv_lshr hx hb dX7_feed_54 rfl ?_
        refine lv_topl (fun x_43 ex_43 => ?_)
        refine lv_l2i hx hb dX7_feed_55 rfl ?_
        refine lv_topi (fun x_44 ex_44 => ?_)
        refine lv_i2b hx hb dX7_feed_56 rfl ?_
        refine lv_topi (fun x_45 ex_45 => ?_)
        refine rw_v (D := D) (wr := [((a 0), .inr (7, [.ref (a 1), .ref (a 3), .ref (a 19), .ref (a 20), .ref (a 25), .int 0, .int (-1), .ref (a 32), .ref (a 35), .ref (a 42), .ref (a 43), .ref (a 44)]))]) (va_runV (As := [.int x_45]) (rest := []) ⟨hx, hb, hml, hown, hts⟩ ((k_append l D k st lo (a 1) (a 2) 0 1 x_45 (fun _ => 0) (by decide) (by decide) (by unfold vp_in; decide) (by decide)) s.heap.size) (cwV 1 hts (gV tw_346 tw_347 tw_348 tw_80 tw_349) rfl rfl rfl (by decide +kernel) ⟨Nat.le_of_ble_eq_true rfl, Nat.le_of_ble_eq_true rfl⟩) (pV hS hAlo hlo hP hK (va_Dlo hD hAlo) hZ [1, 2] (by decide) rfl (ci := 6) (q0 := 0) rfl rfl) rfl rfl hl.1 rfl (lv_room (Nat.le_of_ble_eq_true rfl)) dX7_feed_57 ⟨Nat.le_of_ble_eq_true rfl, Nat.le_of_ble_eq_true rfl⟩) hS hA hP hD [1, 2] [0] rfl rfl (by decide) (by decide) (fun u H locs hw_46 hP hD hS => ?_)
        obtain ⟨g_46, rfl⟩ : ∃ z, z = u := ⟨_, rfl⟩
        have hP : va_P D classes [((a 0), .inr (7, [.ref (a 1), .ref (a 3), .ref (a 19), .ref (a 20), .ref (a 25), .int 0, .int (-1), .ref (a 32), .ref (a 35), .ref (a 42), .ref (a 43), .ref (a 44)])), ((a 1), .inr (6, [.ref (a 2), .int 1, .int 0, .int 0, .int 0, .int 0])), ((a 2), .inl (k 0, 240, .inl g_46))] H := hP
        have hD : va_D A [((a 0), .inr (7, [.ref (a 1), .ref (a 3), .ref (a 19), .ref (a 20), .ref (a 25), .int 0, .int (-1), .ref (a 32), .ref (a 35), .ref (a 42), .ref (a 43), .ref (a 44)])), ((a 1), .inr (6, [.ref (a 2), .int 1, .int 0, .int 0, .int 0, .int 0])), ((a 2), .inl (k 0, 240, .inl g_46))] := hD
        try dsimp only at hw_46
        refine lv_iinc (v := 3) (lv' := [(4, .int 3), (0, .ref (a 0)), (1, .int 5), (2, .long p1)]) hx hb dX7_feed_60 hl (k := 0) rfl (by decide) (by decide) rfl (fun ls hl => ?_)
        refine lv_goto (tgt := 39) hx hb dX7_feed_63 (by decide) ?_
        refine lv_iload hx hb dX7_feed_39 (lv_at hl 0 rfl) ?_
        refine lv_if_lt (tgt := 66) hx hb dX7_feed_41 (by decide) (fun h => absurd h (by decide)) (fun _ => ?_)
        refine lv_aload_n hx hb dX7_feed_44 rfl (lv_at hl 1 rfl) ?_
        refine va_get (D := D) (ci := 7) (v := .ref (a 1)) (C := RX7) (T := TX7) (N := 12) hx hb hts inX7 hown hK hP 0 rfl rfl 0 (by decide) (hts _ tw_305) (fun _ h9 => h9) rfl dX7_feed_45 ?_
        refine lv_lload_n hx hb dX7_feed_48 rfl (lv_at hl 3 rfl) ?_
        refine lv_bipush (v := 8) hx hb dX7_feed_49 (by decide) ?_
        refine lv_iload hx hb dX7_feed_51 (lv_at hl 0 rfl) ?_
        refine lv_imul hx hb dX7_feed_53 ?_
        refine lv_ti (y := 24) (by decide) ?_
        refine lv_lshr hx hb dX7_feed_54 rfl ?_
        refine lv_topl (fun x_47 ex_47 => ?_)
        refine lv_l2i hx hb dX7_feed_55 rfl ?_
        refine lv_topi (fun x_48 ex_48 => ?_)
        refine lv_i2b hx hb dX7_feed_56 rfl ?_
        refine lv_topi (fun x_49 ex_49 => ?_)
        refine rw_v (D := D) (wr := [((a 0), .inr (7, [.ref (a 1), .ref (a 3), .ref (a 19), .ref (a 20), .ref (a 25), .int 0, .int (-1), .ref (a 32), .ref (a 35), .ref (a 42), .ref (a 43), .ref (a 44)]))]) (va_runV (As := [.int x_49]) (rest := []) ⟨hx, hb, hml, hown, hts⟩ ((k_append l D k st lo (a 1) (a 2) 1 2 x_49 g_46 (by decide) (by decide) (by unfold vp_in; decide) (by decide)) H.size) (cwV 1 hts (gV tw_346 tw_347 tw_348 tw_80 tw_349) rfl rfl rfl (by decide +kernel) ⟨Nat.le_of_ble_eq_true rfl, Nat.le_of_ble_eq_true rfl⟩) (pV hS hAlo hlo hP hK (va_Dlo hD hAlo) hZ [1, 2] (by decide) rfl (ci := 6) (q0 := 0) rfl rfl) rfl rfl hl.1 rfl (lv_room (Nat.le_of_ble_eq_true rfl)) dX7_feed_57 ⟨Nat.le_of_ble_eq_true rfl, Nat.le_of_ble_eq_true rfl⟩) hS hA hP hD [1, 2] [0] rfl rfl (by decide) (by decide) (fun u H locs hw_50 hP hD hS => ?_)
        obtain ⟨g_50, rfl⟩ : ∃ z, z = u := ⟨_, rfl⟩
        have hP : va_P D classes [((a 0), .inr (7, [.ref (a 1), .ref (a 3), .ref (a 19), .ref (a 20), .ref (a 25), .int 0, .int (-1), .ref (a 32), .ref (a 35), .ref (a 42), .ref (a 43), .ref (a 44)])), ((a 1), .inr (6, [.ref (a 2), .int 2, .int 0, .int 0, .int 0, .int 0])), ((a 2), .inl (k 0, 240, .inl g_50))] H := hP
        have hD : va_D A [((a 0), .inr (7, [.ref (a 1), .ref (a 3), .ref (a 19), .ref (a 20), .ref (a 25), .int 0, .int (-1), .ref (a 32), .ref (a 35), .ref (a 42), .ref (a 43), .ref (a 44)])), ((a 1), .inr (6, [.ref (a 2), .int 2, .int 0, .int 0, .int 0, .int 0])), ((a 2), .inl (k 0, 240, .inl g_50))] := hD
        try dsimp only at hw_50
        refine lv_iinc (v := 2) (lv' := [(4, .int 2), (0, .ref (a 0)), (1, .int 5), (2, .long p1)]) hx hb dX7_feed_60 hl (k := 0) rfl (by decide) (by decide) rfl (fun ls hl => ?_)
        refine lv_goto (tgt := 39) hx hb dX7_feed_63 (by decide) ?_
        refine lv_iload hx hb dX7_feed_39 (lv_at hl 0 rfl) ?_
        refine lv_if_lt (tgt := 66) hx hb dX7_feed_41 (by decide) (fun h => absurd h (by decide)) (fun _ => ?_)
        refine lv_aload_n hx hb dX7_feed_44 rfl (lv_at hl 1 rfl) ?_
        refine va_get (D := D) (ci := 7) (v := .ref (a 1)) (C := RX7) (T := TX7) (N := 12) hx hb hts inX7 hown hK hP 0 rfl rfl 0 (by decide) (hts _ tw_305) (fun _ h9 => h9) rfl dX7_feed_45 ?_
        refine lv_lload_n hx hb dX7_feed_48 rfl (lv_at hl 3 rfl) ?_
        refine lv_bipush (v := 8) hx hb dX7_feed_49 (by decide) ?_
        refine lv_iload hx hb dX7_feed_51 (lv_at hl 0 rfl) ?_
        refine lv_imul hx hb dX7_feed_53 ?_
        refine lv_ti (y := 16) (by decide) ?_
        refine lv_lshr hx hb dX7_feed_54 rfl ?_
        refine lv_topl (fun x_51 ex_51 => ?_)
        refine lv_l2i hx hb dX7_feed_55 rfl ?_
        refine lv_topi (fun x_52 ex_52 => ?_)
        refine lv_i2b hx hb dX7_feed_56 rfl ?_
        refine lv_topi (fun x_53 ex_53 => ?_)
        refine rw_v (D := D) (wr := [((a 0), .inr (7, [.ref (a 1), .ref (a 3), .ref (a 19), .ref (a 20), .ref (a 25), .int 0, .int (-1), .ref (a 32), .ref (a 35), .ref (a 42), .ref (a 43), .ref (a 44)]))]) (va_runV (As := [.int x_53]) (rest := []) ⟨hx, hb, hml, hown, hts⟩ ((k_append l D k st lo (a 1) (a 2) 2 3 x_53 g_50 (by decide) (by decide) (by unfold vp_in; decide) (by decide)) H.size) (cwV 1 hts (gV tw_346 tw_347 tw_348 tw_80 tw_349) rfl rfl rfl (by decide +kernel) ⟨Nat.le_of_ble_eq_true rfl, Nat.le_of_ble_eq_true rfl⟩) (pV hS hAlo hlo hP hK (va_Dlo hD hAlo) hZ [1, 2] (by decide) rfl (ci := 6) (q0 := 0) rfl rfl) rfl rfl hl.1 rfl (lv_room (Nat.le_of_ble_eq_true rfl)) dX7_feed_57 ⟨Nat.le_of_ble_eq_true rfl, Nat.le_of_ble_eq_true rfl⟩) hS hA hP hD [1, 2] [0] rfl rfl (by decide) (by decide) (fun u H locs hw_54 hP hD hS => ?_)
        obtain ⟨g_54, rfl⟩ : ∃ z, z = u := ⟨_, rfl⟩
        have hP : va_P D classes [((a 0), .inr (7, [.ref (a 1), .ref (a 3), .ref (a 19), .ref (a 20), .ref (a 25), .int 0, .int (-1), .ref (a 32), .ref (a 35), .ref (a 42), .ref (a 43), .ref (a 44)])), ((a 1), .inr (6, [.ref (a 2), .int 3, .int 0, .int 0, .int 0, .int 0])), ((a 2), .inl (k 0, 240, .inl g_54))] H := hP
        have hD : va_D A [((a 0), .inr (7, [.ref (a 1), .ref (a 3), .ref (a 19), .ref (a 20), .ref (a 25), .int 0, .int (-1), .ref (a 32), .ref (a 35), .ref (a 42), .ref (a 43), .ref (a 44)])), ((a 1), .inr (6, [.ref (a 2), .int 3, .int 0, .int 0, .int 0, .int 0])), ((a 2), .inl (k 0, 240, .inl g_54))] := hD
        try dsimp only at hw_54
        refine lv_iinc (v := 1) (lv' := [(4, .int 1), (0, .ref (a 0)), (1, .int 5), (2, .long p1)]) hx hb dX7_feed_60 hl (k := 0) rfl (by decide) (by decide) rfl (fun ls hl => ?_)
        refine lv_goto (tgt := 39) hx hb dX7_feed_63 (by decide) ?_
        refine lv_iload hx hb dX7_feed_39 (lv_at hl 0 rfl) ?_
        refine lv_if_lt (tgt := 66) hx hb dX7_feed_41 (by decide) (fun h => absurd h (by decide)) (fun _ => ?_)
        refine lv_aload_n hx hb dX7_feed_44 rfl (lv_at hl 1 rfl) ?_
        refine va_get (D := D) (ci := 7) (v := .ref (a 1)) (C := RX7) (T := TX7) (N := 12) hx hb hts inX7 hown hK hP 0 rfl rfl 0 (by decide) (hts _ tw_305) (fun _ h9 => h9) rfl dX7_feed_45 ?_
        refine lv_lload_n hx hb dX7_feed_48 rfl (lv_at hl 3 rfl) ?_
        refine lv_bipush (v := 8) hx hb dX7_feed_49 (by decide) ?_
        refine lv_iload hx hb dX7_feed_51 (lv_at hl 0 rfl) ?_
        refine lv_imul hx hb dX7_feed_53 ?_
        refine lv_ti (y := 8) (by decide) ?_
        refine lv_lshr hx hb dX7_feed_54 rfl ?_
        refine lv_topl (fun x_55 ex_55 => ?_)
        refine lv_l2i hx hb dX7_feed_55 rfl ?_
        refine lv_topi (fun x_56 ex_56 => ?_)
        refine lv_i2b hx hb dX7_feed_56 rfl ?_
        refine lv_topi (fun x_57 ex_57 => ?_)
        refine rw_v (D := D) (wr := [((a 0), .inr (7, [.ref (a 1), .ref (a 3), .ref (a 19), .ref (a 20), .ref (a 25), .int 0, .int (-1), .ref (a 32), .ref (a 35), .ref (a 42), .ref (a 43), .ref (a 44)]))]) (va_runV (As := [.int x_57]) (rest := []) ⟨hx, hb, hml, hown, hts⟩ ((k_append l D k st lo (a 1) (a 2) 3 4 x_57 g_54 (by decide) (by decide) (by unfold vp_in; decide) (by decide)) H.size) (cwV 1 hts (gV tw_346 tw_347 tw_348 tw_80 tw_349) rfl rfl rfl (by decide +kernel) ⟨Nat.le_of_ble_eq_true rfl, Nat.le_of_ble_eq_true rfl⟩) (pV hS hAlo hlo hP hK (va_Dlo hD hAlo) hZ [1, 2] (by decide) rfl (ci := 6) (q0 := 0) rfl rfl) rfl rfl hl.1 rfl (lv_room (Nat.le_of_ble_eq_true rfl)) dX7_feed_57 ⟨Nat.le_of_ble_eq_true rfl, Nat.le_of_ble_eq_true rfl⟩) hS hA hP hD [1, 2] [0] rfl rfl (by decide) (by decide) (fun u H locs hw_58 hP hD hS => ?_)
        obtain ⟨g_58, rfl⟩ : ∃ z, z = u := ⟨_, rfl⟩
        have hP : va_P D classes [((a 0), .inr (7, [.ref (a 1), .ref (a 3), .ref (a 19), .ref (a 20), .ref (a 25), .int 0, .int (-1), .ref (a 32), .ref (a 35), .ref (a 42), .ref (a 43), .ref (a 44)])), ((a 1), .inr (6, [.ref (a 2), .int 4, .int 0, .int 0, .int 0, .int 0])), ((a 2), .inl (k 0, 240, .inl g_58))] H := hP
        have hD : va_D A [((a 0), .inr (7, [.ref (a 1), .ref (a 3), .ref (a 19), .ref (a 20), .ref (a 25), .int 0, .int (-1), .ref (a 32), .ref (a 35), .ref (a 42), .ref (a 43), .ref (a 44)])), ((a 1), .inr (6, [.ref (a 2), .int 4, .int 0, .int 0, .int 0, .int 0])), ((a 2), .inl (k 0, 240, .inl g_58))] := hD
        try dsimp only at hw_58
        refine lv_iinc (v := 0) (lv' := [(4, .int 0), (0, .ref (a 0)), (1, .int 5), (2, .long p1)]) hx hb dX7_feed_60 hl (k := 0) rfl (by decide) (by decide) rfl (fun ls hl => ?_)
        refine lv_goto (tgt := 39) hx hb dX7_feed_63 (by decide) ?_
        refine lv_iload hx hb dX7_feed_39 (lv_at hl 0 rfl) ?_
        refine lv_if_lt (tgt := 66) hx hb dX7_feed_41 (by decide) (fun h => absurd h (by decide)) (fun _ => ?_)
        refine lv_aload_n hx hb dX7_feed_44 rfl (lv_at hl 1 rfl) ?_
        refine va_get (D := D) (ci := 7) (v := .ref (a 1)) (C := RX7) (T := TX7) (N := 12) hx hb hts inX7 hown hK hP 0 rfl rfl 0 (by decide) (hts _ tw_305) (fun _ h9 => h9) rfl dX7_feed_45 ?_
        refine lv_lload_n hx hb dX7_feed_48 rfl (lv_at hl 3 rfl) ?_
        refine lv_bipush (v := 8) hx hb dX7_feed_49 (by decide) ?_
        refine lv_iload hx hb dX7_feed_51 (lv_at hl 0 rfl) ?_
        refine lv_imul hx hb dX7_feed_53 ?_
        refine lv_ti (y := 0) (by decide) ?_
        refine lv_lshr hx hb dX7_feed_54 rfl ?_
        refine lv_topl (fun x_59 ex_59 => ?_)
        refine lv_l2i hx hb dX7_feed_55 rfl ?_
        refine lv_topi (fun x_60 ex_60 => ?_)
        refine lv_i2b hx hb dX7_feed_56 rfl ?_
        refine lv_topi (fun x_61 ex_61 => ?_)
        refine rw_v (D := D) (wr := [((a 0), .inr (7, [.ref (a 1), .ref (a 3), .ref (a 19), .ref (a 20), .ref (a 25), .int 0, .int (-1), .ref (a 32), .ref (a 35), .ref (a 42), .ref (a 43), .ref (a 44)]))]) (va_runV (As := [.int x_61]) (rest := []) ⟨hx, hb, hml, hown, hts⟩ ((k_append l D k st lo (a 1) (a 2) 4 5 x_61 g_58 (by decide) (by decide) (by unfold vp_in; decide) (by decide)) H.size) (cwV 1 hts (gV tw_346 tw_347 tw_348 tw_80 tw_349) rfl rfl rfl (by decide +kernel) ⟨Nat.le_of_ble_eq_true rfl, Nat.le_of_ble_eq_true rfl⟩) (pV hS hAlo hlo hP hK (va_Dlo hD hAlo) hZ [1, 2] (by decide) rfl (ci := 6) (q0 := 0) rfl rfl) rfl rfl hl.1 rfl (lv_room (Nat.le_of_ble_eq_true rfl)) dX7_feed_57 ⟨Nat.le_of_ble_eq_true rfl, Nat.le_of_ble_eq_true rfl⟩) hS hA hP hD [1, 2] [0] rfl rfl (by decide) (by decide) (fun u H locs hw_62 hP hD hS => ?_)
        obtain ⟨g_62, rfl⟩ : ∃ z, z = u := ⟨_, rfl⟩
        have hP : va_P D classes [((a 0), .inr (7, [.ref (a 1), .ref (a 3), .ref (a 19), .ref (a 20), .ref (a 25), .int 0, .int (-1), .ref (a 32), .ref (a 35), .ref (a 42), .ref (a 43), .ref (a 44)])), ((a 1), .inr (6, [.ref (a 2), .int 5, .int 0, .int 0, .int 0, .int 0])), ((a 2), .inl (k 0, 240, .inl g_62))] H := hP
        have hD : va_D A [((a 0), .inr (7, [.ref (a 1), .ref (a 3), .ref (a 19), .ref (a 20), .ref (a 25), .int 0, .int (-1), .ref (a 32), .ref (a 35), .ref (a 42), .ref (a 43), .ref (a 44)])), ((a 1), .inr (6, [.ref (a 2), .int 5, .int 0, .int 0, .int 0, .int 0])), ((a 2), .inl (k 0, 240, .inl g_62))] := hD
        try dsimp only at hw_62
        refine lv_iinc (v := (-1)) (lv' := [(4, .int (-1)), (0, .ref (a 0)), (1, .int 5), (2, .long p1)]) hx hb dX7_feed_60 hl (k := 0) rfl (by decide) (by decide) rfl (fun ls hl => ?_)
        refine lv_goto (tgt := 39) hx hb dX7_feed_63 (by decide) ?_
        refine lv_iload hx hb dX7_feed_39 (lv_at hl 0 rfl) ?_
        refine lv_if_lt (tgt := 66) hx hb dX7_feed_41 (by decide) (fun _ => ?_) (fun h => absurd (by decide) h)
        refine lv_aload_n hx hb dX7_feed_66 rfl (lv_at hl 1 rfl) ?_
        refine va_get (D := D) (ci := 7) (v := .ref (a 1)) (C := RX7) (T := TX7) (N := 12) hx hb hts inX7 hown hK hP 0 rfl rfl 0 (by decide) (hts _ tw_305) (fun _ h9 => h9) rfl dX7_feed_67 ?_
        refine va_get (D := D) (ci := 6) (v := .int 5) (C := RX6) (T := TX6) (N := 6) hx hb hts inX6 hown hK hP 1 rfl rfl 1 (by decide) (hts _ tw_111) (fun _ h9 => h9) rfl dX7_feed_70 ?_
        have hP9 := hP.sub (ws' := []) [] rfl
        have hD9 := hD.sub (ws' := []) [] (by decide) rfl
        exact W.iret (v := 5) hx hb hr (fun t ht hW => ⟨⟨5, (), rfl, ⟨fun _ => rfl, fun h => absurd ⟨by decide, by decide⟩ h⟩, by rw [ht]; exact hP9, hD9⟩, hS.F ht⟩) hS.2.2 dX7_feed_73
      · refine lv_aload_n hx hb dX7_feed_15 rfl (lv_at hl 0 rfl) ?_
        refine va_get (D := D) (ci := 7) (v := .ref (a 1)) (C := RX7) (T := TX7) (N := 12) hx hb hts inX7 hown hK hP 0 rfl rfl 0 (by decide) (hts _ tw_305) (fun _ h9 => h9) rfl dX7_feed_16 ?_
        refine va_get (D := D) (ci := 6) (v := .int 0) (C := RX6) (T := TX6) (N := 6) hx hb hts inX6 hown hK hP 1 rfl rfl 1 (by decide) (hts _ tw_111) (fun _ h9 => h9) rfl dX7_feed_19 ?_
        refine lv_iload_n hx hb dX7_feed_22 rfl (lv_at hl 1 rfl) ?_
        refine lv_iadd hx hb dX7_feed_23 ?_
        refine lv_ti (y := 6) (by decide) ?_
        refine lv_sipush (v := 240) hx hb dX7_feed_24 (by decide) ?_
        refine lv_icmp_le (tgt := 34) hx hb dX7_feed_27 (by decide) (fun _ => ?_) (fun h => absurd (by decide) h)
        refine lv_iload_n hx hb dX7_feed_34 rfl (lv_at hl 1 rfl) ?_
        refine lv_iconst (v := 1) hx hb dX7_feed_35 (by decide) ?_
        refine lv_isub hx hb dX7_feed_36 ?_
        refine lv_ti (y := 5) (by decide) ?_
        refine lv_istore (lv' := [(4, .int 5), (0, .ref (a 0)), (1, .int 6), (2, .long p1)]) hx hb dX7_feed_37 hl (by decide) rfl (fun ls hl => ?_)
        refine lv_iload hx hb dX7_feed_39 (lv_at hl 0 rfl) ?_
        refine lv_if_lt (tgt := 66) hx hb dX7_feed_41 (by decide) (fun h => absurd h (by decide)) (fun _ => ?_)
        refine lv_aload_n hx hb dX7_feed_44 rfl (lv_at hl 1 rfl) ?_
        refine va_get (D := D) (ci := 7) (v := .ref (a 1)) (C := RX7) (T := TX7) (N := 12) hx hb hts inX7 hown hK hP 0 rfl rfl 0 (by decide) (hts _ tw_305) (fun _ h9 => h9) rfl dX7_feed_45 ?_
        refine lv_lload_n hx hb dX7_feed_48 rfl (lv_at hl 3 rfl) ?_
        refine lv_bipush (v := 8) hx hb dX7_feed_49 (by decide) ?_
        refine lv_iload hx hb dX7_feed_51 (lv_at hl 0 rfl) ?_
        refine lv_imul hx hb dX7_feed_53 ?_
        refine lv_ti (y := 40) (by decide) ?_
        refine lv_lshr hx hb dX7_feed_54 rfl ?_
        refine lv_topl (fun x_63 ex_63 => ?_)
        refine lv_l2i hx hb dX7_feed_55 rfl ?_
        refine lv_topi (fun x_64 ex_64 => ?_)
        refine lv_i2b hx hb dX7_feed_56 rfl ?_
        refine lv_topi (fun x_65 ex_65 => ?_)
        refine rw_v (D := D) (wr := [((a 0), .inr (7, [.ref (a 1), .ref (a 3), .ref (a 19), .ref (a 20), .ref (a 25), .int 0, .int (-1), .ref (a 32), .ref (a 35), .ref (a 42), .ref (a 43), .ref (a 44)]))]) (va_runV (As := [.int x_65]) (rest := []) ⟨hx, hb, hml, hown, hts⟩ ((k_append l D k st lo (a 1) (a 2) 0 1 x_65 (fun _ => 0) (by decide) (by decide) (by unfold vp_in; decide) (by decide)) s.heap.size) (cwV 1 hts (gV tw_346 tw_347 tw_348 tw_80 tw_349) rfl rfl rfl (by decide +kernel) ⟨Nat.le_of_ble_eq_true rfl, Nat.le_of_ble_eq_true rfl⟩) (pV hS hAlo hlo hP hK (va_Dlo hD hAlo) hZ [1, 2] (by decide) rfl (ci := 6) (q0 := 0) rfl rfl) rfl rfl hl.1 rfl (lv_room (Nat.le_of_ble_eq_true rfl)) dX7_feed_57 ⟨Nat.le_of_ble_eq_true rfl, Nat.le_of_ble_eq_true rfl⟩) hS hA hP hD [1, 2] [0] rfl rfl (by decide) (by decide) (fun u H locs hw_66 hP hD hS => ?_)
        obtain ⟨g_66, rfl⟩ : ∃ z, z = u := ⟨_, rfl⟩
        have hP : va_P D classes [((a 0), .inr (7, [.ref (a 1), .ref (a 3), .ref (a 19), .ref (a 20), .ref (a 25), .int 0, .int (-1), .ref (a 32), .ref (a 35), .ref (a 42), .ref (a 43), .ref (a 44)])), ((a 1), .inr (6, [.ref (a 2), .int 1, .int 0, .int 0, .int 0, .int 0])), ((a 2), .inl (k 0, 240, .inl g_66))] H := hP
        have hD : va_D A [((a 0), .inr (7, [.ref (a 1), .ref (a 3), .ref (a 19), .ref (a 20), .ref (a 25), .int 0, .int (-1), .ref (a 32), .ref (a 35), .ref (a 42), .ref (a 43), .ref (a 44)])), ((a 1), .inr (6, [.ref (a 2), .int 1, .int 0, .int 0, .int 0, .int 0])), ((a 2), .inl (k 0, 240, .inl g_66))] := hD
        try dsimp only at hw_66
        refine lv_iinc (v := 4) (lv' := [(4, .int 4), (0, .ref (a 0)), (1, .int 6), (2, .long p1)]) hx hb dX7_feed_60 hl (k := 0) rfl (by decide) (by decide) rfl (fun ls hl => ?_)
        refine lv_goto (tgt := 39) hx hb dX7_feed_63 (by decide) ?_
        refine lv_iload hx hb dX7_feed_39 (lv_at hl 0 rfl) ?_
        refine lv_if_lt (tgt := 66) hx hb dX7_feed_41 (by decide) (fun h => absurd h (by decide)) (fun _ => ?_)
        refine lv_aload_n hx hb dX7_feed_44 rfl (lv_at hl 1 rfl) ?_
        refine va_get (D := D) (ci := 7) (v := .ref (a 1)) (C := RX7) (T := TX7) (N := 12) hx hb hts inX7 hown hK hP 0 rfl rfl 0 (by decide) (hts _ tw_305) (fun _ h9 => h9) rfl dX7_feed_45 ?_
        refine lv_lload_n hx hb dX7_feed_48 rfl (lv_at hl 3 rfl) ?_
        refine lv_bipush (v := 8) hx hb dX7_feed_49 (by decide) ?_
        refine lv_iload hx hb dX7_feed_51 (lv_at hl 0 rfl) ?_
        refine lv_imul hx hb dX7_feed_53 ?_
        refine lv_ti (y := 32) (by decide) ?_
        refine lv_lshr hx hb dX7_feed_54 rfl ?_
        refine lv_topl (fun x_67 ex_67 => ?_)
        refine lv_l2i hx hb dX7_feed_55 rfl ?_
        refine lv_topi (fun x_68 ex_68 => ?_)
        refine lv_i2b hx hb dX7_feed_56 rfl ?_
        refine lv_topi (fun x_69 ex_69 => ?_)
        refine rw_v (D := D) (wr := [((a 0), .inr (7, [.ref (a 1), .ref (a 3), .ref (a 19), .ref (a 20), .ref (a 25), .int 0, .int (-1), .ref (a 32), .ref (a 35), .ref (a 42), .ref (a 43), .ref (a 44)]))]) (va_runV (As := [.int x_69]) (rest := []) ⟨hx, hb, hml, hown, hts⟩ ((k_append l D k st lo (a 1) (a 2) 1 2 x_69 g_66 (by decide) (by decide) (by unfold vp_in; decide) (by decide)) H.size) (cwV 1 hts (gV tw_346 tw_347 tw_348 tw_80 tw_349) rfl rfl rfl (by decide +kernel) ⟨Nat.le_of_ble_eq_true rfl, Nat.le_of_ble_eq_true rfl⟩) (pV hS hAlo hlo hP hK (va_Dlo hD hAlo) hZ [1, 2] (by decide) rfl (ci := 6) (q0 := 0) rfl rfl) rfl rfl hl.1 rfl (lv_room (Nat.le_of_ble_eq_true rfl)) dX7_feed_57 ⟨Nat.le_of_ble_eq_true rfl, Nat.le_of_ble_eq_true rfl⟩) hS hA hP hD [1, 2] [0] rfl rfl (by decide) (by decide) (fun u H locs hw_70 hP hD hS => ?_)
        obtain ⟨g_70, rfl⟩ : ∃ z, z = u := ⟨_, rfl⟩
        have hP : va_P D classes [((a 0), .inr (7, [.ref (a 1), .ref (a 3), .ref (a 19), .ref (a 20), .ref (a 25), .int 0, .int (-1), .ref (a 32), .ref (a 35), .ref (a 42), .ref (a 43), .ref (a 44)])), ((a 1), .inr (6, [.ref (a 2), .int 2, .int 0, .int 0, .int 0, .int 0])), ((a 2), .inl (k 0, 240, .inl g_70))] H := hP
        have hD : va_D A [((a 0), .inr (7, [.ref (a 1), .ref (a 3), .ref (a 19), .ref (a 20), .ref (a 25), .int 0, .int (-1), .ref (a 32), .ref (a 35), .ref (a 42), .ref (a 43), .ref (a 44)])), ((a 1), .inr (6, [.ref (a 2), .int 2, .int 0, .int 0, .int 0, .int 0])), ((a 2), .inl (k 0, 240, .inl g_70))] := hD
        try dsimp only at hw_70
        refine lv_iinc (v := 3) (lv' := [(4, .int 3), (0, .ref (a 0)), (1, .int 6), (2, .long p1)]) hx hb dX7_feed_60 hl (k := 0) rfl (by decide) (by decide) rfl (fun ls hl => ?_)
        refine lv_goto (tgt := 39) hx hb dX7_feed_63 (by decide) ?_
        refine lv_iload hx hb dX7_feed_39 (lv_at hl 0 rfl) ?_
        refine lv_if_lt (tgt := 66) hx hb dX7_feed_41 (by decide) (fun h => absurd h (by decide)) (fun _ => ?_)
        refine lv_aload_n hx hb dX7_feed_44 rfl (lv_at hl 1 rfl) ?_
        refine va_get (D := D) (ci := 7) (v := .ref (a 1)) (C := RX7) (T := TX7) (N := 12) hx hb hts inX7 hown hK hP 0 rfl rfl 0 (by decide) (hts _ tw_305) (fun _ h9 => h9) rfl dX7_feed_45 ?_
        refine lv_lload_n hx hb dX7_feed_48 rfl (lv_at hl 3 rfl) ?_
        refine lv_bipush (v := 8) hx hb dX7_feed_49 (by decide) ?_
        refine lv_iload hx hb dX7_feed_51 (lv_at hl 0 rfl) ?_
        refine lv_imul hx hb dX7_feed_53 ?_
        refine lv_ti (y := 24) (by decide) ?_
        refine lv_lshr hx hb dX7_feed_54 rfl ?_
        refine lv_topl (fun x_71 ex_71 => ?_)
        refine lv_l2i hx hb dX7_feed_55 rfl ?_
        refine lv_topi (fun x_72 ex_72 => ?_)
        refine lv_i2b hx hb dX7_feed_56 rfl ?_
        refine lv_topi (fun x_73 ex_73 => ?_)
        refine rw_v (D := D) (wr := [((a 0), .inr (7, [.ref (a 1), .ref (a 3), .ref (a 19), .ref (a 20), .ref (a 25), .int 0, .int (-1), .ref (a 32), .ref (a 35), .ref (a 42), .ref (a 43), .ref (a 44)]))]) (va_runV (As := [.int x_73]) (rest := []) ⟨hx, hb, hml, hown, hts⟩ ((k_append l D k st lo (a 1) (a 2) 2 3 x_73 g_70 (by decide) (by decide) (by unfold vp_in; decide) (by decide)) H.size) (cwV 1 hts (gV tw_346 tw_347 tw_348 tw_80 tw_349) rfl rfl rfl (by decide +kernel) ⟨Nat.le_of_ble_eq_true rfl, Nat.le_of_ble_eq_true rfl⟩) (pV hS hAlo hlo hP hK (va_Dlo hD hAlo) hZ [1, 2] (by decide) rfl (ci := 6) (q0 := 0) rfl rfl) rfl rfl hl.1 rfl (lv_room (Nat.le_of_ble_eq_true rfl)) dX7_feed_57 ⟨Nat.le_of_ble_eq_true rfl, Nat.le_of_ble_eq_true rfl⟩) hS hA hP hD [1, 2] [0] rfl rfl (by decide) (by decide) (fun u H locs hw_74 hP hD hS => ?_)
        obtain ⟨g_74, rfl⟩ : ∃ z, z = u := ⟨_, rfl⟩
        have hP : va_P D classes [((a 0), .inr (7, [.ref (a 1), .ref (a 3), .ref (a 19), .ref (a 20), .ref (a 25), .int 0, .int (-1), .ref (a 32), .ref (a 35), .ref (a 42), .ref (a 43), .ref (a 44)])), ((a 1), .inr (6, [.ref (a 2), .int 3, .int 0, .int 0, .int 0, .int 0])), ((a 2), .inl (k 0, 240, .inl g_74))] H := hP
        have hD : va_D A [((a 0), .inr (7, [.ref (a 1), .ref (a 3), .ref (a 19), .ref (a 20), .ref (a 25), .int 0, .int (-1), .ref (a 32), .ref (a 35), .ref (a 42), .ref (a 43), .ref (a 44)])), ((a 1), .inr (6, [.ref (a 2), .int 3, .int 0, .int 0, .int 0, .int 0])), ((a 2), .inl (k 0, 240, .inl g_74))] := hD
        try dsimp only at hw_74
        refine lv_iinc (v := 2) (lv' := [(4, .int 2), (0, .ref (a 0)), (1, .int 6), (2, .long p1)]) hx hb dX7_feed_60 hl (k := 0) rfl (by decide) (by decide) rfl (fun ls hl => ?_)
        refine lv_goto (tgt := 39) hx hb dX7_feed_63 (by decide) ?_
        refine lv_iload hx hb dX7_feed_39 (lv_at hl 0 rfl) ?_
        refine lv_if_lt (tgt := 66) hx hb dX7_feed_41 (by decide) (fun h => absurd h (by decide)) (fun _ => ?_)
        refine lv_aload_n hx hb dX7_feed_44 rfl (lv_at hl 1 rfl) ?_
        refine va_get (D := D) (ci := 7) (v := .ref (a 1)) (C := RX7) (T := TX7) (N := 12) hx hb hts inX7 hown hK hP 0 rfl rfl 0 (by decide) (hts _ tw_305) (fun _ h9 => h9) rfl dX7_feed_45 ?_
        refine lv_lload_n hx hb dX7_feed_48 rfl (lv_at hl 3 rfl) ?_
        refine lv_bipush (v := 8) hx hb dX7_feed_49 (by decide) ?_
        refine lv_iload hx hb dX7_feed_51 (lv_at hl 0 rfl) ?_
        refine lv_imul hx hb dX7_feed_53 ?_
        refine lv_ti (y := 16) (by decide) ?_
        refine lv_lshr hx hb dX7_feed_54 rfl ?_
        refine lv_topl (fun x_75 ex_75 => ?_)
        refine lv_l2i hx hb dX7_feed_55 rfl ?_
        refine lv_topi (fun x_76 ex_76 => ?_)
        refine lv_i2b hx hb dX7_feed_56 rfl ?_
        refine lv_topi (fun x_77 ex_77 => ?_)
        refine rw_v (D := D) (wr := [((a 0), .inr (7, [.ref (a 1), .ref (a 3), .ref (a 19), .ref (a 20), .ref (a 25), .int 0, .int (-1), .ref (a 32), .ref (a 35), .ref (a 42), .ref (a 43), .ref (a 44)]))]) (va_runV (As := [.int x_77]) (rest := []) ⟨hx, hb, hml, hown, hts⟩ ((k_append l D k st lo (a 1) (a 2) 3 4 x_77 g_74 (by decide) (by decide) (by unfold vp_in; decide) (by decide)) H.size) (cwV 1 hts (gV tw_346 tw_347 tw_348 tw_80 tw_349) rfl rfl rfl (by decide +kernel) ⟨Nat.le_of_ble_eq_true rfl, Nat.le_of_ble_eq_true rfl⟩) (pV hS hAlo hlo hP hK (va_Dlo hD hAlo) hZ [1, 2] (by decide) rfl (ci := 6) (q0 := 0) rfl rfl) rfl rfl hl.1 rfl (lv_room (Nat.le_of_ble_eq_true rfl)) dX7_feed_57 ⟨Nat.le_of_ble_eq_true rfl, Nat.le_of_ble_eq_true rfl⟩) hS hA hP hD [1, 2] [0] rfl rfl (by decide) (by decide) (fun u H locs hw_78 hP hD hS => ?_)
        obtain ⟨g_78, rfl⟩ : ∃ z, z = u := ⟨_, rfl⟩
        have hP : va_P D classes [((a 0), .inr (7, [.ref (a 1), .ref (a 3), .ref (a 19), .ref (a 20), .ref (a 25), .int 0, .int (-1), .ref (a 32), .ref (a 35), .ref (a 42), .ref (a 43), .ref (a 44)])), ((a 1), .inr (6, [.ref (a 2), .int 4, .int 0, .int 0, .int 0, .int 0])), ((a 2), .inl (k 0, 240, .inl g_78))] H := hP
        have hD : va_D A [((a 0), .inr (7, [.ref (a 1), .ref (a 3), .ref (a 19), .ref (a 20), .ref (a 25), .int 0, .int (-1), .ref (a 32), .ref (a 35), .ref (a 42), .ref (a 43), .ref (a 44)])), ((a 1), .inr (6, [.ref (a 2), .int 4, .int 0, .int 0, .int 0, .int 0])), ((a 2), .inl (k 0, 240, .inl g_78))] := hD
        try dsimp only at hw_78
        refine lv_iinc (v := 1) (lv' := [(4, .int 1), (0, .ref (a 0)), (1, .int 6), (2, .long p1)]) hx hb dX7_feed_60 hl (k := 0) rfl (by decide) (by decide) rfl (fun ls hl => ?_)
        refine lv_goto (tgt := 39) hx hb dX7_feed_63 (by decide) ?_
        refine lv_iload hx hb dX7_feed_39 (lv_at hl 0 rfl) ?_
        refine lv_if_lt (tgt := 66) hx hb dX7_feed_41 (by decide) (fun h => absurd h (by decide)) (fun _ => ?_)
        refine lv_aload_n hx hb dX7_feed_44 rfl (lv_at hl 1 rfl) ?_
        refine va_get (D := D) (ci := 7) (v := .ref (a 1)) (C := RX7) (T := TX7) (N := 12) hx hb hts inX7 hown hK hP 0 rfl rfl 0 (by decide) (hts _ tw_305) (fun _ h9 => h9) rfl dX7_feed_45 ?_
        refine lv_lload_n hx hb dX7_feed_48 rfl (lv_at hl 3 rfl) ?_
        refine lv_bipush (v := 8) hx hb dX7_feed_49 (by decide) ?_
        refine lv_iload hx hb dX7_feed_51 (lv_at hl 0 rfl) ?_
        refine lv_imul hx hb dX7_feed_53 ?_
        refine lv_ti (y := 8) (by decide) ?_
        refine lv_lshr hx hb dX7_feed_54 rfl ?_
        refine lv_topl (fun x_79 ex_79 => ?_)
        refine lv_l2i hx hb dX7_feed_55 rfl ?_
        refine lv_topi (fun x_80 ex_80 => ?_)
        refine lv_i2b hx hb dX7_feed_56 rfl ?_
        refine lv_topi (fun x_81 ex_81 => ?_)
        refine rw_v (D := D) (wr := [((a 0), .inr (7, [.ref (a 1), .ref (a 3), .ref (a 19), .ref (a 20), .ref (a 25), .int 0, .int (-1), .ref (a 32), .ref (a 35), .ref (a 42), .ref (a 43), .ref (a 44)]))]) (va_runV (As := [.int x_81]) (rest := []) ⟨hx, hb, hml, hown, hts⟩ ((k_append l D k st lo (a 1) (a 2) 4 5 x_81 g_78 (by decide) (by decide) (by unfold vp_in; decide) (by decide)) H.size) (cwV 1 hts (gV tw_346 tw_347 tw_348 tw_80 tw_349) rfl rfl rfl (by decide +kernel) ⟨Nat.le_of_ble_eq_true rfl, Nat.le_of_ble_eq_true rfl⟩) (pV hS hAlo hlo hP hK (va_Dlo hD hAlo) hZ [1, 2] (by decide) rfl (ci := 6) (q0 := 0) rfl rfl) rfl rfl hl.1 rfl (lv_room (Nat.le_of_ble_eq_true rfl)) dX7_feed_57 ⟨Nat.le_of_ble_eq_true rfl, Nat.le_of_ble_eq_true rfl⟩) hS hA hP hD [1, 2] [0] rfl rfl (by decide) (by decide) (fun u H locs hw_82 hP hD hS => ?_)
        obtain ⟨g_82, rfl⟩ : ∃ z, z = u := ⟨_, rfl⟩
        have hP : va_P D classes [((a 0), .inr (7, [.ref (a 1), .ref (a 3), .ref (a 19), .ref (a 20), .ref (a 25), .int 0, .int (-1), .ref (a 32), .ref (a 35), .ref (a 42), .ref (a 43), .ref (a 44)])), ((a 1), .inr (6, [.ref (a 2), .int 5, .int 0, .int 0, .int 0, .int 0])), ((a 2), .inl (k 0, 240, .inl g_82))] H := hP
        have hD : va_D A [((a 0), .inr (7, [.ref (a 1), .ref (a 3), .ref (a 19), .ref (a 20), .ref (a 25), .int 0, .int (-1), .ref (a 32), .ref (a 35), .ref (a 42), .ref (a 43), .ref (a 44)])), ((a 1), .inr (6, [.ref (a 2), .int 5, .int 0, .int 0, .int 0, .int 0])), ((a 2), .inl (k 0, 240, .inl g_82))] := hD
        try dsimp only at hw_82
        refine lv_iinc (v := 0) (lv' := [(4, .int 0), (0, .ref (a 0)), (1, .int 6), (2, .long p1)]) hx hb dX7_feed_60 hl (k := 0) rfl (by decide) (by decide) rfl (fun ls hl => ?_)
        refine lv_goto (tgt := 39) hx hb dX7_feed_63 (by decide) ?_
        refine lv_iload hx hb dX7_feed_39 (lv_at hl 0 rfl) ?_
        refine lv_if_lt (tgt := 66) hx hb dX7_feed_41 (by decide) (fun h => absurd h (by decide)) (fun _ => ?_)
        refine lv_aload_n hx hb dX7_feed_44 rfl (lv_at hl 1 rfl) ?_
        refine va_get (D := D) (ci := 7) (v := .ref (a 1)) (C := RX7) (T := TX7) (N := 12) hx hb hts inX7 hown hK hP 0 rfl rfl 0 (by decide) (hts _ tw_305) (fun _ h9 => h9) rfl dX7_feed_45 ?_
        refine lv_lload_n hx hb dX7_feed_48 rfl (lv_at hl 3 rfl) ?_
        refine lv_bipush (v := 8) hx hb dX7_feed_49 (by decide) ?_
        refine lv_iload hx hb dX7_feed_51 (lv_at hl 0 rfl) ?_
        refine lv_imul hx hb dX7_feed_53 ?_
        refine lv_ti (y := 0) (by decide) ?_
        refine lv_lshr hx hb dX7_feed_54 rfl ?_
        refine lv_topl (fun x_83 ex_83 => ?_)
        refine lv_l2i hx hb dX7_feed_55 rfl ?_
        refine lv_topi (fun x_84 ex_84 => ?_)
        refine lv_i2b hx hb dX7_feed_56 rfl ?_
        refine lv_topi (fun x_85 ex_85 => ?_)
        refine rw_v (D := D) (wr := [((a 0), .inr (7, [.ref (a 1), .ref (a 3), .ref (a 19), .ref (a 20), .ref (a 25), .int 0, .int (-1), .ref (a 32), .ref (a 35), .ref (a 42), .ref (a 43), .ref (a 44)]))]) (va_runV (As := [.int x_85]) (rest := []) ⟨hx, hb, hml, hown, hts⟩ ((k_append l D k st lo (a 1) (a 2) 5 6 x_85 g_82 (by decide) (by decide) (by unfold vp_in; decide) (by decide)) H.size) (cwV 1 hts (gV tw_346 tw_347 tw_348 tw_80 tw_349) rfl rfl rfl (by decide +kernel) ⟨Nat.le_of_ble_eq_true rfl, Nat.le_of_ble_eq_true rfl⟩) (pV hS hAlo hlo hP hK (va_Dlo hD hAlo) hZ [1, 2] (by decide) rfl (ci := 6) (q0 := 0) rfl rfl) rfl rfl hl.1 rfl (lv_room (Nat.le_of_ble_eq_true rfl)) dX7_feed_57 ⟨Nat.le_of_ble_eq_true rfl, Nat.le_of_ble_eq_true rfl⟩) hS hA hP hD [1, 2] [0] rfl rfl (by decide) (by decide) (fun u H locs hw_86 hP hD hS => ?_)
        obtain ⟨g_86, rfl⟩ : ∃ z, z = u := ⟨_, rfl⟩
        have hP : va_P D classes [((a 0), .inr (7, [.ref (a 1), .ref (a 3), .ref (a 19), .ref (a 20), .ref (a 25), .int 0, .int (-1), .ref (a 32), .ref (a 35), .ref (a 42), .ref (a 43), .ref (a 44)])), ((a 1), .inr (6, [.ref (a 2), .int 6, .int 0, .int 0, .int 0, .int 0])), ((a 2), .inl (k 0, 240, .inl g_86))] H := hP
        have hD : va_D A [((a 0), .inr (7, [.ref (a 1), .ref (a 3), .ref (a 19), .ref (a 20), .ref (a 25), .int 0, .int (-1), .ref (a 32), .ref (a 35), .ref (a 42), .ref (a 43), .ref (a 44)])), ((a 1), .inr (6, [.ref (a 2), .int 6, .int 0, .int 0, .int 0, .int 0])), ((a 2), .inl (k 0, 240, .inl g_86))] := hD
        try dsimp only at hw_86
        refine lv_iinc (v := (-1)) (lv' := [(4, .int (-1)), (0, .ref (a 0)), (1, .int 6), (2, .long p1)]) hx hb dX7_feed_60 hl (k := 0) rfl (by decide) (by decide) rfl (fun ls hl => ?_)
        refine lv_goto (tgt := 39) hx hb dX7_feed_63 (by decide) ?_
        refine lv_iload hx hb dX7_feed_39 (lv_at hl 0 rfl) ?_
        refine lv_if_lt (tgt := 66) hx hb dX7_feed_41 (by decide) (fun _ => ?_) (fun h => absurd (by decide) h)
        refine lv_aload_n hx hb dX7_feed_66 rfl (lv_at hl 1 rfl) ?_
        refine va_get (D := D) (ci := 7) (v := .ref (a 1)) (C := RX7) (T := TX7) (N := 12) hx hb hts inX7 hown hK hP 0 rfl rfl 0 (by decide) (hts _ tw_305) (fun _ h9 => h9) rfl dX7_feed_67 ?_
        refine va_get (D := D) (ci := 6) (v := .int 6) (C := RX6) (T := TX6) (N := 6) hx hb hts inX6 hown hK hP 1 rfl rfl 1 (by decide) (hts _ tw_111) (fun _ h9 => h9) rfl dX7_feed_70 ?_
        have hP9 := hP.sub (ws' := []) [] rfl
        have hD9 := hD.sub (ws' := []) [] (by decide) rfl
        exact W.iret (v := 6) hx hb hr (fun t ht hW => ⟨⟨6, (), rfl, ⟨fun _ => rfl, fun h => absurd ⟨by decide, by decide⟩ h⟩, by rw [ht]; exact hP9, hD9⟩, hS.F ht⟩) hS.2.2 dX7_feed_73
      · refine lv_aload_n hx hb dX7_feed_15 rfl (lv_at hl 0 rfl) ?_
        refine va_get (D := D) (ci := 7) (v := .ref (a 1)) (C := RX7) (T := TX7) (N := 12) hx hb hts inX7 hown hK hP 0 rfl rfl 0 (by decide) (hts _ tw_305) (fun _ h9 => h9) rfl dX7_feed_16 ?_
        refine va_get (D := D) (ci := 6) (v := .int 0) (C := RX6) (T := TX6) (N := 6) hx hb hts inX6 hown hK hP 1 rfl rfl 1 (by decide) (hts _ tw_111) (fun _ h9 => h9) rfl dX7_feed_19 ?_
        refine lv_iload_n hx hb dX7_feed_22 rfl (lv_at hl 1 rfl) ?_
        refine lv_iadd hx hb dX7_feed_23 ?_
        refine lv_ti (y := 7) (by decide) ?_
        refine lv_sipush (v := 240) hx hb dX7_feed_24 (by decide) ?_
        refine lv_icmp_le (tgt := 34) hx hb dX7_feed_27 (by decide) (fun _ => ?_) (fun h => absurd (by decide) h)
        refine lv_iload_n hx hb dX7_feed_34 rfl (lv_at hl 1 rfl) ?_
        refine lv_iconst (v := 1) hx hb dX7_feed_35 (by decide) ?_
        refine lv_isub hx hb dX7_feed_36 ?_
        refine lv_ti (y := 6) (by decide) ?_
        refine lv_istore (lv' := [(4, .int 6), (0, .ref (a 0)), (1, .int 7), (2, .long p1)]) hx hb dX7_feed_37 hl (by decide) rfl (fun ls hl => ?_)
        refine lv_iload hx hb dX7_feed_39 (lv_at hl 0 rfl) ?_
        refine lv_if_lt (tgt := 66) hx hb dX7_feed_41 (by decide) (fun h => absurd h (by decide)) (fun _ => ?_)
        refine lv_aload_n hx hb dX7_feed_44 rfl (lv_at hl 1 rfl) ?_
        refine va_get (D := D) (ci := 7) (v := .ref (a 1)) (C := RX7) (T := TX7) (N := 12) hx hb hts inX7 hown hK hP 0 rfl rfl 0 (by decide) (hts _ tw_305) (fun _ h9 => h9) rfl dX7_feed_45 ?_
        refine lv_lload_n hx hb dX7_feed_48 rfl (lv_at hl 3 rfl) ?_
        refine lv_bipush (v := 8) hx hb dX7_feed_49 (by decide) ?_
        refine lv_iload hx hb dX7_feed_51 (lv_at hl 0 rfl) ?_
        refine lv_imul hx hb dX7_feed_53 ?_
        refine lv_ti (y := 48) (by decide) ?_
        refine lv_lshr hx hb dX7_feed_54 rfl ?_
        refine lv_topl (fun x_87 ex_87 => ?_)
        refine lv_l2i hx hb dX7_feed_55 rfl ?_
        refine lv_topi (fun x_88 ex_88 => ?_)
        refine lv_i2b hx hb dX7_feed_56 rfl ?_
        refine lv_topi (fun x_89 ex_89 => ?_)
        refine rw_v (D := D) (wr := [((a 0), .inr (7, [.ref (a 1), .ref (a 3), .ref (a 19), .ref (a 20), .ref (a 25), .int 0, .int (-1), .ref (a 32), .ref (a 35), .ref (a 42), .ref (a 43), .ref (a 44)]))]) (va_runV (As := [.int x_89]) (rest := []) ⟨hx, hb, hml, hown, hts⟩ ((k_append l D k st lo (a 1) (a 2) 0 1 x_89 (fun _ => 0) (by decide) (by decide) (by unfold vp_in; decide) (by decide)) s.heap.size) (cwV 1 hts (gV tw_346 tw_347 tw_348 tw_80 tw_349) rfl rfl rfl (by decide +kernel) ⟨Nat.le_of_ble_eq_true rfl, Nat.le_of_ble_eq_true rfl⟩) (pV hS hAlo hlo hP hK (va_Dlo hD hAlo) hZ [1, 2] (by decide) rfl (ci := 6) (q0 := 0) rfl rfl) rfl rfl hl.1 rfl (lv_room (Nat.le_of_ble_eq_true rfl)) dX7_feed_57 ⟨Nat.le_of_ble_eq_true rfl, Nat.le_of_ble_eq_true rfl⟩) hS hA hP hD [1, 2] [0] rfl rfl (by decide) (by decide) (fun u H locs hw_90 hP hD hS => ?_)
        obtain ⟨g_90, rfl⟩ : ∃ z, z = u := ⟨_, rfl⟩
        have hP : va_P D classes [((a 0), .inr (7, [.ref (a 1), .ref (a 3), .ref (a 19), .ref (a 20), .ref (a 25), .int 0, .int (-1), .ref (a 32), .ref (a 35), .ref (a 42), .ref (a 43), .ref (a 44)])), ((a 1), .inr (6, [.ref (a 2), .int 1, .int 0, .int 0, .int 0, .int 0])), ((a 2), .inl (k 0, 240, .inl g_90))] H := hP
        have hD : va_D A [((a 0), .inr (7, [.ref (a 1), .ref (a 3), .ref (a 19), .ref (a 20), .ref (a 25), .int 0, .int (-1), .ref (a 32), .ref (a 35), .ref (a 42), .ref (a 43), .ref (a 44)])), ((a 1), .inr (6, [.ref (a 2), .int 1, .int 0, .int 0, .int 0, .int 0])), ((a 2), .inl (k 0, 240, .inl g_90))] := hD
        try dsimp only at hw_90
        refine lv_iinc (v := 5) (lv' := [(4, .int 5), (0, .ref (a 0)), (1, .int 7), (2, .long p1)]) hx hb dX7_feed_60 hl (k := 0) rfl (by decide) (by decide) rfl (fun ls hl => ?_)
        refine lv_goto (tgt := 39) hx hb dX7_feed_63 (by decide) ?_
        refine lv_iload hx hb dX7_feed_39 (lv_at hl 0 rfl) ?_
        refine lv_if_lt (tgt := 66) hx hb dX7_feed_41 (by decide) (fun h => absurd h (by decide)) (fun _ => ?_)
        refine lv_aload_n hx hb dX7_feed_44 rfl (lv_at hl 1 rfl) ?_
        refine va_get (D := D) (ci := 7) (v := .ref (a 1)) (C := RX7) (T := TX7) (N := 12) hx hb hts inX7 hown hK hP 0 rfl rfl 0 (by decide) (hts _ tw_305) (fun _ h9 => h9) rfl dX7_feed_45 ?_
        refine lv_lload_n hx hb dX7_feed_48 rfl (lv_at hl 3 rfl) ?_
        refine lv_bipush (v := 8) hx hb dX7_feed_49 (by decide) ?_
        refine lv_iload hx hb dX7_feed_51 (lv_at hl 0 rfl) ?_
        refine lv_imul hx hb dX7_feed_53 ?_
        refine lv_ti (y := 40) (by decide) ?_
        refine lv_lshr hx hb dX7_feed_54 rfl ?_
        refine lv_topl (fun x_91 ex_91 => ?_)
        refine lv_l2i hx hb dX7_feed_55 rfl ?_
        refine lv_topi (fun x_92 ex_92 => ?_)
        refine lv_i2b hx hb dX7_feed_56 rfl ?_
        refine lv_topi (fun x_93 ex_93 => ?_)
        refine rw_v (D := D) (wr := [((a 0), .inr (7, [.ref (a 1), .ref (a 3), .ref (a 19), .ref (a 20), .ref (a 25), .int 0, .int (-1), .ref (a 32), .ref (a 35), .ref (a 42), .ref (a 43), .ref (a 44)]))]) (va_runV (As := [.int x_93]) (rest := []) ⟨hx, hb, hml, hown, hts⟩ ((k_append l D k st lo (a 1) (a 2) 1 2 x_93 g_90 (by decide) (by decide) (by unfold vp_in; decide) (by decide)) H.size) (cwV 1 hts (gV tw_346 tw_347 tw_348 tw_80 tw_349) rfl rfl rfl (by decide +kernel) ⟨Nat.le_of_ble_eq_true rfl, Nat.le_of_ble_eq_true rfl⟩) (pV hS hAlo hlo hP hK (va_Dlo hD hAlo) hZ [1, 2] (by decide) rfl (ci := 6) (q0 := 0) rfl rfl) rfl rfl hl.1 rfl (lv_room (Nat.le_of_ble_eq_true rfl)) dX7_feed_57 ⟨Nat.le_of_ble_eq_true rfl, Nat.le_of_ble_eq_true rfl⟩) hS hA hP hD [1, 2] [0] rfl rfl (by decide) (by decide) (fun u H locs hw_94 hP hD hS => ?_)
        obtain ⟨g_94, rfl⟩ : ∃ z, z = u := ⟨_, rfl⟩
        have hP : va_P D classes [((a 0), .inr (7, [.ref (a 1), .ref (a 3), .ref (a 19), .ref (a 20), .ref (a 25), .int 0, .int (-1), .ref (a 32), .ref (a 35), .ref (a 42), .ref (a 43), .ref (a 44)])), ((a 1), .inr (6, [.ref (a 2), .int 2, .int 0, .int 0, .int 0, .int 0])), ((a 2), .inl (k 0, 240, .inl g_94))] H := hP
        have hD : va_D A [((a 0), .inr (7, [.ref (a 1), .ref (a 3), .ref (a 19), .ref (a 20), .ref (a 25), .int 0, .int (-1), .ref (a 32), .ref (a 35), .ref (a 42), .ref (a 43), .ref (a 44)])), ((a 1), .inr (6, [.ref (a 2), .int 2, .int 0, .int 0, .int 0, .int 0])), ((a 2), .inl (k 0, 240, .inl g_94))] := hD
        try dsimp only at hw_94
        refine lv_iinc (v := 4) (lv' := [(4, .int 4), (0, .ref (a 0)), (1, .int 7), (2, .long p1)]) hx hb dX7_feed_60 hl (k := 0) rfl (by decide) (by decide) rfl (fun ls hl => ?_)
        refine lv_goto (tgt := 39) hx hb dX7_feed_63 (by decide) ?_
        refine lv_iload hx hb dX7_feed_39 (lv_at hl 0 rfl) ?_
        refine lv_if_lt (tgt := 66) hx hb dX7_feed_41 (by decide) (fun h => absurd h (by decide)) (fun _ => ?_)
        refine lv_aload_n hx hb dX7_feed_44 rfl (lv_at hl 1 rfl) ?_
        refine va_get (D := D) (ci := 7) (v := .ref (a 1)) (C := RX7) (T := TX7) (N := 12) hx hb hts inX7 hown hK hP 0 rfl rfl 0 (by decide) (hts _ tw_305) (fun _ h9 => h9) rfl dX7_feed_45 ?_
        refine lv_lload_n hx hb dX7_feed_48 rfl (lv_at hl 3 rfl) ?_
        refine lv_bipush (v := 8) hx hb dX7_feed_49 (by decide) ?_
        refine lv_iload hx hb dX7_feed_51 (lv_at hl 0 rfl) ?_
        refine lv_imul hx hb dX7_feed_53 ?_
        refine lv_ti (y := 32) (by decide) ?_
        refine lv_lshr hx hb dX7_feed_54 rfl ?_
        refine lv_topl (fun x_95 ex_95 => ?_)
        refine lv_l2i hx hb dX7_feed_55 rfl ?_
        refine lv_topi (fun x_96 ex_96 => ?_)
        refine lv_i2b hx hb dX7_feed_56 rfl ?_
        refine lv_topi (fun x_97 ex_97 => ?_)
        refine rw_v (D := D) (wr := [((a 0), .inr (7, [.ref (a 1), .ref (a 3), .ref (a 19), .ref (a 20), .ref (a 25), .int 0, .int (-1), .ref (a 32), .ref (a 35), .ref (a 42), .ref (a 43), .ref (a 44)]))]) (va_runV (As := [.int x_97]) (rest := []) ⟨hx, hb, hml, hown, hts⟩ ((k_append l D k st lo (a 1) (a 2) 2 3 x_97 g_94 (by decide) (by decide) (by unfold vp_in; decide) (by decide)) H.size) (cwV 1 hts (gV tw_346 tw_347 tw_348 tw_80 tw_349) rfl rfl rfl (by decide +kernel) ⟨Nat.le_of_ble_eq_true rfl, Nat.le_of_ble_eq_true rfl⟩) (pV hS hAlo hlo hP hK (va_Dlo hD hAlo) hZ [1, 2] (by decide) rfl (ci := 6) (q0 := 0) rfl rfl) rfl rfl hl.1 rfl (lv_room (Nat.le_of_ble_eq_true rfl)) dX7_feed_57 ⟨Nat.le_of_ble_eq_true rfl, Nat.le_of_ble_eq_true rfl⟩) hS hA hP hD [1, 2] [0] rfl rfl (by decide) (by decide) (fun u H locs hw_98 hP hD hS => ?_)
        obtain ⟨g_98, rfl⟩ : ∃ z, z = u := ⟨_, rfl⟩
        have hP : va_P D classes [((a 0), .inr (7, [.ref (a 1), .ref (a 3), .ref (a 19), .ref (a 20), .ref (a 25), .int 0, .int (-1), .ref (a 32), .ref (a 35), .ref (a 42), .ref (a 43), .ref (a 44)])), ((a 1), .inr (6, [.ref (a 2), .int 3, .int 0, .int 0, .int 0, .int 0])), ((a 2), .inl (k 0, 240, .inl g_98))] H := hP
        have hD : va_D A [((a 0), .inr (7, [.ref (a 1), .ref (a 3), .ref (a 19), .ref (a 20), .ref (a 25), .int 0, .int (-1), .ref (a 32), .ref (a 35), .ref (a 42), .ref (a 43), .ref (a 44)])), ((a 1), .inr (6, [.ref (a 2), .int 3, .int 0, .int 0, .int 0, .int 0])), ((a 2), .inl (k 0, 240, .inl g_98))] := hD
        try dsimp only at hw_98
        refine lv_iinc (v := 3) (lv' := [(4, .int 3), (0, .ref (a 0)), (1, .int 7), (2, .long p1)]) hx hb dX7_feed_60 hl (k := 0) rfl (by decide) (by decide) rfl (fun ls hl => ?_)
        refine lv_goto (tgt := 39) hx hb dX7_feed_63 (by decide) ?_
        refine lv_iload hx hb dX7_feed_39 (lv_at hl 0 rfl) ?_
        refine lv_if_lt (tgt := 66) hx hb dX7_feed_41 (by decide) (fun h => absurd h (by decide)) (fun _ => ?_)
        refine lv_aload_n hx hb dX7_feed_44 rfl (lv_at hl 1 rfl) ?_
        refine va_get (D := D) (ci := 7) (v := .ref (a 1)) (C := RX7) (T := TX7) (N := 12) hx hb hts inX7 hown hK hP 0 rfl rfl 0 (by decide) (hts _ tw_305) (fun _ h9 => h9) rfl dX7_feed_45 ?_
        refine lv_lload_n hx hb dX7_feed_48 rfl (lv_at hl 3 rfl) ?_
        refine lv_bipush (v := 8) hx hb dX7_feed_49 (by decide) ?_
        refine lv_iload hx hb dX7_feed_51 (lv_at hl 0 rfl) ?_
        refine lv_imul hx hb dX7_feed_53 ?_
        refine lv_ti (y := 24) (by decide) ?_
        refine lv_lshr hx hb dX7_feed_54 rfl ?_
        refine lv_topl (fun x_99 ex_99 => ?_)
        refine lv_l2i hx hb dX7_feed_55 rfl ?_
        refine lv_topi (fun x_100 ex_100 => ?_)
        refine lv_i2b hx hb dX7_feed_56 rfl ?_
        refine lv_topi (fun x_101 ex_101 => ?_)
        refine rw_v (D := D) (wr := [((a 0), .inr (7, [.ref (a 1), .ref (a 3), .ref (a 19), .ref (a 20), .ref (a 25), .int 0, .int (-1), .ref (a 32), .ref (a 35), .ref (a 42), .ref (a 43), .ref (a 44)]))]) (va_runV (As := [.int x_101]) (rest := []) ⟨hx, hb, hml, hown, hts⟩ ((k_append l D k st lo (a 1) (a 2) 3 4 x_101 g_98 (by decide) (by decide) (by unfold vp_in; decide) (by decide)) H.size) (cwV 1 hts (gV tw_346 tw_347 tw_348 tw_80 tw_349) rfl rfl rfl (by decide +kernel) ⟨Nat.le_of_ble_eq_true rfl, Nat.le_of_ble_eq_true rfl⟩) (pV hS hAlo hlo hP hK (va_Dlo hD hAlo) hZ [1, 2] (by decide) rfl (ci := 6) (q0 := 0) rfl rfl) rfl rfl hl.1 rfl (lv_room (Nat.le_of_ble_eq_true rfl)) dX7_feed_57 ⟨Nat.le_of_ble_eq_true rfl, Nat.le_of_ble_eq_true rfl⟩) hS hA hP hD [1, 2] [0] rfl rfl (by decide) (by decide) (fun u H locs hw_102 hP hD hS => ?_)
        obtain ⟨g_102, rfl⟩ : ∃ z, z = u := ⟨_, rfl⟩
        have hP : va_P D classes [((a 0), .inr (7, [.ref (a 1), .ref (a 3), .ref (a 19), .ref (a 20), .ref (a 25), .int 0, .int (-1), .ref (a 32), .ref (a 35), .ref (a 42), .ref (a 43), .ref (a 44)])), ((a 1), .inr (6, [.ref (a 2), .int 4, .int 0, .int 0, .int 0, .int 0])), ((a 2), .inl (k 0, 240, .inl g_102))] H := hP
        have hD : va_D A [((a 0), .inr (7, [.ref (a 1), .ref (a 3), .ref (a 19), .ref (a 20), .ref (a 25), .int 0, .int (-1), .ref (a 32), .ref (a 35), .ref (a 42), .ref (a 43), .ref (a 44)])), ((a 1), .inr (6, [.ref (a 2), .int 4, .int 0, .int 0, .int 0, .int 0])), ((a 2), .inl (k 0, 240, .inl g_102))] := hD
        try dsimp only at hw_102
        refine lv_iinc (v := 2) (lv' := [(4, .int 2), (0, .ref (a 0)), (1, .int 7), (2, .long p1)]) hx hb dX7_feed_60 hl (k := 0) rfl (by decide) (by decide) rfl (fun ls hl => ?_)
        refine lv_goto (tgt := 39) hx hb dX7_feed_63 (by decide) ?_
        refine lv_iload hx hb dX7_feed_39 (lv_at hl 0 rfl) ?_
        refine lv_if_lt (tgt := 66) hx hb dX7_feed_41 (by decide) (fun h => absurd h (by decide)) (fun _ => ?_)
        refine lv_aload_n hx hb dX7_feed_44 rfl (lv_at hl 1 rfl) ?_
        refine va_get (D := D) (ci := 7) (v := .ref (a 1)) (C := RX7) (T := TX7) (N := 12) hx hb hts inX7 hown hK hP 0 rfl rfl 0 (by decide) (hts _ tw_305) (fun _ h9 => h9) rfl dX7_feed_45 ?_
        refine lv_lload_n hx hb dX7_feed_48 rfl (lv_at hl 3 rfl) ?_
        refine lv_bipush (v := 8) hx hb dX7_feed_49 (by decide) ?_
        refine lv_iload hx hb dX7_feed_51 (lv_at hl 0 rfl) ?_
        refine lv_imul hx hb dX7_feed_53 ?_
        refine lv_ti (y := 16) (by decide) ?_
        refine lv_lshr hx hb dX7_feed_54 rfl ?_
        refine lv_topl (fun x_103 ex_103 => ?_)
        refine lv_l2i hx hb dX7_feed_55 rfl ?_
        refine lv_topi (fun x_104 ex_104 => ?_)
        refine lv_i2b hx hb dX7_feed_56 rfl ?_
        refine lv_topi (fun x_105 ex_105 => ?_)
        refine rw_v (D := D) (wr := [((a 0), .inr (7, [.ref (a 1), .ref (a 3), .ref (a 19), .ref (a 20), .ref (a 25), .int 0, .int (-1), .ref (a 32), .ref (a 35), .ref (a 42), .ref (a 43), .ref (a 44)]))]) (va_runV (As := [.int x_105]) (rest := []) ⟨hx, hb, hml, hown, hts⟩ ((k_append l D k st lo (a 1) (a 2) 4 5 x_105 g_102 (by decide) (by decide) (by unfold vp_in; decide) (by decide)) H.size) (cwV 1 hts (gV tw_346 tw_347 tw_348 tw_80 tw_349) rfl rfl rfl (by decide +kernel) ⟨Nat.le_of_ble_eq_true rfl, Nat.le_of_ble_eq_true rfl⟩) (pV hS hAlo hlo hP hK (va_Dlo hD hAlo) hZ [1, 2] (by decide) rfl (ci := 6) (q0 := 0) rfl rfl) rfl rfl hl.1 rfl (lv_room (Nat.le_of_ble_eq_true rfl)) dX7_feed_57 ⟨Nat.le_of_ble_eq_true rfl, Nat.le_of_ble_eq_true rfl⟩) hS hA hP hD [1, 2] [0] rfl rfl (by decide) (by decide) (fun u H locs hw_106 hP hD hS => ?_)
        obtain ⟨g_106, rfl⟩ : ∃ z, z = u := ⟨_, rfl⟩
        have hP : va_P D classes [((a 0), .inr (7, [.ref (a 1), .ref (a 3), .ref (a 19), .ref (a 20), .ref (a 25), .int 0, .int (-1), .ref (a 32), .ref (a 35), .ref (a 42), .ref (a 43), .ref (a 44)])), ((a 1), .inr (6, [.ref (a 2), .int 5, .int 0, .int 0, .int 0, .int 0])), ((a 2), .inl (k 0, 240, .inl g_106))] H := hP
        have hD : va_D A [((a 0), .inr (7, [.ref (a 1), .ref (a 3), .ref (a 19), .ref (a 20), .ref (a 25), .int 0, .int (-1), .ref (a 32), .ref (a 35), .ref (a 42), .ref (a 43), .ref (a 44)])), ((a 1), .inr (6, [.ref (a 2), .int 5, .int 0, .int 0, .int 0, .int 0])), ((a 2), .inl (k 0, 240, .inl g_106))] := hD
        try dsimp only at hw_106
        refine lv_iinc (v := 1) (lv' := [(4, .int 1), (0, .ref (a 0)), (1, .int 7), (2, .long p1)]) hx hb dX7_feed_60 hl (k := 0) rfl (by decide) (by decide) rfl (fun ls hl => ?_)
        refine lv_goto (tgt := 39) hx hb dX7_feed_63 (by decide) ?_
        refine lv_iload hx hb dX7_feed_39 (lv_at hl 0 rfl) ?_
        refine lv_if_lt (tgt := 66) hx hb dX7_feed_41 (by decide) (fun h => absurd h (by decide)) (fun _ => ?_)
        refine lv_aload_n hx hb dX7_feed_44 rfl (lv_at hl 1 rfl) ?_
        refine va_get (D := D) (ci := 7) (v := .ref (a 1)) (C := RX7) (T := TX7) (N := 12) hx hb hts inX7 hown hK hP 0 rfl rfl 0 (by decide) (hts _ tw_305) (fun _ h9 => h9) rfl dX7_feed_45 ?_
        refine lv_lload_n hx hb dX7_feed_48 rfl (lv_at hl 3 rfl) ?_
        refine lv_bipush (v := 8) hx hb dX7_feed_49 (by decide) ?_
        refine lv_iload hx hb dX7_feed_51 (lv_at hl 0 rfl) ?_
        refine lv_imul hx hb dX7_feed_53 ?_
        refine lv_ti (y := 8) (by decide) ?_
        refine lv_lshr hx hb dX7_feed_54 rfl ?_
        refine lv_topl (fun x_107 ex_107 => ?_)
        refine lv_l2i hx hb dX7_feed_55 rfl ?_
        refine lv_topi (fun x_108 ex_108 => ?_)
        refine lv_i2b hx hb dX7_feed_56 rfl ?_
        refine lv_topi (fun x_109 ex_109 => ?_)
        refine rw_v (D := D) (wr := [((a 0), .inr (7, [.ref (a 1), .ref (a 3), .ref (a 19), .ref (a 20), .ref (a 25), .int 0, .int (-1), .ref (a 32), .ref (a 35), .ref (a 42), .ref (a 43), .ref (a 44)]))]) (va_runV (As := [.int x_109]) (rest := []) ⟨hx, hb, hml, hown, hts⟩ ((k_append l D k st lo (a 1) (a 2) 5 6 x_109 g_106 (by decide) (by decide) (by unfold vp_in; decide) (by decide)) H.size) (cwV 1 hts (gV tw_346 tw_347 tw_348 tw_80 tw_349) rfl rfl rfl (by decide +kernel) ⟨Nat.le_of_ble_eq_true rfl, Nat.le_of_ble_eq_true rfl⟩) (pV hS hAlo hlo hP hK (va_Dlo hD hAlo) hZ [1, 2] (by decide) rfl (ci := 6) (q0 := 0) rfl rfl) rfl rfl hl.1 rfl (lv_room (Nat.le_of_ble_eq_true rfl)) dX7_feed_57 ⟨Nat.le_of_ble_eq_true rfl, Nat.le_of_ble_eq_true rfl⟩) hS hA hP hD [1, 2] [0] rfl rfl (by decide) (by decide) (fun u H locs hw_110 hP hD hS => ?_)
        obtain ⟨g_110, rfl⟩ : ∃ z, z = u := ⟨_, rfl⟩
        have hP : va_P D classes [((a 0), .inr (7, [.ref (a 1), .ref (a 3), .ref (a 19), .ref (a 20), .ref (a 25), .int 0, .int (-1), .ref (a 32), .ref (a 35), .ref (a 42), .ref (a 43), .ref (a 44)])), ((a 1), .inr (6, [.ref (a 2), .int 6, .int 0, .int 0, .int 0, .int 0])), ((a 2), .inl (k 0, 240, .inl g_110))] H := hP
        have hD : va_D A [((a 0), .inr (7, [.ref (a 1), .ref (a 3), .ref (a 19), .ref (a 20), .ref (a 25), .int 0, .int (-1), .ref (a 32), .ref (a 35), .ref (a 42), .ref (a 43), .ref (a 44)])), ((a 1), .inr (6, [.ref (a 2), .int 6, .int 0, .int 0, .int 0, .int 0])), ((a 2), .inl (k 0, 240, .inl g_110))] := hD
        try dsimp only at hw_110
        refine lv_iinc (v := 0) (lv' := [(4, .int 0), (0, .ref (a 0)), (1, .int 7), (2, .long p1)]) hx hb dX7_feed_60 hl (k := 0) rfl (by decide) (by decide) rfl (fun ls hl => ?_)
        refine lv_goto (tgt := 39) hx hb dX7_feed_63 (by decide) ?_
        refine lv_iload hx hb dX7_feed_39 (lv_at hl 0 rfl) ?_
        refine lv_if_lt (tgt := 66) hx hb dX7_feed_41 (by decide) (fun h => absurd h (by decide)) (fun _ => ?_)
        refine lv_aload_n hx hb dX7_feed_44 rfl (lv_at hl 1 rfl) ?_
        refine va_get (D := D) (ci := 7) (v := .ref (a 1)) (C := RX7) (T := TX7) (N := 12) hx hb hts inX7 hown hK hP 0 rfl rfl 0 (by decide) (hts _ tw_305) (fun _ h9 => h9) rfl dX7_feed_45 ?_
        refine lv_lload_n hx hb dX7_feed_48 rfl (lv_at hl 3 rfl) ?_
        refine lv_bipush (v := 8) hx hb dX7_feed_49 (by decide) ?_
        refine lv_iload hx hb dX7_feed_51 (lv_at hl 0 rfl) ?_
        refine lv_imul hx hb dX7_feed_53 ?_
        refine lv_ti (y := 0) (by decide) ?_
        refine lv_lshr hx hb dX7_feed_54 rfl ?_
        refine lv_topl (fun x_111 ex_111 => ?_)
        refine lv_l2i hx hb dX7_feed_55 rfl ?_
        refine lv_topi (fun x_112 ex_112 => ?_)
        refine lv_i2b hx hb dX7_feed_56 rfl ?_
        refine lv_topi (fun x_113 ex_113 => ?_)
        refine rw_v (D := D) (wr := [((a 0), .inr (7, [.ref (a 1), .ref (a 3), .ref (a 19), .ref (a 20), .ref (a 25), .int 0, .int (-1), .ref (a 32), .ref (a 35), .ref (a 42), .ref (a 43), .ref (a 44)]))]) (va_runV (As := [.int x_113]) (rest := []) ⟨hx, hb, hml, hown, hts⟩ ((k_append l D k st lo (a 1) (a 2) 6 7 x_113 g_110 (by decide) (by decide) (by unfold vp_in; decide) (by decide)) H.size) (cwV 1 hts (gV tw_346 tw_347 tw_348 tw_80 tw_349) rfl rfl rfl (by decide +kernel) ⟨Nat.le_of_ble_eq_true rfl, Nat.le_of_ble_eq_true rfl⟩) (pV hS hAlo hlo hP hK (va_Dlo hD hAlo) hZ [1, 2] (by decide) rfl (ci := 6) (q0 := 0) rfl rfl) rfl rfl hl.1 rfl (lv_room (Nat.le_of_ble_eq_true rfl)) dX7_feed_57 ⟨Nat.le_of_ble_eq_true rfl, Nat.le_of_ble_eq_true rfl⟩) hS hA hP hD [1, 2] [0] rfl rfl (by decide) (by decide) (fun u H locs hw_114 hP hD hS => ?_)
        obtain ⟨g_114, rfl⟩ : ∃ z, z = u := ⟨_, rfl⟩
        have hP : va_P D classes [((a 0), .inr (7, [.ref (a 1), .ref (a 3), .ref (a 19), .ref (a 20), .ref (a 25), .int 0, .int (-1), .ref (a 32), .ref (a 35), .ref (a 42), .ref (a 43), .ref (a 44)])), ((a 1), .inr (6, [.ref (a 2), .int 7, .int 0, .int 0, .int 0, .int 0])), ((a 2), .inl (k 0, 240, .inl g_114))] H := hP
        have hD : va_D A [((a 0), .inr (7, [.ref (a 1), .ref (a 3), .ref (a 19), .ref (a 20), .ref (a 25), .int 0, .int (-1), .ref (a 32), .ref (a 35), .ref (a 42), .ref (a 43), .ref (a 44)])), ((a 1), .inr (6, [.ref (a 2), .int 7, .int 0, .int 0, .int 0, .int 0])), ((a 2), .inl (k 0, 240, .inl g_114))] := hD
        try dsimp only at hw_114
        refine lv_iinc (v := (-1)) (lv' := [(4, .int (-1)), (0, .ref (a 0)), (1, .int 7), (2, .long p1)]) hx hb dX7_feed_60 hl (k := 0) rfl (by decide) (by decide) rfl (fun ls hl => ?_)
        refine lv_goto (tgt := 39) hx hb dX7_feed_63 (by decide) ?_
        refine lv_iload hx hb dX7_feed_39 (lv_at hl 0 rfl) ?_
        refine lv_if_lt (tgt := 66) hx hb dX7_feed_41 (by decide) (fun _ => ?_) (fun h => absurd (by decide) h)
        refine lv_aload_n hx hb dX7_feed_66 rfl (lv_at hl 1 rfl) ?_
        refine va_get (D := D) (ci := 7) (v := .ref (a 1)) (C := RX7) (T := TX7) (N := 12) hx hb hts inX7 hown hK hP 0 rfl rfl 0 (by decide) (hts _ tw_305) (fun _ h9 => h9) rfl dX7_feed_67 ?_
        refine va_get (D := D) (ci := 6) (v := .int 7) (C := RX6) (T := TX6) (N := 6) hx hb hts inX6 hown hK hP 1 rfl rfl 1 (by decide) (hts _ tw_111) (fun _ h9 => h9) rfl dX7_feed_70 ?_
        have hP9 := hP.sub (ws' := []) [] rfl
        have hD9 := hD.sub (ws' := []) [] (by decide) rfl
        exact W.iret (v := 7) hx hb hr (fun t ht hW => ⟨⟨7, (), rfl, ⟨fun _ => rfl, fun h => absurd ⟨by decide, by decide⟩ h⟩, by rw [ht]; exact hP9, hD9⟩, hS.F ht⟩) hS.2.2 dX7_feed_73
      · refine lv_aload_n hx hb dX7_feed_15 rfl (lv_at hl 0 rfl) ?_
        refine va_get (D := D) (ci := 7) (v := .ref (a 1)) (C := RX7) (T := TX7) (N := 12) hx hb hts inX7 hown hK hP 0 rfl rfl 0 (by decide) (hts _ tw_305) (fun _ h9 => h9) rfl dX7_feed_16 ?_
        refine va_get (D := D) (ci := 6) (v := .int 0) (C := RX6) (T := TX6) (N := 6) hx hb hts inX6 hown hK hP 1 rfl rfl 1 (by decide) (hts _ tw_111) (fun _ h9 => h9) rfl dX7_feed_19 ?_
        refine lv_iload_n hx hb dX7_feed_22 rfl (lv_at hl 1 rfl) ?_
        refine lv_iadd hx hb dX7_feed_23 ?_
        refine lv_ti (y := 8) (by decide) ?_
        refine lv_sipush (v := 240) hx hb dX7_feed_24 (by decide) ?_
        refine lv_icmp_le (tgt := 34) hx hb dX7_feed_27 (by decide) (fun _ => ?_) (fun h => absurd (by decide) h)
        refine lv_iload_n hx hb dX7_feed_34 rfl (lv_at hl 1 rfl) ?_
        refine lv_iconst (v := 1) hx hb dX7_feed_35 (by decide) ?_
        refine lv_isub hx hb dX7_feed_36 ?_
        refine lv_ti (y := 7) (by decide) ?_
        refine lv_istore (lv' := [(4, .int 7), (0, .ref (a 0)), (1, .int 8), (2, .long p1)]) hx hb dX7_feed_37 hl (by decide) rfl (fun ls hl => ?_)
        refine lv_iload hx hb dX7_feed_39 (lv_at hl 0 rfl) ?_
        refine lv_if_lt (tgt := 66) hx hb dX7_feed_41 (by decide) (fun h => absurd h (by decide)) (fun _ => ?_)
        refine lv_aload_n hx hb dX7_feed_44 rfl (lv_at hl 1 rfl) ?_
        refine va_get (D := D) (ci := 7) (v := .ref (a 1)) (C := RX7) (T := TX7) (N := 12) hx hb hts inX7 hown hK hP 0 rfl rfl 0 (by decide) (hts _ tw_305) (fun _ h9 => h9) rfl dX7_feed_45 ?_
        refine lv_lload_n hx hb dX7_feed_48 rfl (lv_at hl 3 rfl) ?_
        refine lv_bipush (v := 8) hx hb dX7_feed_49 (by decide) ?_
        refine lv_iload hx hb dX7_feed_51 (lv_at hl 0 rfl) ?_
        refine lv_imul hx hb dX7_feed_53 ?_
        refine lv_ti (y := 56) (by decide) ?_
        refine lv_lshr hx hb dX7_feed_54 rfl ?_
        refine lv_topl (fun x_115 ex_115 => ?_)
        refine lv_l2i hx hb dX7_feed_55 rfl ?_
        refine lv_topi (fun x_116 ex_116 => ?_)
        refine lv_i2b hx hb dX7_feed_56 rfl ?_
        refine lv_topi (fun x_117 ex_117 => ?_)
        refine rw_v (D := D) (wr := [((a 0), .inr (7, [.ref (a 1), .ref (a 3), .ref (a 19), .ref (a 20), .ref (a 25), .int 0, .int (-1), .ref (a 32), .ref (a 35), .ref (a 42), .ref (a 43), .ref (a 44)]))]) (va_runV (As := [.int x_117]) (rest := []) ⟨hx, hb, hml, hown, hts⟩ ((k_append l D k st lo (a 1) (a 2) 0 1 x_117 (fun _ => 0) (by decide) (by decide) (by unfold vp_in; decide) (by decide)) s.heap.size) (cwV 1 hts (gV tw_346 tw_347 tw_348 tw_80 tw_349) rfl rfl rfl (by decide +kernel) ⟨Nat.le_of_ble_eq_true rfl, Nat.le_of_ble_eq_true rfl⟩) (pV hS hAlo hlo hP hK (va_Dlo hD hAlo) hZ [1, 2] (by decide) rfl (ci := 6) (q0 := 0) rfl rfl) rfl rfl hl.1 rfl (lv_room (Nat.le_of_ble_eq_true rfl)) dX7_feed_57 ⟨Nat.le_of_ble_eq_true rfl, Nat.le_of_ble_eq_true rfl⟩) hS hA hP hD [1, 2] [0] rfl rfl (by decide) (by decide) (fun u H locs hw_118 hP hD hS => ?_)
        obtain ⟨g_118, rfl⟩ : ∃ z, z = u := ⟨_, rfl⟩
        have hP : va_P D classes [((a 0), .inr (7, [.ref (a 1), .ref (a 3), .ref (a 19), .ref (a 20), .ref (a 25), .int 0, .int (-1), .ref (a 32), .ref (a 35), .ref (a 42), .ref (a 43), .ref (a 44)])), ((a 1), .inr (6, [.ref (a 2), .int 1, .int 0, .int 0, .int 0, .int 0])), ((a 2), .inl (k 0, 240, .inl g_118))] H := hP
        have hD : va_D A [((a 0), .inr (7, [.ref (a 1), .ref (a 3), .ref (a 19), .ref (a 20), .ref (a 25), .int 0, .int (-1), .ref (a 32), .ref (a 35), .ref (a 42), .ref (a 43), .ref (a 44)])), ((a 1), .inr (6, [.ref (a 2), .int 1, .int 0, .int 0, .int 0, .int 0])), ((a 2), .inl (k 0, 240, .inl g_118))] := hD
        try dsimp only at hw_118
        refine lv_iinc (v := 6) (lv' := [(4, .int 6), (0, .ref (a 0)), (1, .int 8), (2, .long p1)]) hx hb dX7_feed_60 hl (k := 0) rfl (by decide) (by decide) rfl (fun ls hl => ?_)
        refine lv_goto (tgt := 39) hx hb dX7_feed_63 (by decide) ?_
        refine lv_iload hx hb dX7_feed_39 (lv_at hl 0 rfl) ?_
        refine lv_if_lt (tgt := 66) hx hb dX7_feed_41 (by decide) (fun h => absurd h (by decide)) (fun _ => ?_)
        refine lv_aload_n hx hb dX7_feed_44 rfl (lv_at hl 1 rfl) ?_
        refine va_get (D := D) (ci := 7) (v := .ref (a 1)) (C := RX7) (T := TX7) (N := 12) hx hb hts inX7 hown hK hP 0 rfl rfl 0 (by decide) (hts _ tw_305) (fun _ h9 => h9) rfl dX7_feed_45 ?_
        refine lv_lload_n hx hb dX7_feed_48 rfl (lv_at hl 3 rfl) ?_
        refine lv_bipush (v := 8) hx hb dX7_feed_49 (by decide) ?_
        refine lv_iload hx hb dX7_feed_51 (lv_at hl 0 rfl) ?_
        refine lv_imul hx hb dX7_feed_53 ?_
        refine lv_ti (y := 48) (by decide) ?_
        refine lv_lshr hx hb dX7_feed_54 rfl ?_
        refine lv_topl (fun x_119 ex_119 => ?_)
        refine lv_l2i hx hb dX7_feed_55 rfl ?_
        refine lv_topi (fun x_120 ex_120 => ?_)
        refine lv_i2b hx hb dX7_feed_56 rfl ?_
        refine lv_topi (fun x_121 ex_121 => ?_)
        refine rw_v (D := D) (wr := [((a 0), .inr (7, [.ref (a 1), .ref (a 3), .ref (a 19), .ref (a 20), .ref (a 25), .int 0, .int (-1), .ref (a 32), .ref (a 35), .ref (a 42), .ref (a 43), .ref (a 44)]))]) (va_runV (As := [.int x_121]) (rest := []) ⟨hx, hb, hml, hown, hts⟩ ((k_append l D k st lo (a 1) (a 2) 1 2 x_121 g_118 (by decide) (by decide) (by unfold vp_in; decide) (by decide)) H.size) (cwV 1 hts (gV tw_346 tw_347 tw_348 tw_80 tw_349) rfl rfl rfl (by decide +kernel) ⟨Nat.le_of_ble_eq_true rfl, Nat.le_of_ble_eq_true rfl⟩) (pV hS hAlo hlo hP hK (va_Dlo hD hAlo) hZ [1, 2] (by decide) rfl (ci := 6) (q0 := 0) rfl rfl) rfl rfl hl.1 rfl (lv_room (Nat.le_of_ble_eq_true rfl)) dX7_feed_57 ⟨Nat.le_of_ble_eq_true rfl, Nat.le_of_ble_eq_true rfl⟩) hS hA hP hD [1, 2] [0] rfl rfl (by decide) (by decide) (fun u H locs hw_122 hP hD hS => ?_)
        obtain ⟨g_122, rfl⟩ : ∃ z, z = u := ⟨_, rfl⟩
        have hP : va_P D classes [((a 0), .inr (7, [.ref (a 1), .ref (a 3), .ref (a 19), .ref (a 20), .ref (a 25), .int 0, .int (-1), .ref (a 32), .ref (a 35), .ref (a 42), .ref (a 43), .ref (a 44)])), ((a 1), .inr (6, [.ref (a 2), .int 2, .int 0, .int 0, .int 0, .int 0])), ((a 2), .inl (k 0, 240, .inl g_122))] H := hP
        have hD : va_D A [((a 0), .inr (7, [.ref (a 1), .ref (a 3), .ref (a 19), .ref (a 20), .ref (a 25), .int 0, .int (-1), .ref (a 32), .ref (a 35), .ref (a 42), .ref (a 43), .ref (a 44)])), ((a 1), .inr (6, [.ref (a 2), .int 2, .int 0, .int 0, .int 0, .int 0])), ((a 2), .inl (k 0, 240, .inl g_122))] := hD
        try dsimp only at hw_122
        refine lv_iinc (v := 5) (lv' := [(4, .int 5), (0, .ref (a 0)), (1, .int 8), (2, .long p1)]) hx hb dX7_feed_60 hl (k := 0) rfl (by decide) (by decide) rfl (fun ls hl => ?_)
        refine lv_goto (tgt := 39) hx hb dX7_feed_63 (by decide) ?_
        refine lv_iload hx hb dX7_feed_39 (lv_at hl 0 rfl) ?_
        refine lv_if_lt (tgt := 66) hx hb dX7_feed_41 (by decide) (fun h => absurd h (by decide)) (fun _ => ?_)
        refine lv_aload_n hx hb dX7_feed_44 rfl (lv_at hl 1 rfl) ?_
        refine va_get (D := D) (ci := 7) (v := .ref (a 1)) (C := RX7) (T := TX7) (N := 12) hx hb hts inX7 hown hK hP 0 rfl rfl 0 (by decide) (hts _ tw_305) (fun _ h9 => h9) rfl dX7_feed_45 ?_
        refine lv_lload_n hx hb dX7_feed_48 rfl (lv_at hl 3 rfl) ?_
        refine lv_bipush (v := 8) hx hb dX7_feed_49 (by decide) ?_
        refine lv_iload hx hb dX7_feed_51 (lv_at hl 0 rfl) ?_
        refine lv_imul hx hb dX7_feed_53 ?_
        refine lv_ti (y := 40) (by decide) ?_
        refine lv_lshr hx hb dX7_feed_54 rfl ?_
        refine lv_topl (fun x_123 ex_123 => ?_)
        refine lv_l2i hx hb dX7_feed_55 rfl ?_
        refine lv_topi (fun x_124 ex_124 => ?_)
        refine lv_i2b hx hb dX7_feed_56 rfl ?_
        refine lv_topi (fun x_125 ex_125 => ?_)
        refine rw_v (D := D) (wr := [((a 0), .inr (7, [.ref (a 1), .ref (a 3), .ref (a 19), .ref (a 20), .ref (a 25), .int 0, .int (-1), .ref (a 32), .ref (a 35), .ref (a 42), .ref (a 43), .ref (a 44)]))]) (va_runV (As := [.int x_125]) (rest := []) ⟨hx, hb, hml, hown, hts⟩ ((k_append l D k st lo (a 1) (a 2) 2 3 x_125 g_122 (by decide) (by decide) (by unfold vp_in; decide) (by decide)) H.size) (cwV 1 hts (gV tw_346 tw_347 tw_348 tw_80 tw_349) rfl rfl rfl (by decide +kernel) ⟨Nat.le_of_ble_eq_true rfl, Nat.le_of_ble_eq_true rfl⟩) (pV hS hAlo hlo hP hK (va_Dlo hD hAlo) hZ [1, 2] (by decide) rfl (ci := 6) (q0 := 0) rfl rfl) rfl rfl hl.1 rfl (lv_room (Nat.le_of_ble_eq_true rfl)) dX7_feed_57 ⟨Nat.le_of_ble_eq_true rfl, Nat.le_of_ble_eq_true rfl⟩) hS hA hP hD [1, 2] [0] rfl rfl (by decide) (by decide) (fun u H locs hw_126 hP hD hS => ?_)
        obtain ⟨g_126, rfl⟩ : ∃ z, z = u := ⟨_, rfl⟩
        have hP : va_P D classes [((a 0), .inr (7, [.ref (a 1), .ref (a 3), .ref (a 19), .ref (a 20), .ref (a 25), .int 0, .int (-1), .ref (a 32), .ref (a 35), .ref (a 42), .ref (a 43), .ref (a 44)])), ((a 1), .inr (6, [.ref (a 2), .int 3, .int 0, .int 0, .int 0, .int 0])), ((a 2), .inl (k 0, 240, .inl g_126))] H := hP
        have hD : va_D A [((a 0), .inr (7, [.ref (a 1), .ref (a 3), .ref (a 19), .ref (a 20), .ref (a 25), .int 0, .int (-1), .ref (a 32), .ref (a 35), .ref (a 42), .ref (a 43), .ref (a 44)])), ((a 1), .inr (6, [.ref (a 2), .int 3, .int 0, .int 0, .int 0, .int 0])), ((a 2), .inl (k 0, 240, .inl g_126))] := hD
        try dsimp only at hw_126
        refine lv_iinc (v := 4) (lv' := [(4, .int 4), (0, .ref (a 0)), (1, .int 8), (2, .long p1)]) hx hb dX7_feed_60 hl (k := 0) rfl (by decide) (by decide) rfl (fun ls hl => ?_)
        refine lv_goto (tgt := 39) hx hb dX7_feed_63 (by decide) ?_
        refine lv_iload hx hb dX7_feed_39 (lv_at hl 0 rfl) ?_
        refine lv_if_lt (tgt := 66) hx hb dX7_feed_41 (by decide) (fun h => absurd h (by decide)) (fun _ => ?_)
        refine lv_aload_n hx hb dX7_feed_44 rfl (lv_at hl 1 rfl) ?_
        refine va_get (D := D) (ci := 7) (v := .ref (a 1)) (C := RX7) (T := TX7) (N := 12) hx hb hts inX7 hown hK hP 0 rfl rfl 0 (by decide) (hts _ tw_305) (fun _ h9 => h9) rfl dX7_feed_45 ?_
        refine lv_lload_n hx hb dX7_feed_48 rfl (lv_at hl 3 rfl) ?_
        refine lv_bipush (v := 8) hx hb dX7_feed_49 (by decide) ?_
        refine lv_iload hx hb dX7_feed_51 (lv_at hl 0 rfl) ?_
        refine lv_imul hx hb dX7_feed_53 ?_
        refine lv_ti (y := 32) (by decide) ?_
        refine lv_lshr hx hb dX7_feed_54 rfl ?_
        refine lv_topl (fun x_127 ex_127 => ?_)
        refine lv_l2i hx hb dX7_feed_55 rfl ?_
        refine lv_topi (fun x_128 ex_128 => ?_)
        refine lv_i2b hx hb dX7_feed_56 rfl ?_
        refine lv_topi (fun x_129 ex_129 => ?_)
        refine rw_v (D := D) (wr := [((a 0), .inr (7, [.ref (a 1), .ref (a 3), .ref (a 19), .ref (a 20), .ref (a 25), .int 0, .int (-1), .ref (a 32), .ref (a 35), .ref (a 42), .ref (a 43), .ref (a 44)]))]) (va_runV (As := [.int x_129]) (rest := []) ⟨hx, hb, hml, hown, hts⟩ ((k_append l D k st lo (a 1) (a 2) 3 4 x_129 g_126 (by decide) (by decide) (by unfold vp_in; decide) (by decide)) H.size) (cwV 1 hts (gV tw_346 tw_347 tw_348 tw_80 tw_349) rfl rfl rfl (by decide +kernel) ⟨Nat.le_of_ble_eq_true rfl, Nat.le_of_ble_eq_true rfl⟩) (pV hS hAlo hlo hP hK (va_Dlo hD hAlo) hZ [1, 2] (by decide) rfl (ci := 6) (q0 := 0) rfl rfl) rfl rfl hl.1 rfl (lv_room (Nat.le_of_ble_eq_true rfl)) dX7_feed_57 ⟨Nat.le_of_ble_eq_true rfl, Nat.le_of_ble_eq_true rfl⟩) hS hA hP hD [1, 2] [0] rfl rfl (by decide) (by decide) (fun u H locs hw_130 hP hD hS => ?_)
        obtain ⟨g_130, rfl⟩ : ∃ z, z = u := ⟨_, rfl⟩
        have hP : va_P D classes [((a 0), .inr (7, [.ref (a 1), .ref (a 3), .ref (a 19), .ref (a 20), .ref (a 25), .int 0, .int (-1), .ref (a 32), .ref (a 35), .ref (a 42), .ref (a 43), .ref (a 44)])), ((a 1), .inr (6, [.ref (a 2), .int 4, .int 0, .int 0, .int 0, .int 0])), ((a 2), .inl (k 0, 240, .inl g_130))] H := hP
        have hD : va_D A [((a 0), .inr (7, [.ref (a 1), .ref (a 3), .ref (a 19), .ref (a 20), .ref (a 25), .int 0, .int (-1), .ref (a 32), .ref (a 35), .ref (a 42), .ref (a 43), .ref (a 44)])), ((a 1), .inr (6, [.ref (a 2), .int 4, .int 0, .int 0, .int 0, .int 0])), ((a 2), .inl (k 0, 240, .inl g_130))] := hD
        try dsimp only at hw_130
        refine lv_iinc (v := 3) (lv' := [(4, .int 3), (0, .ref (a 0)), (1, .int 8), (2, .long p1)]) hx hb dX7_feed_60 hl (k := 0) rfl (by decide) (by decide) rfl (fun ls hl => ?_)
        refine lv_goto (tgt := 39) hx hb dX7_feed_63 (by decide) ?_
        refine lv_iload hx hb dX7_feed_39 (lv_at hl 0 rfl) ?_
        refine lv_if_lt (tgt := 66) hx hb dX7_feed_41 (by decide) (fun h => absurd h (by decide)) (fun _ => ?_)
        refine lv_aload_n hx hb dX7_feed_44 rfl (lv_at hl 1 rfl) ?_
        refine va_get (D := D) (ci := 7) (v := .ref (a 1)) (C := RX7) (T := TX7) (N := 12) hx hb hts inX7 hown hK hP 0 rfl rfl 0 (by decide) (hts _ tw_305) (fun _ h9 => h9) rfl dX7_feed_45 ?_
        refine lv_lload_n hx hb dX7_feed_48 rfl (lv_at hl 3 rfl) ?_
        refine lv_bipush (v := 8) hx hb dX7_feed_49 (by decide) ?_
        refine lv_iload hx hb dX7_feed_51 (lv_at hl 0 rfl) ?_
        refine lv_imul hx hb dX7_feed_53 ?_
        refine lv_ti (y := 24) (by decide) ?_
        refine lv_lshr hx hb dX7_feed_54 rfl ?_
        refine lv_topl (fun x_131 ex_131 => ?_)
        refine lv_l2i hx hb dX7_feed_55 rfl ?_
        refine lv_topi (fun x_132 ex_132 => ?_)
        refine lv_i2b hx hb dX7_feed_56 rfl ?_
        refine lv_topi (fun x_133 ex_133 => ?_)
        refine rw_v (D := D) (wr := [((a 0), .inr (7, [.ref (a 1), .ref (a 3), .ref (a 19), .ref (a 20), .ref (a 25), .int 0, .int (-1), .ref (a 32), .ref (a 35), .ref (a 42), .ref (a 43), .ref (a 44)]))]) (va_runV (As := [.int x_133]) (rest := []) ⟨hx, hb, hml, hown, hts⟩ ((k_append l D k st lo (a 1) (a 2) 4 5 x_133 g_130 (by decide) (by decide) (by unfold vp_in; decide) (by decide)) H.size) (cwV 1 hts (gV tw_346 tw_347 tw_348 tw_80 tw_349) rfl rfl rfl (by decide +kernel) ⟨Nat.le_of_ble_eq_true rfl, Nat.le_of_ble_eq_true rfl⟩) (pV hS hAlo hlo hP hK (va_Dlo hD hAlo) hZ [1, 2] (by decide) rfl (ci := 6) (q0 := 0) rfl rfl) rfl rfl hl.1 rfl (lv_room (Nat.le_of_ble_eq_true rfl)) dX7_feed_57 ⟨Nat.le_of_ble_eq_true rfl, Nat.le_of_ble_eq_true rfl⟩) hS hA hP hD [1, 2] [0] rfl rfl (by decide) (by decide) (fun u H locs hw_134 hP hD hS => ?_)
        obtain ⟨g_134, rfl⟩ : ∃ z, z = u := ⟨_, rfl⟩
        have hP : va_P D classes [((a 0), .inr (7, [.ref (a 1), .ref (a 3), .ref (a 19), .ref (a 20), .ref (a 25), .int 0, .int (-1), .ref (a 32), .ref (a 35), .ref (a 42), .ref (a 43), .ref (a 44)])), ((a 1), .inr (6, [.ref (a 2), .int 5, .int 0, .int 0, .int 0, .int 0])), ((a 2), .inl (k 0, 240, .inl g_134))] H := hP
        have hD : va_D A [((a 0), .inr (7, [.ref (a 1), .ref (a 3), .ref (a 19), .ref (a 20), .ref (a 25), .int 0, .int (-1), .ref (a 32), .ref (a 35), .ref (a 42), .ref (a 43), .ref (a 44)])), ((a 1), .inr (6, [.ref (a 2), .int 5, .int 0, .int 0, .int 0, .int 0])), ((a 2), .inl (k 0, 240, .inl g_134))] := hD
        try dsimp only at hw_134
        refine lv_iinc (v := 2) (lv' := [(4, .int 2), (0, .ref (a 0)), (1, .int 8), (2, .long p1)]) hx hb dX7_feed_60 hl (k := 0) rfl (by decide) (by decide) rfl (fun ls hl => ?_)
        refine lv_goto (tgt := 39) hx hb dX7_feed_63 (by decide) ?_
        refine lv_iload hx hb dX7_feed_39 (lv_at hl 0 rfl) ?_
        refine lv_if_lt (tgt := 66) hx hb dX7_feed_41 (by decide) (fun h => absurd h (by decide)) (fun _ => ?_)
        refine lv_aload_n hx hb dX7_feed_44 rfl (lv_at hl 1 rfl) ?_
        refine va_get (D := D) (ci := 7) (v := .ref (a 1)) (C := RX7) (T := TX7) (N := 12) hx hb hts inX7 hown hK hP 0 rfl rfl 0 (by decide) (hts _ tw_305) (fun _ h9 => h9) rfl dX7_feed_45 ?_
        refine lv_lload_n hx hb dX7_feed_48 rfl (lv_at hl 3 rfl) ?_
        refine lv_bipush (v := 8) hx hb dX7_feed_49 (by decide) ?_
        refine lv_iload hx hb dX7_feed_51 (lv_at hl 0 rfl) ?_
        refine lv_imul hx hb dX7_feed_53 ?_
        refine lv_ti (y := 16) (by decide) ?_
        refine lv_lshr hx hb dX7_feed_54 rfl ?_
        refine lv_topl (fun x_135 ex_135 => ?_)
        refine lv_l2i hx hb dX7_feed_55 rfl ?_
        refine lv_topi (fun x_136 ex_136 => ?_)
        refine lv_i2b hx hb dX7_feed_56 rfl ?_
        refine lv_topi (fun x_137 ex_137 => ?_)
        refine rw_v (D := D) (wr := [((a 0), .inr (7, [.ref (a 1), .ref (a 3), .ref (a 19), .ref (a 20), .ref (a 25), .int 0, .int (-1), .ref (a 32), .ref (a 35), .ref (a 42), .ref (a 43), .ref (a 44)]))]) (va_runV (As := [.int x_137]) (rest := []) ⟨hx, hb, hml, hown, hts⟩ ((k_append l D k st lo (a 1) (a 2) 5 6 x_137 g_134 (by decide) (by decide) (by unfold vp_in; decide) (by decide)) H.size) (cwV 1 hts (gV tw_346 tw_347 tw_348 tw_80 tw_349) rfl rfl rfl (by decide +kernel) ⟨Nat.le_of_ble_eq_true rfl, Nat.le_of_ble_eq_true rfl⟩) (pV hS hAlo hlo hP hK (va_Dlo hD hAlo) hZ [1, 2] (by decide) rfl (ci := 6) (q0 := 0) rfl rfl) rfl rfl hl.1 rfl (lv_room (Nat.le_of_ble_eq_true rfl)) dX7_feed_57 ⟨Nat.le_of_ble_eq_true rfl, Nat.le_of_ble_eq_true rfl⟩) hS hA hP hD [1, 2] [0] rfl rfl (by decide) (by decide) (fun u H locs hw_138 hP hD hS => ?_)
        obtain ⟨g_138, rfl⟩ : ∃ z, z = u := ⟨_, rfl⟩
        have hP : va_P D classes [((a 0), .inr (7, [.ref (a 1), .ref (a 3), .ref (a 19), .ref (a 20), .ref (a 25), .int 0, .int (-1), .ref (a 32), .ref (a 35), .ref (a 42), .ref (a 43), .ref (a 44)])), ((a 1), .inr (6, [.ref (a 2), .int 6, .int 0, .int 0, .int 0, .int 0])), ((a 2), .inl (k 0, 240, .inl g_138))] H := hP
        have hD : va_D A [((a 0), .inr (7, [.ref (a 1), .ref (a 3), .ref (a 19), .ref (a 20), .ref (a 25), .int 0, .int (-1), .ref (a 32), .ref (a 35), .ref (a 42), .ref (a 43), .ref (a 44)])), ((a 1), .inr (6, [.ref (a 2), .int 6, .int 0, .int 0, .int 0, .int 0])), ((a 2), .inl (k 0, 240, .inl g_138))] := hD
        try dsimp only at hw_138
        refine lv_iinc (v := 1) (lv' := [(4, .int 1), (0, .ref (a 0)), (1, .int 8), (2, .long p1)]) hx hb dX7_feed_60 hl (k := 0) rfl (by decide) (by decide) rfl (fun ls hl => ?_)
        refine lv_goto (tgt := 39) hx hb dX7_feed_63 (by decide) ?_
        refine lv_iload hx hb dX7_feed_39 (lv_at hl 0 rfl) ?_
        refine lv_if_lt (tgt := 66) hx hb dX7_feed_41 (by decide) (fun h => absurd h (by decide)) (fun _ => ?_)
        refine lv_aload_n hx hb dX7_feed_44 rfl (lv_at hl 1 rfl) ?_
        refine va_get (D := D) (ci := 7) (v := .ref (a 1)) (C := RX7) (T := TX7) (N := 12) hx hb hts inX7 hown hK hP 0 rfl rfl 0 (by decide) (hts _ tw_305) (fun _ h9 => h9) rfl dX7_feed_45 ?_
        refine lv_lload_n hx hb dX7_feed_48 rfl (lv_at hl 3 rfl) ?_
        refine lv_bipush (v := 8) hx hb dX7_feed_49 (by decide) ?_
        refine lv_iload hx hb dX7_feed_51 (lv_at hl 0 rfl) ?_
        refine lv_imul hx hb dX7_feed_53 ?_
        refine lv_ti (y := 8) (by decide) ?_
        refine lv_lshr hx hb dX7_feed_54 rfl ?_
        refine lv_topl (fun x_139 ex_139 => ?_)
        refine lv_l2i hx hb dX7_feed_55 rfl ?_
        refine lv_topi (fun x_140 ex_140 => ?_)
        refine lv_i2b hx hb dX7_feed_56 rfl ?_
        refine lv_topi (fun x_141 ex_141 => ?_)
        refine rw_v (D := D) (wr := [((a 0), .inr (7, [.ref (a 1), .ref (a 3), .ref (a 19), .ref (a 20), .ref (a 25), .int 0, .int (-1), .ref (a 32), .ref (a 35), .ref (a 42), .ref (a 43), .ref (a 44)]))]) (va_runV (As := [.int x_141]) (rest := []) ⟨hx, hb, hml, hown, hts⟩ ((k_append l D k st lo (a 1) (a 2) 6 7 x_141 g_138 (by decide) (by decide) (by unfold vp_in; decide) (by decide)) H.size) (cwV 1 hts (gV tw_346 tw_347 tw_348 tw_80 tw_349) rfl rfl rfl (by decide +kernel) ⟨Nat.le_of_ble_eq_true rfl, Nat.le_of_ble_eq_true rfl⟩) (pV hS hAlo hlo hP hK (va_Dlo hD hAlo) hZ [1, 2] (by decide) rfl (ci := 6) (q0 := 0) rfl rfl) rfl rfl hl.1 rfl (lv_room (Nat.le_of_ble_eq_true rfl)) dX7_feed_57 ⟨Nat.le_of_ble_eq_true rfl, Nat.le_of_ble_eq_true rfl⟩) hS hA hP hD [1, 2] [0] rfl rfl (by decide) (by decide) (fun u H locs hw_142 hP hD hS => ?_)
        obtain ⟨g_142, rfl⟩ : ∃ z, z = u := ⟨_, rfl⟩
        have hP : va_P D classes [((a 0), .inr (7, [.ref (a 1), .ref (a 3), .ref (a 19), .ref (a 20), .ref (a 25), .int 0, .int (-1), .ref (a 32), .ref (a 35), .ref (a 42), .ref (a 43), .ref (a 44)])), ((a 1), .inr (6, [.ref (a 2), .int 7, .int 0, .int 0, .int 0, .int 0])), ((a 2), .inl (k 0, 240, .inl g_142))] H := hP
        have hD : va_D A [((a 0), .inr (7, [.ref (a 1), .ref (a 3), .ref (a 19), .ref (a 20), .ref (a 25), .int 0, .int (-1), .ref (a 32), .ref (a 35), .ref (a 42), .ref (a 43), .ref (a 44)])), ((a 1), .inr (6, [.ref (a 2), .int 7, .int 0, .int 0, .int 0, .int 0])), ((a 2), .inl (k 0, 240, .inl g_142))] := hD
        try dsimp only at hw_142
        refine lv_iinc (v := 0) (lv' := [(4, .int 0), (0, .ref (a 0)), (1, .int 8), (2, .long p1)]) hx hb dX7_feed_60 hl (k := 0) rfl (by decide) (by decide) rfl (fun ls hl => ?_)
        refine lv_goto (tgt := 39) hx hb dX7_feed_63 (by decide) ?_
        refine lv_iload hx hb dX7_feed_39 (lv_at hl 0 rfl) ?_
        refine lv_if_lt (tgt := 66) hx hb dX7_feed_41 (by decide) (fun h => absurd h (by decide)) (fun _ => ?_)
        refine lv_aload_n hx hb dX7_feed_44 rfl (lv_at hl 1 rfl) ?_
        refine va_get (D := D) (ci := 7) (v := .ref (a 1)) (C := RX7) (T := TX7) (N := 12) hx hb hts inX7 hown hK hP 0 rfl rfl 0 (by decide) (hts _ tw_305) (fun _ h9 => h9) rfl dX7_feed_45 ?_
        refine lv_lload_n hx hb dX7_feed_48 rfl (lv_at hl 3 rfl) ?_
        refine lv_bipush (v := 8) hx hb dX7_feed_49 (by decide) ?_
        refine lv_iload hx hb dX7_feed_51 (lv_at hl 0 rfl) ?_
        refine lv_imul hx hb dX7_feed_53 ?_
        refine lv_ti (y := 0) (by decide) ?_
        refine lv_lshr hx hb dX7_feed_54 rfl ?_
        refine lv_topl (fun x_143 ex_143 => ?_)
        refine lv_l2i hx hb dX7_feed_55 rfl ?_
        refine lv_topi (fun x_144 ex_144 => ?_)
        refine lv_i2b hx hb dX7_feed_56 rfl ?_
        refine lv_topi (fun x_145 ex_145 => ?_)
        refine rw_v (D := D) (wr := [((a 0), .inr (7, [.ref (a 1), .ref (a 3), .ref (a 19), .ref (a 20), .ref (a 25), .int 0, .int (-1), .ref (a 32), .ref (a 35), .ref (a 42), .ref (a 43), .ref (a 44)]))]) (va_runV (As := [.int x_145]) (rest := []) ⟨hx, hb, hml, hown, hts⟩ ((k_append l D k st lo (a 1) (a 2) 7 8 x_145 g_142 (by decide) (by decide) (by unfold vp_in; decide) (by decide)) H.size) (cwV 1 hts (gV tw_346 tw_347 tw_348 tw_80 tw_349) rfl rfl rfl (by decide +kernel) ⟨Nat.le_of_ble_eq_true rfl, Nat.le_of_ble_eq_true rfl⟩) (pV hS hAlo hlo hP hK (va_Dlo hD hAlo) hZ [1, 2] (by decide) rfl (ci := 6) (q0 := 0) rfl rfl) rfl rfl hl.1 rfl (lv_room (Nat.le_of_ble_eq_true rfl)) dX7_feed_57 ⟨Nat.le_of_ble_eq_true rfl, Nat.le_of_ble_eq_true rfl⟩) hS hA hP hD [1, 2] [0] rfl rfl (by decide) (by decide) (fun u H locs hw_146 hP hD hS => ?_)
        obtain ⟨g_146, rfl⟩ : ∃ z, z = u := ⟨_, rfl⟩
        have hP : va_P D classes [((a 0), .inr (7, [.ref (a 1), .ref (a 3), .ref (a 19), .ref (a 20), .ref (a 25), .int 0, .int (-1), .ref (a 32), .ref (a 35), .ref (a 42), .ref (a 43), .ref (a 44)])), ((a 1), .inr (6, [.ref (a 2), .int 8, .int 0, .int 0, .int 0, .int 0])), ((a 2), .inl (k 0, 240, .inl g_146))] H := hP
        have hD : va_D A [((a 0), .inr (7, [.ref (a 1), .ref (a 3), .ref (a 19), .ref (a 20), .ref (a 25), .int 0, .int (-1), .ref (a 32), .ref (a 35), .ref (a 42), .ref (a 43), .ref (a 44)])), ((a 1), .inr (6, [.ref (a 2), .int 8, .int 0, .int 0, .int 0, .int 0])), ((a 2), .inl (k 0, 240, .inl g_146))] := hD
        try dsimp only at hw_146
        refine lv_iinc (v := (-1)) (lv' := [(4, .int (-1)), (0, .ref (a 0)), (1, .int 8), (2, .long p1)]) hx hb dX7_feed_60 hl (k := 0) rfl (by decide) (by decide) rfl (fun ls hl => ?_)
        refine lv_goto (tgt := 39) hx hb dX7_feed_63 (by decide) ?_
        refine lv_iload hx hb dX7_feed_39 (lv_at hl 0 rfl) ?_
        refine lv_if_lt (tgt := 66) hx hb dX7_feed_41 (by decide) (fun _ => ?_) (fun h => absurd (by decide) h)
        refine lv_aload_n hx hb dX7_feed_66 rfl (lv_at hl 1 rfl) ?_
        refine va_get (D := D) (ci := 7) (v := .ref (a 1)) (C := RX7) (T := TX7) (N := 12) hx hb hts inX7 hown hK hP 0 rfl rfl 0 (by decide) (hts _ tw_305) (fun _ h9 => h9) rfl dX7_feed_67 ?_
        refine va_get (D := D) (ci := 6) (v := .int 8) (C := RX6) (T := TX6) (N := 6) hx hb hts inX6 hown hK hP 1 rfl rfl 1 (by decide) (hts _ tw_111) (fun _ h9 => h9) rfl dX7_feed_70 ?_
        have hP9 := hP.sub (ws' := []) [] rfl
        have hD9 := hD.sub (ws' := []) [] (by decide) rfl
        exact W.iret (v := 8) hx hb hr (fun t ht hW => ⟨⟨8, (), rfl, ⟨fun _ => rfl, fun h => absurd ⟨by decide, by decide⟩ h⟩, by rw [ht]; exact hP9, hD9⟩, hS.F ht⟩) hS.2.2 dX7_feed_73
    · refine lv_sipush (v := (-1002)) hx hb dX7_feed_11 (by decide) ?_
      have hP9 := hP.sub (ws' := []) [] rfl
      have hD9 := hD.sub (ws' := []) [] (by decide) rfl
      exact W.iret (v := (-1002)) hx hb hr (fun t ht hW => ⟨⟨(-1002), (), rfl, (by first | exact ⟨fun h => absurd c_1 (Int32.not_lt.mpr h.1), fun _ => rfl⟩ | exact ⟨fun h => absurd h.2 c_2, fun _ => rfl⟩), by rw [ht]; exact hP9, hD9⟩, hS.F ht⟩) hS.2.2 dX7_feed_14
end
section
theorem dX7_init_0 : decode cX7_init 0 = .ok (.aload_n 0, 1) := by decide +kernel
theorem dX7_init_1 : decode cX7_init 1 = .ok (.invokespecial 3, 3) := by decide +kernel
theorem dX7_init_4 : decode cX7_init 4 = .ok (.aload_n 0, 1) := by decide +kernel
theorem dX7_init_5 : decode cX7_init 5 = .ok (.new 9, 3) := by decide +kernel
theorem dX7_init_8 : decode cX7_init 8 = .ok (.dup, 1) := by decide +kernel
theorem dX7_init_9 : decode cX7_init 9 = .ok (.invokespecial 11, 3) := by decide +kernel
theorem dX7_init_12 : decode cX7_init 12 = .ok (.putfield 12, 3) := by decide +kernel
theorem dX7_init_15 : decode cX7_init 15 = .ok (.aload_n 0, 1) := by decide +kernel
theorem dX7_init_16 : decode cX7_init 16 = .ok (.iconst 3, 1) := by decide +kernel
theorem dX7_init_17 : decode cX7_init 17 = .ok (.anewarray 16, 3) := by decide +kernel
theorem dX7_init_20 : decode cX7_init 20 = .ok (.putfield 18, 3) := by decide +kernel
theorem dX7_init_23 : decode cX7_init 23 = .ok (.aload_n 0, 1) := by decide +kernel
theorem dX7_init_24 : decode cX7_init 24 = .ok (.iconst 3, 1) := by decide +kernel
theorem dX7_init_25 : decode cX7_init 25 = .ok (.anewarray 22, 3) := by decide +kernel
theorem dX7_init_28 : decode cX7_init 28 = .ok (.putfield 24, 3) := by decide +kernel
theorem dX7_init_31 : decode cX7_init 31 = .ok (.aload_n 0, 1) := by decide +kernel
theorem dX7_init_32 : decode cX7_init 32 = .ok (.new 16, 3) := by decide +kernel
theorem dX7_init_35 : decode cX7_init 35 = .ok (.dup, 1) := by decide +kernel
theorem dX7_init_36 : decode cX7_init 36 = .ok (.invokespecial 28, 3) := by decide +kernel
theorem dX7_init_39 : decode cX7_init 39 = .ok (.putfield 29, 3) := by decide +kernel
theorem dX7_init_42 : decode cX7_init 42 = .ok (.aload_n 0, 1) := by decide +kernel
theorem dX7_init_43 : decode cX7_init 43 = .ok (.iconst 4, 1) := by decide +kernel
theorem dX7_init_44 : decode cX7_init 44 = .ok (.anewarray 33, 3) := by decide +kernel
theorem dX7_init_47 : decode cX7_init 47 = .ok (.putfield 35, 3) := by decide +kernel
theorem dX7_init_50 : decode cX7_init 50 = .ok (.aload_n 0, 1) := by decide +kernel
theorem dX7_init_51 : decode cX7_init 51 = .ok (.iconst 0, 1) := by decide +kernel
theorem dX7_init_52 : decode cX7_init 52 = .ok (.putfield 39, 3) := by decide +kernel
theorem dX7_init_55 : decode cX7_init 55 = .ok (.aload_n 0, 1) := by decide +kernel
theorem dX7_init_56 : decode cX7_init 56 = .ok (.iconst (-1), 1) := by decide +kernel
theorem dX7_init_57 : decode cX7_init 57 = .ok (.putfield 43, 3) := by decide +kernel
theorem dX7_init_60 : decode cX7_init 60 = .ok (.aload_n 0, 1) := by decide +kernel
theorem dX7_init_61 : decode cX7_init 61 = .ok (.new 46, 3) := by decide +kernel
theorem dX7_init_64 : decode cX7_init 64 = .ok (.dup, 1) := by decide +kernel
theorem dX7_init_65 : decode cX7_init 65 = .ok (.invokespecial 48, 3) := by decide +kernel
theorem dX7_init_68 : decode cX7_init 68 = .ok (.putfield 49, 3) := by decide +kernel
theorem dX7_init_71 : decode cX7_init 71 = .ok (.aload_n 0, 1) := by decide +kernel
theorem dX7_init_72 : decode cX7_init 72 = .ok (.iconst 2, 1) := by decide +kernel
theorem dX7_init_73 : decode cX7_init 73 = .ok (.anewarray 46, 3) := by decide +kernel
theorem dX7_init_76 : decode cX7_init 76 = .ok (.putfield 53, 3) := by decide +kernel
theorem dX7_init_79 : decode cX7_init 79 = .ok (.aload_n 0, 1) := by decide +kernel
theorem dX7_init_80 : decode cX7_init 80 = .ok (.iconst 2, 1) := by decide +kernel
theorem dX7_init_81 : decode cX7_init 81 = .ok (.newarray .boolean, 2) := by decide +kernel
theorem dX7_init_83 : decode cX7_init 83 = .ok (.putfield 57, 3) := by decide +kernel
theorem dX7_init_86 : decode cX7_init 86 = .ok (.aload_n 0, 1) := by decide +kernel
theorem dX7_init_87 : decode cX7_init 87 = .ok (.new 61, 3) := by decide +kernel
theorem dX7_init_90 : decode cX7_init 90 = .ok (.dup, 1) := by decide +kernel
theorem dX7_init_91 : decode cX7_init 91 = .ok (.invokespecial 63, 3) := by decide +kernel
theorem dX7_init_94 : decode cX7_init 94 = .ok (.putfield 64, 3) := by decide +kernel
theorem dX7_init_97 : decode cX7_init 97 = .ok (.aload_n 0, 1) := by decide +kernel
theorem dX7_init_98 : decode cX7_init 98 = .ok (.new 68, 3) := by decide +kernel
theorem dX7_init_101 : decode cX7_init 101 = .ok (.dup, 1) := by decide +kernel
theorem dX7_init_102 : decode cX7_init 102 = .ok (.aload_n 0, 1) := by decide +kernel
theorem dX7_init_103 : decode cX7_init 103 = .ok (.getfield 49, 3) := by decide +kernel
theorem dX7_init_106 : decode cX7_init 106 = .ok (.invokespecial 70, 3) := by decide +kernel
theorem dX7_init_109 : decode cX7_init 109 = .ok (.putfield 73, 3) := by decide +kernel
theorem dX7_init_112 : decode cX7_init 112 = .ok (.iconst 0, 1) := by decide +kernel
theorem dX7_init_113 : decode cX7_init 113 = .ok (.istore_n 1, 1) := by decide +kernel
theorem dX7_init_114 : decode cX7_init 114 = .ok (.iload_n 1, 1) := by decide +kernel
theorem dX7_init_115 : decode cX7_init 115 = .ok (.iconst 3, 1) := by decide +kernel
theorem dX7_init_116 : decode cX7_init 116 = .ok (.if_icmp .ge 41, 3) := by decide +kernel
theorem dX7_init_119 : decode cX7_init 119 = .ok (.aload_n 0, 1) := by decide +kernel
theorem dX7_init_120 : decode cX7_init 120 = .ok (.getfield 18, 3) := by decide +kernel
theorem dX7_init_123 : decode cX7_init 123 = .ok (.iload_n 1, 1) := by decide +kernel
theorem dX7_init_124 : decode cX7_init 124 = .ok (.new 16, 3) := by decide +kernel
theorem dX7_init_127 : decode cX7_init 127 = .ok (.dup, 1) := by decide +kernel
theorem dX7_init_128 : decode cX7_init 128 = .ok (.invokespecial 28, 3) := by decide +kernel
theorem dX7_init_131 : decode cX7_init 131 = .ok (.aastore, 1) := by decide +kernel
theorem dX7_init_132 : decode cX7_init 132 = .ok (.aload_n 0, 1) := by decide +kernel
theorem dX7_init_133 : decode cX7_init 133 = .ok (.getfield 24, 3) := by decide +kernel
theorem dX7_init_136 : decode cX7_init 136 = .ok (.iload_n 1, 1) := by decide +kernel
theorem dX7_init_137 : decode cX7_init 137 = .ok (.new 22, 3) := by decide +kernel
theorem dX7_init_140 : decode cX7_init 140 = .ok (.dup, 1) := by decide +kernel
theorem dX7_init_141 : decode cX7_init 141 = .ok (.aload_n 0, 1) := by decide +kernel
theorem dX7_init_142 : decode cX7_init 142 = .ok (.getfield 18, 3) := by decide +kernel
theorem dX7_init_145 : decode cX7_init 145 = .ok (.iload_n 1, 1) := by decide +kernel
theorem dX7_init_146 : decode cX7_init 146 = .ok (.aaload, 1) := by decide +kernel
theorem dX7_init_147 : decode cX7_init 147 = .ok (.invokespecial 77, 3) := by decide +kernel
theorem dX7_init_150 : decode cX7_init 150 = .ok (.aastore, 1) := by decide +kernel
theorem dX7_init_151 : decode cX7_init 151 = .ok (.iinc 1 1, 3) := by decide +kernel
theorem dX7_init_154 : decode cX7_init 154 = .ok (.goto (-40), 3) := by decide +kernel
theorem dX7_init_157 : decode cX7_init 157 = .ok (.iconst 0, 1) := by decide +kernel
theorem dX7_init_158 : decode cX7_init 158 = .ok (.istore_n 1, 1) := by decide +kernel
theorem dX7_init_159 : decode cX7_init 159 = .ok (.iload_n 1, 1) := by decide +kernel
theorem dX7_init_160 : decode cX7_init 160 = .ok (.iconst 4, 1) := by decide +kernel
theorem dX7_init_161 : decode cX7_init 161 = .ok (.if_icmp .ge 22, 3) := by decide +kernel
theorem dX7_init_164 : decode cX7_init 164 = .ok (.aload_n 0, 1) := by decide +kernel
theorem dX7_init_165 : decode cX7_init 165 = .ok (.getfield 35, 3) := by decide +kernel
theorem dX7_init_168 : decode cX7_init 168 = .ok (.iload_n 1, 1) := by decide +kernel
theorem dX7_init_169 : decode cX7_init 169 = .ok (.new 33, 3) := by decide +kernel
theorem dX7_init_172 : decode cX7_init 172 = .ok (.dup, 1) := by decide +kernel
theorem dX7_init_173 : decode cX7_init 173 = .ok (.invokespecial 80, 3) := by decide +kernel
theorem dX7_init_176 : decode cX7_init 176 = .ok (.aastore, 1) := by decide +kernel
theorem dX7_init_177 : decode cX7_init 177 = .ok (.iinc 1 1, 3) := by decide +kernel
theorem dX7_init_180 : decode cX7_init 180 = .ok (.goto (-21), 3) := by decide +kernel
theorem dX7_init_183 : decode cX7_init 183 = .ok (.iconst 0, 1) := by decide +kernel
theorem dX7_init_184 : decode cX7_init 184 = .ok (.istore_n 1, 1) := by decide +kernel
theorem dX7_init_185 : decode cX7_init 185 = .ok (.iload_n 1, 1) := by decide +kernel
theorem dX7_init_186 : decode cX7_init 186 = .ok (.iconst 2, 1) := by decide +kernel
theorem dX7_init_187 : decode cX7_init 187 = .ok (.if_icmp .ge 22, 3) := by decide +kernel
theorem dX7_init_190 : decode cX7_init 190 = .ok (.aload_n 0, 1) := by decide +kernel
theorem dX7_init_191 : decode cX7_init 191 = .ok (.getfield 53, 3) := by decide +kernel
theorem dX7_init_194 : decode cX7_init 194 = .ok (.iload_n 1, 1) := by decide +kernel
theorem dX7_init_195 : decode cX7_init 195 = .ok (.new 46, 3) := by decide +kernel
theorem dX7_init_198 : decode cX7_init 198 = .ok (.dup, 1) := by decide +kernel
theorem dX7_init_199 : decode cX7_init 199 = .ok (.invokespecial 48, 3) := by decide +kernel
theorem dX7_init_202 : decode cX7_init 202 = .ok (.aastore, 1) := by decide +kernel
theorem dX7_init_203 : decode cX7_init 203 = .ok (.iinc 1 1, 3) := by decide +kernel
theorem dX7_init_206 : decode cX7_init 206 = .ok (.goto (-21), 3) := by decide +kernel
theorem dX7_init_209 : decode cX7_init 209 = .ok (.return_, 1) := by decide +kernel
set_option maxHeartbeats 4000000 in
set_option maxRecDepth 100000 in
theorem k_LP_init (l : Launch) (D : va_G) (k : Nat → ClassId) (st : Nat → Nat) (lo : Nat) (h0 : Nat)  : CWv l D k st lo yX7_init cX7_init 2 none ({ frames := 2, cells := 71, slots := 3353, locals := 33 }) 71 3353 [.ref h0] [(h0, .inr (7, [.null, .null, .null, .null, .null, .int 0, .int 0, .null, .null, .null, .null, .null]))] (fun (a : Nat → Nat) => a 0 = h0) (fun (a : Nat → Nat) => [((a 0), .inr (7, [.ref (a 1), .ref (a 3), .ref (a 19), .ref (a 20), .ref (a 25), .int 0, .int (-1), .ref (a 32), .ref (a 35), .ref (a 42), .ref (a 43), .ref (a 44)])), ((a 1), .inr (6, [.ref (a 2), .int 0, .int 0, .int 0, .int 0, .int 0])), ((a 2), .inl (k 0, 240, .inl (fun _ => 0))), ((a 3), .inl (k 3, 3, .inr (.inr (.inr (.inr (a3 (a 4) (a 5) (a 6))))))), ((a 4), .inr (5, [.ref (a 7), .ref (a 10), .ref (a 13), .ref (a 16)])), ((a 5), .inr (5, [.ref (a 8), .ref (a 11), .ref (a 14), .ref (a 17)])), ((a 6), .inr (5, [.ref (a 9), .ref (a 12), .ref (a 15), .ref (a 18)])), ((a 7), .inl (k 1, 10, .inl (fun _ => 0))), ((a 8), .inl (k 1, 10, .inl (fun _ => 0))), ((a 9), .inl (k 1, 10, .inl (fun _ => 0))), ((a 20), .inr (5, [.ref (a 21), .ref (a 22), .ref (a 23), .ref (a 24)])), ((a 21), .inl (k 1, 10, .inl (fun _ => 0))), ((a 25), .inl (k 5, 4, .inr (.inr (.inr (.inr (a4 (a 26) (a 27) (a 28) (a 29))))))), ((a 26), .inr (3, [.ref (a 30), .ref (a 31), .int 0, .int 0, .int 0])), ((a 32), .inr (4, [.ref (a 33), .ref (a 34), .int 0, .int 0, .int 0, .int 0])), ((a 33), .inl (k 1, 4, .inl (fun _ => 0))), ((a 34), .inl (k 1, 4, .inl (fun _ => 0))), ((a 35), .inl (k 6, 2, .inr (.inr (.inr (.inr (a2 (a 36) (a 37))))))), ((a 36), .inr (4, [.ref (a 38), .ref (a 39), .int 0, .int 0, .int 0, .int 0])), ((a 38), .inl (k 1, 4, .inl (fun _ => 0))), ((a 39), .inl (k 1, 4, .inl (fun _ => 0))), ((a 37), .inr (4, [.ref (a 40), .ref (a 41), .int 0, .int 0, .int 0, .int 0])), ((a 40), .inl (k 1, 4, .inl (fun _ => 0))), ((a 41), .inl (k 1, 4, .inl (fun _ => 0))), ((a 42), .inl (k 2, 2, .inl (fun _ => 0)))]) := by
  intro sz
  refine Met.ofW (cc := cX7_init) (maxL := 2) (ret := none) (by decide) rfl ?_
  intro p e s m args below meth c s₁ B hml hv
  obtain ⟨rfl, hsz, hlo, hP, hK, hDL, hZ⟩ := hv
  have hx := B.exec
  have hb := B.bytes
  have hr := B.returns
  have hts := WS_ts B.pre
  have hown : s.vm.findClass RX7 = some m.cls := findClass_of_methodNamed B.named
  have hlocks := B.notSynchronized
  have hin : meth.name = "<init>" := (name_of_methodNamed B.named B.method).1
  subst hsz
  have hD := hDL.self (sz := s.heap.size)
  have hAlo := A_lo hDL hlo
  generalize hAe : va_A [(h0, .inr (7, [.null, .null, .null, .null, .null, .int 0, .int 0, .null, .null, .null, .null, .null]))] s.heap.size = A at hD hAlo ⊢
  have hA : ∀ q : Nat, s.heap.size ≤ q → A q := fun q h => by rw [← hAe]; exact Or.inr h
  have hS : va_S A s.heap s.heap [] := va_S.rf
  have hl := lv_entry ([.ref h0]) (n := 2) (Nat.le_of_ble_eq_true rfl)
  rw [lg_entry_eq]
  generalize (lg_sl ([.ref h0]) ++ List.replicate (2 - (lg_sl ([.ref h0])).length) Slot.unset).toArray = ls at hl ⊢
  have hl : lv_has ls 2 [(0, .ref h0)] := hl
  refine lv_aload_n hx hb dX7_init_0 rfl (lv_at hl 0 rfl) ?_
  refine W.objInit hx hb hown (hts _ tw_100) (hts _ tw_101) (hts _ tw_102) rfl (by rw [hml]; exact hl.1) rfl dX7_init_1 (Nat.le_of_ble_eq_true rfl) (Nat.le_of_ble_eq_true rfl) ?_
  refine W.eq (g2 := F0 m 4 ls []) rfl ?_
  refine lv_aload_n hx hb dX7_init_4 rfl (lv_at hl 0 rfl) ?_
  refine va_new (ci := 6) (fs := [.null, .int 0, .int 0, .int 0, .int 0, .int 0]) (C := RX6) (T := TX6) (N := 6) hx hb hts inX6 tyX6 tyX6_ok hown (hts _ tw_103) (hts _ tw_104) (hts _ tw_80) hK hP hD hS hA rfl (fun j hj => match j, hj with | 0, _ => rfl | 1, _ => rfl | 2, _ => rfl | 3, _ => rfl | 4, _ => rfl | 5, _ => rfl | j + 6, h => absurd h (by omega)) (Nat.le_of_ble_eq_true rfl) (Nat.le_of_ble_eq_true rfl) dX7_init_5 (fun q_1 H hP hD hS => ?_)
  refine W.widen (k := 1) (n := 6) (by decide) (by decide) ?_
  have hP : va_P D classes [(h0, .inr (7, [.null, .null, .null, .null, .null, .int 0, .int 0, .null, .null, .null, .null, .null])), (q_1, .inr (6, [.null, .int 0, .int 0, .int 0, .int 0, .int 0]))] H := hP
  have hD : va_D A [(h0, .inr (7, [.null, .null, .null, .null, .null, .int 0, .int 0, .null, .null, .null, .null, .null])), (q_1, .inr (6, [.null, .int 0, .int 0, .int 0, .int 0, .int 0]))] := hD
  refine lv_dup hx hb dX7_init_8 rfl ?_
  refine rw_v (D := D) (wr := [(h0, .inr (7, [.null, .null, .null, .null, .null, .int 0, .int 0, .null, .null, .null, .null, .null]))]) (va_runIN (As := []) (rest := [.ref q_1, .ref h0]) ⟨hx, hb, hml, hown, hts⟩ ((k_Text_init l D k st lo q_1) H.size) ⟨va_cnB 0 hts (gLW tw_107) rfl rfl rfl (hZ.2.2.2.2.2.2.2.2.2.2.2.1 (RX7, 11, yX6_init, RX7) (List.mem_of_getElem? (i := 0) rfl)) (hts _ tw_80) (by decide +kernel) ⟨Nat.le_of_ble_eq_true rfl, Nat.le_of_ble_eq_true rfl⟩, rfl, hts _ tw_106⟩ (pS hS hAlo hlo hP hK (va_Dlo hD hAlo) hZ [1] (by decide) rfl) rfl rfl hl.1 rfl (lv_room (Nat.le_of_ble_eq_true rfl)) dX7_init_9 ⟨Nat.le_of_ble_eq_true rfl, Nat.le_of_ble_eq_true rfl⟩) hS hA hP hD [1] [0] rfl rfl (by decide) (by decide) (fun u H locs hw_2 hP hD hS => ?_)
  obtain ⟨q_2, rfl⟩ : ∃ z, z = u := ⟨_, rfl⟩
  have hP : va_P D classes [(h0, .inr (7, [.null, .null, .null, .null, .null, .int 0, .int 0, .null, .null, .null, .null, .null])), (q_1, .inr (6, [.ref q_2, .int 0, .int 0, .int 0, .int 0, .int 0])), (q_2, .inl (k 0, 240, .inl (fun _ => 0)))] H := hP
  have hD : va_D A [(h0, .inr (7, [.null, .null, .null, .null, .null, .int 0, .int 0, .null, .null, .null, .null, .null])), (q_1, .inr (6, [.ref q_2, .int 0, .int 0, .int 0, .int 0, .int 0])), (q_2, .inl (k 0, 240, .inl (fun _ => 0)))] := hD
  try dsimp only at hw_2
  refine W.widen (k := 2) (n := 246) (by decide) (by decide) ?_
  refine va_putF (D := D) (ci := 7) (v := .ref q_1) (ty := (.object "LastPlace$Text")) (C := RX7) (T := TX7) (N := 12) hx hb hts inX7 tyX7 tyX7_ok nmX7 hown hK hP hD hS 0 rfl rfl 0 (by decide) (hts _ tw_305) (fun _ h9 => h9) rfl hin rfl (by decide +kernel) rfl rfl (Nat.le_of_ble_eq_true rfl) dX7_init_12 (fun H locs hP hD hS => ?_)
  have hP : va_P D classes [(h0, .inr (7, [.ref q_1, .null, .null, .null, .null, .int 0, .int 0, .null, .null, .null, .null, .null])), (q_1, .inr (6, [.ref q_2, .int 0, .int 0, .int 0, .int 0, .int 0])), (q_2, .inl (k 0, 240, .inl (fun _ => 0)))] H := hP
  have hD : va_D A [(h0, .inr (7, [.ref q_1, .null, .null, .null, .null, .int 0, .int 0, .null, .null, .null, .null, .null])), (q_1, .inr (6, [.ref q_2, .int 0, .int 0, .int 0, .int 0, .int 0])), (q_2, .inl (k 0, 240, .inl (fun _ => 0)))] := hD
  refine lv_aload_n hx hb dX7_init_15 rfl (lv_at hl 0 rfl) ?_
  refine lv_iconst (v := 3) hx hb dX7_init_16 (by decide) ?_
  refine nwq (t0 := 3) hx hb hown (hts _ tw_137) (hZ.2.2.2.2.2.2.2.2.2.2.2.2.2 "LastPlace$Street" (List.mem_of_getElem? (i := 0) rfl)) rfl hK hP hD hS hA (by decide) (N' := 3) (by decide) (by decide) (Nat.le_of_ble_eq_true rfl) (Nat.le_of_ble_eq_true rfl) dX7_init_17 (fun q_3 H hP hD hS => ?_)
  refine W.widen (k := 3) (n := 249) (by decide) (by decide) ?_
  have hP : va_P D classes [(h0, .inr (7, [.ref q_1, .null, .null, .null, .null, .int 0, .int 0, .null, .null, .null, .null, .null])), (q_1, .inr (6, [.ref q_2, .int 0, .int 0, .int 0, .int 0, .int 0])), (q_2, .inl (k 0, 240, .inl (fun _ => 0))), (q_3, .inl (k 3, 3, .inr (.inr (.inr (.inr (fun _ => none))))))] H := hP
  have hD : va_D A [(h0, .inr (7, [.ref q_1, .null, .null, .null, .null, .int 0, .int 0, .null, .null, .null, .null, .null])), (q_1, .inr (6, [.ref q_2, .int 0, .int 0, .int 0, .int 0, .int 0])), (q_2, .inl (k 0, 240, .inl (fun _ => 0))), (q_3, .inl (k 3, 3, .inr (.inr (.inr (.inr (fun _ => none))))))] := hD
  refine va_putF (D := D) (ci := 7) (v := .ref q_3) (ty := (.array (.object "LastPlace$Street"))) (C := RX7) (T := TX7) (N := 12) hx hb hts inX7 tyX7 tyX7_ok nmX7 hown hK hP hD hS 0 rfl rfl 1 (by decide) (hts _ tw_306) (fun _ h9 => h9) rfl hin rfl (by decide +kernel) rfl rfl (Nat.le_of_ble_eq_true rfl) dX7_init_20 (fun H locs hP hD hS => ?_)
  have hP : va_P D classes [(h0, .inr (7, [.ref q_1, .ref q_3, .null, .null, .null, .int 0, .int 0, .null, .null, .null, .null, .null])), (q_1, .inr (6, [.ref q_2, .int 0, .int 0, .int 0, .int 0, .int 0])), (q_2, .inl (k 0, 240, .inl (fun _ => 0))), (q_3, .inl (k 3, 3, .inr (.inr (.inr (.inr (fun _ => none))))))] H := hP
  have hD : va_D A [(h0, .inr (7, [.ref q_1, .ref q_3, .null, .null, .null, .int 0, .int 0, .null, .null, .null, .null, .null])), (q_1, .inr (6, [.ref q_2, .int 0, .int 0, .int 0, .int 0, .int 0])), (q_2, .inl (k 0, 240, .inl (fun _ => 0))), (q_3, .inl (k 3, 3, .inr (.inr (.inr (.inr (fun _ => none))))))] := hD
  refine lv_aload_n hx hb dX7_init_23 rfl (lv_at hl 0 rfl) ?_
  refine lv_iconst (v := 3) hx hb dX7_init_24 (by decide) ?_
  refine nwq (t0 := 4) hx hb hown (hts _ tw_139) (hZ.2.2.2.2.2.2.2.2.2.2.2.2.2 "LastPlace$BestWay" (List.mem_of_getElem? (i := 1) rfl)) rfl hK hP hD hS hA (by decide) (N' := 3) (by decide) (by decide) (Nat.le_of_ble_eq_true rfl) (Nat.le_of_ble_eq_true rfl) dX7_init_25 (fun q_4 H hP hD hS => ?_)
  refine W.widen (k := 4) (n := 252) (by decide) (by decide) ?_
  have hP : va_P D classes [(h0, .inr (7, [.ref q_1, .ref q_3, .null, .null, .null, .int 0, .int 0, .null, .null, .null, .null, .null])), (q_1, .inr (6, [.ref q_2, .int 0, .int 0, .int 0, .int 0, .int 0])), (q_2, .inl (k 0, 240, .inl (fun _ => 0))), (q_3, .inl (k 3, 3, .inr (.inr (.inr (.inr (fun _ => none)))))), (q_4, .inl (k 4, 3, .inr (.inr (.inr (.inr (fun _ => none))))))] H := hP
  have hD : va_D A [(h0, .inr (7, [.ref q_1, .ref q_3, .null, .null, .null, .int 0, .int 0, .null, .null, .null, .null, .null])), (q_1, .inr (6, [.ref q_2, .int 0, .int 0, .int 0, .int 0, .int 0])), (q_2, .inl (k 0, 240, .inl (fun _ => 0))), (q_3, .inl (k 3, 3, .inr (.inr (.inr (.inr (fun _ => none)))))), (q_4, .inl (k 4, 3, .inr (.inr (.inr (.inr (fun _ => none))))))] := hD
  refine va_putF (D := D) (ci := 7) (v := .ref q_4) (ty := (.array (.object "LastPlace$BestWay"))) (C := RX7) (T := TX7) (N := 12) hx hb hts inX7 tyX7 tyX7_ok nmX7 hown hK hP hD hS 0 rfl rfl 2 (by decide) (hts _ tw_307) (fun _ h9 => h9) rfl hin rfl (by decide +kernel) rfl rfl (Nat.le_of_ble_eq_true rfl) dX7_init_28 (fun H locs hP hD hS => ?_)
  have hP : va_P D classes [(h0, .inr (7, [.ref q_1, .ref q_3, .ref q_4, .null, .null, .int 0, .int 0, .null, .null, .null, .null, .null])), (q_1, .inr (6, [.ref q_2, .int 0, .int 0, .int 0, .int 0, .int 0])), (q_2, .inl (k 0, 240, .inl (fun _ => 0))), (q_3, .inl (k 3, 3, .inr (.inr (.inr (.inr (fun _ => none)))))), (q_4, .inl (k 4, 3, .inr (.inr (.inr (.inr (fun _ => none))))))] H := hP
  have hD : va_D A [(h0, .inr (7, [.ref q_1, .ref q_3, .ref q_4, .null, .null, .int 0, .int 0, .null, .null, .null, .null, .null])), (q_1, .inr (6, [.ref q_2, .int 0, .int 0, .int 0, .int 0, .int 0])), (q_2, .inl (k 0, 240, .inl (fun _ => 0))), (q_3, .inl (k 3, 3, .inr (.inr (.inr (.inr (fun _ => none)))))), (q_4, .inl (k 4, 3, .inr (.inr (.inr (.inr (fun _ => none))))))] := hD
  refine lv_aload_n hx hb dX7_init_31 rfl (lv_at hl 0 rfl) ?_
  refine va_new (ci := 5) (fs := [.null, .null, .null, .null]) (C := RX5) (T := TX5) (N := 4) hx hb hts inX5 tyX5 tyX5_ok hown (hts _ tw_137) (hts _ tw_141) (hts _ tw_81) hK hP hD hS hA rfl (fun j hj => match j, hj with | 0, _ => rfl | 1, _ => rfl | 2, _ => rfl | 3, _ => rfl | j + 4, h => absurd h (by omega)) (Nat.le_of_ble_eq_true rfl) (Nat.le_of_ble_eq_true rfl) dX7_init_32 (fun q_5 H hP hD hS => ?_)
  refine W.widen (k := 5) (n := 256) (by decide) (by decide) ?_
  have hP : va_P D classes [(h0, .inr (7, [.ref q_1, .ref q_3, .ref q_4, .null, .null, .int 0, .int 0, .null, .null, .null, .null, .null])), (q_1, .inr (6, [.ref q_2, .int 0, .int 0, .int 0, .int 0, .int 0])), (q_2, .inl (k 0, 240, .inl (fun _ => 0))), (q_3, .inl (k 3, 3, .inr (.inr (.inr (.inr (fun _ => none)))))), (q_4, .inl (k 4, 3, .inr (.inr (.inr (.inr (fun _ => none)))))), (q_5, .inr (5, [.null, .null, .null, .null]))] H := hP
  have hD : va_D A [(h0, .inr (7, [.ref q_1, .ref q_3, .ref q_4, .null, .null, .int 0, .int 0, .null, .null, .null, .null, .null])), (q_1, .inr (6, [.ref q_2, .int 0, .int 0, .int 0, .int 0, .int 0])), (q_2, .inl (k 0, 240, .inl (fun _ => 0))), (q_3, .inl (k 3, 3, .inr (.inr (.inr (.inr (fun _ => none)))))), (q_4, .inl (k 4, 3, .inr (.inr (.inr (.inr (fun _ => none)))))), (q_5, .inr (5, [.null, .null, .null, .null]))] := hD
  refine lv_dup hx hb dX7_init_35 rfl ?_
  refine rw_v (D := D) (wr := [(h0, .inr (7, [.ref q_1, .ref q_3, .ref q_4, .null, .null, .int 0, .int 0, .null, .null, .null, .null, .null])), (q_1, .inr (6, [.ref q_2, .int 0, .int 0, .int 0, .int 0, .int 0])), (q_2, .inl (k 0, 240, .inl (fun _ => 0))), (q_3, .inl (k 3, 3, .inr (.inr (.inr (.inr (fun _ => none)))))), (q_4, .inl (k 4, 3, .inr (.inr (.inr (.inr (fun _ => none))))))]) (va_runIN (As := []) (rest := [.ref q_5, .ref h0]) ⟨hx, hb, hml, hown, hts⟩ ((k_Street_init l D k st lo q_5) H.size) ⟨va_cnB 0 hts (gLW tw_144) rfl rfl rfl (hZ.2.2.2.2.2.2.2.2.2.2.2.1 (RX7, 28, yX5_init, RX7) (List.mem_of_getElem? (i := 1) rfl)) (hts _ tw_81) (by decide +kernel) ⟨Nat.le_of_ble_eq_true rfl, Nat.le_of_ble_eq_true rfl⟩, rfl, hts _ tw_143⟩ (pS hS hAlo hlo hP hK (va_Dlo hD hAlo) hZ [5] (by decide) rfl) rfl rfl hl.1 rfl (lv_room (Nat.le_of_ble_eq_true rfl)) dX7_init_36 ⟨Nat.le_of_ble_eq_true rfl, Nat.le_of_ble_eq_true rfl⟩) hS hA hP hD [5] [0, 1, 2, 3, 4] rfl rfl (by decide) (by decide) (fun u H locs hw_6 hP hD hS => ?_)
  obtain ⟨q_6, q1_6, q2_6, q3_6⟩ := u
  have hP : va_P D classes [(h0, .inr (7, [.ref q_1, .ref q_3, .ref q_4, .null, .null, .int 0, .int 0, .null, .null, .null, .null, .null])), (q_1, .inr (6, [.ref q_2, .int 0, .int 0, .int 0, .int 0, .int 0])), (q_2, .inl (k 0, 240, .inl (fun _ => 0))), (q_3, .inl (k 3, 3, .inr (.inr (.inr (.inr (fun _ => none)))))), (q_4, .inl (k 4, 3, .inr (.inr (.inr (.inr (fun _ => none)))))), (q_5, .inr (5, [.ref q_6, .ref q1_6, .ref q2_6, .ref q3_6])), (q_6, .inl (k 1, 10, .inl (fun _ => 0)))] H := hP
  have hD : va_D A [(h0, .inr (7, [.ref q_1, .ref q_3, .ref q_4, .null, .null, .int 0, .int 0, .null, .null, .null, .null, .null])), (q_1, .inr (6, [.ref q_2, .int 0, .int 0, .int 0, .int 0, .int 0])), (q_2, .inl (k 0, 240, .inl (fun _ => 0))), (q_3, .inl (k 3, 3, .inr (.inr (.inr (.inr (fun _ => none)))))), (q_4, .inl (k 4, 3, .inr (.inr (.inr (.inr (fun _ => none)))))), (q_5, .inr (5, [.ref q_6, .ref q1_6, .ref q2_6, .ref q3_6])), (q_6, .inl (k 1, 10, .inl (fun _ => 0)))] := hD
  try dsimp only at hw_6
  refine W.widen (k := 9) (n := 318) (by decide) (by decide) ?_
  refine va_putF (D := D) (ci := 7) (v := .ref q_5) (ty := (.object "LastPlace$Street")) (C := RX7) (T := TX7) (N := 12) hx hb hts inX7 tyX7 tyX7_ok nmX7 hown hK hP hD hS 0 rfl rfl 3 (by decide) (hts _ tw_308) (fun _ h9 => h9) rfl hin rfl (by decide +kernel) rfl rfl (Nat.le_of_ble_eq_true rfl) dX7_init_39 (fun H locs hP hD hS => ?_)
  have hP : va_P D classes [(h0, .inr (7, [.ref q_1, .ref q_3, .ref q_4, .ref q_5, .null, .int 0, .int 0, .null, .null, .null, .null, .null])), (q_1, .inr (6, [.ref q_2, .int 0, .int 0, .int 0, .int 0, .int 0])), (q_2, .inl (k 0, 240, .inl (fun _ => 0))), (q_3, .inl (k 3, 3, .inr (.inr (.inr (.inr (fun _ => none)))))), (q_4, .inl (k 4, 3, .inr (.inr (.inr (.inr (fun _ => none)))))), (q_5, .inr (5, [.ref q_6, .ref q1_6, .ref q2_6, .ref q3_6])), (q_6, .inl (k 1, 10, .inl (fun _ => 0)))] H := hP
  have hD : va_D A [(h0, .inr (7, [.ref q_1, .ref q_3, .ref q_4, .ref q_5, .null, .int 0, .int 0, .null, .null, .null, .null, .null])), (q_1, .inr (6, [.ref q_2, .int 0, .int 0, .int 0, .int 0, .int 0])), (q_2, .inl (k 0, 240, .inl (fun _ => 0))), (q_3, .inl (k 3, 3, .inr (.inr (.inr (.inr (fun _ => none)))))), (q_4, .inl (k 4, 3, .inr (.inr (.inr (.inr (fun _ => none)))))), (q_5, .inr (5, [.ref q_6, .ref q1_6, .ref q2_6, .ref q3_6])), (q_6, .inl (k 1, 10, .inl (fun _ => 0)))] := hD
  refine lv_aload_n hx hb dX7_init_42 rfl (lv_at hl 0 rfl) ?_
  refine lv_iconst (v := 4) hx hb dX7_init_43 (by decide) ?_
  refine nwq (t0 := 5) hx hb hown (hts _ tw_165) (hZ.2.2.2.2.2.2.2.2.2.2.2.2.2 "LastPlace$Rule" (List.mem_of_getElem? (i := 2) rfl)) rfl hK hP hD hS hA (by decide) (N' := 4) (by decide) (by decide) (Nat.le_of_ble_eq_true rfl) (Nat.le_of_ble_eq_true rfl) dX7_init_44 (fun q_7 H hP hD hS => ?_)
  refine W.widen (k := 10) (n := 322) (by decide) (by decide) ?_
  have hP : va_P D classes [(h0, .inr (7, [.ref q_1, .ref q_3, .ref q_4, .ref q_5, .null, .int 0, .int 0, .null, .null, .null, .null, .null])), (q_1, .inr (6, [.ref q_2, .int 0, .int 0, .int 0, .int 0, .int 0])), (q_2, .inl (k 0, 240, .inl (fun _ => 0))), (q_3, .inl (k 3, 3, .inr (.inr (.inr (.inr (fun _ => none)))))), (q_4, .inl (k 4, 3, .inr (.inr (.inr (.inr (fun _ => none)))))), (q_5, .inr (5, [.ref q_6, .ref q1_6, .ref q2_6, .ref q3_6])), (q_6, .inl (k 1, 10, .inl (fun _ => 0))), (q_7, .inl (k 5, 4, .inr (.inr (.inr (.inr (fun _ => none))))))] H := hP
  have hD : va_D A [(h0, .inr (7, [.ref q_1, .ref q_3, .ref q_4, .ref q_5, .null, .int 0, .int 0, .null, .null, .null, .null, .null])), (q_1, .inr (6, [.ref q_2, .int 0, .int 0, .int 0, .int 0, .int 0])), (q_2, .inl (k 0, 240, .inl (fun _ => 0))), (q_3, .inl (k 3, 3, .inr (.inr (.inr (.inr (fun _ => none)))))), (q_4, .inl (k 4, 3, .inr (.inr (.inr (.inr (fun _ => none)))))), (q_5, .inr (5, [.ref q_6, .ref q1_6, .ref q2_6, .ref q3_6])), (q_6, .inl (k 1, 10, .inl (fun _ => 0))), (q_7, .inl (k 5, 4, .inr (.inr (.inr (.inr (fun _ => none))))))] := hD
  refine va_putF (D := D) (ci := 7) (v := .ref q_7) (ty := (.array (.object "LastPlace$Rule"))) (C := RX7) (T := TX7) (N := 12) hx hb hts inX7 tyX7 tyX7_ok nmX7 hown hK hP hD hS 0 rfl rfl 4 (by decide) (hts _ tw_309) (fun _ h9 => h9) rfl hin rfl (by decide +kernel) rfl rfl (Nat.le_of_ble_eq_true rfl) dX7_init_47 (fun H locs hP hD hS => ?_)
  have hP : va_P D classes [(h0, .inr (7, [.ref q_1, .ref q_3, .ref q_4, .ref q_5, .ref q_7, .int 0, .int 0, .null, .null, .null, .null, .null])), (q_1, .inr (6, [.ref q_2, .int 0, .int 0, .int 0, .int 0, .int 0])), (q_2, .inl (k 0, 240, .inl (fun _ => 0))), (q_3, .inl (k 3, 3, .inr (.inr (.inr (.inr (fun _ => none)))))), (q_4, .inl (k 4, 3, .inr (.inr (.inr (.inr (fun _ => none)))))), (q_5, .inr (5, [.ref q_6, .ref q1_6, .ref q2_6, .ref q3_6])), (q_6, .inl (k 1, 10, .inl (fun _ => 0))), (q_7, .inl (k 5, 4, .inr (.inr (.inr (.inr (fun _ => none))))))] H := hP
  have hD : va_D A [(h0, .inr (7, [.ref q_1, .ref q_3, .ref q_4, .ref q_5, .ref q_7, .int 0, .int 0, .null, .null, .null, .null, .null])), (q_1, .inr (6, [.ref q_2, .int 0, .int 0, .int 0, .int 0, .int 0])), (q_2, .inl (k 0, 240, .inl (fun _ => 0))), (q_3, .inl (k 3, 3, .inr (.inr (.inr (.inr (fun _ => none)))))), (q_4, .inl (k 4, 3, .inr (.inr (.inr (.inr (fun _ => none)))))), (q_5, .inr (5, [.ref q_6, .ref q1_6, .ref q2_6, .ref q3_6])), (q_6, .inl (k 1, 10, .inl (fun _ => 0))), (q_7, .inl (k 5, 4, .inr (.inr (.inr (.inr (fun _ => none))))))] := hD
  refine lv_aload_n hx hb dX7_init_50 rfl (lv_at hl 0 rfl) ?_
  refine lv_iconst (v := 0) hx hb dX7_init_51 (by decide) ?_
  refine va_put (D := D) (ci := 7) (v := .int 0) (ty := .int) (C := RX7) (T := TX7) (N := 12) hx hb hts inX7 tyX7 tyX7_ok nmX7 hown hK hP hD hS 0 rfl rfl 5 (by decide) (hts _ tw_310) (fun _ h9 => h9) rfl (by decide +kernel) rfl rfl (Nat.le_of_ble_eq_true rfl) dX7_init_52 (fun H locs hP hD hS => ?_)
  have hP : va_P D classes [(h0, .inr (7, [.ref q_1, .ref q_3, .ref q_4, .ref q_5, .ref q_7, .int 0, .int 0, .null, .null, .null, .null, .null])), (q_1, .inr (6, [.ref q_2, .int 0, .int 0, .int 0, .int 0, .int 0])), (q_2, .inl (k 0, 240, .inl (fun _ => 0))), (q_3, .inl (k 3, 3, .inr (.inr (.inr (.inr (fun _ => none)))))), (q_4, .inl (k 4, 3, .inr (.inr (.inr (.inr (fun _ => none)))))), (q_5, .inr (5, [.ref q_6, .ref q1_6, .ref q2_6, .ref q3_6])), (q_6, .inl (k 1, 10, .inl (fun _ => 0))), (q_7, .inl (k 5, 4, .inr (.inr (.inr (.inr (fun _ => none))))))] H := hP
  have hD : va_D A [(h0, .inr (7, [.ref q_1, .ref q_3, .ref q_4, .ref q_5, .ref q_7, .int 0, .int 0, .null, .null, .null, .null, .null])), (q_1, .inr (6, [.ref q_2, .int 0, .int 0, .int 0, .int 0, .int 0])), (q_2, .inl (k 0, 240, .inl (fun _ => 0))), (q_3, .inl (k 3, 3, .inr (.inr (.inr (.inr (fun _ => none)))))), (q_4, .inl (k 4, 3, .inr (.inr (.inr (.inr (fun _ => none)))))), (q_5, .inr (5, [.ref q_6, .ref q1_6, .ref q2_6, .ref q3_6])), (q_6, .inl (k 1, 10, .inl (fun _ => 0))), (q_7, .inl (k 5, 4, .inr (.inr (.inr (.inr (fun _ => none))))))] := hD
  refine lv_aload_n hx hb dX7_init_55 rfl (lv_at hl 0 rfl) ?_
  refine lv_iconst (v := (-1)) hx hb dX7_init_56 (by decide) ?_
  refine va_put (D := D) (ci := 7) (v := .int (-1)) (ty := .int) (C := RX7) (T := TX7) (N := 12) hx hb hts inX7 tyX7 tyX7_ok nmX7 hown hK hP hD hS 0 rfl rfl 6 (by decide) (hts _ tw_311) (fun _ h9 => h9) rfl (by decide +kernel) rfl rfl (Nat.le_of_ble_eq_true rfl) dX7_init_57 (fun H locs hP hD hS => ?_)
  have hP : va_P D classes [(h0, .inr (7, [.ref q_1, .ref q_3, .ref q_4, .ref q_5, .ref q_7, .int 0, .int (-1), .null, .null, .null, .null, .null])), (q_1, .inr (6, [.ref q_2, .int 0, .int 0, .int 0, .int 0, .int 0])), (q_2, .inl (k 0, 240, .inl (fun _ => 0))), (q_3, .inl (k 3, 3, .inr (.inr (.inr (.inr (fun _ => none)))))), (q_4, .inl (k 4, 3, .inr (.inr (.inr (.inr (fun _ => none)))))), (q_5, .inr (5, [.ref q_6, .ref q1_6, .ref q2_6, .ref q3_6])), (q_6, .inl (k 1, 10, .inl (fun _ => 0))), (q_7, .inl (k 5, 4, .inr (.inr (.inr (.inr (fun _ => none))))))] H := hP
  have hD : va_D A [(h0, .inr (7, [.ref q_1, .ref q_3, .ref q_4, .ref q_5, .ref q_7, .int 0, .int (-1), .null, .null, .null, .null, .null])), (q_1, .inr (6, [.ref q_2, .int 0, .int 0, .int 0, .int 0, .int 0])), (q_2, .inl (k 0, 240, .inl (fun _ => 0))), (q_3, .inl (k 3, 3, .inr (.inr (.inr (.inr (fun _ => none)))))), (q_4, .inl (k 4, 3, .inr (.inr (.inr (.inr (fun _ => none)))))), (q_5, .inr (5, [.ref q_6, .ref q1_6, .ref q2_6, .ref q3_6])), (q_6, .inl (k 1, 10, .inl (fun _ => 0))), (q_7, .inl (k 5, 4, .inr (.inr (.inr (.inr (fun _ => none))))))] := hD
  refine lv_aload_n hx hb dX7_init_60 rfl (lv_at hl 0 rfl) ?_
  refine va_new (ci := 4) (fs := [.null, .null, .int 0, .int 0, .int 0, .int 0]) (C := RX4) (T := TX4) (N := 6) hx hb hts inX4 tyX4 tyX4_ok hown (hts _ tw_167) (hts _ tw_168) (hts _ tw_82) hK hP hD hS hA rfl (fun j hj => match j, hj with | 0, _ => rfl | 1, _ => rfl | 2, _ => rfl | 3, _ => rfl | 4, _ => rfl | 5, _ => rfl | j + 6, h => absurd h (by omega)) (Nat.le_of_ble_eq_true rfl) (Nat.le_of_ble_eq_true rfl) dX7_init_61 (fun q_8 H hP hD hS => ?_)
  refine W.widen (k := 11) (n := 328) (by decide) (by decide) ?_
  have hP : va_P D classes [(h0, .inr (7, [.ref q_1, .ref q_3, .ref q_4, .ref q_5, .ref q_7, .int 0, .int (-1), .null, .null, .null, .null, .null])), (q_1, .inr (6, [.ref q_2, .int 0, .int 0, .int 0, .int 0, .int 0])), (q_2, .inl (k 0, 240, .inl (fun _ => 0))), (q_3, .inl (k 3, 3, .inr (.inr (.inr (.inr (fun _ => none)))))), (q_4, .inl (k 4, 3, .inr (.inr (.inr (.inr (fun _ => none)))))), (q_5, .inr (5, [.ref q_6, .ref q1_6, .ref q2_6, .ref q3_6])), (q_6, .inl (k 1, 10, .inl (fun _ => 0))), (q_7, .inl (k 5, 4, .inr (.inr (.inr (.inr (fun _ => none)))))), (q_8, .inr (4, [.null, .null, .int 0, .int 0, .int 0, .int 0]))] H := hP
  have hD : va_D A [(h0, .inr (7, [.ref q_1, .ref q_3, .ref q_4, .ref q_5, .ref q_7, .int 0, .int (-1), .null, .null, .null, .null, .null])), (q_1, .inr (6, [.ref q_2, .int 0, .int 0, .int 0, .int 0, .int 0])), (q_2, .inl (k 0, 240, .inl (fun _ => 0))), (q_3, .inl (k 3, 3, .inr (.inr (.inr (.inr (fun _ => none)))))), (q_4, .inl (k 4, 3, .inr (.inr (.inr (.inr (fun _ => none)))))), (q_5, .inr (5, [.ref q_6, .ref q1_6, .ref q2_6, .ref q3_6])), (q_6, .inl (k 1, 10, .inl (fun _ => 0))), (q_7, .inl (k 5, 4, .inr (.inr (.inr (.inr (fun _ => none)))))), (q_8, .inr (4, [.null, .null, .int 0, .int 0, .int 0, .int 0]))] := hD
  refine lv_dup hx hb dX7_init_64 rfl ?_
  refine rw_v (D := D) (wr := [(h0, .inr (7, [.ref q_1, .ref q_3, .ref q_4, .ref q_5, .ref q_7, .int 0, .int (-1), .null, .null, .null, .null, .null])), (q_1, .inr (6, [.ref q_2, .int 0, .int 0, .int 0, .int 0, .int 0])), (q_2, .inl (k 0, 240, .inl (fun _ => 0))), (q_3, .inl (k 3, 3, .inr (.inr (.inr (.inr (fun _ => none)))))), (q_4, .inl (k 4, 3, .inr (.inr (.inr (.inr (fun _ => none)))))), (q_5, .inr (5, [.ref q_6, .ref q1_6, .ref q2_6, .ref q3_6])), (q_6, .inl (k 1, 10, .inl (fun _ => 0))), (q_7, .inl (k 5, 4, .inr (.inr (.inr (.inr (fun _ => none))))))]) (va_runIN (As := []) (rest := [.ref q_8, .ref h0]) ⟨hx, hb, hml, hown, hts⟩ ((k_Scene_init l D k st lo q_8) H.size) ⟨va_cnB 0 hts (gLW tw_171) rfl rfl rfl (hZ.2.2.2.2.2.2.2.2.2.2.2.1 (RX7, 48, yX4_init, RX7) (List.mem_of_getElem? (i := 2) rfl)) (hts _ tw_82) (by decide +kernel) ⟨Nat.le_of_ble_eq_true rfl, Nat.le_of_ble_eq_true rfl⟩, rfl, hts _ tw_170⟩ (pS hS hAlo hlo hP hK (va_Dlo hD hAlo) hZ [8] (by decide) rfl) rfl rfl hl.1 rfl (lv_room (Nat.le_of_ble_eq_true rfl)) dX7_init_65 ⟨Nat.le_of_ble_eq_true rfl, Nat.le_of_ble_eq_true rfl⟩) hS hA hP hD [8] [0, 1, 2, 3, 4, 5, 6, 7] rfl rfl (by decide) (by decide) (fun u H locs hw_9 hP hD hS => ?_)
  obtain ⟨q_9, q1_9⟩ := u
  have hP : va_P D classes [(h0, .inr (7, [.ref q_1, .ref q_3, .ref q_4, .ref q_5, .ref q_7, .int 0, .int (-1), .null, .null, .null, .null, .null])), (q_1, .inr (6, [.ref q_2, .int 0, .int 0, .int 0, .int 0, .int 0])), (q_2, .inl (k 0, 240, .inl (fun _ => 0))), (q_3, .inl (k 3, 3, .inr (.inr (.inr (.inr (fun _ => none)))))), (q_4, .inl (k 4, 3, .inr (.inr (.inr (.inr (fun _ => none)))))), (q_5, .inr (5, [.ref q_6, .ref q1_6, .ref q2_6, .ref q3_6])), (q_6, .inl (k 1, 10, .inl (fun _ => 0))), (q_7, .inl (k 5, 4, .inr (.inr (.inr (.inr (fun _ => none)))))), (q_8, .inr (4, [.ref q_9, .ref q1_9, .int 0, .int 0, .int 0, .int 0])), (q_9, .inl (k 1, 4, .inl (fun _ => 0))), (q1_9, .inl (k 1, 4, .inl (fun _ => 0)))] H := hP
  have hD : va_D A [(h0, .inr (7, [.ref q_1, .ref q_3, .ref q_4, .ref q_5, .ref q_7, .int 0, .int (-1), .null, .null, .null, .null, .null])), (q_1, .inr (6, [.ref q_2, .int 0, .int 0, .int 0, .int 0, .int 0])), (q_2, .inl (k 0, 240, .inl (fun _ => 0))), (q_3, .inl (k 3, 3, .inr (.inr (.inr (.inr (fun _ => none)))))), (q_4, .inl (k 4, 3, .inr (.inr (.inr (.inr (fun _ => none)))))), (q_5, .inr (5, [.ref q_6, .ref q1_6, .ref q2_6, .ref q3_6])), (q_6, .inl (k 1, 10, .inl (fun _ => 0))), (q_7, .inl (k 5, 4, .inr (.inr (.inr (.inr (fun _ => none)))))), (q_8, .inr (4, [.ref q_9, .ref q1_9, .int 0, .int 0, .int 0, .int 0])), (q_9, .inl (k 1, 4, .inl (fun _ => 0))), (q1_9, .inl (k 1, 4, .inl (fun _ => 0)))] := hD
  try dsimp only at hw_9
  refine W.widen (k := 13) (n := 336) (by decide) (by decide) ?_
  refine va_putF (D := D) (ci := 7) (v := .ref q_8) (ty := (.object "LastPlace$Scene")) (C := RX7) (T := TX7) (N := 12) hx hb hts inX7 tyX7 tyX7_ok nmX7 hown hK hP hD hS 0 rfl rfl 7 (by decide) (hts _ tw_312) (fun _ h9 => h9) rfl hin rfl (by decide +kernel) rfl rfl (Nat.le_of_ble_eq_true rfl) dX7_init_68 (fun H locs hP hD hS => ?_)
  have hP : va_P D classes [(h0, .inr (7, [.ref q_1, .ref q_3, .ref q_4, .ref q_5, .ref q_7, .int 0, .int (-1), .ref q_8, .null, .null, .null, .null])), (q_1, .inr (6, [.ref q_2, .int 0, .int 0, .int 0, .int 0, .int 0])), (q_2, .inl (k 0, 240, .inl (fun _ => 0))), (q_3, .inl (k 3, 3, .inr (.inr (.inr (.inr (fun _ => none)))))), (q_4, .inl (k 4, 3, .inr (.inr (.inr (.inr (fun _ => none)))))), (q_5, .inr (5, [.ref q_6, .ref q1_6, .ref q2_6, .ref q3_6])), (q_6, .inl (k 1, 10, .inl (fun _ => 0))), (q_7, .inl (k 5, 4, .inr (.inr (.inr (.inr (fun _ => none)))))), (q_8, .inr (4, [.ref q_9, .ref q1_9, .int 0, .int 0, .int 0, .int 0])), (q_9, .inl (k 1, 4, .inl (fun _ => 0))), (q1_9, .inl (k 1, 4, .inl (fun _ => 0)))] H := hP
  have hD : va_D A [(h0, .inr (7, [.ref q_1, .ref q_3, .ref q_4, .ref q_5, .ref q_7, .int 0, .int (-1), .ref q_8, .null, .null, .null, .null])), (q_1, .inr (6, [.ref q_2, .int 0, .int 0, .int 0, .int 0, .int 0])), (q_2, .inl (k 0, 240, .inl (fun _ => 0))), (q_3, .inl (k 3, 3, .inr (.inr (.inr (.inr (fun _ => none)))))), (q_4, .inl (k 4, 3, .inr (.inr (.inr (.inr (fun _ => none)))))), (q_5, .inr (5, [.ref q_6, .ref q1_6, .ref q2_6, .ref q3_6])), (q_6, .inl (k 1, 10, .inl (fun _ => 0))), (q_7, .inl (k 5, 4, .inr (.inr (.inr (.inr (fun _ => none)))))), (q_8, .inr (4, [.ref q_9, .ref q1_9, .int 0, .int 0, .int 0, .int 0])), (q_9, .inl (k 1, 4, .inl (fun _ => 0))), (q1_9, .inl (k 1, 4, .inl (fun _ => 0)))] := hD
  refine lv_aload_n hx hb dX7_init_71 rfl (lv_at hl 0 rfl) ?_
  refine lv_iconst (v := 2) hx hb dX7_init_72 (by decide) ?_
  refine nwq (t0 := 6) hx hb hown (hts _ tw_167) (hZ.2.2.2.2.2.2.2.2.2.2.2.2.2 "LastPlace$Scene" (List.mem_of_getElem? (i := 3) rfl)) rfl hK hP hD hS hA (by decide) (N' := 2) (by decide) (by decide) (Nat.le_of_ble_eq_true rfl) (Nat.le_of_ble_eq_true rfl) dX7_init_73 (fun q_10 H hP hD hS => ?_)
  refine W.widen (k := 14) (n := 338) (by decide) (by decide) ?_
  have hP : va_P D classes [(h0, .inr (7, [.ref q_1, .ref q_3, .ref q_4, .ref q_5, .ref q_7, .int 0, .int (-1), .ref q_8, .null, .null, .null, .null])), (q_1, .inr (6, [.ref q_2, .int 0, .int 0, .int 0, .int 0, .int 0])), (q_2, .inl (k 0, 240, .inl (fun _ => 0))), (q_3, .inl (k 3, 3, .inr (.inr (.inr (.inr (fun _ => none)))))), (q_4, .inl (k 4, 3, .inr (.inr (.inr (.inr (fun _ => none)))))), (q_5, .inr (5, [.ref q_6, .ref q1_6, .ref q2_6, .ref q3_6])), (q_6, .inl (k 1, 10, .inl (fun _ => 0))), (q_7, .inl (k 5, 4, .inr (.inr (.inr (.inr (fun _ => none)))))), (q_8, .inr (4, [.ref q_9, .ref q1_9, .int 0, .int 0, .int 0, .int 0])), (q_9, .inl (k 1, 4, .inl (fun _ => 0))), (q1_9, .inl (k 1, 4, .inl (fun _ => 0))), (q_10, .inl (k 6, 2, .inr (.inr (.inr (.inr (fun _ => none))))))] H := hP
  have hD : va_D A [(h0, .inr (7, [.ref q_1, .ref q_3, .ref q_4, .ref q_5, .ref q_7, .int 0, .int (-1), .ref q_8, .null, .null, .null, .null])), (q_1, .inr (6, [.ref q_2, .int 0, .int 0, .int 0, .int 0, .int 0])), (q_2, .inl (k 0, 240, .inl (fun _ => 0))), (q_3, .inl (k 3, 3, .inr (.inr (.inr (.inr (fun _ => none)))))), (q_4, .inl (k 4, 3, .inr (.inr (.inr (.inr (fun _ => none)))))), (q_5, .inr (5, [.ref q_6, .ref q1_6, .ref q2_6, .ref q3_6])), (q_6, .inl (k 1, 10, .inl (fun _ => 0))), (q_7, .inl (k 5, 4, .inr (.inr (.inr (.inr (fun _ => none)))))), (q_8, .inr (4, [.ref q_9, .ref q1_9, .int 0, .int 0, .int 0, .int 0])), (q_9, .inl (k 1, 4, .inl (fun _ => 0))), (q1_9, .inl (k 1, 4, .inl (fun _ => 0))), (q_10, .inl (k 6, 2, .inr (.inr (.inr (.inr (fun _ => none))))))] := hD
  refine va_putF (D := D) (ci := 7) (v := .ref q_10) (ty := (.array (.object "LastPlace$Scene"))) (C := RX7) (T := TX7) (N := 12) hx hb hts inX7 tyX7 tyX7_ok nmX7 hown hK hP hD hS 0 rfl rfl 8 (by decide) (hts _ tw_313) (fun _ h9 => h9) rfl hin rfl (by decide +kernel) rfl rfl (Nat.le_of_ble_eq_true rfl) dX7_init_76 (fun H locs hP hD hS => ?_)
  have hP : va_P D classes [(h0, .inr (7, [.ref q_1, .ref q_3, .ref q_4, .ref q_5, .ref q_7, .int 0, .int (-1), .ref q_8, .ref q_10, .null, .null, .null])), (q_1, .inr (6, [.ref q_2, .int 0, .int 0, .int 0, .int 0, .int 0])), (q_2, .inl (k 0, 240, .inl (fun _ => 0))), (q_3, .inl (k 3, 3, .inr (.inr (.inr (.inr (fun _ => none)))))), (q_4, .inl (k 4, 3, .inr (.inr (.inr (.inr (fun _ => none)))))), (q_5, .inr (5, [.ref q_6, .ref q1_6, .ref q2_6, .ref q3_6])), (q_6, .inl (k 1, 10, .inl (fun _ => 0))), (q_7, .inl (k 5, 4, .inr (.inr (.inr (.inr (fun _ => none)))))), (q_8, .inr (4, [.ref q_9, .ref q1_9, .int 0, .int 0, .int 0, .int 0])), (q_9, .inl (k 1, 4, .inl (fun _ => 0))), (q1_9, .inl (k 1, 4, .inl (fun _ => 0))), (q_10, .inl (k 6, 2, .inr (.inr (.inr (.inr (fun _ => none))))))] H := hP
  have hD : va_D A [(h0, .inr (7, [.ref q_1, .ref q_3, .ref q_4, .ref q_5, .ref q_7, .int 0, .int (-1), .ref q_8, .ref q_10, .null, .null, .null])), (q_1, .inr (6, [.ref q_2, .int 0, .int 0, .int 0, .int 0, .int 0])), (q_2, .inl (k 0, 240, .inl (fun _ => 0))), (q_3, .inl (k 3, 3, .inr (.inr (.inr (.inr (fun _ => none)))))), (q_4, .inl (k 4, 3, .inr (.inr (.inr (.inr (fun _ => none)))))), (q_5, .inr (5, [.ref q_6, .ref q1_6, .ref q2_6, .ref q3_6])), (q_6, .inl (k 1, 10, .inl (fun _ => 0))), (q_7, .inl (k 5, 4, .inr (.inr (.inr (.inr (fun _ => none)))))), (q_8, .inr (4, [.ref q_9, .ref q1_9, .int 0, .int 0, .int 0, .int 0])), (q_9, .inl (k 1, 4, .inl (fun _ => 0))), (q1_9, .inl (k 1, 4, .inl (fun _ => 0))), (q_10, .inl (k 6, 2, .inr (.inr (.inr (.inr (fun _ => none))))))] := hD
  refine lv_aload_n hx hb dX7_init_79 rfl (lv_at hl 0 rfl) ?_
  refine lv_iconst (v := 2) hx hb dX7_init_80 (by decide) ?_
  refine nwa (atype := .boolean) (t0 := 2) (a0 := (2, .inl (fun _ => 0))) hx hb (hts _ tw_228) rfl rfl hK hP hD hS hA (fun _ => rfl) (by decide) (N' := 2) (by decide) (by decide) (Nat.le_of_ble_eq_true rfl) (Nat.le_of_ble_eq_true rfl) dX7_init_81 (fun q_11 H hP hD hS => ?_)
  refine W.widen (k := 15) (n := 340) (by decide) (by decide) ?_
  have hP : va_P D classes [(h0, .inr (7, [.ref q_1, .ref q_3, .ref q_4, .ref q_5, .ref q_7, .int 0, .int (-1), .ref q_8, .ref q_10, .null, .null, .null])), (q_1, .inr (6, [.ref q_2, .int 0, .int 0, .int 0, .int 0, .int 0])), (q_2, .inl (k 0, 240, .inl (fun _ => 0))), (q_3, .inl (k 3, 3, .inr (.inr (.inr (.inr (fun _ => none)))))), (q_4, .inl (k 4, 3, .inr (.inr (.inr (.inr (fun _ => none)))))), (q_5, .inr (5, [.ref q_6, .ref q1_6, .ref q2_6, .ref q3_6])), (q_6, .inl (k 1, 10, .inl (fun _ => 0))), (q_7, .inl (k 5, 4, .inr (.inr (.inr (.inr (fun _ => none)))))), (q_8, .inr (4, [.ref q_9, .ref q1_9, .int 0, .int 0, .int 0, .int 0])), (q_9, .inl (k 1, 4, .inl (fun _ => 0))), (q1_9, .inl (k 1, 4, .inl (fun _ => 0))), (q_10, .inl (k 6, 2, .inr (.inr (.inr (.inr (fun _ => none)))))), (q_11, .inl (k 2, 2, .inl (fun _ => 0)))] H := hP
  have hD : va_D A [(h0, .inr (7, [.ref q_1, .ref q_3, .ref q_4, .ref q_5, .ref q_7, .int 0, .int (-1), .ref q_8, .ref q_10, .null, .null, .null])), (q_1, .inr (6, [.ref q_2, .int 0, .int 0, .int 0, .int 0, .int 0])), (q_2, .inl (k 0, 240, .inl (fun _ => 0))), (q_3, .inl (k 3, 3, .inr (.inr (.inr (.inr (fun _ => none)))))), (q_4, .inl (k 4, 3, .inr (.inr (.inr (.inr (fun _ => none)))))), (q_5, .inr (5, [.ref q_6, .ref q1_6, .ref q2_6, .ref q3_6])), (q_6, .inl (k 1, 10, .inl (fun _ => 0))), (q_7, .inl (k 5, 4, .inr (.inr (.inr (.inr (fun _ => none)))))), (q_8, .inr (4, [.ref q_9, .ref q1_9, .int 0, .int 0, .int 0, .int 0])), (q_9, .inl (k 1, 4, .inl (fun _ => 0))), (q1_9, .inl (k 1, 4, .inl (fun _ => 0))), (q_10, .inl (k 6, 2, .inr (.inr (.inr (.inr (fun _ => none)))))), (q_11, .inl (k 2, 2, .inl (fun _ => 0)))] := hD
  refine va_putF (D := D) (ci := 7) (v := .ref q_11) (ty := (.array .boolean)) (C := RX7) (T := TX7) (N := 12) hx hb hts inX7 tyX7 tyX7_ok nmX7 hown hK hP hD hS 0 rfl rfl 9 (by decide) (hts _ tw_314) (fun _ h9 => h9) rfl hin rfl (by decide +kernel) rfl rfl (Nat.le_of_ble_eq_true rfl) dX7_init_83 (fun H locs hP hD hS => ?_)
  have hP : va_P D classes [(h0, .inr (7, [.ref q_1, .ref q_3, .ref q_4, .ref q_5, .ref q_7, .int 0, .int (-1), .ref q_8, .ref q_10, .ref q_11, .null, .null])), (q_1, .inr (6, [.ref q_2, .int 0, .int 0, .int 0, .int 0, .int 0])), (q_2, .inl (k 0, 240, .inl (fun _ => 0))), (q_3, .inl (k 3, 3, .inr (.inr (.inr (.inr (fun _ => none)))))), (q_4, .inl (k 4, 3, .inr (.inr (.inr (.inr (fun _ => none)))))), (q_5, .inr (5, [.ref q_6, .ref q1_6, .ref q2_6, .ref q3_6])), (q_6, .inl (k 1, 10, .inl (fun _ => 0))), (q_7, .inl (k 5, 4, .inr (.inr (.inr (.inr (fun _ => none)))))), (q_8, .inr (4, [.ref q_9, .ref q1_9, .int 0, .int 0, .int 0, .int 0])), (q_9, .inl (k 1, 4, .inl (fun _ => 0))), (q1_9, .inl (k 1, 4, .inl (fun _ => 0))), (q_10, .inl (k 6, 2, .inr (.inr (.inr (.inr (fun _ => none)))))), (q_11, .inl (k 2, 2, .inl (fun _ => 0)))] H := hP
  have hD : va_D A [(h0, .inr (7, [.ref q_1, .ref q_3, .ref q_4, .ref q_5, .ref q_7, .int 0, .int (-1), .ref q_8, .ref q_10, .ref q_11, .null, .null])), (q_1, .inr (6, [.ref q_2, .int 0, .int 0, .int 0, .int 0, .int 0])), (q_2, .inl (k 0, 240, .inl (fun _ => 0))), (q_3, .inl (k 3, 3, .inr (.inr (.inr (.inr (fun _ => none)))))), (q_4, .inl (k 4, 3, .inr (.inr (.inr (.inr (fun _ => none)))))), (q_5, .inr (5, [.ref q_6, .ref q1_6, .ref q2_6, .ref q3_6])), (q_6, .inl (k 1, 10, .inl (fun _ => 0))), (q_7, .inl (k 5, 4, .inr (.inr (.inr (.inr (fun _ => none)))))), (q_8, .inr (4, [.ref q_9, .ref q1_9, .int 0, .int 0, .int 0, .int 0])), (q_9, .inl (k 1, 4, .inl (fun _ => 0))), (q1_9, .inl (k 1, 4, .inl (fun _ => 0))), (q_10, .inl (k 6, 2, .inr (.inr (.inr (.inr (fun _ => none)))))), (q_11, .inl (k 2, 2, .inl (fun _ => 0)))] := hD
  refine lv_aload_n hx hb dX7_init_86 rfl (lv_at hl 0 rfl) ?_
  refine va_new (ci := 2) (fs := [.null, .null, .null, .int 0, .int 0]) (C := RX2) (T := TX2) (N := 5) hx hb hts inX2 tyX2 tyX2_ok hown (hts _ tw_204) (hts _ tw_205) (hts _ tw_83) hK hP hD hS hA rfl (fun j hj => match j, hj with | 0, _ => rfl | 1, _ => rfl | 2, _ => rfl | 3, _ => rfl | 4, _ => rfl | j + 5, h => absurd h (by omega)) (Nat.le_of_ble_eq_true rfl) (Nat.le_of_ble_eq_true rfl) dX7_init_87 (fun q_12 H hP hD hS => ?_)
  refine W.widen (k := 16) (n := 345) (by decide) (by decide) ?_
  have hP : va_P D classes [(h0, .inr (7, [.ref q_1, .ref q_3, .ref q_4, .ref q_5, .ref q_7, .int 0, .int (-1), .ref q_8, .ref q_10, .ref q_11, .null, .null])), (q_1, .inr (6, [.ref q_2, .int 0, .int 0, .int 0, .int 0, .int 0])), (q_2, .inl (k 0, 240, .inl (fun _ => 0))), (q_3, .inl (k 3, 3, .inr (.inr (.inr (.inr (fun _ => none)))))), (q_4, .inl (k 4, 3, .inr (.inr (.inr (.inr (fun _ => none)))))), (q_5, .inr (5, [.ref q_6, .ref q1_6, .ref q2_6, .ref q3_6])), (q_6, .inl (k 1, 10, .inl (fun _ => 0))), (q_7, .inl (k 5, 4, .inr (.inr (.inr (.inr (fun _ => none)))))), (q_8, .inr (4, [.ref q_9, .ref q1_9, .int 0, .int 0, .int 0, .int 0])), (q_9, .inl (k 1, 4, .inl (fun _ => 0))), (q1_9, .inl (k 1, 4, .inl (fun _ => 0))), (q_10, .inl (k 6, 2, .inr (.inr (.inr (.inr (fun _ => none)))))), (q_11, .inl (k 2, 2, .inl (fun _ => 0))), (q_12, .inr (2, [.null, .null, .null, .int 0, .int 0]))] H := hP
  have hD : va_D A [(h0, .inr (7, [.ref q_1, .ref q_3, .ref q_4, .ref q_5, .ref q_7, .int 0, .int (-1), .ref q_8, .ref q_10, .ref q_11, .null, .null])), (q_1, .inr (6, [.ref q_2, .int 0, .int 0, .int 0, .int 0, .int 0])), (q_2, .inl (k 0, 240, .inl (fun _ => 0))), (q_3, .inl (k 3, 3, .inr (.inr (.inr (.inr (fun _ => none)))))), (q_4, .inl (k 4, 3, .inr (.inr (.inr (.inr (fun _ => none)))))), (q_5, .inr (5, [.ref q_6, .ref q1_6, .ref q2_6, .ref q3_6])), (q_6, .inl (k 1, 10, .inl (fun _ => 0))), (q_7, .inl (k 5, 4, .inr (.inr (.inr (.inr (fun _ => none)))))), (q_8, .inr (4, [.ref q_9, .ref q1_9, .int 0, .int 0, .int 0, .int 0])), (q_9, .inl (k 1, 4, .inl (fun _ => 0))), (q1_9, .inl (k 1, 4, .inl (fun _ => 0))), (q_10, .inl (k 6, 2, .inr (.inr (.inr (.inr (fun _ => none)))))), (q_11, .inl (k 2, 2, .inl (fun _ => 0))), (q_12, .inr (2, [.null, .null, .null, .int 0, .int 0]))] := hD
  refine lv_dup hx hb dX7_init_90 rfl ?_
  refine rw_v (D := D) (wr := [(h0, .inr (7, [.ref q_1, .ref q_3, .ref q_4, .ref q_5, .ref q_7, .int 0, .int (-1), .ref q_8, .ref q_10, .ref q_11, .null, .null])), (q_1, .inr (6, [.ref q_2, .int 0, .int 0, .int 0, .int 0, .int 0])), (q_2, .inl (k 0, 240, .inl (fun _ => 0))), (q_3, .inl (k 3, 3, .inr (.inr (.inr (.inr (fun _ => none)))))), (q_4, .inl (k 4, 3, .inr (.inr (.inr (.inr (fun _ => none)))))), (q_5, .inr (5, [.ref q_6, .ref q1_6, .ref q2_6, .ref q3_6])), (q_6, .inl (k 1, 10, .inl (fun _ => 0))), (q_7, .inl (k 5, 4, .inr (.inr (.inr (.inr (fun _ => none)))))), (q_8, .inr (4, [.ref q_9, .ref q1_9, .int 0, .int 0, .int 0, .int 0])), (q_9, .inl (k 1, 4, .inl (fun _ => 0))), (q1_9, .inl (k 1, 4, .inl (fun _ => 0))), (q_10, .inl (k 6, 2, .inr (.inr (.inr (.inr (fun _ => none)))))), (q_11, .inl (k 2, 2, .inl (fun _ => 0)))]) (va_runIN (As := []) (rest := [.ref q_12, .ref h0]) ⟨hx, hb, hml, hown, hts⟩ ((k_Reckoner_init l D k st lo q_12) H.size) ⟨va_cnB 0 hts (gLW tw_208) rfl rfl rfl (hZ.2.2.2.2.2.2.2.2.2.2.2.1 (RX7, 63, yX2_init, RX7) (List.mem_of_getElem? (i := 3) rfl)) (hts _ tw_83) (by decide +kernel) ⟨Nat.le_of_ble_eq_true rfl, Nat.le_of_ble_eq_true rfl⟩, rfl, hts _ tw_207⟩ (pS hS hAlo hlo hP hK (va_Dlo hD hAlo) hZ [13] (by decide) rfl) rfl rfl hl.1 rfl (lv_room (Nat.le_of_ble_eq_true rfl)) dX7_init_91 ⟨Nat.le_of_ble_eq_true rfl, Nat.le_of_ble_eq_true rfl⟩) hS hA hP hD [13] [0, 1, 2, 3, 4, 5, 6, 7, 8, 9, 10, 11, 12] rfl rfl (by decide) (by decide) (fun u H locs hw_13 hP hD hS => ?_)
  have hP : va_P D classes [(h0, .inr (7, [.ref q_1, .ref q_3, .ref q_4, .ref q_5, .ref q_7, .int 0, .int (-1), .ref q_8, .ref q_10, .ref q_11, .null, .null])), (q_1, .inr (6, [.ref q_2, .int 0, .int 0, .int 0, .int 0, .int 0])), (q_2, .inl (k 0, 240, .inl (fun _ => 0))), (q_3, .inl (k 3, 3, .inr (.inr (.inr (.inr (fun _ => none)))))), (q_4, .inl (k 4, 3, .inr (.inr (.inr (.inr (fun _ => none)))))), (q_5, .inr (5, [.ref q_6, .ref q1_6, .ref q2_6, .ref q3_6])), (q_6, .inl (k 1, 10, .inl (fun _ => 0))), (q_7, .inl (k 5, 4, .inr (.inr (.inr (.inr (fun _ => none)))))), (q_8, .inr (4, [.ref q_9, .ref q1_9, .int 0, .int 0, .int 0, .int 0])), (q_9, .inl (k 1, 4, .inl (fun _ => 0))), (q1_9, .inl (k 1, 4, .inl (fun _ => 0))), (q_10, .inl (k 6, 2, .inr (.inr (.inr (.inr (fun _ => none)))))), (q_11, .inl (k 2, 2, .inl (fun _ => 0)))] H := hP
  have hD : va_D A [(h0, .inr (7, [.ref q_1, .ref q_3, .ref q_4, .ref q_5, .ref q_7, .int 0, .int (-1), .ref q_8, .ref q_10, .ref q_11, .null, .null])), (q_1, .inr (6, [.ref q_2, .int 0, .int 0, .int 0, .int 0, .int 0])), (q_2, .inl (k 0, 240, .inl (fun _ => 0))), (q_3, .inl (k 3, 3, .inr (.inr (.inr (.inr (fun _ => none)))))), (q_4, .inl (k 4, 3, .inr (.inr (.inr (.inr (fun _ => none)))))), (q_5, .inr (5, [.ref q_6, .ref q1_6, .ref q2_6, .ref q3_6])), (q_6, .inl (k 1, 10, .inl (fun _ => 0))), (q_7, .inl (k 5, 4, .inr (.inr (.inr (.inr (fun _ => none)))))), (q_8, .inr (4, [.ref q_9, .ref q1_9, .int 0, .int 0, .int 0, .int 0])), (q_9, .inl (k 1, 4, .inl (fun _ => 0))), (q1_9, .inl (k 1, 4, .inl (fun _ => 0))), (q_10, .inl (k 6, 2, .inr (.inr (.inr (.inr (fun _ => none)))))), (q_11, .inl (k 2, 2, .inl (fun _ => 0)))] := hD
  try dsimp only at hw_13
  refine W.widen (k := 19) (n := 420) (by decide) (by decide) ?_
  refine va_putF (D := D) (ci := 7) (v := .ref q_12) (ty := (.object "LastPlace$Reckoner")) (C := RX7) (T := TX7) (N := 12) hx hb hts inX7 tyX7 tyX7_ok nmX7 hown hK hP hD hS 0 rfl rfl 10 (by decide) (hts _ tw_315) (fun _ h9 => h9) rfl hin rfl (by decide +kernel) rfl rfl (Nat.le_of_ble_eq_true rfl) dX7_init_94 (fun H locs hP hD hS => ?_)
  have hP : va_P D classes [(h0, .inr (7, [.ref q_1, .ref q_3, .ref q_4, .ref q_5, .ref q_7, .int 0, .int (-1), .ref q_8, .ref q_10, .ref q_11, .ref q_12, .null])), (q_1, .inr (6, [.ref q_2, .int 0, .int 0, .int 0, .int 0, .int 0])), (q_2, .inl (k 0, 240, .inl (fun _ => 0))), (q_3, .inl (k 3, 3, .inr (.inr (.inr (.inr (fun _ => none)))))), (q_4, .inl (k 4, 3, .inr (.inr (.inr (.inr (fun _ => none)))))), (q_5, .inr (5, [.ref q_6, .ref q1_6, .ref q2_6, .ref q3_6])), (q_6, .inl (k 1, 10, .inl (fun _ => 0))), (q_7, .inl (k 5, 4, .inr (.inr (.inr (.inr (fun _ => none)))))), (q_8, .inr (4, [.ref q_9, .ref q1_9, .int 0, .int 0, .int 0, .int 0])), (q_9, .inl (k 1, 4, .inl (fun _ => 0))), (q1_9, .inl (k 1, 4, .inl (fun _ => 0))), (q_10, .inl (k 6, 2, .inr (.inr (.inr (.inr (fun _ => none)))))), (q_11, .inl (k 2, 2, .inl (fun _ => 0)))] H := hP
  have hD : va_D A [(h0, .inr (7, [.ref q_1, .ref q_3, .ref q_4, .ref q_5, .ref q_7, .int 0, .int (-1), .ref q_8, .ref q_10, .ref q_11, .ref q_12, .null])), (q_1, .inr (6, [.ref q_2, .int 0, .int 0, .int 0, .int 0, .int 0])), (q_2, .inl (k 0, 240, .inl (fun _ => 0))), (q_3, .inl (k 3, 3, .inr (.inr (.inr (.inr (fun _ => none)))))), (q_4, .inl (k 4, 3, .inr (.inr (.inr (.inr (fun _ => none)))))), (q_5, .inr (5, [.ref q_6, .ref q1_6, .ref q2_6, .ref q3_6])), (q_6, .inl (k 1, 10, .inl (fun _ => 0))), (q_7, .inl (k 5, 4, .inr (.inr (.inr (.inr (fun _ => none)))))), (q_8, .inr (4, [.ref q_9, .ref q1_9, .int 0, .int 0, .int 0, .int 0])), (q_9, .inl (k 1, 4, .inl (fun _ => 0))), (q1_9, .inl (k 1, 4, .inl (fun _ => 0))), (q_10, .inl (k 6, 2, .inr (.inr (.inr (.inr (fun _ => none)))))), (q_11, .inl (k 2, 2, .inl (fun _ => 0)))] := hD
  refine lv_aload_n hx hb dX7_init_97 rfl (lv_at hl 0 rfl) ?_
  refine va_new (ci := 1) (fs := [.null, .null, .null, .null, .int 0, .int 0, .int 0, .int 0]) (C := RX1) (T := TX1) (N := 8) hx hb hts inX1 tyX1 tyX1_ok hown (hts _ tw_229) (hts _ tw_230) (hts _ tw_84) hK hP hD hS hA rfl (fun j hj => match j, hj with | 0, _ => rfl | 1, _ => rfl | 2, _ => rfl | 3, _ => rfl | 4, _ => rfl | 5, _ => rfl | 6, _ => rfl | 7, _ => rfl | j + 8, h => absurd h (by omega)) (Nat.le_of_ble_eq_true rfl) (Nat.le_of_ble_eq_true rfl) dX7_init_98 (fun q_14 H hP hD hS => ?_)
  refine W.widen (k := 20) (n := 428) (by decide) (by decide) ?_
  have hP : va_P D classes [(h0, .inr (7, [.ref q_1, .ref q_3, .ref q_4, .ref q_5, .ref q_7, .int 0, .int (-1), .ref q_8, .ref q_10, .ref q_11, .ref q_12, .null])), (q_1, .inr (6, [.ref q_2, .int 0, .int 0, .int 0, .int 0, .int 0])), (q_2, .inl (k 0, 240, .inl (fun _ => 0))), (q_3, .inl (k 3, 3, .inr (.inr (.inr (.inr (fun _ => none)))))), (q_4, .inl (k 4, 3, .inr (.inr (.inr (.inr (fun _ => none)))))), (q_5, .inr (5, [.ref q_6, .ref q1_6, .ref q2_6, .ref q3_6])), (q_6, .inl (k 1, 10, .inl (fun _ => 0))), (q_7, .inl (k 5, 4, .inr (.inr (.inr (.inr (fun _ => none)))))), (q_8, .inr (4, [.ref q_9, .ref q1_9, .int 0, .int 0, .int 0, .int 0])), (q_9, .inl (k 1, 4, .inl (fun _ => 0))), (q1_9, .inl (k 1, 4, .inl (fun _ => 0))), (q_10, .inl (k 6, 2, .inr (.inr (.inr (.inr (fun _ => none)))))), (q_11, .inl (k 2, 2, .inl (fun _ => 0))), (q_14, .inr (1, [.null, .null, .null, .null, .int 0, .int 0, .int 0, .int 0]))] H := hP
  have hD : va_D A [(h0, .inr (7, [.ref q_1, .ref q_3, .ref q_4, .ref q_5, .ref q_7, .int 0, .int (-1), .ref q_8, .ref q_10, .ref q_11, .ref q_12, .null])), (q_1, .inr (6, [.ref q_2, .int 0, .int 0, .int 0, .int 0, .int 0])), (q_2, .inl (k 0, 240, .inl (fun _ => 0))), (q_3, .inl (k 3, 3, .inr (.inr (.inr (.inr (fun _ => none)))))), (q_4, .inl (k 4, 3, .inr (.inr (.inr (.inr (fun _ => none)))))), (q_5, .inr (5, [.ref q_6, .ref q1_6, .ref q2_6, .ref q3_6])), (q_6, .inl (k 1, 10, .inl (fun _ => 0))), (q_7, .inl (k 5, 4, .inr (.inr (.inr (.inr (fun _ => none)))))), (q_8, .inr (4, [.ref q_9, .ref q1_9, .int 0, .int 0, .int 0, .int 0])), (q_9, .inl (k 1, 4, .inl (fun _ => 0))), (q1_9, .inl (k 1, 4, .inl (fun _ => 0))), (q_10, .inl (k 6, 2, .inr (.inr (.inr (.inr (fun _ => none)))))), (q_11, .inl (k 2, 2, .inl (fun _ => 0))), (q_14, .inr (1, [.null, .null, .null, .null, .int 0, .int 0, .int 0, .int 0]))] := hD
  refine lv_dup hx hb dX7_init_101 rfl ?_
  refine lv_aload_n hx hb dX7_init_102 rfl (lv_at hl 0 rfl) ?_
  refine va_get (D := D) (ci := 7) (v := .ref q_8) (C := RX7) (T := TX7) (N := 12) hx hb hts inX7 hown hK hP 0 rfl rfl 7 (by decide) (hts _ tw_312) (fun _ h9 => h9) rfl dX7_init_103 ?_
  refine rw_v (D := D) (wr := [(h0, .inr (7, [.ref q_1, .ref q_3, .ref q_4, .ref q_5, .ref q_7, .int 0, .int (-1), .ref q_8, .ref q_10, .ref q_11, .ref q_12, .null])), (q_1, .inr (6, [.ref q_2, .int 0, .int 0, .int 0, .int 0, .int 0])), (q_2, .inl (k 0, 240, .inl (fun _ => 0))), (q_3, .inl (k 3, 3, .inr (.inr (.inr (.inr (fun _ => none)))))), (q_4, .inl (k 4, 3, .inr (.inr (.inr (.inr (fun _ => none)))))), (q_5, .inr (5, [.ref q_6, .ref q1_6, .ref q2_6, .ref q3_6])), (q_6, .inl (k 1, 10, .inl (fun _ => 0))), (q_7, .inl (k 5, 4, .inr (.inr (.inr (.inr (fun _ => none)))))), (q_8, .inr (4, [.ref q_9, .ref q1_9, .int 0, .int 0, .int 0, .int 0])), (q_9, .inl (k 1, 4, .inl (fun _ => 0))), (q1_9, .inl (k 1, 4, .inl (fun _ => 0))), (q_10, .inl (k 6, 2, .inr (.inr (.inr (.inr (fun _ => none)))))), (q_11, .inl (k 2, 2, .inl (fun _ => 0)))]) (va_runI (As := [.ref q_8]) (rest := [.ref q_14, .ref h0]) ⟨hx, hb, hml, hown, hts⟩ ((k_Parking_init l D k st lo q_14 q_8) H.size) (cwI 1 hts (gLW tw_233) rfl rfl rfl (hts _ tw_84) (hts _ tw_231) (hts _ tw_232) rfl (by decide +kernel) ⟨Nat.le_of_ble_eq_true rfl, Nat.le_of_ble_eq_true rfl⟩) (pS hS hAlo hlo hP hK (va_Dlo hD hAlo) hZ [13] (by decide) rfl) rfl rfl hl.1 rfl (lv_room (Nat.le_of_ble_eq_true rfl)) dX7_init_106 ⟨Nat.le_of_ble_eq_true rfl, Nat.le_of_ble_eq_true rfl⟩) hS hA hP hD [13] [0, 1, 2, 3, 4, 5, 6, 7, 8, 9, 10, 11, 12] rfl rfl (by decide) (by decide) (fun u H locs hw_15 hP hD hS => ?_)
  have hP : va_P D classes [(h0, .inr (7, [.ref q_1, .ref q_3, .ref q_4, .ref q_5, .ref q_7, .int 0, .int (-1), .ref q_8, .ref q_10, .ref q_11, .ref q_12, .null])), (q_1, .inr (6, [.ref q_2, .int 0, .int 0, .int 0, .int 0, .int 0])), (q_2, .inl (k 0, 240, .inl (fun _ => 0))), (q_3, .inl (k 3, 3, .inr (.inr (.inr (.inr (fun _ => none)))))), (q_4, .inl (k 4, 3, .inr (.inr (.inr (.inr (fun _ => none)))))), (q_5, .inr (5, [.ref q_6, .ref q1_6, .ref q2_6, .ref q3_6])), (q_6, .inl (k 1, 10, .inl (fun _ => 0))), (q_7, .inl (k 5, 4, .inr (.inr (.inr (.inr (fun _ => none)))))), (q_8, .inr (4, [.ref q_9, .ref q1_9, .int 0, .int 0, .int 0, .int 0])), (q_9, .inl (k 1, 4, .inl (fun _ => 0))), (q1_9, .inl (k 1, 4, .inl (fun _ => 0))), (q_10, .inl (k 6, 2, .inr (.inr (.inr (.inr (fun _ => none)))))), (q_11, .inl (k 2, 2, .inl (fun _ => 0)))] H := hP
  have hD : va_D A [(h0, .inr (7, [.ref q_1, .ref q_3, .ref q_4, .ref q_5, .ref q_7, .int 0, .int (-1), .ref q_8, .ref q_10, .ref q_11, .ref q_12, .null])), (q_1, .inr (6, [.ref q_2, .int 0, .int 0, .int 0, .int 0, .int 0])), (q_2, .inl (k 0, 240, .inl (fun _ => 0))), (q_3, .inl (k 3, 3, .inr (.inr (.inr (.inr (fun _ => none)))))), (q_4, .inl (k 4, 3, .inr (.inr (.inr (.inr (fun _ => none)))))), (q_5, .inr (5, [.ref q_6, .ref q1_6, .ref q2_6, .ref q3_6])), (q_6, .inl (k 1, 10, .inl (fun _ => 0))), (q_7, .inl (k 5, 4, .inr (.inr (.inr (.inr (fun _ => none)))))), (q_8, .inr (4, [.ref q_9, .ref q1_9, .int 0, .int 0, .int 0, .int 0])), (q_9, .inl (k 1, 4, .inl (fun _ => 0))), (q1_9, .inl (k 1, 4, .inl (fun _ => 0))), (q_10, .inl (k 6, 2, .inr (.inr (.inr (.inr (fun _ => none)))))), (q_11, .inl (k 2, 2, .inl (fun _ => 0)))] := hD
  try dsimp only at hw_15
  refine W.widen (k := 23) (n := 548) (by decide) (by decide) ?_
  refine va_putF (D := D) (ci := 7) (v := .ref q_14) (ty := (.object "LastPlace$Parking")) (C := RX7) (T := TX7) (N := 12) hx hb hts inX7 tyX7 tyX7_ok nmX7 hown hK hP hD hS 0 rfl rfl 11 (by decide) (hts _ tw_316) (fun _ h9 => h9) rfl hin rfl (by decide +kernel) rfl rfl (Nat.le_of_ble_eq_true rfl) dX7_init_109 (fun H locs hP hD hS => ?_)
  have hP : va_P D classes [(h0, .inr (7, [.ref q_1, .ref q_3, .ref q_4, .ref q_5, .ref q_7, .int 0, .int (-1), .ref q_8, .ref q_10, .ref q_11, .ref q_12, .ref q_14])), (q_1, .inr (6, [.ref q_2, .int 0, .int 0, .int 0, .int 0, .int 0])), (q_2, .inl (k 0, 240, .inl (fun _ => 0))), (q_3, .inl (k 3, 3, .inr (.inr (.inr (.inr (fun _ => none)))))), (q_4, .inl (k 4, 3, .inr (.inr (.inr (.inr (fun _ => none)))))), (q_5, .inr (5, [.ref q_6, .ref q1_6, .ref q2_6, .ref q3_6])), (q_6, .inl (k 1, 10, .inl (fun _ => 0))), (q_7, .inl (k 5, 4, .inr (.inr (.inr (.inr (fun _ => none)))))), (q_8, .inr (4, [.ref q_9, .ref q1_9, .int 0, .int 0, .int 0, .int 0])), (q_9, .inl (k 1, 4, .inl (fun _ => 0))), (q1_9, .inl (k 1, 4, .inl (fun _ => 0))), (q_10, .inl (k 6, 2, .inr (.inr (.inr (.inr (fun _ => none)))))), (q_11, .inl (k 2, 2, .inl (fun _ => 0)))] H := hP
  have hD : va_D A [(h0, .inr (7, [.ref q_1, .ref q_3, .ref q_4, .ref q_5, .ref q_7, .int 0, .int (-1), .ref q_8, .ref q_10, .ref q_11, .ref q_12, .ref q_14])), (q_1, .inr (6, [.ref q_2, .int 0, .int 0, .int 0, .int 0, .int 0])), (q_2, .inl (k 0, 240, .inl (fun _ => 0))), (q_3, .inl (k 3, 3, .inr (.inr (.inr (.inr (fun _ => none)))))), (q_4, .inl (k 4, 3, .inr (.inr (.inr (.inr (fun _ => none)))))), (q_5, .inr (5, [.ref q_6, .ref q1_6, .ref q2_6, .ref q3_6])), (q_6, .inl (k 1, 10, .inl (fun _ => 0))), (q_7, .inl (k 5, 4, .inr (.inr (.inr (.inr (fun _ => none)))))), (q_8, .inr (4, [.ref q_9, .ref q1_9, .int 0, .int 0, .int 0, .int 0])), (q_9, .inl (k 1, 4, .inl (fun _ => 0))), (q1_9, .inl (k 1, 4, .inl (fun _ => 0))), (q_10, .inl (k 6, 2, .inr (.inr (.inr (.inr (fun _ => none)))))), (q_11, .inl (k 2, 2, .inl (fun _ => 0)))] := hD
  refine lv_iconst (v := 0) hx hb dX7_init_112 (by decide) ?_
  refine lv_istore_n (lv' := [(1, .int 0), (0, .ref h0)]) hx hb dX7_init_113 rfl hl (by decide) rfl (fun ls hl => ?_)
  refine lv_iload_n hx hb dX7_init_114 rfl (lv_at hl 0 rfl) ?_
  refine lv_iconst (v := 3) hx hb dX7_init_115 (by decide) ?_
  refine lv_icmp_ge (tgt := 157) hx hb dX7_init_116 (by decide) (fun h => absurd h (by decide)) (fun _ => ?_)
  refine lv_aload_n hx hb dX7_init_119 rfl (lv_at hl 1 rfl) ?_
  refine va_get (D := D) (ci := 7) (v := .ref q_3) (C := RX7) (T := TX7) (N := 12) hx hb hts inX7 hown hK hP 0 rfl rfl 1 (by decide) (hts _ tw_306) (fun _ h9 => h9) rfl dX7_init_120 ?_
  refine lv_iload_n hx hb dX7_init_123 rfl (lv_at hl 0 rfl) ?_
  refine va_new (ci := 5) (fs := [.null, .null, .null, .null]) (C := RX5) (T := TX5) (N := 4) hx hb hts inX5 tyX5 tyX5_ok hown (hts _ tw_137) (hts _ tw_141) (hts _ tw_81) hK hP hD hS hA rfl (fun j hj => match j, hj with | 0, _ => rfl | 1, _ => rfl | 2, _ => rfl | 3, _ => rfl | j + 4, h => absurd h (by omega)) (Nat.le_of_ble_eq_true rfl) (Nat.le_of_ble_eq_true rfl) dX7_init_124 (fun q_16 H hP hD hS => ?_)
  refine W.widen (k := 24) (n := 552) (by decide) (by decide) ?_
  have hP : va_P D classes [(h0, .inr (7, [.ref q_1, .ref q_3, .ref q_4, .ref q_5, .ref q_7, .int 0, .int (-1), .ref q_8, .ref q_10, .ref q_11, .ref q_12, .ref q_14])), (q_1, .inr (6, [.ref q_2, .int 0, .int 0, .int 0, .int 0, .int 0])), (q_2, .inl (k 0, 240, .inl (fun _ => 0))), (q_3, .inl (k 3, 3, .inr (.inr (.inr (.inr (fun _ => none)))))), (q_4, .inl (k 4, 3, .inr (.inr (.inr (.inr (fun _ => none)))))), (q_5, .inr (5, [.ref q_6, .ref q1_6, .ref q2_6, .ref q3_6])), (q_6, .inl (k 1, 10, .inl (fun _ => 0))), (q_7, .inl (k 5, 4, .inr (.inr (.inr (.inr (fun _ => none)))))), (q_8, .inr (4, [.ref q_9, .ref q1_9, .int 0, .int 0, .int 0, .int 0])), (q_9, .inl (k 1, 4, .inl (fun _ => 0))), (q1_9, .inl (k 1, 4, .inl (fun _ => 0))), (q_10, .inl (k 6, 2, .inr (.inr (.inr (.inr (fun _ => none)))))), (q_11, .inl (k 2, 2, .inl (fun _ => 0))), (q_16, .inr (5, [.null, .null, .null, .null]))] H := hP
  have hD : va_D A [(h0, .inr (7, [.ref q_1, .ref q_3, .ref q_4, .ref q_5, .ref q_7, .int 0, .int (-1), .ref q_8, .ref q_10, .ref q_11, .ref q_12, .ref q_14])), (q_1, .inr (6, [.ref q_2, .int 0, .int 0, .int 0, .int 0, .int 0])), (q_2, .inl (k 0, 240, .inl (fun _ => 0))), (q_3, .inl (k 3, 3, .inr (.inr (.inr (.inr (fun _ => none)))))), (q_4, .inl (k 4, 3, .inr (.inr (.inr (.inr (fun _ => none)))))), (q_5, .inr (5, [.ref q_6, .ref q1_6, .ref q2_6, .ref q3_6])), (q_6, .inl (k 1, 10, .inl (fun _ => 0))), (q_7, .inl (k 5, 4, .inr (.inr (.inr (.inr (fun _ => none)))))), (q_8, .inr (4, [.ref q_9, .ref q1_9, .int 0, .int 0, .int 0, .int 0])), (q_9, .inl (k 1, 4, .inl (fun _ => 0))), (q1_9, .inl (k 1, 4, .inl (fun _ => 0))), (q_10, .inl (k 6, 2, .inr (.inr (.inr (.inr (fun _ => none)))))), (q_11, .inl (k 2, 2, .inl (fun _ => 0))), (q_16, .inr (5, [.null, .null, .null, .null]))] := hD
  refine lv_dup hx hb dX7_init_127 rfl ?_
  refine rw_v (D := D) (wr := [(h0, .inr (7, [.ref q_1, .ref q_3, .ref q_4, .ref q_5, .ref q_7, .int 0, .int (-1), .ref q_8, .ref q_10, .ref q_11, .ref q_12, .ref q_14])), (q_1, .inr (6, [.ref q_2, .int 0, .int 0, .int 0, .int 0, .int 0])), (q_2, .inl (k 0, 240, .inl (fun _ => 0))), (q_3, .inl (k 3, 3, .inr (.inr (.inr (.inr (fun _ => none)))))), (q_4, .inl (k 4, 3, .inr (.inr (.inr (.inr (fun _ => none)))))), (q_5, .inr (5, [.ref q_6, .ref q1_6, .ref q2_6, .ref q3_6])), (q_6, .inl (k 1, 10, .inl (fun _ => 0))), (q_7, .inl (k 5, 4, .inr (.inr (.inr (.inr (fun _ => none)))))), (q_8, .inr (4, [.ref q_9, .ref q1_9, .int 0, .int 0, .int 0, .int 0])), (q_9, .inl (k 1, 4, .inl (fun _ => 0))), (q1_9, .inl (k 1, 4, .inl (fun _ => 0))), (q_10, .inl (k 6, 2, .inr (.inr (.inr (.inr (fun _ => none)))))), (q_11, .inl (k 2, 2, .inl (fun _ => 0)))]) (va_runIN (As := []) (rest := [.ref q_16, .int 0, .ref q_3]) ⟨hx, hb, hml, hown, hts⟩ ((k_Street_init l D k st lo q_16) H.size) ⟨va_cnB 0 hts (gLW tw_144) rfl rfl rfl (hZ.2.2.2.2.2.2.2.2.2.2.2.1 (RX7, 28, yX5_init, RX7) (List.mem_of_getElem? (i := 1) rfl)) (hts _ tw_81) (by decide +kernel) ⟨Nat.le_of_ble_eq_true rfl, Nat.le_of_ble_eq_true rfl⟩, rfl, hts _ tw_143⟩ (pS hS hAlo hlo hP hK (va_Dlo hD hAlo) hZ [13] (by decide) rfl) rfl rfl hl.1 rfl (lv_room (Nat.le_of_ble_eq_true rfl)) dX7_init_128 ⟨Nat.le_of_ble_eq_true rfl, Nat.le_of_ble_eq_true rfl⟩) hS hA hP hD [13] [0, 1, 2, 3, 4, 5, 6, 7, 8, 9, 10, 11, 12] rfl rfl (by decide) (by decide) (fun u H locs hw_17 hP hD hS => ?_)
  obtain ⟨q_17, q1_17, q2_17, q3_17⟩ := u
  have hP : va_P D classes [(h0, .inr (7, [.ref q_1, .ref q_3, .ref q_4, .ref q_5, .ref q_7, .int 0, .int (-1), .ref q_8, .ref q_10, .ref q_11, .ref q_12, .ref q_14])), (q_1, .inr (6, [.ref q_2, .int 0, .int 0, .int 0, .int 0, .int 0])), (q_2, .inl (k 0, 240, .inl (fun _ => 0))), (q_3, .inl (k 3, 3, .inr (.inr (.inr (.inr (fun _ => none)))))), (q_4, .inl (k 4, 3, .inr (.inr (.inr (.inr (fun _ => none)))))), (q_5, .inr (5, [.ref q_6, .ref q1_6, .ref q2_6, .ref q3_6])), (q_6, .inl (k 1, 10, .inl (fun _ => 0))), (q_7, .inl (k 5, 4, .inr (.inr (.inr (.inr (fun _ => none)))))), (q_8, .inr (4, [.ref q_9, .ref q1_9, .int 0, .int 0, .int 0, .int 0])), (q_9, .inl (k 1, 4, .inl (fun _ => 0))), (q1_9, .inl (k 1, 4, .inl (fun _ => 0))), (q_10, .inl (k 6, 2, .inr (.inr (.inr (.inr (fun _ => none)))))), (q_11, .inl (k 2, 2, .inl (fun _ => 0))), (q_16, .inr (5, [.ref q_17, .ref q1_17, .ref q2_17, .ref q3_17])), (q_17, .inl (k 1, 10, .inl (fun _ => 0)))] H := hP
  have hD : va_D A [(h0, .inr (7, [.ref q_1, .ref q_3, .ref q_4, .ref q_5, .ref q_7, .int 0, .int (-1), .ref q_8, .ref q_10, .ref q_11, .ref q_12, .ref q_14])), (q_1, .inr (6, [.ref q_2, .int 0, .int 0, .int 0, .int 0, .int 0])), (q_2, .inl (k 0, 240, .inl (fun _ => 0))), (q_3, .inl (k 3, 3, .inr (.inr (.inr (.inr (fun _ => none)))))), (q_4, .inl (k 4, 3, .inr (.inr (.inr (.inr (fun _ => none)))))), (q_5, .inr (5, [.ref q_6, .ref q1_6, .ref q2_6, .ref q3_6])), (q_6, .inl (k 1, 10, .inl (fun _ => 0))), (q_7, .inl (k 5, 4, .inr (.inr (.inr (.inr (fun _ => none)))))), (q_8, .inr (4, [.ref q_9, .ref q1_9, .int 0, .int 0, .int 0, .int 0])), (q_9, .inl (k 1, 4, .inl (fun _ => 0))), (q1_9, .inl (k 1, 4, .inl (fun _ => 0))), (q_10, .inl (k 6, 2, .inr (.inr (.inr (.inr (fun _ => none)))))), (q_11, .inl (k 2, 2, .inl (fun _ => 0))), (q_16, .inr (5, [.ref q_17, .ref q1_17, .ref q2_17, .ref q3_17])), (q_17, .inl (k 1, 10, .inl (fun _ => 0)))] := hD
  try dsimp only at hw_17
  refine W.widen (k := 28) (n := 614) (by decide) (by decide) ?_
  refine va_astq hx hb hK hP hD hS 3 3 13 5 rfl rfl rfl rfl (by unfold vp_in; decide) dX7_init_131 (fun H locs hP hD hS => ?_)
  have hP : va_P D classes [(h0, .inr (7, [.ref q_1, .ref q_3, .ref q_4, .ref q_5, .ref q_7, .int 0, .int (-1), .ref q_8, .ref q_10, .ref q_11, .ref q_12, .ref q_14])), (q_1, .inr (6, [.ref q_2, .int 0, .int 0, .int 0, .int 0, .int 0])), (q_2, .inl (k 0, 240, .inl (fun _ => 0))), (q_3, .inl (k 3, 3, .inr (.inr (.inr (.inr (va_up (fun _ => none) (Int32.toNatClampNeg 0) (some q_16))))))), (q_4, .inl (k 4, 3, .inr (.inr (.inr (.inr (fun _ => none)))))), (q_5, .inr (5, [.ref q_6, .ref q1_6, .ref q2_6, .ref q3_6])), (q_6, .inl (k 1, 10, .inl (fun _ => 0))), (q_7, .inl (k 5, 4, .inr (.inr (.inr (.inr (fun _ => none)))))), (q_8, .inr (4, [.ref q_9, .ref q1_9, .int 0, .int 0, .int 0, .int 0])), (q_9, .inl (k 1, 4, .inl (fun _ => 0))), (q1_9, .inl (k 1, 4, .inl (fun _ => 0))), (q_10, .inl (k 6, 2, .inr (.inr (.inr (.inr (fun _ => none)))))), (q_11, .inl (k 2, 2, .inl (fun _ => 0))), (q_16, .inr (5, [.ref q_17, .ref q1_17, .ref q2_17, .ref q3_17])), (q_17, .inl (k 1, 10, .inl (fun _ => 0)))] H := hP
  have hD : va_D A [(h0, .inr (7, [.ref q_1, .ref q_3, .ref q_4, .ref q_5, .ref q_7, .int 0, .int (-1), .ref q_8, .ref q_10, .ref q_11, .ref q_12, .ref q_14])), (q_1, .inr (6, [.ref q_2, .int 0, .int 0, .int 0, .int 0, .int 0])), (q_2, .inl (k 0, 240, .inl (fun _ => 0))), (q_3, .inl (k 3, 3, .inr (.inr (.inr (.inr (va_up (fun _ => none) (Int32.toNatClampNeg 0) (some q_16))))))), (q_4, .inl (k 4, 3, .inr (.inr (.inr (.inr (fun _ => none)))))), (q_5, .inr (5, [.ref q_6, .ref q1_6, .ref q2_6, .ref q3_6])), (q_6, .inl (k 1, 10, .inl (fun _ => 0))), (q_7, .inl (k 5, 4, .inr (.inr (.inr (.inr (fun _ => none)))))), (q_8, .inr (4, [.ref q_9, .ref q1_9, .int 0, .int 0, .int 0, .int 0])), (q_9, .inl (k 1, 4, .inl (fun _ => 0))), (q1_9, .inl (k 1, 4, .inl (fun _ => 0))), (q_10, .inl (k 6, 2, .inr (.inr (.inr (.inr (fun _ => none)))))), (q_11, .inl (k 2, 2, .inl (fun _ => 0))), (q_16, .inr (5, [.ref q_17, .ref q1_17, .ref q2_17, .ref q3_17])), (q_17, .inl (k 1, 10, .inl (fun _ => 0)))] := hD
  refine lv_aload_n hx hb dX7_init_132 rfl (lv_at hl 1 rfl) ?_
  refine va_get (D := D) (ci := 7) (v := .ref q_4) (C := RX7) (T := TX7) (N := 12) hx hb hts inX7 hown hK hP 0 rfl rfl 2 (by decide) (hts _ tw_307) (fun _ h9 => h9) rfl dX7_init_133 ?_
  refine lv_iload_n hx hb dX7_init_136 rfl (lv_at hl 0 rfl) ?_
  refine va_new (ci := 0) (fs := [.null, .null, .null, .null, .null]) (C := RX0) (T := TX0) (N := 5) hx hb hts inX0 tyX0 tyX0_ok hown (hts _ tw_139) (hts _ tw_261) (hts _ tw_85) hK hP hD hS hA rfl (fun j hj => match j, hj with | 0, _ => rfl | 1, _ => rfl | 2, _ => rfl | 3, _ => rfl | 4, _ => rfl | j + 5, h => absurd h (by omega)) (Nat.le_of_ble_eq_true rfl) (Nat.le_of_ble_eq_true rfl) dX7_init_137 (fun q_18 H hP hD hS => ?_)
  refine W.widen (k := 29) (n := 619) (by decide) (by decide) ?_
  have hP : va_P D classes [(h0, .inr (7, [.ref q_1, .ref q_3, .ref q_4, .ref q_5, .ref q_7, .int 0, .int (-1), .ref q_8, .ref q_10, .ref q_11, .ref q_12, .ref q_14])), (q_1, .inr (6, [.ref q_2, .int 0, .int 0, .int 0, .int 0, .int 0])), (q_2, .inl (k 0, 240, .inl (fun _ => 0))), (q_3, .inl (k 3, 3, .inr (.inr (.inr (.inr (va_up (fun _ => none) (Int32.toNatClampNeg 0) (some q_16))))))), (q_4, .inl (k 4, 3, .inr (.inr (.inr (.inr (fun _ => none)))))), (q_5, .inr (5, [.ref q_6, .ref q1_6, .ref q2_6, .ref q3_6])), (q_6, .inl (k 1, 10, .inl (fun _ => 0))), (q_7, .inl (k 5, 4, .inr (.inr (.inr (.inr (fun _ => none)))))), (q_8, .inr (4, [.ref q_9, .ref q1_9, .int 0, .int 0, .int 0, .int 0])), (q_9, .inl (k 1, 4, .inl (fun _ => 0))), (q1_9, .inl (k 1, 4, .inl (fun _ => 0))), (q_10, .inl (k 6, 2, .inr (.inr (.inr (.inr (fun _ => none)))))), (q_11, .inl (k 2, 2, .inl (fun _ => 0))), (q_16, .inr (5, [.ref q_17, .ref q1_17, .ref q2_17, .ref q3_17])), (q_17, .inl (k 1, 10, .inl (fun _ => 0))), (q_18, .inr (0, [.null, .null, .null, .null, .null]))] H := hP
  have hD : va_D A [(h0, .inr (7, [.ref q_1, .ref q_3, .ref q_4, .ref q_5, .ref q_7, .int 0, .int (-1), .ref q_8, .ref q_10, .ref q_11, .ref q_12, .ref q_14])), (q_1, .inr (6, [.ref q_2, .int 0, .int 0, .int 0, .int 0, .int 0])), (q_2, .inl (k 0, 240, .inl (fun _ => 0))), (q_3, .inl (k 3, 3, .inr (.inr (.inr (.inr (va_up (fun _ => none) (Int32.toNatClampNeg 0) (some q_16))))))), (q_4, .inl (k 4, 3, .inr (.inr (.inr (.inr (fun _ => none)))))), (q_5, .inr (5, [.ref q_6, .ref q1_6, .ref q2_6, .ref q3_6])), (q_6, .inl (k 1, 10, .inl (fun _ => 0))), (q_7, .inl (k 5, 4, .inr (.inr (.inr (.inr (fun _ => none)))))), (q_8, .inr (4, [.ref q_9, .ref q1_9, .int 0, .int 0, .int 0, .int 0])), (q_9, .inl (k 1, 4, .inl (fun _ => 0))), (q1_9, .inl (k 1, 4, .inl (fun _ => 0))), (q_10, .inl (k 6, 2, .inr (.inr (.inr (.inr (fun _ => none)))))), (q_11, .inl (k 2, 2, .inl (fun _ => 0))), (q_16, .inr (5, [.ref q_17, .ref q1_17, .ref q2_17, .ref q3_17])), (q_17, .inl (k 1, 10, .inl (fun _ => 0))), (q_18, .inr (0, [.null, .null, .null, .null, .null]))] := hD
  refine lv_dup hx hb dX7_init_140 rfl ?_
  refine lv_aload_n hx hb dX7_init_141 rfl (lv_at hl 1 rfl) ?_
  refine va_get (D := D) (ci := 7) (v := .ref q_3) (C := RX7) (T := TX7) (N := 12) hx hb hts inX7 hown hK hP 0 rfl rfl 1 (by decide) (hts _ tw_306) (fun _ h9 => h9) rfl dX7_init_142 ?_
  refine lv_iload_n hx hb dX7_init_145 rfl (lv_at hl 0 rfl) ?_
  refine va_aldq hx hb hK hP 3 3 rfl rfl (by unfold vp_in; decide) dX7_init_146 ?_
  refine lv_tr (y := .ref q_16) rfl ?_
  refine rw_v (D := D) (wr := [(h0, .inr (7, [.ref q_1, .ref q_3, .ref q_4, .ref q_5, .ref q_7, .int 0, .int (-1), .ref q_8, .ref q_10, .ref q_11, .ref q_12, .ref q_14])), (q_1, .inr (6, [.ref q_2, .int 0, .int 0, .int 0, .int 0, .int 0])), (q_2, .inl (k 0, 240, .inl (fun _ => 0))), (q_3, .inl (k 3, 3, .inr (.inr (.inr (.inr (va_up (fun _ => none) (Int32.toNatClampNeg 0) (some q_16))))))), (q_4, .inl (k 4, 3, .inr (.inr (.inr (.inr (fun _ => none)))))), (q_5, .inr (5, [.ref q_6, .ref q1_6, .ref q2_6, .ref q3_6])), (q_6, .inl (k 1, 10, .inl (fun _ => 0))), (q_7, .inl (k 5, 4, .inr (.inr (.inr (.inr (fun _ => none)))))), (q_8, .inr (4, [.ref q_9, .ref q1_9, .int 0, .int 0, .int 0, .int 0])), (q_9, .inl (k 1, 4, .inl (fun _ => 0))), (q1_9, .inl (k 1, 4, .inl (fun _ => 0))), (q_10, .inl (k 6, 2, .inr (.inr (.inr (.inr (fun _ => none)))))), (q_11, .inl (k 2, 2, .inl (fun _ => 0))), (q_16, .inr (5, [.ref q_17, .ref q1_17, .ref q2_17, .ref q3_17])), (q_17, .inl (k 1, 10, .inl (fun _ => 0)))]) (va_runI (As := [.ref q_16]) (rest := [.ref q_18, .int 0, .ref q_4]) ⟨hx, hb, hml, hown, hts⟩ ((k_BestWay_init l D k st lo q_18 q_16) H.size) (cwI 1 hts (gLW tw_264) rfl rfl rfl (hts _ tw_85) (hts _ tw_262) (hts _ tw_263) rfl (by decide +kernel) ⟨Nat.le_of_ble_eq_true rfl, Nat.le_of_ble_eq_true rfl⟩) (pS hS hAlo hlo hP hK (va_Dlo hD hAlo) hZ [15] (by decide) rfl) rfl rfl hl.1 rfl (lv_room (Nat.le_of_ble_eq_true rfl)) dX7_init_147 ⟨Nat.le_of_ble_eq_true rfl, Nat.le_of_ble_eq_true rfl⟩) hS hA hP hD [15] [0, 1, 2, 3, 4, 5, 6, 7, 8, 9, 10, 11, 12, 13, 14] rfl rfl (by decide) (by decide) (fun u H locs hw_19 hP hD hS => ?_)
  obtain ⟨q_19, q1_19, q2_19, q3_19⟩ := u
  have hP : va_P D classes [(h0, .inr (7, [.ref q_1, .ref q_3, .ref q_4, .ref q_5, .ref q_7, .int 0, .int (-1), .ref q_8, .ref q_10, .ref q_11, .ref q_12, .ref q_14])), (q_1, .inr (6, [.ref q_2, .int 0, .int 0, .int 0, .int 0, .int 0])), (q_2, .inl (k 0, 240, .inl (fun _ => 0))), (q_3, .inl (k 3, 3, .inr (.inr (.inr (.inr (va_up (fun _ => none) (Int32.toNatClampNeg 0) (some q_16))))))), (q_4, .inl (k 4, 3, .inr (.inr (.inr (.inr (fun _ => none)))))), (q_5, .inr (5, [.ref q_6, .ref q1_6, .ref q2_6, .ref q3_6])), (q_6, .inl (k 1, 10, .inl (fun _ => 0))), (q_7, .inl (k 5, 4, .inr (.inr (.inr (.inr (fun _ => none)))))), (q_8, .inr (4, [.ref q_9, .ref q1_9, .int 0, .int 0, .int 0, .int 0])), (q_9, .inl (k 1, 4, .inl (fun _ => 0))), (q1_9, .inl (k 1, 4, .inl (fun _ => 0))), (q_10, .inl (k 6, 2, .inr (.inr (.inr (.inr (fun _ => none)))))), (q_11, .inl (k 2, 2, .inl (fun _ => 0))), (q_16, .inr (5, [.ref q_17, .ref q1_17, .ref q2_17, .ref q3_17])), (q_17, .inl (k 1, 10, .inl (fun _ => 0))), (q_18, .inr (0, [.ref q_16, .ref q_19, .ref q1_19, .ref q2_19, .ref q3_19]))] H := hP
  have hD : va_D A [(h0, .inr (7, [.ref q_1, .ref q_3, .ref q_4, .ref q_5, .ref q_7, .int 0, .int (-1), .ref q_8, .ref q_10, .ref q_11, .ref q_12, .ref q_14])), (q_1, .inr (6, [.ref q_2, .int 0, .int 0, .int 0, .int 0, .int 0])), (q_2, .inl (k 0, 240, .inl (fun _ => 0))), (q_3, .inl (k 3, 3, .inr (.inr (.inr (.inr (va_up (fun _ => none) (Int32.toNatClampNeg 0) (some q_16))))))), (q_4, .inl (k 4, 3, .inr (.inr (.inr (.inr (fun _ => none)))))), (q_5, .inr (5, [.ref q_6, .ref q1_6, .ref q2_6, .ref q3_6])), (q_6, .inl (k 1, 10, .inl (fun _ => 0))), (q_7, .inl (k 5, 4, .inr (.inr (.inr (.inr (fun _ => none)))))), (q_8, .inr (4, [.ref q_9, .ref q1_9, .int 0, .int 0, .int 0, .int 0])), (q_9, .inl (k 1, 4, .inl (fun _ => 0))), (q1_9, .inl (k 1, 4, .inl (fun _ => 0))), (q_10, .inl (k 6, 2, .inr (.inr (.inr (.inr (fun _ => none)))))), (q_11, .inl (k 2, 2, .inl (fun _ => 0))), (q_16, .inr (5, [.ref q_17, .ref q1_17, .ref q2_17, .ref q3_17])), (q_17, .inl (k 1, 10, .inl (fun _ => 0))), (q_18, .inr (0, [.ref q_16, .ref q_19, .ref q1_19, .ref q2_19, .ref q3_19]))] := hD
  try dsimp only at hw_19
  refine W.widen (k := 33) (n := 1403) (by decide) (by decide) ?_
  refine va_astq hx hb hK hP hD hS 4 4 15 0 rfl rfl rfl rfl (by unfold vp_in; decide) dX7_init_150 (fun H locs hP hD hS => ?_)
  have hP : va_P D classes [(h0, .inr (7, [.ref q_1, .ref q_3, .ref q_4, .ref q_5, .ref q_7, .int 0, .int (-1), .ref q_8, .ref q_10, .ref q_11, .ref q_12, .ref q_14])), (q_1, .inr (6, [.ref q_2, .int 0, .int 0, .int 0, .int 0, .int 0])), (q_2, .inl (k 0, 240, .inl (fun _ => 0))), (q_3, .inl (k 3, 3, .inr (.inr (.inr (.inr (va_up (fun _ => none) (Int32.toNatClampNeg 0) (some q_16))))))), (q_4, .inl (k 4, 3, .inr (.inr (.inr (.inr (va_up (fun _ => none) (Int32.toNatClampNeg 0) (some q_18))))))), (q_5, .inr (5, [.ref q_6, .ref q1_6, .ref q2_6, .ref q3_6])), (q_6, .inl (k 1, 10, .inl (fun _ => 0))), (q_7, .inl (k 5, 4, .inr (.inr (.inr (.inr (fun _ => none)))))), (q_8, .inr (4, [.ref q_9, .ref q1_9, .int 0, .int 0, .int 0, .int 0])), (q_9, .inl (k 1, 4, .inl (fun _ => 0))), (q1_9, .inl (k 1, 4, .inl (fun _ => 0))), (q_10, .inl (k 6, 2, .inr (.inr (.inr (.inr (fun _ => none)))))), (q_11, .inl (k 2, 2, .inl (fun _ => 0))), (q_16, .inr (5, [.ref q_17, .ref q1_17, .ref q2_17, .ref q3_17])), (q_17, .inl (k 1, 10, .inl (fun _ => 0))), (q_18, .inr (0, [.ref q_16, .ref q_19, .ref q1_19, .ref q2_19, .ref q3_19]))] H := hP
  have hD : va_D A [(h0, .inr (7, [.ref q_1, .ref q_3, .ref q_4, .ref q_5, .ref q_7, .int 0, .int (-1), .ref q_8, .ref q_10, .ref q_11, .ref q_12, .ref q_14])), (q_1, .inr (6, [.ref q_2, .int 0, .int 0, .int 0, .int 0, .int 0])), (q_2, .inl (k 0, 240, .inl (fun _ => 0))), (q_3, .inl (k 3, 3, .inr (.inr (.inr (.inr (va_up (fun _ => none) (Int32.toNatClampNeg 0) (some q_16))))))), (q_4, .inl (k 4, 3, .inr (.inr (.inr (.inr (va_up (fun _ => none) (Int32.toNatClampNeg 0) (some q_18))))))), (q_5, .inr (5, [.ref q_6, .ref q1_6, .ref q2_6, .ref q3_6])), (q_6, .inl (k 1, 10, .inl (fun _ => 0))), (q_7, .inl (k 5, 4, .inr (.inr (.inr (.inr (fun _ => none)))))), (q_8, .inr (4, [.ref q_9, .ref q1_9, .int 0, .int 0, .int 0, .int 0])), (q_9, .inl (k 1, 4, .inl (fun _ => 0))), (q1_9, .inl (k 1, 4, .inl (fun _ => 0))), (q_10, .inl (k 6, 2, .inr (.inr (.inr (.inr (fun _ => none)))))), (q_11, .inl (k 2, 2, .inl (fun _ => 0))), (q_16, .inr (5, [.ref q_17, .ref q1_17, .ref q2_17, .ref q3_17])), (q_17, .inl (k 1, 10, .inl (fun _ => 0))), (q_18, .inr (0, [.ref q_16, .ref q_19, .ref q1_19, .ref q2_19, .ref q3_19]))] := hD
  refine lv_iinc (v := 1) (lv' := [(1, .int 1), (0, .ref h0)]) hx hb dX7_init_151 hl (k := 0) rfl (by decide) (by decide) rfl (fun ls hl => ?_)
  refine lv_goto (tgt := 114) hx hb dX7_init_154 (by decide) ?_
  refine lv_iload_n hx hb dX7_init_114 rfl (lv_at hl 0 rfl) ?_
  refine lv_iconst (v := 3) hx hb dX7_init_115 (by decide) ?_
  refine lv_icmp_ge (tgt := 157) hx hb dX7_init_116 (by decide) (fun h => absurd h (by decide)) (fun _ => ?_)
  refine lv_aload_n hx hb dX7_init_119 rfl (lv_at hl 1 rfl) ?_
  refine va_get (D := D) (ci := 7) (v := .ref q_3) (C := RX7) (T := TX7) (N := 12) hx hb hts inX7 hown hK hP 0 rfl rfl 1 (by decide) (hts _ tw_306) (fun _ h9 => h9) rfl dX7_init_120 ?_
  refine lv_iload_n hx hb dX7_init_123 rfl (lv_at hl 0 rfl) ?_
  refine va_new (ci := 5) (fs := [.null, .null, .null, .null]) (C := RX5) (T := TX5) (N := 4) hx hb hts inX5 tyX5 tyX5_ok hown (hts _ tw_137) (hts _ tw_141) (hts _ tw_81) hK hP hD hS hA rfl (fun j hj => match j, hj with | 0, _ => rfl | 1, _ => rfl | 2, _ => rfl | 3, _ => rfl | j + 4, h => absurd h (by omega)) (Nat.le_of_ble_eq_true rfl) (Nat.le_of_ble_eq_true rfl) dX7_init_124 (fun q_20 H hP hD hS => ?_)
  refine W.widen (k := 34) (n := 1407) (by decide) (by decide) ?_
  have hP : va_P D classes [(h0, .inr (7, [.ref q_1, .ref q_3, .ref q_4, .ref q_5, .ref q_7, .int 0, .int (-1), .ref q_8, .ref q_10, .ref q_11, .ref q_12, .ref q_14])), (q_1, .inr (6, [.ref q_2, .int 0, .int 0, .int 0, .int 0, .int 0])), (q_2, .inl (k 0, 240, .inl (fun _ => 0))), (q_3, .inl (k 3, 3, .inr (.inr (.inr (.inr (va_up (fun _ => none) (Int32.toNatClampNeg 0) (some q_16))))))), (q_4, .inl (k 4, 3, .inr (.inr (.inr (.inr (va_up (fun _ => none) (Int32.toNatClampNeg 0) (some q_18))))))), (q_5, .inr (5, [.ref q_6, .ref q1_6, .ref q2_6, .ref q3_6])), (q_6, .inl (k 1, 10, .inl (fun _ => 0))), (q_7, .inl (k 5, 4, .inr (.inr (.inr (.inr (fun _ => none)))))), (q_8, .inr (4, [.ref q_9, .ref q1_9, .int 0, .int 0, .int 0, .int 0])), (q_9, .inl (k 1, 4, .inl (fun _ => 0))), (q1_9, .inl (k 1, 4, .inl (fun _ => 0))), (q_10, .inl (k 6, 2, .inr (.inr (.inr (.inr (fun _ => none)))))), (q_11, .inl (k 2, 2, .inl (fun _ => 0))), (q_16, .inr (5, [.ref q_17, .ref q1_17, .ref q2_17, .ref q3_17])), (q_17, .inl (k 1, 10, .inl (fun _ => 0))), (q_18, .inr (0, [.ref q_16, .ref q_19, .ref q1_19, .ref q2_19, .ref q3_19])), (q_20, .inr (5, [.null, .null, .null, .null]))] H := hP
  have hD : va_D A [(h0, .inr (7, [.ref q_1, .ref q_3, .ref q_4, .ref q_5, .ref q_7, .int 0, .int (-1), .ref q_8, .ref q_10, .ref q_11, .ref q_12, .ref q_14])), (q_1, .inr (6, [.ref q_2, .int 0, .int 0, .int 0, .int 0, .int 0])), (q_2, .inl (k 0, 240, .inl (fun _ => 0))), (q_3, .inl (k 3, 3, .inr (.inr (.inr (.inr (va_up (fun _ => none) (Int32.toNatClampNeg 0) (some q_16))))))), (q_4, .inl (k 4, 3, .inr (.inr (.inr (.inr (va_up (fun _ => none) (Int32.toNatClampNeg 0) (some q_18))))))), (q_5, .inr (5, [.ref q_6, .ref q1_6, .ref q2_6, .ref q3_6])), (q_6, .inl (k 1, 10, .inl (fun _ => 0))), (q_7, .inl (k 5, 4, .inr (.inr (.inr (.inr (fun _ => none)))))), (q_8, .inr (4, [.ref q_9, .ref q1_9, .int 0, .int 0, .int 0, .int 0])), (q_9, .inl (k 1, 4, .inl (fun _ => 0))), (q1_9, .inl (k 1, 4, .inl (fun _ => 0))), (q_10, .inl (k 6, 2, .inr (.inr (.inr (.inr (fun _ => none)))))), (q_11, .inl (k 2, 2, .inl (fun _ => 0))), (q_16, .inr (5, [.ref q_17, .ref q1_17, .ref q2_17, .ref q3_17])), (q_17, .inl (k 1, 10, .inl (fun _ => 0))), (q_18, .inr (0, [.ref q_16, .ref q_19, .ref q1_19, .ref q2_19, .ref q3_19])), (q_20, .inr (5, [.null, .null, .null, .null]))] := hD
  refine lv_dup hx hb dX7_init_127 rfl ?_
  refine rw_v (D := D) (wr := [(h0, .inr (7, [.ref q_1, .ref q_3, .ref q_4, .ref q_5, .ref q_7, .int 0, .int (-1), .ref q_8, .ref q_10, .ref q_11, .ref q_12, .ref q_14])), (q_1, .inr (6, [.ref q_2, .int 0, .int 0, .int 0, .int 0, .int 0])), (q_2, .inl (k 0, 240, .inl (fun _ => 0))), (q_3, .inl (k 3, 3, .inr (.inr (.inr (.inr (va_up (fun _ => none) (Int32.toNatClampNeg 0) (some q_16))))))), (q_4, .inl (k 4, 3, .inr (.inr (.inr (.inr (va_up (fun _ => none) (Int32.toNatClampNeg 0) (some q_18))))))), (q_5, .inr (5, [.ref q_6, .ref q1_6, .ref q2_6, .ref q3_6])), (q_6, .inl (k 1, 10, .inl (fun _ => 0))), (q_7, .inl (k 5, 4, .inr (.inr (.inr (.inr (fun _ => none)))))), (q_8, .inr (4, [.ref q_9, .ref q1_9, .int 0, .int 0, .int 0, .int 0])), (q_9, .inl (k 1, 4, .inl (fun _ => 0))), (q1_9, .inl (k 1, 4, .inl (fun _ => 0))), (q_10, .inl (k 6, 2, .inr (.inr (.inr (.inr (fun _ => none)))))), (q_11, .inl (k 2, 2, .inl (fun _ => 0))), (q_16, .inr (5, [.ref q_17, .ref q1_17, .ref q2_17, .ref q3_17])), (q_17, .inl (k 1, 10, .inl (fun _ => 0))), (q_18, .inr (0, [.ref q_16, .ref q_19, .ref q1_19, .ref q2_19, .ref q3_19]))]) (va_runIN (As := []) (rest := [.ref q_20, .int 1, .ref q_3]) ⟨hx, hb, hml, hown, hts⟩ ((k_Street_init l D k st lo q_20) H.size) ⟨va_cnB 0 hts (gLW tw_144) rfl rfl rfl (hZ.2.2.2.2.2.2.2.2.2.2.2.1 (RX7, 28, yX5_init, RX7) (List.mem_of_getElem? (i := 1) rfl)) (hts _ tw_81) (by decide +kernel) ⟨Nat.le_of_ble_eq_true rfl, Nat.le_of_ble_eq_true rfl⟩, rfl, hts _ tw_143⟩ (pS hS hAlo hlo hP hK (va_Dlo hD hAlo) hZ [16] (by decide) rfl) rfl rfl hl.1 rfl (lv_room (Nat.le_of_ble_eq_true rfl)) dX7_init_128 ⟨Nat.le_of_ble_eq_true rfl, Nat.le_of_ble_eq_true rfl⟩) hS hA hP hD [16] [0, 1, 2, 3, 4, 5, 6, 7, 8, 9, 10, 11, 12, 13, 14, 15] rfl rfl (by decide) (by decide) (fun u H locs hw_21 hP hD hS => ?_)
  obtain ⟨q_21, q1_21, q2_21, q3_21⟩ := u
  have hP : va_P D classes [(h0, .inr (7, [.ref q_1, .ref q_3, .ref q_4, .ref q_5, .ref q_7, .int 0, .int (-1), .ref q_8, .ref q_10, .ref q_11, .ref q_12, .ref q_14])), (q_1, .inr (6, [.ref q_2, .int 0, .int 0, .int 0, .int 0, .int 0])), (q_2, .inl (k 0, 240, .inl (fun _ => 0))), (q_3, .inl (k 3, 3, .inr (.inr (.inr (.inr (va_up (fun _ => none) (Int32.toNatClampNeg 0) (some q_16))))))), (q_4, .inl (k 4, 3, .inr (.inr (.inr (.inr (va_up (fun _ => none) (Int32.toNatClampNeg 0) (some q_18))))))), (q_5, .inr (5, [.ref q_6, .ref q1_6, .ref q2_6, .ref q3_6])), (q_6, .inl (k 1, 10, .inl (fun _ => 0))), (q_7, .inl (k 5, 4, .inr (.inr (.inr (.inr (fun _ => none)))))), (q_8, .inr (4, [.ref q_9, .ref q1_9, .int 0, .int 0, .int 0, .int 0])), (q_9, .inl (k 1, 4, .inl (fun _ => 0))), (q1_9, .inl (k 1, 4, .inl (fun _ => 0))), (q_10, .inl (k 6, 2, .inr (.inr (.inr (.inr (fun _ => none)))))), (q_11, .inl (k 2, 2, .inl (fun _ => 0))), (q_16, .inr (5, [.ref q_17, .ref q1_17, .ref q2_17, .ref q3_17])), (q_17, .inl (k 1, 10, .inl (fun _ => 0))), (q_18, .inr (0, [.ref q_16, .ref q_19, .ref q1_19, .ref q2_19, .ref q3_19])), (q_20, .inr (5, [.ref q_21, .ref q1_21, .ref q2_21, .ref q3_21])), (q_21, .inl (k 1, 10, .inl (fun _ => 0)))] H := hP
  have hD : va_D A [(h0, .inr (7, [.ref q_1, .ref q_3, .ref q_4, .ref q_5, .ref q_7, .int 0, .int (-1), .ref q_8, .ref q_10, .ref q_11, .ref q_12, .ref q_14])), (q_1, .inr (6, [.ref q_2, .int 0, .int 0, .int 0, .int 0, .int 0])), (q_2, .inl (k 0, 240, .inl (fun _ => 0))), (q_3, .inl (k 3, 3, .inr (.inr (.inr (.inr (va_up (fun _ => none) (Int32.toNatClampNeg 0) (some q_16))))))), (q_4, .inl (k 4, 3, .inr (.inr (.inr (.inr (va_up (fun _ => none) (Int32.toNatClampNeg 0) (some q_18))))))), (q_5, .inr (5, [.ref q_6, .ref q1_6, .ref q2_6, .ref q3_6])), (q_6, .inl (k 1, 10, .inl (fun _ => 0))), (q_7, .inl (k 5, 4, .inr (.inr (.inr (.inr (fun _ => none)))))), (q_8, .inr (4, [.ref q_9, .ref q1_9, .int 0, .int 0, .int 0, .int 0])), (q_9, .inl (k 1, 4, .inl (fun _ => 0))), (q1_9, .inl (k 1, 4, .inl (fun _ => 0))), (q_10, .inl (k 6, 2, .inr (.inr (.inr (.inr (fun _ => none)))))), (q_11, .inl (k 2, 2, .inl (fun _ => 0))), (q_16, .inr (5, [.ref q_17, .ref q1_17, .ref q2_17, .ref q3_17])), (q_17, .inl (k 1, 10, .inl (fun _ => 0))), (q_18, .inr (0, [.ref q_16, .ref q_19, .ref q1_19, .ref q2_19, .ref q3_19])), (q_20, .inr (5, [.ref q_21, .ref q1_21, .ref q2_21, .ref q3_21])), (q_21, .inl (k 1, 10, .inl (fun _ => 0)))] := hD
  try dsimp only at hw_21
  refine W.widen (k := 38) (n := 1469) (by decide) (by decide) ?_
  refine va_astq hx hb hK hP hD hS 3 3 16 5 rfl rfl rfl rfl (by unfold vp_in; decide) dX7_init_131 (fun H locs hP hD hS => ?_)
  have hP : va_P D classes [(h0, .inr (7, [.ref q_1, .ref q_3, .ref q_4, .ref q_5, .ref q_7, .int 0, .int (-1), .ref q_8, .ref q_10, .ref q_11, .ref q_12, .ref q_14])), (q_1, .inr (6, [.ref q_2, .int 0, .int 0, .int 0, .int 0, .int 0])), (q_2, .inl (k 0, 240, .inl (fun _ => 0))), (q_3, .inl (k 3, 3, .inr (.inr (.inr (.inr (va_up (va_up (fun _ => none) (Int32.toNatClampNeg 0) (some q_16)) (Int32.toNatClampNeg 1) (some q_20))))))), (q_4, .inl (k 4, 3, .inr (.inr (.inr (.inr (va_up (fun _ => none) (Int32.toNatClampNeg 0) (some q_18))))))), (q_5, .inr (5, [.ref q_6, .ref q1_6, .ref q2_6, .ref q3_6])), (q_6, .inl (k 1, 10, .inl (fun _ => 0))), (q_7, .inl (k 5, 4, .inr (.inr (.inr (.inr (fun _ => none)))))), (q_8, .inr (4, [.ref q_9, .ref q1_9, .int 0, .int 0, .int 0, .int 0])), (q_9, .inl (k 1, 4, .inl (fun _ => 0))), (q1_9, .inl (k 1, 4, .inl (fun _ => 0))), (q_10, .inl (k 6, 2, .inr (.inr (.inr (.inr (fun _ => none)))))), (q_11, .inl (k 2, 2, .inl (fun _ => 0))), (q_16, .inr (5, [.ref q_17, .ref q1_17, .ref q2_17, .ref q3_17])), (q_17, .inl (k 1, 10, .inl (fun _ => 0))), (q_18, .inr (0, [.ref q_16, .ref q_19, .ref q1_19, .ref q2_19, .ref q3_19])), (q_20, .inr (5, [.ref q_21, .ref q1_21, .ref q2_21, .ref q3_21])), (q_21, .inl (k 1, 10, .inl (fun _ => 0)))] H := hP
  have hD : va_D A [(h0, .inr (7, [.ref q_1, .ref q_3, .ref q_4, .ref q_5, .ref q_7, .int 0, .int (-1), .ref q_8, .ref q_10, .ref q_11, .ref q_12, .ref q_14])), (q_1, .inr (6, [.ref q_2, .int 0, .int 0, .int 0, .int 0, .int 0])), (q_2, .inl (k 0, 240, .inl (fun _ => 0))), (q_3, .inl (k 3, 3, .inr (.inr (.inr (.inr (va_up (va_up (fun _ => none) (Int32.toNatClampNeg 0) (some q_16)) (Int32.toNatClampNeg 1) (some q_20))))))), (q_4, .inl (k 4, 3, .inr (.inr (.inr (.inr (va_up (fun _ => none) (Int32.toNatClampNeg 0) (some q_18))))))), (q_5, .inr (5, [.ref q_6, .ref q1_6, .ref q2_6, .ref q3_6])), (q_6, .inl (k 1, 10, .inl (fun _ => 0))), (q_7, .inl (k 5, 4, .inr (.inr (.inr (.inr (fun _ => none)))))), (q_8, .inr (4, [.ref q_9, .ref q1_9, .int 0, .int 0, .int 0, .int 0])), (q_9, .inl (k 1, 4, .inl (fun _ => 0))), (q1_9, .inl (k 1, 4, .inl (fun _ => 0))), (q_10, .inl (k 6, 2, .inr (.inr (.inr (.inr (fun _ => none)))))), (q_11, .inl (k 2, 2, .inl (fun _ => 0))), (q_16, .inr (5, [.ref q_17, .ref q1_17, .ref q2_17, .ref q3_17])), (q_17, .inl (k 1, 10, .inl (fun _ => 0))), (q_18, .inr (0, [.ref q_16, .ref q_19, .ref q1_19, .ref q2_19, .ref q3_19])), (q_20, .inr (5, [.ref q_21, .ref q1_21, .ref q2_21, .ref q3_21])), (q_21, .inl (k 1, 10, .inl (fun _ => 0)))] := hD
  refine lv_aload_n hx hb dX7_init_132 rfl (lv_at hl 1 rfl) ?_
  refine va_get (D := D) (ci := 7) (v := .ref q_4) (C := RX7) (T := TX7) (N := 12) hx hb hts inX7 hown hK hP 0 rfl rfl 2 (by decide) (hts _ tw_307) (fun _ h9 => h9) rfl dX7_init_133 ?_
  refine lv_iload_n hx hb dX7_init_136 rfl (lv_at hl 0 rfl) ?_
  refine va_new (ci := 0) (fs := [.null, .null, .null, .null, .null]) (C := RX0) (T := TX0) (N := 5) hx hb hts inX0 tyX0 tyX0_ok hown (hts _ tw_139) (hts _ tw_261) (hts _ tw_85) hK hP hD hS hA rfl (fun j hj => match j, hj with | 0, _ => rfl | 1, _ => rfl | 2, _ => rfl | 3, _ => rfl | 4, _ => rfl | j + 5, h => absurd h (by omega)) (Nat.le_of_ble_eq_true rfl) (Nat.le_of_ble_eq_true rfl) dX7_init_137 (fun q_22 H hP hD hS => ?_)
  refine W.widen (k := 39) (n := 1474) (by decide) (by decide) ?_
  have hP : va_P D classes [(h0, .inr (7, [.ref q_1, .ref q_3, .ref q_4, .ref q_5, .ref q_7, .int 0, .int (-1), .ref q_8, .ref q_10, .ref q_11, .ref q_12, .ref q_14])), (q_1, .inr (6, [.ref q_2, .int 0, .int 0, .int 0, .int 0, .int 0])), (q_2, .inl (k 0, 240, .inl (fun _ => 0))), (q_3, .inl (k 3, 3, .inr (.inr (.inr (.inr (va_up (va_up (fun _ => none) (Int32.toNatClampNeg 0) (some q_16)) (Int32.toNatClampNeg 1) (some q_20))))))), (q_4, .inl (k 4, 3, .inr (.inr (.inr (.inr (va_up (fun _ => none) (Int32.toNatClampNeg 0) (some q_18))))))), (q_5, .inr (5, [.ref q_6, .ref q1_6, .ref q2_6, .ref q3_6])), (q_6, .inl (k 1, 10, .inl (fun _ => 0))), (q_7, .inl (k 5, 4, .inr (.inr (.inr (.inr (fun _ => none)))))), (q_8, .inr (4, [.ref q_9, .ref q1_9, .int 0, .int 0, .int 0, .int 0])), (q_9, .inl (k 1, 4, .inl (fun _ => 0))), (q1_9, .inl (k 1, 4, .inl (fun _ => 0))), (q_10, .inl (k 6, 2, .inr (.inr (.inr (.inr (fun _ => none)))))), (q_11, .inl (k 2, 2, .inl (fun _ => 0))), (q_16, .inr (5, [.ref q_17, .ref q1_17, .ref q2_17, .ref q3_17])), (q_17, .inl (k 1, 10, .inl (fun _ => 0))), (q_18, .inr (0, [.ref q_16, .ref q_19, .ref q1_19, .ref q2_19, .ref q3_19])), (q_20, .inr (5, [.ref q_21, .ref q1_21, .ref q2_21, .ref q3_21])), (q_21, .inl (k 1, 10, .inl (fun _ => 0))), (q_22, .inr (0, [.null, .null, .null, .null, .null]))] H := hP
  have hD : va_D A [(h0, .inr (7, [.ref q_1, .ref q_3, .ref q_4, .ref q_5, .ref q_7, .int 0, .int (-1), .ref q_8, .ref q_10, .ref q_11, .ref q_12, .ref q_14])), (q_1, .inr (6, [.ref q_2, .int 0, .int 0, .int 0, .int 0, .int 0])), (q_2, .inl (k 0, 240, .inl (fun _ => 0))), (q_3, .inl (k 3, 3, .inr (.inr (.inr (.inr (va_up (va_up (fun _ => none) (Int32.toNatClampNeg 0) (some q_16)) (Int32.toNatClampNeg 1) (some q_20))))))), (q_4, .inl (k 4, 3, .inr (.inr (.inr (.inr (va_up (fun _ => none) (Int32.toNatClampNeg 0) (some q_18))))))), (q_5, .inr (5, [.ref q_6, .ref q1_6, .ref q2_6, .ref q3_6])), (q_6, .inl (k 1, 10, .inl (fun _ => 0))), (q_7, .inl (k 5, 4, .inr (.inr (.inr (.inr (fun _ => none)))))), (q_8, .inr (4, [.ref q_9, .ref q1_9, .int 0, .int 0, .int 0, .int 0])), (q_9, .inl (k 1, 4, .inl (fun _ => 0))), (q1_9, .inl (k 1, 4, .inl (fun _ => 0))), (q_10, .inl (k 6, 2, .inr (.inr (.inr (.inr (fun _ => none)))))), (q_11, .inl (k 2, 2, .inl (fun _ => 0))), (q_16, .inr (5, [.ref q_17, .ref q1_17, .ref q2_17, .ref q3_17])), (q_17, .inl (k 1, 10, .inl (fun _ => 0))), (q_18, .inr (0, [.ref q_16, .ref q_19, .ref q1_19, .ref q2_19, .ref q3_19])), (q_20, .inr (5, [.ref q_21, .ref q1_21, .ref q2_21, .ref q3_21])), (q_21, .inl (k 1, 10, .inl (fun _ => 0))), (q_22, .inr (0, [.null, .null, .null, .null, .null]))] := hD
  refine lv_dup hx hb dX7_init_140 rfl ?_
  refine lv_aload_n hx hb dX7_init_141 rfl (lv_at hl 1 rfl) ?_
  refine va_get (D := D) (ci := 7) (v := .ref q_3) (C := RX7) (T := TX7) (N := 12) hx hb hts inX7 hown hK hP 0 rfl rfl 1 (by decide) (hts _ tw_306) (fun _ h9 => h9) rfl dX7_init_142 ?_
  refine lv_iload_n hx hb dX7_init_145 rfl (lv_at hl 0 rfl) ?_
  refine va_aldq hx hb hK hP 3 3 rfl rfl (by unfold vp_in; decide) dX7_init_146 ?_
  refine lv_tr (y := .ref q_20) rfl ?_
  refine rw_v (D := D) (wr := [(h0, .inr (7, [.ref q_1, .ref q_3, .ref q_4, .ref q_5, .ref q_7, .int 0, .int (-1), .ref q_8, .ref q_10, .ref q_11, .ref q_12, .ref q_14])), (q_1, .inr (6, [.ref q_2, .int 0, .int 0, .int 0, .int 0, .int 0])), (q_2, .inl (k 0, 240, .inl (fun _ => 0))), (q_3, .inl (k 3, 3, .inr (.inr (.inr (.inr (va_up (va_up (fun _ => none) (Int32.toNatClampNeg 0) (some q_16)) (Int32.toNatClampNeg 1) (some q_20))))))), (q_4, .inl (k 4, 3, .inr (.inr (.inr (.inr (va_up (fun _ => none) (Int32.toNatClampNeg 0) (some q_18))))))), (q_5, .inr (5, [.ref q_6, .ref q1_6, .ref q2_6, .ref q3_6])), (q_6, .inl (k 1, 10, .inl (fun _ => 0))), (q_7, .inl (k 5, 4, .inr (.inr (.inr (.inr (fun _ => none)))))), (q_8, .inr (4, [.ref q_9, .ref q1_9, .int 0, .int 0, .int 0, .int 0])), (q_9, .inl (k 1, 4, .inl (fun _ => 0))), (q1_9, .inl (k 1, 4, .inl (fun _ => 0))), (q_10, .inl (k 6, 2, .inr (.inr (.inr (.inr (fun _ => none)))))), (q_11, .inl (k 2, 2, .inl (fun _ => 0))), (q_16, .inr (5, [.ref q_17, .ref q1_17, .ref q2_17, .ref q3_17])), (q_17, .inl (k 1, 10, .inl (fun _ => 0))), (q_18, .inr (0, [.ref q_16, .ref q_19, .ref q1_19, .ref q2_19, .ref q3_19])), (q_20, .inr (5, [.ref q_21, .ref q1_21, .ref q2_21, .ref q3_21])), (q_21, .inl (k 1, 10, .inl (fun _ => 0)))]) (va_runI (As := [.ref q_20]) (rest := [.ref q_22, .int 1, .ref q_4]) ⟨hx, hb, hml, hown, hts⟩ ((k_BestWay_init l D k st lo q_22 q_20) H.size) (cwI 1 hts (gLW tw_264) rfl rfl rfl (hts _ tw_85) (hts _ tw_262) (hts _ tw_263) rfl (by decide +kernel) ⟨Nat.le_of_ble_eq_true rfl, Nat.le_of_ble_eq_true rfl⟩) (pS hS hAlo hlo hP hK (va_Dlo hD hAlo) hZ [18] (by decide) rfl) rfl rfl hl.1 rfl (lv_room (Nat.le_of_ble_eq_true rfl)) dX7_init_147 ⟨Nat.le_of_ble_eq_true rfl, Nat.le_of_ble_eq_true rfl⟩) hS hA hP hD [18] [0, 1, 2, 3, 4, 5, 6, 7, 8, 9, 10, 11, 12, 13, 14, 15, 16, 17] rfl rfl (by decide) (by decide) (fun u H locs hw_23 hP hD hS => ?_)
  obtain ⟨q_23, q1_23, q2_23, q3_23⟩ := u
  have hP : va_P D classes [(h0, .inr (7, [.ref q_1, .ref q_3, .ref q_4, .ref q_5, .ref q_7, .int 0, .int (-1), .ref q_8, .ref q_10, .ref q_11, .ref q_12, .ref q_14])), (q_1, .inr (6, [.ref q_2, .int 0, .int 0, .int 0, .int 0, .int 0])), (q_2, .inl (k 0, 240, .inl (fun _ => 0))), (q_3, .inl (k 3, 3, .inr (.inr (.inr (.inr (va_up (va_up (fun _ => none) (Int32.toNatClampNeg 0) (some q_16)) (Int32.toNatClampNeg 1) (some q_20))))))), (q_4, .inl (k 4, 3, .inr (.inr (.inr (.inr (va_up (fun _ => none) (Int32.toNatClampNeg 0) (some q_18))))))), (q_5, .inr (5, [.ref q_6, .ref q1_6, .ref q2_6, .ref q3_6])), (q_6, .inl (k 1, 10, .inl (fun _ => 0))), (q_7, .inl (k 5, 4, .inr (.inr (.inr (.inr (fun _ => none)))))), (q_8, .inr (4, [.ref q_9, .ref q1_9, .int 0, .int 0, .int 0, .int 0])), (q_9, .inl (k 1, 4, .inl (fun _ => 0))), (q1_9, .inl (k 1, 4, .inl (fun _ => 0))), (q_10, .inl (k 6, 2, .inr (.inr (.inr (.inr (fun _ => none)))))), (q_11, .inl (k 2, 2, .inl (fun _ => 0))), (q_16, .inr (5, [.ref q_17, .ref q1_17, .ref q2_17, .ref q3_17])), (q_17, .inl (k 1, 10, .inl (fun _ => 0))), (q_18, .inr (0, [.ref q_16, .ref q_19, .ref q1_19, .ref q2_19, .ref q3_19])), (q_20, .inr (5, [.ref q_21, .ref q1_21, .ref q2_21, .ref q3_21])), (q_21, .inl (k 1, 10, .inl (fun _ => 0))), (q_22, .inr (0, [.ref q_20, .ref q_23, .ref q1_23, .ref q2_23, .ref q3_23]))] H := hP
  have hD : va_D A [(h0, .inr (7, [.ref q_1, .ref q_3, .ref q_4, .ref q_5, .ref q_7, .int 0, .int (-1), .ref q_8, .ref q_10, .ref q_11, .ref q_12, .ref q_14])), (q_1, .inr (6, [.ref q_2, .int 0, .int 0, .int 0, .int 0, .int 0])), (q_2, .inl (k 0, 240, .inl (fun _ => 0))), (q_3, .inl (k 3, 3, .inr (.inr (.inr (.inr (va_up (va_up (fun _ => none) (Int32.toNatClampNeg 0) (some q_16)) (Int32.toNatClampNeg 1) (some q_20))))))), (q_4, .inl (k 4, 3, .inr (.inr (.inr (.inr (va_up (fun _ => none) (Int32.toNatClampNeg 0) (some q_18))))))), (q_5, .inr (5, [.ref q_6, .ref q1_6, .ref q2_6, .ref q3_6])), (q_6, .inl (k 1, 10, .inl (fun _ => 0))), (q_7, .inl (k 5, 4, .inr (.inr (.inr (.inr (fun _ => none)))))), (q_8, .inr (4, [.ref q_9, .ref q1_9, .int 0, .int 0, .int 0, .int 0])), (q_9, .inl (k 1, 4, .inl (fun _ => 0))), (q1_9, .inl (k 1, 4, .inl (fun _ => 0))), (q_10, .inl (k 6, 2, .inr (.inr (.inr (.inr (fun _ => none)))))), (q_11, .inl (k 2, 2, .inl (fun _ => 0))), (q_16, .inr (5, [.ref q_17, .ref q1_17, .ref q2_17, .ref q3_17])), (q_17, .inl (k 1, 10, .inl (fun _ => 0))), (q_18, .inr (0, [.ref q_16, .ref q_19, .ref q1_19, .ref q2_19, .ref q3_19])), (q_20, .inr (5, [.ref q_21, .ref q1_21, .ref q2_21, .ref q3_21])), (q_21, .inl (k 1, 10, .inl (fun _ => 0))), (q_22, .inr (0, [.ref q_20, .ref q_23, .ref q1_23, .ref q2_23, .ref q3_23]))] := hD
  try dsimp only at hw_23
  refine W.widen (k := 43) (n := 2258) (by decide) (by decide) ?_
  refine va_astq hx hb hK hP hD hS 4 4 18 0 rfl rfl rfl rfl (by unfold vp_in; decide) dX7_init_150 (fun H locs hP hD hS => ?_)
  have hP : va_P D classes [(h0, .inr (7, [.ref q_1, .ref q_3, .ref q_4, .ref q_5, .ref q_7, .int 0, .int (-1), .ref q_8, .ref q_10, .ref q_11, .ref q_12, .ref q_14])), (q_1, .inr (6, [.ref q_2, .int 0, .int 0, .int 0, .int 0, .int 0])), (q_2, .inl (k 0, 240, .inl (fun _ => 0))), (q_3, .inl (k 3, 3, .inr (.inr (.inr (.inr (va_up (va_up (fun _ => none) (Int32.toNatClampNeg 0) (some q_16)) (Int32.toNatClampNeg 1) (some q_20))))))), (q_4, .inl (k 4, 3, .inr (.inr (.inr (.inr (va_up (va_up (fun _ => none) (Int32.toNatClampNeg 0) (some q_18)) (Int32.toNatClampNeg 1) (some q_22))))))), (q_5, .inr (5, [.ref q_6, .ref q1_6, .ref q2_6, .ref q3_6])), (q_6, .inl (k 1, 10, .inl (fun _ => 0))), (q_7, .inl (k 5, 4, .inr (.inr (.inr (.inr (fun _ => none)))))), (q_8, .inr (4, [.ref q_9, .ref q1_9, .int 0, .int 0, .int 0, .int 0])), (q_9, .inl (k 1, 4, .inl (fun _ => 0))), (q1_9, .inl (k 1, 4, .inl (fun _ => 0))), (q_10, .inl (k 6, 2, .inr (.inr (.inr (.inr (fun _ => none)))))), (q_11, .inl (k 2, 2, .inl (fun _ => 0))), (q_16, .inr (5, [.ref q_17, .ref q1_17, .ref q2_17, .ref q3_17])), (q_17, .inl (k 1, 10, .inl (fun _ => 0))), (q_18, .inr (0, [.ref q_16, .ref q_19, .ref q1_19, .ref q2_19, .ref q3_19])), (q_20, .inr (5, [.ref q_21, .ref q1_21, .ref q2_21, .ref q3_21])), (q_21, .inl (k 1, 10, .inl (fun _ => 0))), (q_22, .inr (0, [.ref q_20, .ref q_23, .ref q1_23, .ref q2_23, .ref q3_23]))] H := hP
  have hD : va_D A [(h0, .inr (7, [.ref q_1, .ref q_3, .ref q_4, .ref q_5, .ref q_7, .int 0, .int (-1), .ref q_8, .ref q_10, .ref q_11, .ref q_12, .ref q_14])), (q_1, .inr (6, [.ref q_2, .int 0, .int 0, .int 0, .int 0, .int 0])), (q_2, .inl (k 0, 240, .inl (fun _ => 0))), (q_3, .inl (k 3, 3, .inr (.inr (.inr (.inr (va_up (va_up (fun _ => none) (Int32.toNatClampNeg 0) (some q_16)) (Int32.toNatClampNeg 1) (some q_20))))))), (q_4, .inl (k 4, 3, .inr (.inr (.inr (.inr (va_up (va_up (fun _ => none) (Int32.toNatClampNeg 0) (some q_18)) (Int32.toNatClampNeg 1) (some q_22))))))), (q_5, .inr (5, [.ref q_6, .ref q1_6, .ref q2_6, .ref q3_6])), (q_6, .inl (k 1, 10, .inl (fun _ => 0))), (q_7, .inl (k 5, 4, .inr (.inr (.inr (.inr (fun _ => none)))))), (q_8, .inr (4, [.ref q_9, .ref q1_9, .int 0, .int 0, .int 0, .int 0])), (q_9, .inl (k 1, 4, .inl (fun _ => 0))), (q1_9, .inl (k 1, 4, .inl (fun _ => 0))), (q_10, .inl (k 6, 2, .inr (.inr (.inr (.inr (fun _ => none)))))), (q_11, .inl (k 2, 2, .inl (fun _ => 0))), (q_16, .inr (5, [.ref q_17, .ref q1_17, .ref q2_17, .ref q3_17])), (q_17, .inl (k 1, 10, .inl (fun _ => 0))), (q_18, .inr (0, [.ref q_16, .ref q_19, .ref q1_19, .ref q2_19, .ref q3_19])), (q_20, .inr (5, [.ref q_21, .ref q1_21, .ref q2_21, .ref q3_21])), (q_21, .inl (k 1, 10, .inl (fun _ => 0))), (q_22, .inr (0, [.ref q_20, .ref q_23, .ref q1_23, .ref q2_23, .ref q3_23]))] := hD
  refine lv_iinc (v := 2) (lv' := [(1, .int 2), (0, .ref h0)]) hx hb dX7_init_151 hl (k := 0) rfl (by decide) (by decide) rfl (fun ls hl => ?_)
  refine lv_goto (tgt := 114) hx hb dX7_init_154 (by decide) ?_
  refine lv_iload_n hx hb dX7_init_114 rfl (lv_at hl 0 rfl) ?_
  refine lv_iconst (v := 3) hx hb dX7_init_115 (by decide) ?_
  refine lv_icmp_ge (tgt := 157) hx hb dX7_init_116 (by decide) (fun h => absurd h (by decide)) (fun _ => ?_)
  refine lv_aload_n hx hb dX7_init_119 rfl (lv_at hl 1 rfl) ?_
  refine va_get (D := D) (ci := 7) (v := .ref q_3) (C := RX7) (T := TX7) (N := 12) hx hb hts inX7 hown hK hP 0 rfl rfl 1 (by decide) (hts _ tw_306) (fun _ h9 => h9) rfl dX7_init_120 ?_
  refine lv_iload_n hx hb dX7_init_123 rfl (lv_at hl 0 rfl) ?_
  refine va_new (ci := 5) (fs := [.null, .null, .null, .null]) (C := RX5) (T := TX5) (N := 4) hx hb hts inX5 tyX5 tyX5_ok hown (hts _ tw_137) (hts _ tw_141) (hts _ tw_81) hK hP hD hS hA rfl (fun j hj => match j, hj with | 0, _ => rfl | 1, _ => rfl | 2, _ => rfl | 3, _ => rfl | j + 4, h => absurd h (by omega)) (Nat.le_of_ble_eq_true rfl) (Nat.le_of_ble_eq_true rfl) dX7_init_124 (fun q_24 H hP hD hS => ?_)
  refine W.widen (k := 44) (n := 2262) (by decide) (by decide) ?_
  have hP : va_P D classes [(h0, .inr (7, [.ref q_1, .ref q_3, .ref q_4, .ref q_5, .ref q_7, .int 0, .int (-1), .ref q_8, .ref q_10, .ref q_11, .ref q_12, .ref q_14])), (q_1, .inr (6, [.ref q_2, .int 0, .int 0, .int 0, .int 0, .int 0])), (q_2, .inl (k 0, 240, .inl (fun _ => 0))), (q_3, .inl (k 3, 3, .inr (.inr (.inr (.inr (va_up (va_up (fun _ => none) (Int32.toNatClampNeg 0) (some q_16)) (Int32.toNatClampNeg 1) (some q_20))))))), (q_4, .inl (k 4, 3, .inr (.inr (.inr (.inr (va_up (va_up (fun _ => none) (Int32.toNatClampNeg 0) (some q_18)) (Int32.toNatClampNeg 1) (some q_22))))))), (q_5, .inr (5, [.ref q_6, .ref q1_6, .ref q2_6, .ref q3_6])), (q_6, .inl (k 1, 10, .inl (fun _ => 0))), (q_7, .inl (k 5, 4, .inr (.inr (.inr (.inr (fun _ => none)))))), (q_8, .inr (4, [.ref q_9, .ref q1_9, .int 0, .int 0, .int 0, .int 0])), (q_9, .inl (k 1, 4, .inl (fun _ => 0))), (q1_9, .inl (k 1, 4, .inl (fun _ => 0))), (q_10, .inl (k 6, 2, .inr (.inr (.inr (.inr (fun _ => none)))))), (q_11, .inl (k 2, 2, .inl (fun _ => 0))), (q_16, .inr (5, [.ref q_17, .ref q1_17, .ref q2_17, .ref q3_17])), (q_17, .inl (k 1, 10, .inl (fun _ => 0))), (q_18, .inr (0, [.ref q_16, .ref q_19, .ref q1_19, .ref q2_19, .ref q3_19])), (q_20, .inr (5, [.ref q_21, .ref q1_21, .ref q2_21, .ref q3_21])), (q_21, .inl (k 1, 10, .inl (fun _ => 0))), (q_22, .inr (0, [.ref q_20, .ref q_23, .ref q1_23, .ref q2_23, .ref q3_23])), (q_24, .inr (5, [.null, .null, .null, .null]))] H := hP
  have hD : va_D A [(h0, .inr (7, [.ref q_1, .ref q_3, .ref q_4, .ref q_5, .ref q_7, .int 0, .int (-1), .ref q_8, .ref q_10, .ref q_11, .ref q_12, .ref q_14])), (q_1, .inr (6, [.ref q_2, .int 0, .int 0, .int 0, .int 0, .int 0])), (q_2, .inl (k 0, 240, .inl (fun _ => 0))), (q_3, .inl (k 3, 3, .inr (.inr (.inr (.inr (va_up (va_up (fun _ => none) (Int32.toNatClampNeg 0) (some q_16)) (Int32.toNatClampNeg 1) (some q_20))))))), (q_4, .inl (k 4, 3, .inr (.inr (.inr (.inr (va_up (va_up (fun _ => none) (Int32.toNatClampNeg 0) (some q_18)) (Int32.toNatClampNeg 1) (some q_22))))))), (q_5, .inr (5, [.ref q_6, .ref q1_6, .ref q2_6, .ref q3_6])), (q_6, .inl (k 1, 10, .inl (fun _ => 0))), (q_7, .inl (k 5, 4, .inr (.inr (.inr (.inr (fun _ => none)))))), (q_8, .inr (4, [.ref q_9, .ref q1_9, .int 0, .int 0, .int 0, .int 0])), (q_9, .inl (k 1, 4, .inl (fun _ => 0))), (q1_9, .inl (k 1, 4, .inl (fun _ => 0))), (q_10, .inl (k 6, 2, .inr (.inr (.inr (.inr (fun _ => none)))))), (q_11, .inl (k 2, 2, .inl (fun _ => 0))), (q_16, .inr (5, [.ref q_17, .ref q1_17, .ref q2_17, .ref q3_17])), (q_17, .inl (k 1, 10, .inl (fun _ => 0))), (q_18, .inr (0, [.ref q_16, .ref q_19, .ref q1_19, .ref q2_19, .ref q3_19])), (q_20, .inr (5, [.ref q_21, .ref q1_21, .ref q2_21, .ref q3_21])), (q_21, .inl (k 1, 10, .inl (fun _ => 0))), (q_22, .inr (0, [.ref q_20, .ref q_23, .ref q1_23, .ref q2_23, .ref q3_23])), (q_24, .inr (5, [.null, .null, .null, .null]))] := hD
  refine lv_dup hx hb dX7_init_127 rfl ?_
  refine rw_v (D := D) (wr := [(h0, .inr (7, [.ref q_1, .ref q_3, .ref q_4, .ref q_5, .ref q_7, .int 0, .int (-1), .ref q_8, .ref q_10, .ref q_11, .ref q_12, .ref q_14])), (q_1, .inr (6, [.ref q_2, .int 0, .int 0, .int 0, .int 0, .int 0])), (q_2, .inl (k 0, 240, .inl (fun _ => 0))), (q_3, .inl (k 3, 3, .inr (.inr (.inr (.inr (va_up (va_up (fun _ => none) (Int32.toNatClampNeg 0) (some q_16)) (Int32.toNatClampNeg 1) (some q_20))))))), (q_4, .inl (k 4, 3, .inr (.inr (.inr (.inr (va_up (va_up (fun _ => none) (Int32.toNatClampNeg 0) (some q_18)) (Int32.toNatClampNeg 1) (some q_22))))))), (q_5, .inr (5, [.ref q_6, .ref q1_6, .ref q2_6, .ref q3_6])), (q_6, .inl (k 1, 10, .inl (fun _ => 0))), (q_7, .inl (k 5, 4, .inr (.inr (.inr (.inr (fun _ => none)))))), (q_8, .inr (4, [.ref q_9, .ref q1_9, .int 0, .int 0, .int 0, .int 0])), (q_9, .inl (k 1, 4, .inl (fun _ => 0))), (q1_9, .inl (k 1, 4, .inl (fun _ => 0))), (q_10, .inl (k 6, 2, .inr (.inr (.inr (.inr (fun _ => none)))))), (q_11, .inl (k 2, 2, .inl (fun _ => 0))), (q_16, .inr (5, [.ref q_17, .ref q1_17, .ref q2_17, .ref q3_17])), (q_17, .inl (k 1, 10, .inl (fun _ => 0))), (q_18, .inr (0, [.ref q_16, .ref q_19, .ref q1_19, .ref q2_19, .ref q3_19])), (q_20, .inr (5, [.ref q_21, .ref q1_21, .ref q2_21, .ref q3_21])), (q_21, .inl (k 1, 10, .inl (fun _ => 0))), (q_22, .inr (0, [.ref q_20, .ref q_23, .ref q1_23, .ref q2_23, .ref q3_23]))]) (va_runIN (As := []) (rest := [.ref q_24, .int 2, .ref q_3]) ⟨hx, hb, hml, hown, hts⟩ ((k_Street_init l D k st lo q_24) H.size) ⟨va_cnB 0 hts (gLW tw_144) rfl rfl rfl (hZ.2.2.2.2.2.2.2.2.2.2.2.1 (RX7, 28, yX5_init, RX7) (List.mem_of_getElem? (i := 1) rfl)) (hts _ tw_81) (by decide +kernel) ⟨Nat.le_of_ble_eq_true rfl, Nat.le_of_ble_eq_true rfl⟩, rfl, hts _ tw_143⟩ (pS hS hAlo hlo hP hK (va_Dlo hD hAlo) hZ [19] (by decide) rfl) rfl rfl hl.1 rfl (lv_room (Nat.le_of_ble_eq_true rfl)) dX7_init_128 ⟨Nat.le_of_ble_eq_true rfl, Nat.le_of_ble_eq_true rfl⟩) hS hA hP hD [19] [0, 1, 2, 3, 4, 5, 6, 7, 8, 9, 10, 11, 12, 13, 14, 15, 16, 17, 18] rfl rfl (by decide) (by decide) (fun u H locs hw_25 hP hD hS => ?_)
  obtain ⟨q_25, q1_25, q2_25, q3_25⟩ := u
  have hP : va_P D classes [(h0, .inr (7, [.ref q_1, .ref q_3, .ref q_4, .ref q_5, .ref q_7, .int 0, .int (-1), .ref q_8, .ref q_10, .ref q_11, .ref q_12, .ref q_14])), (q_1, .inr (6, [.ref q_2, .int 0, .int 0, .int 0, .int 0, .int 0])), (q_2, .inl (k 0, 240, .inl (fun _ => 0))), (q_3, .inl (k 3, 3, .inr (.inr (.inr (.inr (va_up (va_up (fun _ => none) (Int32.toNatClampNeg 0) (some q_16)) (Int32.toNatClampNeg 1) (some q_20))))))), (q_4, .inl (k 4, 3, .inr (.inr (.inr (.inr (va_up (va_up (fun _ => none) (Int32.toNatClampNeg 0) (some q_18)) (Int32.toNatClampNeg 1) (some q_22))))))), (q_5, .inr (5, [.ref q_6, .ref q1_6, .ref q2_6, .ref q3_6])), (q_6, .inl (k 1, 10, .inl (fun _ => 0))), (q_7, .inl (k 5, 4, .inr (.inr (.inr (.inr (fun _ => none)))))), (q_8, .inr (4, [.ref q_9, .ref q1_9, .int 0, .int 0, .int 0, .int 0])), (q_9, .inl (k 1, 4, .inl (fun _ => 0))), (q1_9, .inl (k 1, 4, .inl (fun _ => 0))), (q_10, .inl (k 6, 2, .inr (.inr (.inr (.inr (fun _ => none)))))), (q_11, .inl (k 2, 2, .inl (fun _ => 0))), (q_16, .inr (5, [.ref q_17, .ref q1_17, .ref q2_17, .ref q3_17])), (q_17, .inl (k 1, 10, .inl (fun _ => 0))), (q_18, .inr (0, [.ref q_16, .ref q_19, .ref q1_19, .ref q2_19, .ref q3_19])), (q_20, .inr (5, [.ref q_21, .ref q1_21, .ref q2_21, .ref q3_21])), (q_21, .inl (k 1, 10, .inl (fun _ => 0))), (q_22, .inr (0, [.ref q_20, .ref q_23, .ref q1_23, .ref q2_23, .ref q3_23])), (q_24, .inr (5, [.ref q_25, .ref q1_25, .ref q2_25, .ref q3_25])), (q_25, .inl (k 1, 10, .inl (fun _ => 0)))] H := hP
  have hD : va_D A [(h0, .inr (7, [.ref q_1, .ref q_3, .ref q_4, .ref q_5, .ref q_7, .int 0, .int (-1), .ref q_8, .ref q_10, .ref q_11, .ref q_12, .ref q_14])), (q_1, .inr (6, [.ref q_2, .int 0, .int 0, .int 0, .int 0, .int 0])), (q_2, .inl (k 0, 240, .inl (fun _ => 0))), (q_3, .inl (k 3, 3, .inr (.inr (.inr (.inr (va_up (va_up (fun _ => none) (Int32.toNatClampNeg 0) (some q_16)) (Int32.toNatClampNeg 1) (some q_20))))))), (q_4, .inl (k 4, 3, .inr (.inr (.inr (.inr (va_up (va_up (fun _ => none) (Int32.toNatClampNeg 0) (some q_18)) (Int32.toNatClampNeg 1) (some q_22))))))), (q_5, .inr (5, [.ref q_6, .ref q1_6, .ref q2_6, .ref q3_6])), (q_6, .inl (k 1, 10, .inl (fun _ => 0))), (q_7, .inl (k 5, 4, .inr (.inr (.inr (.inr (fun _ => none)))))), (q_8, .inr (4, [.ref q_9, .ref q1_9, .int 0, .int 0, .int 0, .int 0])), (q_9, .inl (k 1, 4, .inl (fun _ => 0))), (q1_9, .inl (k 1, 4, .inl (fun _ => 0))), (q_10, .inl (k 6, 2, .inr (.inr (.inr (.inr (fun _ => none)))))), (q_11, .inl (k 2, 2, .inl (fun _ => 0))), (q_16, .inr (5, [.ref q_17, .ref q1_17, .ref q2_17, .ref q3_17])), (q_17, .inl (k 1, 10, .inl (fun _ => 0))), (q_18, .inr (0, [.ref q_16, .ref q_19, .ref q1_19, .ref q2_19, .ref q3_19])), (q_20, .inr (5, [.ref q_21, .ref q1_21, .ref q2_21, .ref q3_21])), (q_21, .inl (k 1, 10, .inl (fun _ => 0))), (q_22, .inr (0, [.ref q_20, .ref q_23, .ref q1_23, .ref q2_23, .ref q3_23])), (q_24, .inr (5, [.ref q_25, .ref q1_25, .ref q2_25, .ref q3_25])), (q_25, .inl (k 1, 10, .inl (fun _ => 0)))] := hD
  try dsimp only at hw_25
  refine W.widen (k := 48) (n := 2324) (by decide) (by decide) ?_
  refine va_astq hx hb hK hP hD hS 3 3 19 5 rfl rfl rfl rfl (by unfold vp_in; decide) dX7_init_131 (fun H locs hP hD hS => ?_)
  have hP : va_P D classes [(h0, .inr (7, [.ref q_1, .ref q_3, .ref q_4, .ref q_5, .ref q_7, .int 0, .int (-1), .ref q_8, .ref q_10, .ref q_11, .ref q_12, .ref q_14])), (q_1, .inr (6, [.ref q_2, .int 0, .int 0, .int 0, .int 0, .int 0])), (q_2, .inl (k 0, 240, .inl (fun _ => 0))), (q_3, .inl (k 3, 3, .inr (.inr (.inr (.inr (va_up (va_up (va_up (fun _ => none) (Int32.toNatClampNeg 0) (some q_16)) (Int32.toNatClampNeg 1) (some q_20)) (Int32.toNatClampNeg 2) (some q_24))))))), (q_4, .inl (k 4, 3, .inr (.inr (.inr (.inr (va_up (va_up (fun _ => none) (Int32.toNatClampNeg 0) (some q_18)) (Int32.toNatClampNeg 1) (some q_22))))))), (q_5, .inr (5, [.ref q_6, .ref q1_6, .ref q2_6, .ref q3_6])), (q_6, .inl (k 1, 10, .inl (fun _ => 0))), (q_7, .inl (k 5, 4, .inr (.inr (.inr (.inr (fun _ => none)))))), (q_8, .inr (4, [.ref q_9, .ref q1_9, .int 0, .int 0, .int 0, .int 0])), (q_9, .inl (k 1, 4, .inl (fun _ => 0))), (q1_9, .inl (k 1, 4, .inl (fun _ => 0))), (q_10, .inl (k 6, 2, .inr (.inr (.inr (.inr (fun _ => none)))))), (q_11, .inl (k 2, 2, .inl (fun _ => 0))), (q_16, .inr (5, [.ref q_17, .ref q1_17, .ref q2_17, .ref q3_17])), (q_17, .inl (k 1, 10, .inl (fun _ => 0))), (q_18, .inr (0, [.ref q_16, .ref q_19, .ref q1_19, .ref q2_19, .ref q3_19])), (q_20, .inr (5, [.ref q_21, .ref q1_21, .ref q2_21, .ref q3_21])), (q_21, .inl (k 1, 10, .inl (fun _ => 0))), (q_22, .inr (0, [.ref q_20, .ref q_23, .ref q1_23, .ref q2_23, .ref q3_23])), (q_24, .inr (5, [.ref q_25, .ref q1_25, .ref q2_25, .ref q3_25])), (q_25, .inl (k 1, 10, .inl (fun _ => 0)))] H := hP
  have hD : va_D A [(h0, .inr (7, [.ref q_1, .ref q_3, .ref q_4, .ref q_5, .ref q_7, .int 0, .int (-1), .ref q_8, .ref q_10, .ref q_11, .ref q_12, .ref q_14])), (q_1, .inr (6, [.ref q_2, .int 0, .int 0, .int 0, .int 0, .int 0])), (q_2, .inl (k 0, 240, .inl (fun _ => 0))), (q_3, .inl (k 3, 3, .inr (.inr (.inr (.inr (va_up (va_up (va_up (fun _ => none) (Int32.toNatClampNeg 0) (some q_16)) (Int32.toNatClampNeg 1) (some q_20)) (Int32.toNatClampNeg 2) (some q_24))))))), (q_4, .inl (k 4, 3, .inr (.inr (.inr (.inr (va_up (va_up (fun _ => none) (Int32.toNatClampNeg 0) (some q_18)) (Int32.toNatClampNeg 1) (some q_22))))))), (q_5, .inr (5, [.ref q_6, .ref q1_6, .ref q2_6, .ref q3_6])), (q_6, .inl (k 1, 10, .inl (fun _ => 0))), (q_7, .inl (k 5, 4, .inr (.inr (.inr (.inr (fun _ => none)))))), (q_8, .inr (4, [.ref q_9, .ref q1_9, .int 0, .int 0, .int 0, .int 0])), (q_9, .inl (k 1, 4, .inl (fun _ => 0))), (q1_9, .inl (k 1, 4, .inl (fun _ => 0))), (q_10, .inl (k 6, 2, .inr (.inr (.inr (.inr (fun _ => none)))))), (q_11, .inl (k 2, 2, .inl (fun _ => 0))), (q_16, .inr (5, [.ref q_17, .ref q1_17, .ref q2_17, .ref q3_17])), (q_17, .inl (k 1, 10, .inl (fun _ => 0))), (q_18, .inr (0, [.ref q_16, .ref q_19, .ref q1_19, .ref q2_19, .ref q3_19])), (q_20, .inr (5, [.ref q_21, .ref q1_21, .ref q2_21, .ref q3_21])), (q_21, .inl (k 1, 10, .inl (fun _ => 0))), (q_22, .inr (0, [.ref q_20, .ref q_23, .ref q1_23, .ref q2_23, .ref q3_23])), (q_24, .inr (5, [.ref q_25, .ref q1_25, .ref q2_25, .ref q3_25])), (q_25, .inl (k 1, 10, .inl (fun _ => 0)))] := hD
  refine lv_aload_n hx hb dX7_init_132 rfl (lv_at hl 1 rfl) ?_
  refine va_get (D := D) (ci := 7) (v := .ref q_4) (C := RX7) (T := TX7) (N := 12) hx hb hts inX7 hown hK hP 0 rfl rfl 2 (by decide) (hts _ tw_307) (fun _ h9 => h9) rfl dX7_init_133 ?_
  refine lv_iload_n hx hb dX7_init_136 rfl (lv_at hl 0 rfl) ?_
  refine va_new (ci := 0) (fs := [.null, .null, .null, .null, .null]) (C := RX0) (T := TX0) (N := 5) hx hb hts inX0 tyX0 tyX0_ok hown (hts _ tw_139) (hts _ tw_261) (hts _ tw_85) hK hP hD hS hA rfl (fun j hj => match j, hj with | 0, _ => rfl | 1, _ => rfl | 2, _ => rfl | 3, _ => rfl | 4, _ => rfl | j + 5, h => absurd h (by omega)) (Nat.le_of_ble_eq_true rfl) (Nat.le_of_ble_eq_true rfl) dX7_init_137 (fun q_26 H hP hD hS => ?_)
  refine W.widen (k := 49) (n := 2329) (by decide) (by decide) ?_
  have hP : va_P D classes [(h0, .inr (7, [.ref q_1, .ref q_3, .ref q_4, .ref q_5, .ref q_7, .int 0, .int (-1), .ref q_8, .ref q_10, .ref q_11, .ref q_12, .ref q_14])), (q_1, .inr (6, [.ref q_2, .int 0, .int 0, .int 0, .int 0, .int 0])), (q_2, .inl (k 0, 240, .inl (fun _ => 0))), (q_3, .inl (k 3, 3, .inr (.inr (.inr (.inr (va_up (va_up (va_up (fun _ => none) (Int32.toNatClampNeg 0) (some q_16)) (Int32.toNatClampNeg 1) (some q_20)) (Int32.toNatClampNeg 2) (some q_24))))))), (q_4, .inl (k 4, 3, .inr (.inr (.inr (.inr (va_up (va_up (fun _ => none) (Int32.toNatClampNeg 0) (some q_18)) (Int32.toNatClampNeg 1) (some q_22))))))), (q_5, .inr (5, [.ref q_6, .ref q1_6, .ref q2_6, .ref q3_6])), (q_6, .inl (k 1, 10, .inl (fun _ => 0))), (q_7, .inl (k 5, 4, .inr (.inr (.inr (.inr (fun _ => none)))))), (q_8, .inr (4, [.ref q_9, .ref q1_9, .int 0, .int 0, .int 0, .int 0])), (q_9, .inl (k 1, 4, .inl (fun _ => 0))), (q1_9, .inl (k 1, 4, .inl (fun _ => 0))), (q_10, .inl (k 6, 2, .inr (.inr (.inr (.inr (fun _ => none)))))), (q_11, .inl (k 2, 2, .inl (fun _ => 0))), (q_16, .inr (5, [.ref q_17, .ref q1_17, .ref q2_17, .ref q3_17])), (q_17, .inl (k 1, 10, .inl (fun _ => 0))), (q_18, .inr (0, [.ref q_16, .ref q_19, .ref q1_19, .ref q2_19, .ref q3_19])), (q_20, .inr (5, [.ref q_21, .ref q1_21, .ref q2_21, .ref q3_21])), (q_21, .inl (k 1, 10, .inl (fun _ => 0))), (q_22, .inr (0, [.ref q_20, .ref q_23, .ref q1_23, .ref q2_23, .ref q3_23])), (q_24, .inr (5, [.ref q_25, .ref q1_25, .ref q2_25, .ref q3_25])), (q_25, .inl (k 1, 10, .inl (fun _ => 0))), (q_26, .inr (0, [.null, .null, .null, .null, .null]))] H := hP
  have hD : va_D A [(h0, .inr (7, [.ref q_1, .ref q_3, .ref q_4, .ref q_5, .ref q_7, .int 0, .int (-1), .ref q_8, .ref q_10, .ref q_11, .ref q_12, .ref q_14])), (q_1, .inr (6, [.ref q_2, .int 0, .int 0, .int 0, .int 0, .int 0])), (q_2, .inl (k 0, 240, .inl (fun _ => 0))), (q_3, .inl (k 3, 3, .inr (.inr (.inr (.inr (va_up (va_up (va_up (fun _ => none) (Int32.toNatClampNeg 0) (some q_16)) (Int32.toNatClampNeg 1) (some q_20)) (Int32.toNatClampNeg 2) (some q_24))))))), (q_4, .inl (k 4, 3, .inr (.inr (.inr (.inr (va_up (va_up (fun _ => none) (Int32.toNatClampNeg 0) (some q_18)) (Int32.toNatClampNeg 1) (some q_22))))))), (q_5, .inr (5, [.ref q_6, .ref q1_6, .ref q2_6, .ref q3_6])), (q_6, .inl (k 1, 10, .inl (fun _ => 0))), (q_7, .inl (k 5, 4, .inr (.inr (.inr (.inr (fun _ => none)))))), (q_8, .inr (4, [.ref q_9, .ref q1_9, .int 0, .int 0, .int 0, .int 0])), (q_9, .inl (k 1, 4, .inl (fun _ => 0))), (q1_9, .inl (k 1, 4, .inl (fun _ => 0))), (q_10, .inl (k 6, 2, .inr (.inr (.inr (.inr (fun _ => none)))))), (q_11, .inl (k 2, 2, .inl (fun _ => 0))), (q_16, .inr (5, [.ref q_17, .ref q1_17, .ref q2_17, .ref q3_17])), (q_17, .inl (k 1, 10, .inl (fun _ => 0))), (q_18, .inr (0, [.ref q_16, .ref q_19, .ref q1_19, .ref q2_19, .ref q3_19])), (q_20, .inr (5, [.ref q_21, .ref q1_21, .ref q2_21, .ref q3_21])), (q_21, .inl (k 1, 10, .inl (fun _ => 0))), (q_22, .inr (0, [.ref q_20, .ref q_23, .ref q1_23, .ref q2_23, .ref q3_23])), (q_24, .inr (5, [.ref q_25, .ref q1_25, .ref q2_25, .ref q3_25])), (q_25, .inl (k 1, 10, .inl (fun _ => 0))), (q_26, .inr (0, [.null, .null, .null, .null, .null]))] := hD
  refine lv_dup hx hb dX7_init_140 rfl ?_
  refine lv_aload_n hx hb dX7_init_141 rfl (lv_at hl 1 rfl) ?_
  refine va_get (D := D) (ci := 7) (v := .ref q_3) (C := RX7) (T := TX7) (N := 12) hx hb hts inX7 hown hK hP 0 rfl rfl 1 (by decide) (hts _ tw_306) (fun _ h9 => h9) rfl dX7_init_142 ?_
  refine lv_iload_n hx hb dX7_init_145 rfl (lv_at hl 0 rfl) ?_
  refine va_aldq hx hb hK hP 3 3 rfl rfl (by unfold vp_in; decide) dX7_init_146 ?_
  refine lv_tr (y := .ref q_24) rfl ?_
  refine rw_v (D := D) (wr := [(h0, .inr (7, [.ref q_1, .ref q_3, .ref q_4, .ref q_5, .ref q_7, .int 0, .int (-1), .ref q_8, .ref q_10, .ref q_11, .ref q_12, .ref q_14])), (q_1, .inr (6, [.ref q_2, .int 0, .int 0, .int 0, .int 0, .int 0])), (q_2, .inl (k 0, 240, .inl (fun _ => 0))), (q_3, .inl (k 3, 3, .inr (.inr (.inr (.inr (va_up (va_up (va_up (fun _ => none) (Int32.toNatClampNeg 0) (some q_16)) (Int32.toNatClampNeg 1) (some q_20)) (Int32.toNatClampNeg 2) (some q_24))))))), (q_4, .inl (k 4, 3, .inr (.inr (.inr (.inr (va_up (va_up (fun _ => none) (Int32.toNatClampNeg 0) (some q_18)) (Int32.toNatClampNeg 1) (some q_22))))))), (q_5, .inr (5, [.ref q_6, .ref q1_6, .ref q2_6, .ref q3_6])), (q_6, .inl (k 1, 10, .inl (fun _ => 0))), (q_7, .inl (k 5, 4, .inr (.inr (.inr (.inr (fun _ => none)))))), (q_8, .inr (4, [.ref q_9, .ref q1_9, .int 0, .int 0, .int 0, .int 0])), (q_9, .inl (k 1, 4, .inl (fun _ => 0))), (q1_9, .inl (k 1, 4, .inl (fun _ => 0))), (q_10, .inl (k 6, 2, .inr (.inr (.inr (.inr (fun _ => none)))))), (q_11, .inl (k 2, 2, .inl (fun _ => 0))), (q_16, .inr (5, [.ref q_17, .ref q1_17, .ref q2_17, .ref q3_17])), (q_17, .inl (k 1, 10, .inl (fun _ => 0))), (q_18, .inr (0, [.ref q_16, .ref q_19, .ref q1_19, .ref q2_19, .ref q3_19])), (q_20, .inr (5, [.ref q_21, .ref q1_21, .ref q2_21, .ref q3_21])), (q_21, .inl (k 1, 10, .inl (fun _ => 0))), (q_22, .inr (0, [.ref q_20, .ref q_23, .ref q1_23, .ref q2_23, .ref q3_23])), (q_24, .inr (5, [.ref q_25, .ref q1_25, .ref q2_25, .ref q3_25])), (q_25, .inl (k 1, 10, .inl (fun _ => 0)))]) (va_runI (As := [.ref q_24]) (rest := [.ref q_26, .int 2, .ref q_4]) ⟨hx, hb, hml, hown, hts⟩ ((k_BestWay_init l D k st lo q_26 q_24) H.size) (cwI 1 hts (gLW tw_264) rfl rfl rfl (hts _ tw_85) (hts _ tw_262) (hts _ tw_263) rfl (by decide +kernel) ⟨Nat.le_of_ble_eq_true rfl, Nat.le_of_ble_eq_true rfl⟩) (pS hS hAlo hlo hP hK (va_Dlo hD hAlo) hZ [21] (by decide) rfl) rfl rfl hl.1 rfl (lv_room (Nat.le_of_ble_eq_true rfl)) dX7_init_147 ⟨Nat.le_of_ble_eq_true rfl, Nat.le_of_ble_eq_true rfl⟩) hS hA hP hD [21] [0, 1, 2, 3, 4, 5, 6, 7, 8, 9, 10, 11, 12, 13, 14, 15, 16, 17, 18, 19, 20] rfl rfl (by decide) (by decide) (fun u H locs hw_27 hP hD hS => ?_)
  obtain ⟨q_27, q1_27, q2_27, q3_27⟩ := u
  have hP : va_P D classes [(h0, .inr (7, [.ref q_1, .ref q_3, .ref q_4, .ref q_5, .ref q_7, .int 0, .int (-1), .ref q_8, .ref q_10, .ref q_11, .ref q_12, .ref q_14])), (q_1, .inr (6, [.ref q_2, .int 0, .int 0, .int 0, .int 0, .int 0])), (q_2, .inl (k 0, 240, .inl (fun _ => 0))), (q_3, .inl (k 3, 3, .inr (.inr (.inr (.inr (va_up (va_up (va_up (fun _ => none) (Int32.toNatClampNeg 0) (some q_16)) (Int32.toNatClampNeg 1) (some q_20)) (Int32.toNatClampNeg 2) (some q_24))))))), (q_4, .inl (k 4, 3, .inr (.inr (.inr (.inr (va_up (va_up (fun _ => none) (Int32.toNatClampNeg 0) (some q_18)) (Int32.toNatClampNeg 1) (some q_22))))))), (q_5, .inr (5, [.ref q_6, .ref q1_6, .ref q2_6, .ref q3_6])), (q_6, .inl (k 1, 10, .inl (fun _ => 0))), (q_7, .inl (k 5, 4, .inr (.inr (.inr (.inr (fun _ => none)))))), (q_8, .inr (4, [.ref q_9, .ref q1_9, .int 0, .int 0, .int 0, .int 0])), (q_9, .inl (k 1, 4, .inl (fun _ => 0))), (q1_9, .inl (k 1, 4, .inl (fun _ => 0))), (q_10, .inl (k 6, 2, .inr (.inr (.inr (.inr (fun _ => none)))))), (q_11, .inl (k 2, 2, .inl (fun _ => 0))), (q_16, .inr (5, [.ref q_17, .ref q1_17, .ref q2_17, .ref q3_17])), (q_17, .inl (k 1, 10, .inl (fun _ => 0))), (q_18, .inr (0, [.ref q_16, .ref q_19, .ref q1_19, .ref q2_19, .ref q3_19])), (q_20, .inr (5, [.ref q_21, .ref q1_21, .ref q2_21, .ref q3_21])), (q_21, .inl (k 1, 10, .inl (fun _ => 0))), (q_22, .inr (0, [.ref q_20, .ref q_23, .ref q1_23, .ref q2_23, .ref q3_23])), (q_24, .inr (5, [.ref q_25, .ref q1_25, .ref q2_25, .ref q3_25])), (q_25, .inl (k 1, 10, .inl (fun _ => 0))), (q_26, .inr (0, [.ref q_24, .ref q_27, .ref q1_27, .ref q2_27, .ref q3_27]))] H := hP
  have hD : va_D A [(h0, .inr (7, [.ref q_1, .ref q_3, .ref q_4, .ref q_5, .ref q_7, .int 0, .int (-1), .ref q_8, .ref q_10, .ref q_11, .ref q_12, .ref q_14])), (q_1, .inr (6, [.ref q_2, .int 0, .int 0, .int 0, .int 0, .int 0])), (q_2, .inl (k 0, 240, .inl (fun _ => 0))), (q_3, .inl (k 3, 3, .inr (.inr (.inr (.inr (va_up (va_up (va_up (fun _ => none) (Int32.toNatClampNeg 0) (some q_16)) (Int32.toNatClampNeg 1) (some q_20)) (Int32.toNatClampNeg 2) (some q_24))))))), (q_4, .inl (k 4, 3, .inr (.inr (.inr (.inr (va_up (va_up (fun _ => none) (Int32.toNatClampNeg 0) (some q_18)) (Int32.toNatClampNeg 1) (some q_22))))))), (q_5, .inr (5, [.ref q_6, .ref q1_6, .ref q2_6, .ref q3_6])), (q_6, .inl (k 1, 10, .inl (fun _ => 0))), (q_7, .inl (k 5, 4, .inr (.inr (.inr (.inr (fun _ => none)))))), (q_8, .inr (4, [.ref q_9, .ref q1_9, .int 0, .int 0, .int 0, .int 0])), (q_9, .inl (k 1, 4, .inl (fun _ => 0))), (q1_9, .inl (k 1, 4, .inl (fun _ => 0))), (q_10, .inl (k 6, 2, .inr (.inr (.inr (.inr (fun _ => none)))))), (q_11, .inl (k 2, 2, .inl (fun _ => 0))), (q_16, .inr (5, [.ref q_17, .ref q1_17, .ref q2_17, .ref q3_17])), (q_17, .inl (k 1, 10, .inl (fun _ => 0))), (q_18, .inr (0, [.ref q_16, .ref q_19, .ref q1_19, .ref q2_19, .ref q3_19])), (q_20, .inr (5, [.ref q_21, .ref q1_21, .ref q2_21, .ref q3_21])), (q_21, .inl (k 1, 10, .inl (fun _ => 0))), (q_22, .inr (0, [.ref q_20, .ref q_23, .ref q1_23, .ref q2_23, .ref q3_23])), (q_24, .inr (5, [.ref q_25, .ref q1_25, .ref q2_25, .ref q3_25])), (q_25, .inl (k 1, 10, .inl (fun _ => 0))), (q_26, .inr (0, [.ref q_24, .ref q_27, .ref q1_27, .ref q2_27, .ref q3_27]))] := hD
  try dsimp only at hw_27
  refine W.widen (k := 53) (n := 3113) (by decide) (by decide) ?_
  refine va_astq hx hb hK hP hD hS 4 4 21 0 rfl rfl rfl rfl (by unfold vp_in; decide) dX7_init_150 (fun H locs hP hD hS => ?_)
  have hP : va_P D classes [(h0, .inr (7, [.ref q_1, .ref q_3, .ref q_4, .ref q_5, .ref q_7, .int 0, .int (-1), .ref q_8, .ref q_10, .ref q_11, .ref q_12, .ref q_14])), (q_1, .inr (6, [.ref q_2, .int 0, .int 0, .int 0, .int 0, .int 0])), (q_2, .inl (k 0, 240, .inl (fun _ => 0))), (q_3, .inl (k 3, 3, .inr (.inr (.inr (.inr (va_up (va_up (va_up (fun _ => none) (Int32.toNatClampNeg 0) (some q_16)) (Int32.toNatClampNeg 1) (some q_20)) (Int32.toNatClampNeg 2) (some q_24))))))), (q_4, .inl (k 4, 3, .inr (.inr (.inr (.inr (va_up (va_up (va_up (fun _ => none) (Int32.toNatClampNeg 0) (some q_18)) (Int32.toNatClampNeg 1) (some q_22)) (Int32.toNatClampNeg 2) (some q_26))))))), (q_5, .inr (5, [.ref q_6, .ref q1_6, .ref q2_6, .ref q3_6])), (q_6, .inl (k 1, 10, .inl (fun _ => 0))), (q_7, .inl (k 5, 4, .inr (.inr (.inr (.inr (fun _ => none)))))), (q_8, .inr (4, [.ref q_9, .ref q1_9, .int 0, .int 0, .int 0, .int 0])), (q_9, .inl (k 1, 4, .inl (fun _ => 0))), (q1_9, .inl (k 1, 4, .inl (fun _ => 0))), (q_10, .inl (k 6, 2, .inr (.inr (.inr (.inr (fun _ => none)))))), (q_11, .inl (k 2, 2, .inl (fun _ => 0))), (q_16, .inr (5, [.ref q_17, .ref q1_17, .ref q2_17, .ref q3_17])), (q_17, .inl (k 1, 10, .inl (fun _ => 0))), (q_18, .inr (0, [.ref q_16, .ref q_19, .ref q1_19, .ref q2_19, .ref q3_19])), (q_20, .inr (5, [.ref q_21, .ref q1_21, .ref q2_21, .ref q3_21])), (q_21, .inl (k 1, 10, .inl (fun _ => 0))), (q_22, .inr (0, [.ref q_20, .ref q_23, .ref q1_23, .ref q2_23, .ref q3_23])), (q_24, .inr (5, [.ref q_25, .ref q1_25, .ref q2_25, .ref q3_25])), (q_25, .inl (k 1, 10, .inl (fun _ => 0))), (q_26, .inr (0, [.ref q_24, .ref q_27, .ref q1_27, .ref q2_27, .ref q3_27]))] H := hP
  have hD : va_D A [(h0, .inr (7, [.ref q_1, .ref q_3, .ref q_4, .ref q_5, .ref q_7, .int 0, .int (-1), .ref q_8, .ref q_10, .ref q_11, .ref q_12, .ref q_14])), (q_1, .inr (6, [.ref q_2, .int 0, .int 0, .int 0, .int 0, .int 0])), (q_2, .inl (k 0, 240, .inl (fun _ => 0))), (q_3, .inl (k 3, 3, .inr (.inr (.inr (.inr (va_up (va_up (va_up (fun _ => none) (Int32.toNatClampNeg 0) (some q_16)) (Int32.toNatClampNeg 1) (some q_20)) (Int32.toNatClampNeg 2) (some q_24))))))), (q_4, .inl (k 4, 3, .inr (.inr (.inr (.inr (va_up (va_up (va_up (fun _ => none) (Int32.toNatClampNeg 0) (some q_18)) (Int32.toNatClampNeg 1) (some q_22)) (Int32.toNatClampNeg 2) (some q_26))))))), (q_5, .inr (5, [.ref q_6, .ref q1_6, .ref q2_6, .ref q3_6])), (q_6, .inl (k 1, 10, .inl (fun _ => 0))), (q_7, .inl (k 5, 4, .inr (.inr (.inr (.inr (fun _ => none)))))), (q_8, .inr (4, [.ref q_9, .ref q1_9, .int 0, .int 0, .int 0, .int 0])), (q_9, .inl (k 1, 4, .inl (fun _ => 0))), (q1_9, .inl (k 1, 4, .inl (fun _ => 0))), (q_10, .inl (k 6, 2, .inr (.inr (.inr (.inr (fun _ => none)))))), (q_11, .inl (k 2, 2, .inl (fun _ => 0))), (q_16, .inr (5, [.ref q_17, .ref q1_17, .ref q2_17, .ref q3_17])), (q_17, .inl (k 1, 10, .inl (fun _ => 0))), (q_18, .inr (0, [.ref q_16, .ref q_19, .ref q1_19, .ref q2_19, .ref q3_19])), (q_20, .inr (5, [.ref q_21, .ref q1_21, .ref q2_21, .ref q3_21])), (q_21, .inl (k 1, 10, .inl (fun _ => 0))), (q_22, .inr (0, [.ref q_20, .ref q_23, .ref q1_23, .ref q2_23, .ref q3_23])), (q_24, .inr (5, [.ref q_25, .ref q1_25, .ref q2_25, .ref q3_25])), (q_25, .inl (k 1, 10, .inl (fun _ => 0))), (q_26, .inr (0, [.ref q_24, .ref q_27, .ref q1_27, .ref q2_27, .ref q3_27]))] := hD
  refine lv_iinc (v := 3) (lv' := [(1, .int 3), (0, .ref h0)]) hx hb dX7_init_151 hl (k := 0) rfl (by decide) (by decide) rfl (fun ls hl => ?_)
  refine lv_goto (tgt := 114) hx hb dX7_init_154 (by decide) ?_
  refine lv_iload_n hx hb dX7_init_114 rfl (lv_at hl 0 rfl) ?_
  refine lv_iconst (v := 3) hx hb dX7_init_115 (by decide) ?_
  refine lv_icmp_ge (tgt := 157) hx hb dX7_init_116 (by decide) (fun _ => ?_) (fun h => absurd (by decide) h)
  refine lv_iconst (v := 0) hx hb dX7_init_157 (by decide) ?_
  refine lv_istore_n (lv' := [(1, .int 0), (0, .ref h0)]) hx hb dX7_init_158 rfl hl (by decide) rfl (fun ls hl => ?_)
  refine lv_iload_n hx hb dX7_init_159 rfl (lv_at hl 0 rfl) ?_
  refine lv_iconst (v := 4) hx hb dX7_init_160 (by decide) ?_
  refine lv_icmp_ge (tgt := 183) hx hb dX7_init_161 (by decide) (fun h => absurd h (by decide)) (fun _ => ?_)
  refine lv_aload_n hx hb dX7_init_164 rfl (lv_at hl 1 rfl) ?_
  refine va_get (D := D) (ci := 7) (v := .ref q_7) (C := RX7) (T := TX7) (N := 12) hx hb hts inX7 hown hK hP 0 rfl rfl 4 (by decide) (hts _ tw_309) (fun _ h9 => h9) rfl dX7_init_165 ?_
  refine lv_iload_n hx hb dX7_init_168 rfl (lv_at hl 0 rfl) ?_
  refine va_new (ci := 3) (fs := [.null, .null, .int 0, .int 0, .int 0]) (C := RX3) (T := TX3) (N := 5) hx hb hts inX3 tyX3 tyX3_ok hown (hts _ tw_165) (hts _ tw_284) (hts _ tw_86) hK hP hD hS hA rfl (fun j hj => match j, hj with | 0, _ => rfl | 1, _ => rfl | 2, _ => rfl | 3, _ => rfl | 4, _ => rfl | j + 5, h => absurd h (by omega)) (Nat.le_of_ble_eq_true rfl) (Nat.le_of_ble_eq_true rfl) dX7_init_169 (fun q_28 H hP hD hS => ?_)
  refine W.widen (k := 54) (n := 3118) (by decide) (by decide) ?_
  have hP : va_P D classes [(h0, .inr (7, [.ref q_1, .ref q_3, .ref q_4, .ref q_5, .ref q_7, .int 0, .int (-1), .ref q_8, .ref q_10, .ref q_11, .ref q_12, .ref q_14])), (q_1, .inr (6, [.ref q_2, .int 0, .int 0, .int 0, .int 0, .int 0])), (q_2, .inl (k 0, 240, .inl (fun _ => 0))), (q_3, .inl (k 3, 3, .inr (.inr (.inr (.inr (va_up (va_up (va_up (fun _ => none) (Int32.toNatClampNeg 0) (some q_16)) (Int32.toNatClampNeg 1) (some q_20)) (Int32.toNatClampNeg 2) (some q_24))))))), (q_4, .inl (k 4, 3, .inr (.inr (.inr (.inr (va_up (va_up (va_up (fun _ => none) (Int32.toNatClampNeg 0) (some q_18)) (Int32.toNatClampNeg 1) (some q_22)) (Int32.toNatClampNeg 2) (some q_26))))))), (q_5, .inr (5, [.ref q_6, .ref q1_6, .ref q2_6, .ref q3_6])), (q_6, .inl (k 1, 10, .inl (fun _ => 0))), (q_7, .inl (k 5, 4, .inr (.inr (.inr (.inr (fun _ => none)))))), (q_8, .inr (4, [.ref q_9, .ref q1_9, .int 0, .int 0, .int 0, .int 0])), (q_9, .inl (k 1, 4, .inl (fun _ => 0))), (q1_9, .inl (k 1, 4, .inl (fun _ => 0))), (q_10, .inl (k 6, 2, .inr (.inr (.inr (.inr (fun _ => none)))))), (q_11, .inl (k 2, 2, .inl (fun _ => 0))), (q_16, .inr (5, [.ref q_17, .ref q1_17, .ref q2_17, .ref q3_17])), (q_17, .inl (k 1, 10, .inl (fun _ => 0))), (q_18, .inr (0, [.ref q_16, .ref q_19, .ref q1_19, .ref q2_19, .ref q3_19])), (q_20, .inr (5, [.ref q_21, .ref q1_21, .ref q2_21, .ref q3_21])), (q_21, .inl (k 1, 10, .inl (fun _ => 0))), (q_22, .inr (0, [.ref q_20, .ref q_23, .ref q1_23, .ref q2_23, .ref q3_23])), (q_24, .inr (5, [.ref q_25, .ref q1_25, .ref q2_25, .ref q3_25])), (q_25, .inl (k 1, 10, .inl (fun _ => 0))), (q_26, .inr (0, [.ref q_24, .ref q_27, .ref q1_27, .ref q2_27, .ref q3_27])), (q_28, .inr (3, [.null, .null, .int 0, .int 0, .int 0]))] H := hP
  have hD : va_D A [(h0, .inr (7, [.ref q_1, .ref q_3, .ref q_4, .ref q_5, .ref q_7, .int 0, .int (-1), .ref q_8, .ref q_10, .ref q_11, .ref q_12, .ref q_14])), (q_1, .inr (6, [.ref q_2, .int 0, .int 0, .int 0, .int 0, .int 0])), (q_2, .inl (k 0, 240, .inl (fun _ => 0))), (q_3, .inl (k 3, 3, .inr (.inr (.inr (.inr (va_up (va_up (va_up (fun _ => none) (Int32.toNatClampNeg 0) (some q_16)) (Int32.toNatClampNeg 1) (some q_20)) (Int32.toNatClampNeg 2) (some q_24))))))), (q_4, .inl (k 4, 3, .inr (.inr (.inr (.inr (va_up (va_up (va_up (fun _ => none) (Int32.toNatClampNeg 0) (some q_18)) (Int32.toNatClampNeg 1) (some q_22)) (Int32.toNatClampNeg 2) (some q_26))))))), (q_5, .inr (5, [.ref q_6, .ref q1_6, .ref q2_6, .ref q3_6])), (q_6, .inl (k 1, 10, .inl (fun _ => 0))), (q_7, .inl (k 5, 4, .inr (.inr (.inr (.inr (fun _ => none)))))), (q_8, .inr (4, [.ref q_9, .ref q1_9, .int 0, .int 0, .int 0, .int 0])), (q_9, .inl (k 1, 4, .inl (fun _ => 0))), (q1_9, .inl (k 1, 4, .inl (fun _ => 0))), (q_10, .inl (k 6, 2, .inr (.inr (.inr (.inr (fun _ => none)))))), (q_11, .inl (k 2, 2, .inl (fun _ => 0))), (q_16, .inr (5, [.ref q_17, .ref q1_17, .ref q2_17, .ref q3_17])), (q_17, .inl (k 1, 10, .inl (fun _ => 0))), (q_18, .inr (0, [.ref q_16, .ref q_19, .ref q1_19, .ref q2_19, .ref q3_19])), (q_20, .inr (5, [.ref q_21, .ref q1_21, .ref q2_21, .ref q3_21])), (q_21, .inl (k 1, 10, .inl (fun _ => 0))), (q_22, .inr (0, [.ref q_20, .ref q_23, .ref q1_23, .ref q2_23, .ref q3_23])), (q_24, .inr (5, [.ref q_25, .ref q1_25, .ref q2_25, .ref q3_25])), (q_25, .inl (k 1, 10, .inl (fun _ => 0))), (q_26, .inr (0, [.ref q_24, .ref q_27, .ref q1_27, .ref q2_27, .ref q3_27])), (q_28, .inr (3, [.null, .null, .int 0, .int 0, .int 0]))] := hD
  refine lv_dup hx hb dX7_init_172 rfl ?_
  refine rw_v (D := D) (wr := [(h0, .inr (7, [.ref q_1, .ref q_3, .ref q_4, .ref q_5, .ref q_7, .int 0, .int (-1), .ref q_8, .ref q_10, .ref q_11, .ref q_12, .ref q_14])), (q_1, .inr (6, [.ref q_2, .int 0, .int 0, .int 0, .int 0, .int 0])), (q_2, .inl (k 0, 240, .inl (fun _ => 0))), (q_3, .inl (k 3, 3, .inr (.inr (.inr (.inr (va_up (va_up (va_up (fun _ => none) (Int32.toNatClampNeg 0) (some q_16)) (Int32.toNatClampNeg 1) (some q_20)) (Int32.toNatClampNeg 2) (some q_24))))))), (q_4, .inl (k 4, 3, .inr (.inr (.inr (.inr (va_up (va_up (va_up (fun _ => none) (Int32.toNatClampNeg 0) (some q_18)) (Int32.toNatClampNeg 1) (some q_22)) (Int32.toNatClampNeg 2) (some q_26))))))), (q_5, .inr (5, [.ref q_6, .ref q1_6, .ref q2_6, .ref q3_6])), (q_6, .inl (k 1, 10, .inl (fun _ => 0))), (q_7, .inl (k 5, 4, .inr (.inr (.inr (.inr (fun _ => none)))))), (q_8, .inr (4, [.ref q_9, .ref q1_9, .int 0, .int 0, .int 0, .int 0])), (q_9, .inl (k 1, 4, .inl (fun _ => 0))), (q1_9, .inl (k 1, 4, .inl (fun _ => 0))), (q_10, .inl (k 6, 2, .inr (.inr (.inr (.inr (fun _ => none)))))), (q_11, .inl (k 2, 2, .inl (fun _ => 0))), (q_16, .inr (5, [.ref q_17, .ref q1_17, .ref q2_17, .ref q3_17])), (q_17, .inl (k 1, 10, .inl (fun _ => 0))), (q_18, .inr (0, [.ref q_16, .ref q_19, .ref q1_19, .ref q2_19, .ref q3_19])), (q_20, .inr (5, [.ref q_21, .ref q1_21, .ref q2_21, .ref q3_21])), (q_21, .inl (k 1, 10, .inl (fun _ => 0))), (q_22, .inr (0, [.ref q_20, .ref q_23, .ref q1_23, .ref q2_23, .ref q3_23])), (q_24, .inr (5, [.ref q_25, .ref q1_25, .ref q2_25, .ref q3_25])), (q_25, .inl (k 1, 10, .inl (fun _ => 0))), (q_26, .inr (0, [.ref q_24, .ref q_27, .ref q1_27, .ref q2_27, .ref q3_27]))]) (va_runIN (As := []) (rest := [.ref q_28, .int 0, .ref q_7]) ⟨hx, hb, hml, hown, hts⟩ ((k_Rule_init l D k st lo q_28) H.size) ⟨va_cnB 0 hts (gLW tw_287) rfl rfl rfl (hZ.2.2.2.2.2.2.2.2.2.2.2.1 (RX7, 80, yX3_init, RX7) (List.mem_of_getElem? (i := 4) rfl)) (hts _ tw_86) (by decide +kernel) ⟨Nat.le_of_ble_eq_true rfl, Nat.le_of_ble_eq_true rfl⟩, rfl, hts _ tw_286⟩ (pS hS hAlo hlo hP hK (va_Dlo hD hAlo) hZ [22] (by decide) rfl) rfl rfl hl.1 rfl (lv_room (Nat.le_of_ble_eq_true rfl)) dX7_init_173 ⟨Nat.le_of_ble_eq_true rfl, Nat.le_of_ble_eq_true rfl⟩) hS hA hP hD [22] [0, 1, 2, 3, 4, 5, 6, 7, 8, 9, 10, 11, 12, 13, 14, 15, 16, 17, 18, 19, 20, 21] rfl rfl (by decide) (by decide) (fun u H locs hw_29 hP hD hS => ?_)
  obtain ⟨q_29, q1_29⟩ := u
  have hP : va_P D classes [(h0, .inr (7, [.ref q_1, .ref q_3, .ref q_4, .ref q_5, .ref q_7, .int 0, .int (-1), .ref q_8, .ref q_10, .ref q_11, .ref q_12, .ref q_14])), (q_1, .inr (6, [.ref q_2, .int 0, .int 0, .int 0, .int 0, .int 0])), (q_2, .inl (k 0, 240, .inl (fun _ => 0))), (q_3, .inl (k 3, 3, .inr (.inr (.inr (.inr (va_up (va_up (va_up (fun _ => none) (Int32.toNatClampNeg 0) (some q_16)) (Int32.toNatClampNeg 1) (some q_20)) (Int32.toNatClampNeg 2) (some q_24))))))), (q_4, .inl (k 4, 3, .inr (.inr (.inr (.inr (va_up (va_up (va_up (fun _ => none) (Int32.toNatClampNeg 0) (some q_18)) (Int32.toNatClampNeg 1) (some q_22)) (Int32.toNatClampNeg 2) (some q_26))))))), (q_5, .inr (5, [.ref q_6, .ref q1_6, .ref q2_6, .ref q3_6])), (q_6, .inl (k 1, 10, .inl (fun _ => 0))), (q_7, .inl (k 5, 4, .inr (.inr (.inr (.inr (fun _ => none)))))), (q_8, .inr (4, [.ref q_9, .ref q1_9, .int 0, .int 0, .int 0, .int 0])), (q_9, .inl (k 1, 4, .inl (fun _ => 0))), (q1_9, .inl (k 1, 4, .inl (fun _ => 0))), (q_10, .inl (k 6, 2, .inr (.inr (.inr (.inr (fun _ => none)))))), (q_11, .inl (k 2, 2, .inl (fun _ => 0))), (q_16, .inr (5, [.ref q_17, .ref q1_17, .ref q2_17, .ref q3_17])), (q_17, .inl (k 1, 10, .inl (fun _ => 0))), (q_18, .inr (0, [.ref q_16, .ref q_19, .ref q1_19, .ref q2_19, .ref q3_19])), (q_20, .inr (5, [.ref q_21, .ref q1_21, .ref q2_21, .ref q3_21])), (q_21, .inl (k 1, 10, .inl (fun _ => 0))), (q_22, .inr (0, [.ref q_20, .ref q_23, .ref q1_23, .ref q2_23, .ref q3_23])), (q_24, .inr (5, [.ref q_25, .ref q1_25, .ref q2_25, .ref q3_25])), (q_25, .inl (k 1, 10, .inl (fun _ => 0))), (q_26, .inr (0, [.ref q_24, .ref q_27, .ref q1_27, .ref q2_27, .ref q3_27])), (q_28, .inr (3, [.ref q_29, .ref q1_29, .int 0, .int 0, .int 0]))] H := hP
  have hD : va_D A [(h0, .inr (7, [.ref q_1, .ref q_3, .ref q_4, .ref q_5, .ref q_7, .int 0, .int (-1), .ref q_8, .ref q_10, .ref q_11, .ref q_12, .ref q_14])), (q_1, .inr (6, [.ref q_2, .int 0, .int 0, .int 0, .int 0, .int 0])), (q_2, .inl (k 0, 240, .inl (fun _ => 0))), (q_3, .inl (k 3, 3, .inr (.inr (.inr (.inr (va_up (va_up (va_up (fun _ => none) (Int32.toNatClampNeg 0) (some q_16)) (Int32.toNatClampNeg 1) (some q_20)) (Int32.toNatClampNeg 2) (some q_24))))))), (q_4, .inl (k 4, 3, .inr (.inr (.inr (.inr (va_up (va_up (va_up (fun _ => none) (Int32.toNatClampNeg 0) (some q_18)) (Int32.toNatClampNeg 1) (some q_22)) (Int32.toNatClampNeg 2) (some q_26))))))), (q_5, .inr (5, [.ref q_6, .ref q1_6, .ref q2_6, .ref q3_6])), (q_6, .inl (k 1, 10, .inl (fun _ => 0))), (q_7, .inl (k 5, 4, .inr (.inr (.inr (.inr (fun _ => none)))))), (q_8, .inr (4, [.ref q_9, .ref q1_9, .int 0, .int 0, .int 0, .int 0])), (q_9, .inl (k 1, 4, .inl (fun _ => 0))), (q1_9, .inl (k 1, 4, .inl (fun _ => 0))), (q_10, .inl (k 6, 2, .inr (.inr (.inr (.inr (fun _ => none)))))), (q_11, .inl (k 2, 2, .inl (fun _ => 0))), (q_16, .inr (5, [.ref q_17, .ref q1_17, .ref q2_17, .ref q3_17])), (q_17, .inl (k 1, 10, .inl (fun _ => 0))), (q_18, .inr (0, [.ref q_16, .ref q_19, .ref q1_19, .ref q2_19, .ref q3_19])), (q_20, .inr (5, [.ref q_21, .ref q1_21, .ref q2_21, .ref q3_21])), (q_21, .inl (k 1, 10, .inl (fun _ => 0))), (q_22, .inr (0, [.ref q_20, .ref q_23, .ref q1_23, .ref q2_23, .ref q3_23])), (q_24, .inr (5, [.ref q_25, .ref q1_25, .ref q2_25, .ref q3_25])), (q_25, .inl (k 1, 10, .inl (fun _ => 0))), (q_26, .inr (0, [.ref q_24, .ref q_27, .ref q1_27, .ref q2_27, .ref q3_27])), (q_28, .inr (3, [.ref q_29, .ref q1_29, .int 0, .int 0, .int 0]))] := hD
  try dsimp only at hw_29
  refine W.widen (k := 56) (n := 3166) (by decide) (by decide) ?_
  refine va_astq hx hb hK hP hD hS 7 5 22 3 rfl rfl rfl rfl (by unfold vp_in; decide) dX7_init_176 (fun H locs hP hD hS => ?_)
  have hP : va_P D classes [(h0, .inr (7, [.ref q_1, .ref q_3, .ref q_4, .ref q_5, .ref q_7, .int 0, .int (-1), .ref q_8, .ref q_10, .ref q_11, .ref q_12, .ref q_14])), (q_1, .inr (6, [.ref q_2, .int 0, .int 0, .int 0, .int 0, .int 0])), (q_2, .inl (k 0, 240, .inl (fun _ => 0))), (q_3, .inl (k 3, 3, .inr (.inr (.inr (.inr (va_up (va_up (va_up (fun _ => none) (Int32.toNatClampNeg 0) (some q_16)) (Int32.toNatClampNeg 1) (some q_20)) (Int32.toNatClampNeg 2) (some q_24))))))), (q_4, .inl (k 4, 3, .inr (.inr (.inr (.inr (va_up (va_up (va_up (fun _ => none) (Int32.toNatClampNeg 0) (some q_18)) (Int32.toNatClampNeg 1) (some q_22)) (Int32.toNatClampNeg 2) (some q_26))))))), (q_5, .inr (5, [.ref q_6, .ref q1_6, .ref q2_6, .ref q3_6])), (q_6, .inl (k 1, 10, .inl (fun _ => 0))), (q_7, .inl (k 5, 4, .inr (.inr (.inr (.inr (va_up (fun _ => none) (Int32.toNatClampNeg 0) (some q_28))))))), (q_8, .inr (4, [.ref q_9, .ref q1_9, .int 0, .int 0, .int 0, .int 0])), (q_9, .inl (k 1, 4, .inl (fun _ => 0))), (q1_9, .inl (k 1, 4, .inl (fun _ => 0))), (q_10, .inl (k 6, 2, .inr (.inr (.inr (.inr (fun _ => none)))))), (q_11, .inl (k 2, 2, .inl (fun _ => 0))), (q_16, .inr (5, [.ref q_17, .ref q1_17, .ref q2_17, .ref q3_17])), (q_17, .inl (k 1, 10, .inl (fun _ => 0))), (q_18, .inr (0, [.ref q_16, .ref q_19, .ref q1_19, .ref q2_19, .ref q3_19])), (q_20, .inr (5, [.ref q_21, .ref q1_21, .ref q2_21, .ref q3_21])), (q_21, .inl (k 1, 10, .inl (fun _ => 0))), (q_22, .inr (0, [.ref q_20, .ref q_23, .ref q1_23, .ref q2_23, .ref q3_23])), (q_24, .inr (5, [.ref q_25, .ref q1_25, .ref q2_25, .ref q3_25])), (q_25, .inl (k 1, 10, .inl (fun _ => 0))), (q_26, .inr (0, [.ref q_24, .ref q_27, .ref q1_27, .ref q2_27, .ref q3_27])), (q_28, .inr (3, [.ref q_29, .ref q1_29, .int 0, .int 0, .int 0]))] H := hP
  have hD : va_D A [(h0, .inr (7, [.ref q_1, .ref q_3, .ref q_4, .ref q_5, .ref q_7, .int 0, .int (-1), .ref q_8, .ref q_10, .ref q_11, .ref q_12, .ref q_14])), (q_1, .inr (6, [.ref q_2, .int 0, .int 0, .int 0, .int 0, .int 0])), (q_2, .inl (k 0, 240, .inl (fun _ => 0))), (q_3, .inl (k 3, 3, .inr (.inr (.inr (.inr (va_up (va_up (va_up (fun _ => none) (Int32.toNatClampNeg 0) (some q_16)) (Int32.toNatClampNeg 1) (some q_20)) (Int32.toNatClampNeg 2) (some q_24))))))), (q_4, .inl (k 4, 3, .inr (.inr (.inr (.inr (va_up (va_up (va_up (fun _ => none) (Int32.toNatClampNeg 0) (some q_18)) (Int32.toNatClampNeg 1) (some q_22)) (Int32.toNatClampNeg 2) (some q_26))))))), (q_5, .inr (5, [.ref q_6, .ref q1_6, .ref q2_6, .ref q3_6])), (q_6, .inl (k 1, 10, .inl (fun _ => 0))), (q_7, .inl (k 5, 4, .inr (.inr (.inr (.inr (va_up (fun _ => none) (Int32.toNatClampNeg 0) (some q_28))))))), (q_8, .inr (4, [.ref q_9, .ref q1_9, .int 0, .int 0, .int 0, .int 0])), (q_9, .inl (k 1, 4, .inl (fun _ => 0))), (q1_9, .inl (k 1, 4, .inl (fun _ => 0))), (q_10, .inl (k 6, 2, .inr (.inr (.inr (.inr (fun _ => none)))))), (q_11, .inl (k 2, 2, .inl (fun _ => 0))), (q_16, .inr (5, [.ref q_17, .ref q1_17, .ref q2_17, .ref q3_17])), (q_17, .inl (k 1, 10, .inl (fun _ => 0))), (q_18, .inr (0, [.ref q_16, .ref q_19, .ref q1_19, .ref q2_19, .ref q3_19])), (q_20, .inr (5, [.ref q_21, .ref q1_21, .ref q2_21, .ref q3_21])), (q_21, .inl (k 1, 10, .inl (fun _ => 0))), (q_22, .inr (0, [.ref q_20, .ref q_23, .ref q1_23, .ref q2_23, .ref q3_23])), (q_24, .inr (5, [.ref q_25, .ref q1_25, .ref q2_25, .ref q3_25])), (q_25, .inl (k 1, 10, .inl (fun _ => 0))), (q_26, .inr (0, [.ref q_24, .ref q_27, .ref q1_27, .ref q2_27, .ref q3_27])), (q_28, .inr (3, [.ref q_29, .ref q1_29, .int 0, .int 0, .int 0]))] := hD
  refine lv_iinc (v := 1) (lv' := [(1, .int 1), (0, .ref h0)]) hx hb dX7_init_177 hl (k := 0) rfl (by decide) (by decide) rfl (fun ls hl => ?_)
  refine lv_goto (tgt := 159) hx hb dX7_init_180 (by decide) ?_
  refine lv_iload_n hx hb dX7_init_159 rfl (lv_at hl 0 rfl) ?_
  refine lv_iconst (v := 4) hx hb dX7_init_160 (by decide) ?_
  refine lv_icmp_ge (tgt := 183) hx hb dX7_init_161 (by decide) (fun h => absurd h (by decide)) (fun _ => ?_)
  refine lv_aload_n hx hb dX7_init_164 rfl (lv_at hl 1 rfl) ?_
  refine va_get (D := D) (ci := 7) (v := .ref q_7) (C := RX7) (T := TX7) (N := 12) hx hb hts inX7 hown hK hP 0 rfl rfl 4 (by decide) (hts _ tw_309) (fun _ h9 => h9) rfl dX7_init_165 ?_
  refine lv_iload_n hx hb dX7_init_168 rfl (lv_at hl 0 rfl) ?_
  refine va_new (ci := 3) (fs := [.null, .null, .int 0, .int 0, .int 0]) (C := RX3) (T := TX3) (N := 5) hx hb hts inX3 tyX3 tyX3_ok hown (hts _ tw_165) (hts _ tw_284) (hts _ tw_86) hK hP hD hS hA rfl (fun j hj => match j, hj with | 0, _ => rfl | 1, _ => rfl | 2, _ => rfl | 3, _ => rfl | 4, _ => rfl | j + 5, h => absurd h (by omega)) (Nat.le_of_ble_eq_true rfl) (Nat.le_of_ble_eq_true rfl) dX7_init_169 (fun q_30 H hP hD hS => ?_)
  refine W.widen (k := 57) (n := 3171) (by decide) (by decide) ?_
  have hP : va_P D classes [(h0, .inr (7, [.ref q_1, .ref q_3, .ref q_4, .ref q_5, .ref q_7, .int 0, .int (-1), .ref q_8, .ref q_10, .ref q_11, .ref q_12, .ref q_14])), (q_1, .inr (6, [.ref q_2, .int 0, .int 0, .int 0, .int 0, .int 0])), (q_2, .inl (k 0, 240, .inl (fun _ => 0))), (q_3, .inl (k 3, 3, .inr (.inr (.inr (.inr (va_up (va_up (va_up (fun _ => none) (Int32.toNatClampNeg 0) (some q_16)) (Int32.toNatClampNeg 1) (some q_20)) (Int32.toNatClampNeg 2) (some q_24))))))), (q_4, .inl (k 4, 3, .inr (.inr (.inr (.inr (va_up (va_up (va_up (fun _ => none) (Int32.toNatClampNeg 0) (some q_18)) (Int32.toNatClampNeg 1) (some q_22)) (Int32.toNatClampNeg 2) (some q_26))))))), (q_5, .inr (5, [.ref q_6, .ref q1_6, .ref q2_6, .ref q3_6])), (q_6, .inl (k 1, 10, .inl (fun _ => 0))), (q_7, .inl (k 5, 4, .inr (.inr (.inr (.inr (va_up (fun _ => none) (Int32.toNatClampNeg 0) (some q_28))))))), (q_8, .inr (4, [.ref q_9, .ref q1_9, .int 0, .int 0, .int 0, .int 0])), (q_9, .inl (k 1, 4, .inl (fun _ => 0))), (q1_9, .inl (k 1, 4, .inl (fun _ => 0))), (q_10, .inl (k 6, 2, .inr (.inr (.inr (.inr (fun _ => none)))))), (q_11, .inl (k 2, 2, .inl (fun _ => 0))), (q_16, .inr (5, [.ref q_17, .ref q1_17, .ref q2_17, .ref q3_17])), (q_17, .inl (k 1, 10, .inl (fun _ => 0))), (q_18, .inr (0, [.ref q_16, .ref q_19, .ref q1_19, .ref q2_19, .ref q3_19])), (q_20, .inr (5, [.ref q_21, .ref q1_21, .ref q2_21, .ref q3_21])), (q_21, .inl (k 1, 10, .inl (fun _ => 0))), (q_22, .inr (0, [.ref q_20, .ref q_23, .ref q1_23, .ref q2_23, .ref q3_23])), (q_24, .inr (5, [.ref q_25, .ref q1_25, .ref q2_25, .ref q3_25])), (q_25, .inl (k 1, 10, .inl (fun _ => 0))), (q_26, .inr (0, [.ref q_24, .ref q_27, .ref q1_27, .ref q2_27, .ref q3_27])), (q_28, .inr (3, [.ref q_29, .ref q1_29, .int 0, .int 0, .int 0])), (q_30, .inr (3, [.null, .null, .int 0, .int 0, .int 0]))] H := hP
  have hD : va_D A [(h0, .inr (7, [.ref q_1, .ref q_3, .ref q_4, .ref q_5, .ref q_7, .int 0, .int (-1), .ref q_8, .ref q_10, .ref q_11, .ref q_12, .ref q_14])), (q_1, .inr (6, [.ref q_2, .int 0, .int 0, .int 0, .int 0, .int 0])), (q_2, .inl (k 0, 240, .inl (fun _ => 0))), (q_3, .inl (k 3, 3, .inr (.inr (.inr (.inr (va_up (va_up (va_up (fun _ => none) (Int32.toNatClampNeg 0) (some q_16)) (Int32.toNatClampNeg 1) (some q_20)) (Int32.toNatClampNeg 2) (some q_24))))))), (q_4, .inl (k 4, 3, .inr (.inr (.inr (.inr (va_up (va_up (va_up (fun _ => none) (Int32.toNatClampNeg 0) (some q_18)) (Int32.toNatClampNeg 1) (some q_22)) (Int32.toNatClampNeg 2) (some q_26))))))), (q_5, .inr (5, [.ref q_6, .ref q1_6, .ref q2_6, .ref q3_6])), (q_6, .inl (k 1, 10, .inl (fun _ => 0))), (q_7, .inl (k 5, 4, .inr (.inr (.inr (.inr (va_up (fun _ => none) (Int32.toNatClampNeg 0) (some q_28))))))), (q_8, .inr (4, [.ref q_9, .ref q1_9, .int 0, .int 0, .int 0, .int 0])), (q_9, .inl (k 1, 4, .inl (fun _ => 0))), (q1_9, .inl (k 1, 4, .inl (fun _ => 0))), (q_10, .inl (k 6, 2, .inr (.inr (.inr (.inr (fun _ => none)))))), (q_11, .inl (k 2, 2, .inl (fun _ => 0))), (q_16, .inr (5, [.ref q_17, .ref q1_17, .ref q2_17, .ref q3_17])), (q_17, .inl (k 1, 10, .inl (fun _ => 0))), (q_18, .inr (0, [.ref q_16, .ref q_19, .ref q1_19, .ref q2_19, .ref q3_19])), (q_20, .inr (5, [.ref q_21, .ref q1_21, .ref q2_21, .ref q3_21])), (q_21, .inl (k 1, 10, .inl (fun _ => 0))), (q_22, .inr (0, [.ref q_20, .ref q_23, .ref q1_23, .ref q2_23, .ref q3_23])), (q_24, .inr (5, [.ref q_25, .ref q1_25, .ref q2_25, .ref q3_25])), (q_25, .inl (k 1, 10, .inl (fun _ => 0))), (q_26, .inr (0, [.ref q_24, .ref q_27, .ref q1_27, .ref q2_27, .ref q3_27])), (q_28, .inr (3, [.ref q_29, .ref q1_29, .int 0, .int 0, .int 0])), (q_30, .inr (3, [.null, .null, .int 0, .int 0, .int 0]))] := hD
  refine lv_dup hx hb dX7_init_172 rfl ?_
  refine rw_v (D := D) (wr := [(h0, .inr (7, [.ref q_1, .ref q_3, .ref q_4, .ref q_5, .ref q_7, .int 0, .int (-1), .ref q_8, .ref q_10, .ref q_11, .ref q_12, .ref q_14])), (q_1, .inr (6, [.ref q_2, .int 0, .int 0, .int 0, .int 0, .int 0])), (q_2, .inl (k 0, 240, .inl (fun _ => 0))), (q_3, .inl (k 3, 3, .inr (.inr (.inr (.inr (va_up (va_up (va_up (fun _ => none) (Int32.toNatClampNeg 0) (some q_16)) (Int32.toNatClampNeg 1) (some q_20)) (Int32.toNatClampNeg 2) (some q_24))))))), (q_4, .inl (k 4, 3, .inr (.inr (.inr (.inr (va_up (va_up (va_up (fun _ => none) (Int32.toNatClampNeg 0) (some q_18)) (Int32.toNatClampNeg 1) (some q_22)) (Int32.toNatClampNeg 2) (some q_26))))))), (q_5, .inr (5, [.ref q_6, .ref q1_6, .ref q2_6, .ref q3_6])), (q_6, .inl (k 1, 10, .inl (fun _ => 0))), (q_7, .inl (k 5, 4, .inr (.inr (.inr (.inr (va_up (fun _ => none) (Int32.toNatClampNeg 0) (some q_28))))))), (q_8, .inr (4, [.ref q_9, .ref q1_9, .int 0, .int 0, .int 0, .int 0])), (q_9, .inl (k 1, 4, .inl (fun _ => 0))), (q1_9, .inl (k 1, 4, .inl (fun _ => 0))), (q_10, .inl (k 6, 2, .inr (.inr (.inr (.inr (fun _ => none)))))), (q_11, .inl (k 2, 2, .inl (fun _ => 0))), (q_16, .inr (5, [.ref q_17, .ref q1_17, .ref q2_17, .ref q3_17])), (q_17, .inl (k 1, 10, .inl (fun _ => 0))), (q_18, .inr (0, [.ref q_16, .ref q_19, .ref q1_19, .ref q2_19, .ref q3_19])), (q_20, .inr (5, [.ref q_21, .ref q1_21, .ref q2_21, .ref q3_21])), (q_21, .inl (k 1, 10, .inl (fun _ => 0))), (q_22, .inr (0, [.ref q_20, .ref q_23, .ref q1_23, .ref q2_23, .ref q3_23])), (q_24, .inr (5, [.ref q_25, .ref q1_25, .ref q2_25, .ref q3_25])), (q_25, .inl (k 1, 10, .inl (fun _ => 0))), (q_26, .inr (0, [.ref q_24, .ref q_27, .ref q1_27, .ref q2_27, .ref q3_27])), (q_28, .inr (3, [.ref q_29, .ref q1_29, .int 0, .int 0, .int 0]))]) (va_runIN (As := []) (rest := [.ref q_30, .int 1, .ref q_7]) ⟨hx, hb, hml, hown, hts⟩ ((k_Rule_init l D k st lo q_30) H.size) ⟨va_cnB 0 hts (gLW tw_287) rfl rfl rfl (hZ.2.2.2.2.2.2.2.2.2.2.2.1 (RX7, 80, yX3_init, RX7) (List.mem_of_getElem? (i := 4) rfl)) (hts _ tw_86) (by decide +kernel) ⟨Nat.le_of_ble_eq_true rfl, Nat.le_of_ble_eq_true rfl⟩, rfl, hts _ tw_286⟩ (pS hS hAlo hlo hP hK (va_Dlo hD hAlo) hZ [23] (by decide) rfl) rfl rfl hl.1 rfl (lv_room (Nat.le_of_ble_eq_true rfl)) dX7_init_173 ⟨Nat.le_of_ble_eq_true rfl, Nat.le_of_ble_eq_true rfl⟩) hS hA hP hD [23] [0, 1, 2, 3, 4, 5, 6, 7, 8, 9, 10, 11, 12, 13, 14, 15, 16, 17, 18, 19, 20, 21, 22] rfl rfl (by decide) (by decide) (fun u H locs hw_31 hP hD hS => ?_)
  obtain ⟨q_31, q1_31⟩ := u
  have hP : va_P D classes [(h0, .inr (7, [.ref q_1, .ref q_3, .ref q_4, .ref q_5, .ref q_7, .int 0, .int (-1), .ref q_8, .ref q_10, .ref q_11, .ref q_12, .ref q_14])), (q_1, .inr (6, [.ref q_2, .int 0, .int 0, .int 0, .int 0, .int 0])), (q_2, .inl (k 0, 240, .inl (fun _ => 0))), (q_3, .inl (k 3, 3, .inr (.inr (.inr (.inr (va_up (va_up (va_up (fun _ => none) (Int32.toNatClampNeg 0) (some q_16)) (Int32.toNatClampNeg 1) (some q_20)) (Int32.toNatClampNeg 2) (some q_24))))))), (q_4, .inl (k 4, 3, .inr (.inr (.inr (.inr (va_up (va_up (va_up (fun _ => none) (Int32.toNatClampNeg 0) (some q_18)) (Int32.toNatClampNeg 1) (some q_22)) (Int32.toNatClampNeg 2) (some q_26))))))), (q_5, .inr (5, [.ref q_6, .ref q1_6, .ref q2_6, .ref q3_6])), (q_6, .inl (k 1, 10, .inl (fun _ => 0))), (q_7, .inl (k 5, 4, .inr (.inr (.inr (.inr (va_up (fun _ => none) (Int32.toNatClampNeg 0) (some q_28))))))), (q_8, .inr (4, [.ref q_9, .ref q1_9, .int 0, .int 0, .int 0, .int 0])), (q_9, .inl (k 1, 4, .inl (fun _ => 0))), (q1_9, .inl (k 1, 4, .inl (fun _ => 0))), (q_10, .inl (k 6, 2, .inr (.inr (.inr (.inr (fun _ => none)))))), (q_11, .inl (k 2, 2, .inl (fun _ => 0))), (q_16, .inr (5, [.ref q_17, .ref q1_17, .ref q2_17, .ref q3_17])), (q_17, .inl (k 1, 10, .inl (fun _ => 0))), (q_18, .inr (0, [.ref q_16, .ref q_19, .ref q1_19, .ref q2_19, .ref q3_19])), (q_20, .inr (5, [.ref q_21, .ref q1_21, .ref q2_21, .ref q3_21])), (q_21, .inl (k 1, 10, .inl (fun _ => 0))), (q_22, .inr (0, [.ref q_20, .ref q_23, .ref q1_23, .ref q2_23, .ref q3_23])), (q_24, .inr (5, [.ref q_25, .ref q1_25, .ref q2_25, .ref q3_25])), (q_25, .inl (k 1, 10, .inl (fun _ => 0))), (q_26, .inr (0, [.ref q_24, .ref q_27, .ref q1_27, .ref q2_27, .ref q3_27])), (q_28, .inr (3, [.ref q_29, .ref q1_29, .int 0, .int 0, .int 0])), (q_30, .inr (3, [.ref q_31, .ref q1_31, .int 0, .int 0, .int 0]))] H := hP
  have hD : va_D A [(h0, .inr (7, [.ref q_1, .ref q_3, .ref q_4, .ref q_5, .ref q_7, .int 0, .int (-1), .ref q_8, .ref q_10, .ref q_11, .ref q_12, .ref q_14])), (q_1, .inr (6, [.ref q_2, .int 0, .int 0, .int 0, .int 0, .int 0])), (q_2, .inl (k 0, 240, .inl (fun _ => 0))), (q_3, .inl (k 3, 3, .inr (.inr (.inr (.inr (va_up (va_up (va_up (fun _ => none) (Int32.toNatClampNeg 0) (some q_16)) (Int32.toNatClampNeg 1) (some q_20)) (Int32.toNatClampNeg 2) (some q_24))))))), (q_4, .inl (k 4, 3, .inr (.inr (.inr (.inr (va_up (va_up (va_up (fun _ => none) (Int32.toNatClampNeg 0) (some q_18)) (Int32.toNatClampNeg 1) (some q_22)) (Int32.toNatClampNeg 2) (some q_26))))))), (q_5, .inr (5, [.ref q_6, .ref q1_6, .ref q2_6, .ref q3_6])), (q_6, .inl (k 1, 10, .inl (fun _ => 0))), (q_7, .inl (k 5, 4, .inr (.inr (.inr (.inr (va_up (fun _ => none) (Int32.toNatClampNeg 0) (some q_28))))))), (q_8, .inr (4, [.ref q_9, .ref q1_9, .int 0, .int 0, .int 0, .int 0])), (q_9, .inl (k 1, 4, .inl (fun _ => 0))), (q1_9, .inl (k 1, 4, .inl (fun _ => 0))), (q_10, .inl (k 6, 2, .inr (.inr (.inr (.inr (fun _ => none)))))), (q_11, .inl (k 2, 2, .inl (fun _ => 0))), (q_16, .inr (5, [.ref q_17, .ref q1_17, .ref q2_17, .ref q3_17])), (q_17, .inl (k 1, 10, .inl (fun _ => 0))), (q_18, .inr (0, [.ref q_16, .ref q_19, .ref q1_19, .ref q2_19, .ref q3_19])), (q_20, .inr (5, [.ref q_21, .ref q1_21, .ref q2_21, .ref q3_21])), (q_21, .inl (k 1, 10, .inl (fun _ => 0))), (q_22, .inr (0, [.ref q_20, .ref q_23, .ref q1_23, .ref q2_23, .ref q3_23])), (q_24, .inr (5, [.ref q_25, .ref q1_25, .ref q2_25, .ref q3_25])), (q_25, .inl (k 1, 10, .inl (fun _ => 0))), (q_26, .inr (0, [.ref q_24, .ref q_27, .ref q1_27, .ref q2_27, .ref q3_27])), (q_28, .inr (3, [.ref q_29, .ref q1_29, .int 0, .int 0, .int 0])), (q_30, .inr (3, [.ref q_31, .ref q1_31, .int 0, .int 0, .int 0]))] := hD
  try dsimp only at hw_31
  refine W.widen (k := 59) (n := 3219) (by decide) (by decide) ?_
  refine va_astq hx hb hK hP hD hS 7 5 23 3 rfl rfl rfl rfl (by unfold vp_in; decide) dX7_init_176 (fun H locs hP hD hS => ?_)
  have hP : va_P D classes [(h0, .inr (7, [.ref q_1, .ref q_3, .ref q_4, .ref q_5, .ref q_7, .int 0, .int (-1), .ref q_8, .ref q_10, .ref q_11, .ref q_12, .ref q_14])), (q_1, .inr (6, [.ref q_2, .int 0, .int 0, .int 0, .int 0, .int 0])), (q_2, .inl (k 0, 240, .inl (fun _ => 0))), (q_3, .inl (k 3, 3, .inr (.inr (.inr (.inr (va_up (va_up (va_up (fun _ => none) (Int32.toNatClampNeg 0) (some q_16)) (Int32.toNatClampNeg 1) (some q_20)) (Int32.toNatClampNeg 2) (some q_24))))))), (q_4, .inl (k 4, 3, .inr (.inr (.inr (.inr (va_up (va_up (va_up (fun _ => none) (Int32.toNatClampNeg 0) (some q_18)) (Int32.toNatClampNeg 1) (some q_22)) (Int32.toNatClampNeg 2) (some q_26))))))), (q_5, .inr (5, [.ref q_6, .ref q1_6, .ref q2_6, .ref q3_6])), (q_6, .inl (k 1, 10, .inl (fun _ => 0))), (q_7, .inl (k 5, 4, .inr (.inr (.inr (.inr (va_up (va_up (fun _ => none) (Int32.toNatClampNeg 0) (some q_28)) (Int32.toNatClampNeg 1) (some q_30))))))), (q_8, .inr (4, [.ref q_9, .ref q1_9, .int 0, .int 0, .int 0, .int 0])), (q_9, .inl (k 1, 4, .inl (fun _ => 0))), (q1_9, .inl (k 1, 4, .inl (fun _ => 0))), (q_10, .inl (k 6, 2, .inr (.inr (.inr (.inr (fun _ => none)))))), (q_11, .inl (k 2, 2, .inl (fun _ => 0))), (q_16, .inr (5, [.ref q_17, .ref q1_17, .ref q2_17, .ref q3_17])), (q_17, .inl (k 1, 10, .inl (fun _ => 0))), (q_18, .inr (0, [.ref q_16, .ref q_19, .ref q1_19, .ref q2_19, .ref q3_19])), (q_20, .inr (5, [.ref q_21, .ref q1_21, .ref q2_21, .ref q3_21])), (q_21, .inl (k 1, 10, .inl (fun _ => 0))), (q_22, .inr (0, [.ref q_20, .ref q_23, .ref q1_23, .ref q2_23, .ref q3_23])), (q_24, .inr (5, [.ref q_25, .ref q1_25, .ref q2_25, .ref q3_25])), (q_25, .inl (k 1, 10, .inl (fun _ => 0))), (q_26, .inr (0, [.ref q_24, .ref q_27, .ref q1_27, .ref q2_27, .ref q3_27])), (q_28, .inr (3, [.ref q_29, .ref q1_29, .int 0, .int 0, .int 0])), (q_30, .inr (3, [.ref q_31, .ref q1_31, .int 0, .int 0, .int 0]))] H := hP
  have hD : va_D A [(h0, .inr (7, [.ref q_1, .ref q_3, .ref q_4, .ref q_5, .ref q_7, .int 0, .int (-1), .ref q_8, .ref q_10, .ref q_11, .ref q_12, .ref q_14])), (q_1, .inr (6, [.ref q_2, .int 0, .int 0, .int 0, .int 0, .int 0])), (q_2, .inl (k 0, 240, .inl (fun _ => 0))), (q_3, .inl (k 3, 3, .inr (.inr (.inr (.inr (va_up (va_up (va_up (fun _ => none) (Int32.toNatClampNeg 0) (some q_16)) (Int32.toNatClampNeg 1) (some q_20)) (Int32.toNatClampNeg 2) (some q_24))))))), (q_4, .inl (k 4, 3, .inr (.inr (.inr (.inr (va_up (va_up (va_up (fun _ => none) (Int32.toNatClampNeg 0) (some q_18)) (Int32.toNatClampNeg 1) (some q_22)) (Int32.toNatClampNeg 2) (some q_26))))))), (q_5, .inr (5, [.ref q_6, .ref q1_6, .ref q2_6, .ref q3_6])), (q_6, .inl (k 1, 10, .inl (fun _ => 0))), (q_7, .inl (k 5, 4, .inr (.inr (.inr (.inr (va_up (va_up (fun _ => none) (Int32.toNatClampNeg 0) (some q_28)) (Int32.toNatClampNeg 1) (some q_30))))))), (q_8, .inr (4, [.ref q_9, .ref q1_9, .int 0, .int 0, .int 0, .int 0])), (q_9, .inl (k 1, 4, .inl (fun _ => 0))), (q1_9, .inl (k 1, 4, .inl (fun _ => 0))), (q_10, .inl (k 6, 2, .inr (.inr (.inr (.inr (fun _ => none)))))), (q_11, .inl (k 2, 2, .inl (fun _ => 0))), (q_16, .inr (5, [.ref q_17, .ref q1_17, .ref q2_17, .ref q3_17])), (q_17, .inl (k 1, 10, .inl (fun _ => 0))), (q_18, .inr (0, [.ref q_16, .ref q_19, .ref q1_19, .ref q2_19, .ref q3_19])), (q_20, .inr (5, [.ref q_21, .ref q1_21, .ref q2_21, .ref q3_21])), (q_21, .inl (k 1, 10, .inl (fun _ => 0))), (q_22, .inr (0, [.ref q_20, .ref q_23, .ref q1_23, .ref q2_23, .ref q3_23])), (q_24, .inr (5, [.ref q_25, .ref q1_25, .ref q2_25, .ref q3_25])), (q_25, .inl (k 1, 10, .inl (fun _ => 0))), (q_26, .inr (0, [.ref q_24, .ref q_27, .ref q1_27, .ref q2_27, .ref q3_27])), (q_28, .inr (3, [.ref q_29, .ref q1_29, .int 0, .int 0, .int 0])), (q_30, .inr (3, [.ref q_31, .ref q1_31, .int 0, .int 0, .int 0]))] := hD
  refine lv_iinc (v := 2) (lv' := [(1, .int 2), (0, .ref h0)]) hx hb dX7_init_177 hl (k := 0) rfl (by decide) (by decide) rfl (fun ls hl => ?_)
  refine lv_goto (tgt := 159) hx hb dX7_init_180 (by decide) ?_
  refine lv_iload_n hx hb dX7_init_159 rfl (lv_at hl 0 rfl) ?_
  refine lv_iconst (v := 4) hx hb dX7_init_160 (by decide) ?_
  refine lv_icmp_ge (tgt := 183) hx hb dX7_init_161 (by decide) (fun h => absurd h (by decide)) (fun _ => ?_)
  refine lv_aload_n hx hb dX7_init_164 rfl (lv_at hl 1 rfl) ?_
  refine va_get (D := D) (ci := 7) (v := .ref q_7) (C := RX7) (T := TX7) (N := 12) hx hb hts inX7 hown hK hP 0 rfl rfl 4 (by decide) (hts _ tw_309) (fun _ h9 => h9) rfl dX7_init_165 ?_
  refine lv_iload_n hx hb dX7_init_168 rfl (lv_at hl 0 rfl) ?_
  refine va_new (ci := 3) (fs := [.null, .null, .int 0, .int 0, .int 0]) (C := RX3) (T := TX3) (N := 5) hx hb hts inX3 tyX3 tyX3_ok hown (hts _ tw_165) (hts _ tw_284) (hts _ tw_86) hK hP hD hS hA rfl (fun j hj => match j, hj with | 0, _ => rfl | 1, _ => rfl | 2, _ => rfl | 3, _ => rfl | 4, _ => rfl | j + 5, h => absurd h (by omega)) (Nat.le_of_ble_eq_true rfl) (Nat.le_of_ble_eq_true rfl) dX7_init_169 (fun q_32 H hP hD hS => ?_)
  refine W.widen (k := 60) (n := 3224) (by decide) (by decide) ?_
  have hP : va_P D classes [(h0, .inr (7, [.ref q_1, .ref q_3, .ref q_4, .ref q_5, .ref q_7, .int 0, .int (-1), .ref q_8, .ref q_10, .ref q_11, .ref q_12, .ref q_14])), (q_1, .inr (6, [.ref q_2, .int 0, .int 0, .int 0, .int 0, .int 0])), (q_2, .inl (k 0, 240, .inl (fun _ => 0))), (q_3, .inl (k 3, 3, .inr (.inr (.inr (.inr (va_up (va_up (va_up (fun _ => none) (Int32.toNatClampNeg 0) (some q_16)) (Int32.toNatClampNeg 1) (some q_20)) (Int32.toNatClampNeg 2) (some q_24))))))), (q_4, .inl (k 4, 3, .inr (.inr (.inr (.inr (va_up (va_up (va_up (fun _ => none) (Int32.toNatClampNeg 0) (some q_18)) (Int32.toNatClampNeg 1) (some q_22)) (Int32.toNatClampNeg 2) (some q_26))))))), (q_5, .inr (5, [.ref q_6, .ref q1_6, .ref q2_6, .ref q3_6])), (q_6, .inl (k 1, 10, .inl (fun _ => 0))), (q_7, .inl (k 5, 4, .inr (.inr (.inr (.inr (va_up (va_up (fun _ => none) (Int32.toNatClampNeg 0) (some q_28)) (Int32.toNatClampNeg 1) (some q_30))))))), (q_8, .inr (4, [.ref q_9, .ref q1_9, .int 0, .int 0, .int 0, .int 0])), (q_9, .inl (k 1, 4, .inl (fun _ => 0))), (q1_9, .inl (k 1, 4, .inl (fun _ => 0))), (q_10, .inl (k 6, 2, .inr (.inr (.inr (.inr (fun _ => none)))))), (q_11, .inl (k 2, 2, .inl (fun _ => 0))), (q_16, .inr (5, [.ref q_17, .ref q1_17, .ref q2_17, .ref q3_17])), (q_17, .inl (k 1, 10, .inl (fun _ => 0))), (q_18, .inr (0, [.ref q_16, .ref q_19, .ref q1_19, .ref q2_19, .ref q3_19])), (q_20, .inr (5, [.ref q_21, .ref q1_21, .ref q2_21, .ref q3_21])), (q_21, .inl (k 1, 10, .inl (fun _ => 0))), (q_22, .inr (0, [.ref q_20, .ref q_23, .ref q1_23, .ref q2_23, .ref q3_23])), (q_24, .inr (5, [.ref q_25, .ref q1_25, .ref q2_25, .ref q3_25])), (q_25, .inl (k 1, 10, .inl (fun _ => 0))), (q_26, .inr (0, [.ref q_24, .ref q_27, .ref q1_27, .ref q2_27, .ref q3_27])), (q_28, .inr (3, [.ref q_29, .ref q1_29, .int 0, .int 0, .int 0])), (q_30, .inr (3, [.ref q_31, .ref q1_31, .int 0, .int 0, .int 0])), (q_32, .inr (3, [.null, .null, .int 0, .int 0, .int 0]))] H := hP
  have hD : va_D A [(h0, .inr (7, [.ref q_1, .ref q_3, .ref q_4, .ref q_5, .ref q_7, .int 0, .int (-1), .ref q_8, .ref q_10, .ref q_11, .ref q_12, .ref q_14])), (q_1, .inr (6, [.ref q_2, .int 0, .int 0, .int 0, .int 0, .int 0])), (q_2, .inl (k 0, 240, .inl (fun _ => 0))), (q_3, .inl (k 3, 3, .inr (.inr (.inr (.inr (va_up (va_up (va_up (fun _ => none) (Int32.toNatClampNeg 0) (some q_16)) (Int32.toNatClampNeg 1) (some q_20)) (Int32.toNatClampNeg 2) (some q_24))))))), (q_4, .inl (k 4, 3, .inr (.inr (.inr (.inr (va_up (va_up (va_up (fun _ => none) (Int32.toNatClampNeg 0) (some q_18)) (Int32.toNatClampNeg 1) (some q_22)) (Int32.toNatClampNeg 2) (some q_26))))))), (q_5, .inr (5, [.ref q_6, .ref q1_6, .ref q2_6, .ref q3_6])), (q_6, .inl (k 1, 10, .inl (fun _ => 0))), (q_7, .inl (k 5, 4, .inr (.inr (.inr (.inr (va_up (va_up (fun _ => none) (Int32.toNatClampNeg 0) (some q_28)) (Int32.toNatClampNeg 1) (some q_30))))))), (q_8, .inr (4, [.ref q_9, .ref q1_9, .int 0, .int 0, .int 0, .int 0])), (q_9, .inl (k 1, 4, .inl (fun _ => 0))), (q1_9, .inl (k 1, 4, .inl (fun _ => 0))), (q_10, .inl (k 6, 2, .inr (.inr (.inr (.inr (fun _ => none)))))), (q_11, .inl (k 2, 2, .inl (fun _ => 0))), (q_16, .inr (5, [.ref q_17, .ref q1_17, .ref q2_17, .ref q3_17])), (q_17, .inl (k 1, 10, .inl (fun _ => 0))), (q_18, .inr (0, [.ref q_16, .ref q_19, .ref q1_19, .ref q2_19, .ref q3_19])), (q_20, .inr (5, [.ref q_21, .ref q1_21, .ref q2_21, .ref q3_21])), (q_21, .inl (k 1, 10, .inl (fun _ => 0))), (q_22, .inr (0, [.ref q_20, .ref q_23, .ref q1_23, .ref q2_23, .ref q3_23])), (q_24, .inr (5, [.ref q_25, .ref q1_25, .ref q2_25, .ref q3_25])), (q_25, .inl (k 1, 10, .inl (fun _ => 0))), (q_26, .inr (0, [.ref q_24, .ref q_27, .ref q1_27, .ref q2_27, .ref q3_27])), (q_28, .inr (3, [.ref q_29, .ref q1_29, .int 0, .int 0, .int 0])), (q_30, .inr (3, [.ref q_31, .ref q1_31, .int 0, .int 0, .int 0])), (q_32, .inr (3, [.null, .null, .int 0, .int 0, .int 0]))] := hD
  refine lv_dup hx hb dX7_init_172 rfl ?_
  refine rw_v (D := D) (wr := [(h0, .inr (7, [.ref q_1, .ref q_3, .ref q_4, .ref q_5, .ref q_7, .int 0, .int (-1), .ref q_8, .ref q_10, .ref q_11, .ref q_12, .ref q_14])), (q_1, .inr (6, [.ref q_2, .int 0, .int 0, .int 0, .int 0, .int 0])), (q_2, .inl (k 0, 240, .inl (fun _ => 0))), (q_3, .inl (k 3, 3, .inr (.inr (.inr (.inr (va_up (va_up (va_up (fun _ => none) (Int32.toNatClampNeg 0) (some q_16)) (Int32.toNatClampNeg 1) (some q_20)) (Int32.toNatClampNeg 2) (some q_24))))))), (q_4, .inl (k 4, 3, .inr (.inr (.inr (.inr (va_up (va_up (va_up (fun _ => none) (Int32.toNatClampNeg 0) (some q_18)) (Int32.toNatClampNeg 1) (some q_22)) (Int32.toNatClampNeg 2) (some q_26))))))), (q_5, .inr (5, [.ref q_6, .ref q1_6, .ref q2_6, .ref q3_6])), (q_6, .inl (k 1, 10, .inl (fun _ => 0))), (q_7, .inl (k 5, 4, .inr (.inr (.inr (.inr (va_up (va_up (fun _ => none) (Int32.toNatClampNeg 0) (some q_28)) (Int32.toNatClampNeg 1) (some q_30))))))), (q_8, .inr (4, [.ref q_9, .ref q1_9, .int 0, .int 0, .int 0, .int 0])), (q_9, .inl (k 1, 4, .inl (fun _ => 0))), (q1_9, .inl (k 1, 4, .inl (fun _ => 0))), (q_10, .inl (k 6, 2, .inr (.inr (.inr (.inr (fun _ => none)))))), (q_11, .inl (k 2, 2, .inl (fun _ => 0))), (q_16, .inr (5, [.ref q_17, .ref q1_17, .ref q2_17, .ref q3_17])), (q_17, .inl (k 1, 10, .inl (fun _ => 0))), (q_18, .inr (0, [.ref q_16, .ref q_19, .ref q1_19, .ref q2_19, .ref q3_19])), (q_20, .inr (5, [.ref q_21, .ref q1_21, .ref q2_21, .ref q3_21])), (q_21, .inl (k 1, 10, .inl (fun _ => 0))), (q_22, .inr (0, [.ref q_20, .ref q_23, .ref q1_23, .ref q2_23, .ref q3_23])), (q_24, .inr (5, [.ref q_25, .ref q1_25, .ref q2_25, .ref q3_25])), (q_25, .inl (k 1, 10, .inl (fun _ => 0))), (q_26, .inr (0, [.ref q_24, .ref q_27, .ref q1_27, .ref q2_27, .ref q3_27])), (q_28, .inr (3, [.ref q_29, .ref q1_29, .int 0, .int 0, .int 0])), (q_30, .inr (3, [.ref q_31, .ref q1_31, .int 0, .int 0, .int 0]))]) (va_runIN (As := []) (rest := [.ref q_32, .int 2, .ref q_7]) ⟨hx, hb, hml, hown, hts⟩ ((k_Rule_init l D k st lo q_32) H.size) ⟨va_cnB 0 hts (gLW tw_287) rfl rfl rfl (hZ.2.2.2.2.2.2.2.2.2.2.2.1 (RX7, 80, yX3_init, RX7) (List.mem_of_getElem? (i := 4) rfl)) (hts _ tw_86) (by decide +kernel) ⟨Nat.le_of_ble_eq_true rfl, Nat.le_of_ble_eq_true rfl⟩, rfl, hts _ tw_286⟩ (pS hS hAlo hlo hP hK (va_Dlo hD hAlo) hZ [24] (by decide) rfl) rfl rfl hl.1 rfl (lv_room (Nat.le_of_ble_eq_true rfl)) dX7_init_173 ⟨Nat.le_of_ble_eq_true rfl, Nat.le_of_ble_eq_true rfl⟩) hS hA hP hD [24] [0, 1, 2, 3, 4, 5, 6, 7, 8, 9, 10, 11, 12, 13, 14, 15, 16, 17, 18, 19, 20, 21, 22, 23] rfl rfl (by decide) (by decide) (fun u H locs hw_33 hP hD hS => ?_)
  obtain ⟨q_33, q1_33⟩ := u
  have hP : va_P D classes [(h0, .inr (7, [.ref q_1, .ref q_3, .ref q_4, .ref q_5, .ref q_7, .int 0, .int (-1), .ref q_8, .ref q_10, .ref q_11, .ref q_12, .ref q_14])), (q_1, .inr (6, [.ref q_2, .int 0, .int 0, .int 0, .int 0, .int 0])), (q_2, .inl (k 0, 240, .inl (fun _ => 0))), (q_3, .inl (k 3, 3, .inr (.inr (.inr (.inr (va_up (va_up (va_up (fun _ => none) (Int32.toNatClampNeg 0) (some q_16)) (Int32.toNatClampNeg 1) (some q_20)) (Int32.toNatClampNeg 2) (some q_24))))))), (q_4, .inl (k 4, 3, .inr (.inr (.inr (.inr (va_up (va_up (va_up (fun _ => none) (Int32.toNatClampNeg 0) (some q_18)) (Int32.toNatClampNeg 1) (some q_22)) (Int32.toNatClampNeg 2) (some q_26))))))), (q_5, .inr (5, [.ref q_6, .ref q1_6, .ref q2_6, .ref q3_6])), (q_6, .inl (k 1, 10, .inl (fun _ => 0))), (q_7, .inl (k 5, 4, .inr (.inr (.inr (.inr (va_up (va_up (fun _ => none) (Int32.toNatClampNeg 0) (some q_28)) (Int32.toNatClampNeg 1) (some q_30))))))), (q_8, .inr (4, [.ref q_9, .ref q1_9, .int 0, .int 0, .int 0, .int 0])), (q_9, .inl (k 1, 4, .inl (fun _ => 0))), (q1_9, .inl (k 1, 4, .inl (fun _ => 0))), (q_10, .inl (k 6, 2, .inr (.inr (.inr (.inr (fun _ => none)))))), (q_11, .inl (k 2, 2, .inl (fun _ => 0))), (q_16, .inr (5, [.ref q_17, .ref q1_17, .ref q2_17, .ref q3_17])), (q_17, .inl (k 1, 10, .inl (fun _ => 0))), (q_18, .inr (0, [.ref q_16, .ref q_19, .ref q1_19, .ref q2_19, .ref q3_19])), (q_20, .inr (5, [.ref q_21, .ref q1_21, .ref q2_21, .ref q3_21])), (q_21, .inl (k 1, 10, .inl (fun _ => 0))), (q_22, .inr (0, [.ref q_20, .ref q_23, .ref q1_23, .ref q2_23, .ref q3_23])), (q_24, .inr (5, [.ref q_25, .ref q1_25, .ref q2_25, .ref q3_25])), (q_25, .inl (k 1, 10, .inl (fun _ => 0))), (q_26, .inr (0, [.ref q_24, .ref q_27, .ref q1_27, .ref q2_27, .ref q3_27])), (q_28, .inr (3, [.ref q_29, .ref q1_29, .int 0, .int 0, .int 0])), (q_30, .inr (3, [.ref q_31, .ref q1_31, .int 0, .int 0, .int 0])), (q_32, .inr (3, [.ref q_33, .ref q1_33, .int 0, .int 0, .int 0]))] H := hP
  have hD : va_D A [(h0, .inr (7, [.ref q_1, .ref q_3, .ref q_4, .ref q_5, .ref q_7, .int 0, .int (-1), .ref q_8, .ref q_10, .ref q_11, .ref q_12, .ref q_14])), (q_1, .inr (6, [.ref q_2, .int 0, .int 0, .int 0, .int 0, .int 0])), (q_2, .inl (k 0, 240, .inl (fun _ => 0))), (q_3, .inl (k 3, 3, .inr (.inr (.inr (.inr (va_up (va_up (va_up (fun _ => none) (Int32.toNatClampNeg 0) (some q_16)) (Int32.toNatClampNeg 1) (some q_20)) (Int32.toNatClampNeg 2) (some q_24))))))), (q_4, .inl (k 4, 3, .inr (.inr (.inr (.inr (va_up (va_up (va_up (fun _ => none) (Int32.toNatClampNeg 0) (some q_18)) (Int32.toNatClampNeg 1) (some q_22)) (Int32.toNatClampNeg 2) (some q_26))))))), (q_5, .inr (5, [.ref q_6, .ref q1_6, .ref q2_6, .ref q3_6])), (q_6, .inl (k 1, 10, .inl (fun _ => 0))), (q_7, .inl (k 5, 4, .inr (.inr (.inr (.inr (va_up (va_up (fun _ => none) (Int32.toNatClampNeg 0) (some q_28)) (Int32.toNatClampNeg 1) (some q_30))))))), (q_8, .inr (4, [.ref q_9, .ref q1_9, .int 0, .int 0, .int 0, .int 0])), (q_9, .inl (k 1, 4, .inl (fun _ => 0))), (q1_9, .inl (k 1, 4, .inl (fun _ => 0))), (q_10, .inl (k 6, 2, .inr (.inr (.inr (.inr (fun _ => none)))))), (q_11, .inl (k 2, 2, .inl (fun _ => 0))), (q_16, .inr (5, [.ref q_17, .ref q1_17, .ref q2_17, .ref q3_17])), (q_17, .inl (k 1, 10, .inl (fun _ => 0))), (q_18, .inr (0, [.ref q_16, .ref q_19, .ref q1_19, .ref q2_19, .ref q3_19])), (q_20, .inr (5, [.ref q_21, .ref q1_21, .ref q2_21, .ref q3_21])), (q_21, .inl (k 1, 10, .inl (fun _ => 0))), (q_22, .inr (0, [.ref q_20, .ref q_23, .ref q1_23, .ref q2_23, .ref q3_23])), (q_24, .inr (5, [.ref q_25, .ref q1_25, .ref q2_25, .ref q3_25])), (q_25, .inl (k 1, 10, .inl (fun _ => 0))), (q_26, .inr (0, [.ref q_24, .ref q_27, .ref q1_27, .ref q2_27, .ref q3_27])), (q_28, .inr (3, [.ref q_29, .ref q1_29, .int 0, .int 0, .int 0])), (q_30, .inr (3, [.ref q_31, .ref q1_31, .int 0, .int 0, .int 0])), (q_32, .inr (3, [.ref q_33, .ref q1_33, .int 0, .int 0, .int 0]))] := hD
  try dsimp only at hw_33
  refine W.widen (k := 62) (n := 3272) (by decide) (by decide) ?_
  refine va_astq hx hb hK hP hD hS 7 5 24 3 rfl rfl rfl rfl (by unfold vp_in; decide) dX7_init_176 (fun H locs hP hD hS => ?_)
  have hP : va_P D classes [(h0, .inr (7, [.ref q_1, .ref q_3, .ref q_4, .ref q_5, .ref q_7, .int 0, .int (-1), .ref q_8, .ref q_10, .ref q_11, .ref q_12, .ref q_14])), (q_1, .inr (6, [.ref q_2, .int 0, .int 0, .int 0, .int 0, .int 0])), (q_2, .inl (k 0, 240, .inl (fun _ => 0))), (q_3, .inl (k 3, 3, .inr (.inr (.inr (.inr (va_up (va_up (va_up (fun _ => none) (Int32.toNatClampNeg 0) (some q_16)) (Int32.toNatClampNeg 1) (some q_20)) (Int32.toNatClampNeg 2) (some q_24))))))), (q_4, .inl (k 4, 3, .inr (.inr (.inr (.inr (va_up (va_up (va_up (fun _ => none) (Int32.toNatClampNeg 0) (some q_18)) (Int32.toNatClampNeg 1) (some q_22)) (Int32.toNatClampNeg 2) (some q_26))))))), (q_5, .inr (5, [.ref q_6, .ref q1_6, .ref q2_6, .ref q3_6])), (q_6, .inl (k 1, 10, .inl (fun _ => 0))), (q_7, .inl (k 5, 4, .inr (.inr (.inr (.inr (va_up (va_up (va_up (fun _ => none) (Int32.toNatClampNeg 0) (some q_28)) (Int32.toNatClampNeg 1) (some q_30)) (Int32.toNatClampNeg 2) (some q_32))))))), (q_8, .inr (4, [.ref q_9, .ref q1_9, .int 0, .int 0, .int 0, .int 0])), (q_9, .inl (k 1, 4, .inl (fun _ => 0))), (q1_9, .inl (k 1, 4, .inl (fun _ => 0))), (q_10, .inl (k 6, 2, .inr (.inr (.inr (.inr (fun _ => none)))))), (q_11, .inl (k 2, 2, .inl (fun _ => 0))), (q_16, .inr (5, [.ref q_17, .ref q1_17, .ref q2_17, .ref q3_17])), (q_17, .inl (k 1, 10, .inl (fun _ => 0))), (q_18, .inr (0, [.ref q_16, .ref q_19, .ref q1_19, .ref q2_19, .ref q3_19])), (q_20, .inr (5, [.ref q_21, .ref q1_21, .ref q2_21, .ref q3_21])), (q_21, .inl (k 1, 10, .inl (fun _ => 0))), (q_22, .inr (0, [.ref q_20, .ref q_23, .ref q1_23, .ref q2_23, .ref q3_23])), (q_24, .inr (5, [.ref q_25, .ref q1_25, .ref q2_25, .ref q3_25])), (q_25, .inl (k 1, 10, .inl (fun _ => 0))), (q_26, .inr (0, [.ref q_24, .ref q_27, .ref q1_27, .ref q2_27, .ref q3_27])), (q_28, .inr (3, [.ref q_29, .ref q1_29, .int 0, .int 0, .int 0])), (q_30, .inr (3, [.ref q_31, .ref q1_31, .int 0, .int 0, .int 0])), (q_32, .inr (3, [.ref q_33, .ref q1_33, .int 0, .int 0, .int 0]))] H := hP
  have hD : va_D A [(h0, .inr (7, [.ref q_1, .ref q_3, .ref q_4, .ref q_5, .ref q_7, .int 0, .int (-1), .ref q_8, .ref q_10, .ref q_11, .ref q_12, .ref q_14])), (q_1, .inr (6, [.ref q_2, .int 0, .int 0, .int 0, .int 0, .int 0])), (q_2, .inl (k 0, 240, .inl (fun _ => 0))), (q_3, .inl (k 3, 3, .inr (.inr (.inr (.inr (va_up (va_up (va_up (fun _ => none) (Int32.toNatClampNeg 0) (some q_16)) (Int32.toNatClampNeg 1) (some q_20)) (Int32.toNatClampNeg 2) (some q_24))))))), (q_4, .inl (k 4, 3, .inr (.inr (.inr (.inr (va_up (va_up (va_up (fun _ => none) (Int32.toNatClampNeg 0) (some q_18)) (Int32.toNatClampNeg 1) (some q_22)) (Int32.toNatClampNeg 2) (some q_26))))))), (q_5, .inr (5, [.ref q_6, .ref q1_6, .ref q2_6, .ref q3_6])), (q_6, .inl (k 1, 10, .inl (fun _ => 0))), (q_7, .inl (k 5, 4, .inr (.inr (.inr (.inr (va_up (va_up (va_up (fun _ => none) (Int32.toNatClampNeg 0) (some q_28)) (Int32.toNatClampNeg 1) (some q_30)) (Int32.toNatClampNeg 2) (some q_32))))))), (q_8, .inr (4, [.ref q_9, .ref q1_9, .int 0, .int 0, .int 0, .int 0])), (q_9, .inl (k 1, 4, .inl (fun _ => 0))), (q1_9, .inl (k 1, 4, .inl (fun _ => 0))), (q_10, .inl (k 6, 2, .inr (.inr (.inr (.inr (fun _ => none)))))), (q_11, .inl (k 2, 2, .inl (fun _ => 0))), (q_16, .inr (5, [.ref q_17, .ref q1_17, .ref q2_17, .ref q3_17])), (q_17, .inl (k 1, 10, .inl (fun _ => 0))), (q_18, .inr (0, [.ref q_16, .ref q_19, .ref q1_19, .ref q2_19, .ref q3_19])), (q_20, .inr (5, [.ref q_21, .ref q1_21, .ref q2_21, .ref q3_21])), (q_21, .inl (k 1, 10, .inl (fun _ => 0))), (q_22, .inr (0, [.ref q_20, .ref q_23, .ref q1_23, .ref q2_23, .ref q3_23])), (q_24, .inr (5, [.ref q_25, .ref q1_25, .ref q2_25, .ref q3_25])), (q_25, .inl (k 1, 10, .inl (fun _ => 0))), (q_26, .inr (0, [.ref q_24, .ref q_27, .ref q1_27, .ref q2_27, .ref q3_27])), (q_28, .inr (3, [.ref q_29, .ref q1_29, .int 0, .int 0, .int 0])), (q_30, .inr (3, [.ref q_31, .ref q1_31, .int 0, .int 0, .int 0])), (q_32, .inr (3, [.ref q_33, .ref q1_33, .int 0, .int 0, .int 0]))] := hD
  refine lv_iinc (v := 3) (lv' := [(1, .int 3), (0, .ref h0)]) hx hb dX7_init_177 hl (k := 0) rfl (by decide) (by decide) rfl (fun ls hl => ?_)
  refine lv_goto (tgt := 159) hx hb dX7_init_180 (by decide) ?_
  refine lv_iload_n hx hb dX7_init_159 rfl (lv_at hl 0 rfl) ?_
  refine lv_iconst (v := 4) hx hb dX7_init_160 (by decide) ?_
  refine lv_icmp_ge (tgt := 183) hx hb dX7_init_161 (by decide) (fun h => absurd h (by decide)) (fun _ => ?_)
  refine lv_aload_n hx hb dX7_init_164 rfl (lv_at hl 1 rfl) ?_
  refine va_get (D := D) (ci := 7) (v := .ref q_7) (C := RX7) (T := TX7) (N := 12) hx hb hts inX7 hown hK hP 0 rfl rfl 4 (by decide) (hts _ tw_309) (fun _ h9 => h9) rfl dX7_init_165 ?_
  refine lv_iload_n hx hb dX7_init_168 rfl (lv_at hl 0 rfl) ?_
  refine va_new (ci := 3) (fs := [.null, .null, .int 0, .int 0, .int 0]) (C := RX3) (T := TX3) (N := 5) hx hb hts inX3 tyX3 tyX3_ok hown (hts _ tw_165) (hts _ tw_284) (hts _ tw_86) hK hP hD hS hA rfl (fun j hj => match j, hj with | 0, _ => rfl | 1, _ => rfl | 2, _ => rfl | 3, _ => rfl | 4, _ => rfl | j + 5, h => absurd h (by omega)) (Nat.le_of_ble_eq_true rfl) (Nat.le_of_ble_eq_true rfl) dX7_init_169 (fun q_34 H hP hD hS => ?_)
  refine W.widen (k := 63) (n := 3277) (by decide) (by decide) ?_
  have hP : va_P D classes [(h0, .inr (7, [.ref q_1, .ref q_3, .ref q_4, .ref q_5, .ref q_7, .int 0, .int (-1), .ref q_8, .ref q_10, .ref q_11, .ref q_12, .ref q_14])), (q_1, .inr (6, [.ref q_2, .int 0, .int 0, .int 0, .int 0, .int 0])), (q_2, .inl (k 0, 240, .inl (fun _ => 0))), (q_3, .inl (k 3, 3, .inr (.inr (.inr (.inr (va_up (va_up (va_up (fun _ => none) (Int32.toNatClampNeg 0) (some q_16)) (Int32.toNatClampNeg 1) (some q_20)) (Int32.toNatClampNeg 2) (some q_24))))))), (q_4, .inl (k 4, 3, .inr (.inr (.inr (.inr (va_up (va_up (va_up (fun _ => none) (Int32.toNatClampNeg 0) (some q_18)) (Int32.toNatClampNeg 1) (some q_22)) (Int32.toNatClampNeg 2) (some q_26))))))), (q_5, .inr (5, [.ref q_6, .ref q1_6, .ref q2_6, .ref q3_6])), (q_6, .inl (k 1, 10, .inl (fun _ => 0))), (q_7, .inl (k 5, 4, .inr (.inr (.inr (.inr (va_up (va_up (va_up (fun _ => none) (Int32.toNatClampNeg 0) (some q_28)) (Int32.toNatClampNeg 1) (some q_30)) (Int32.toNatClampNeg 2) (some q_32))))))), (q_8, .inr (4, [.ref q_9, .ref q1_9, .int 0, .int 0, .int 0, .int 0])), (q_9, .inl (k 1, 4, .inl (fun _ => 0))), (q1_9, .inl (k 1, 4, .inl (fun _ => 0))), (q_10, .inl (k 6, 2, .inr (.inr (.inr (.inr (fun _ => none)))))), (q_11, .inl (k 2, 2, .inl (fun _ => 0))), (q_16, .inr (5, [.ref q_17, .ref q1_17, .ref q2_17, .ref q3_17])), (q_17, .inl (k 1, 10, .inl (fun _ => 0))), (q_18, .inr (0, [.ref q_16, .ref q_19, .ref q1_19, .ref q2_19, .ref q3_19])), (q_20, .inr (5, [.ref q_21, .ref q1_21, .ref q2_21, .ref q3_21])), (q_21, .inl (k 1, 10, .inl (fun _ => 0))), (q_22, .inr (0, [.ref q_20, .ref q_23, .ref q1_23, .ref q2_23, .ref q3_23])), (q_24, .inr (5, [.ref q_25, .ref q1_25, .ref q2_25, .ref q3_25])), (q_25, .inl (k 1, 10, .inl (fun _ => 0))), (q_26, .inr (0, [.ref q_24, .ref q_27, .ref q1_27, .ref q2_27, .ref q3_27])), (q_28, .inr (3, [.ref q_29, .ref q1_29, .int 0, .int 0, .int 0])), (q_30, .inr (3, [.ref q_31, .ref q1_31, .int 0, .int 0, .int 0])), (q_32, .inr (3, [.ref q_33, .ref q1_33, .int 0, .int 0, .int 0])), (q_34, .inr (3, [.null, .null, .int 0, .int 0, .int 0]))] H := hP
  have hD : va_D A [(h0, .inr (7, [.ref q_1, .ref q_3, .ref q_4, .ref q_5, .ref q_7, .int 0, .int (-1), .ref q_8, .ref q_10, .ref q_11, .ref q_12, .ref q_14])), (q_1, .inr (6, [.ref q_2, .int 0, .int 0, .int 0, .int 0, .int 0])), (q_2, .inl (k 0, 240, .inl (fun _ => 0))), (q_3, .inl (k 3, 3, .inr (.inr (.inr (.inr (va_up (va_up (va_up (fun _ => none) (Int32.toNatClampNeg 0) (some q_16)) (Int32.toNatClampNeg 1) (some q_20)) (Int32.toNatClampNeg 2) (some q_24))))))), (q_4, .inl (k 4, 3, .inr (.inr (.inr (.inr (va_up (va_up (va_up (fun _ => none) (Int32.toNatClampNeg 0) (some q_18)) (Int32.toNatClampNeg 1) (some q_22)) (Int32.toNatClampNeg 2) (some q_26))))))), (q_5, .inr (5, [.ref q_6, .ref q1_6, .ref q2_6, .ref q3_6])), (q_6, .inl (k 1, 10, .inl (fun _ => 0))), (q_7, .inl (k 5, 4, .inr (.inr (.inr (.inr (va_up (va_up (va_up (fun _ => none) (Int32.toNatClampNeg 0) (some q_28)) (Int32.toNatClampNeg 1) (some q_30)) (Int32.toNatClampNeg 2) (some q_32))))))), (q_8, .inr (4, [.ref q_9, .ref q1_9, .int 0, .int 0, .int 0, .int 0])), (q_9, .inl (k 1, 4, .inl (fun _ => 0))), (q1_9, .inl (k 1, 4, .inl (fun _ => 0))), (q_10, .inl (k 6, 2, .inr (.inr (.inr (.inr (fun _ => none)))))), (q_11, .inl (k 2, 2, .inl (fun _ => 0))), (q_16, .inr (5, [.ref q_17, .ref q1_17, .ref q2_17, .ref q3_17])), (q_17, .inl (k 1, 10, .inl (fun _ => 0))), (q_18, .inr (0, [.ref q_16, .ref q_19, .ref q1_19, .ref q2_19, .ref q3_19])), (q_20, .inr (5, [.ref q_21, .ref q1_21, .ref q2_21, .ref q3_21])), (q_21, .inl (k 1, 10, .inl (fun _ => 0))), (q_22, .inr (0, [.ref q_20, .ref q_23, .ref q1_23, .ref q2_23, .ref q3_23])), (q_24, .inr (5, [.ref q_25, .ref q1_25, .ref q2_25, .ref q3_25])), (q_25, .inl (k 1, 10, .inl (fun _ => 0))), (q_26, .inr (0, [.ref q_24, .ref q_27, .ref q1_27, .ref q2_27, .ref q3_27])), (q_28, .inr (3, [.ref q_29, .ref q1_29, .int 0, .int 0, .int 0])), (q_30, .inr (3, [.ref q_31, .ref q1_31, .int 0, .int 0, .int 0])), (q_32, .inr (3, [.ref q_33, .ref q1_33, .int 0, .int 0, .int 0])), (q_34, .inr (3, [.null, .null, .int 0, .int 0, .int 0]))] := hD
  refine lv_dup hx hb dX7_init_172 rfl ?_
  refine rw_v (D := D) (wr := [(h0, .inr (7, [.ref q_1, .ref q_3, .ref q_4, .ref q_5, .ref q_7, .int 0, .int (-1), .ref q_8, .ref q_10, .ref q_11, .ref q_12, .ref q_14])), (q_1, .inr (6, [.ref q_2, .int 0, .int 0, .int 0, .int 0, .int 0])), (q_2, .inl (k 0, 240, .inl (fun _ => 0))), (q_3, .inl (k 3, 3, .inr (.inr (.inr (.inr (va_up (va_up (va_up (fun _ => none) (Int32.toNatClampNeg 0) (some q_16)) (Int32.toNatClampNeg 1) (some q_20)) (Int32.toNatClampNeg 2) (some q_24))))))), (q_4, .inl (k 4, 3, .inr (.inr (.inr (.inr (va_up (va_up (va_up (fun _ => none) (Int32.toNatClampNeg 0) (some q_18)) (Int32.toNatClampNeg 1) (some q_22)) (Int32.toNatClampNeg 2) (some q_26))))))), (q_5, .inr (5, [.ref q_6, .ref q1_6, .ref q2_6, .ref q3_6])), (q_6, .inl (k 1, 10, .inl (fun _ => 0))), (q_7, .inl (k 5, 4, .inr (.inr (.inr (.inr (va_up (va_up (va_up (fun _ => none) (Int32.toNatClampNeg 0) (some q_28)) (Int32.toNatClampNeg 1) (some q_30)) (Int32.toNatClampNeg 2) (some q_32))))))), (q_8, .inr (4, [.ref q_9, .ref q1_9, .int 0, .int 0, .int 0, .int 0])), (q_9, .inl (k 1, 4, .inl (fun _ => 0))), (q1_9, .inl (k 1, 4, .inl (fun _ => 0))), (q_10, .inl (k 6, 2, .inr (.inr (.inr (.inr (fun _ => none)))))), (q_11, .inl (k 2, 2, .inl (fun _ => 0))), (q_16, .inr (5, [.ref q_17, .ref q1_17, .ref q2_17, .ref q3_17])), (q_17, .inl (k 1, 10, .inl (fun _ => 0))), (q_18, .inr (0, [.ref q_16, .ref q_19, .ref q1_19, .ref q2_19, .ref q3_19])), (q_20, .inr (5, [.ref q_21, .ref q1_21, .ref q2_21, .ref q3_21])), (q_21, .inl (k 1, 10, .inl (fun _ => 0))), (q_22, .inr (0, [.ref q_20, .ref q_23, .ref q1_23, .ref q2_23, .ref q3_23])), (q_24, .inr (5, [.ref q_25, .ref q1_25, .ref q2_25, .ref q3_25])), (q_25, .inl (k 1, 10, .inl (fun _ => 0))), (q_26, .inr (0, [.ref q_24, .ref q_27, .ref q1_27, .ref q2_27, .ref q3_27])), (q_28, .inr (3, [.ref q_29, .ref q1_29, .int 0, .int 0, .int 0])), (q_30, .inr (3, [.ref q_31, .ref q1_31, .int 0, .int 0, .int 0])), (q_32, .inr (3, [.ref q_33, .ref q1_33, .int 0, .int 0, .int 0]))]) (va_runIN (As := []) (rest := [.ref q_34, .int 3, .ref q_7]) ⟨hx, hb, hml, hown, hts⟩ ((k_Rule_init l D k st lo q_34) H.size) ⟨va_cnB 0 hts (gLW tw_287) rfl rfl rfl (hZ.2.2.2.2.2.2.2.2.2.2.2.1 (RX7, 80, yX3_init, RX7) (List.mem_of_getElem? (i := 4) rfl)) (hts _ tw_86) (by decide +kernel) ⟨Nat.le_of_ble_eq_true rfl, Nat.le_of_ble_eq_true rfl⟩, rfl, hts _ tw_286⟩ (pS hS hAlo hlo hP hK (va_Dlo hD hAlo) hZ [25] (by decide) rfl) rfl rfl hl.1 rfl (lv_room (Nat.le_of_ble_eq_true rfl)) dX7_init_173 ⟨Nat.le_of_ble_eq_true rfl, Nat.le_of_ble_eq_true rfl⟩) hS hA hP hD [25] [0, 1, 2, 3, 4, 5, 6, 7, 8, 9, 10, 11, 12, 13, 14, 15, 16, 17, 18, 19, 20, 21, 22, 23, 24] rfl rfl (by decide) (by decide) (fun u H locs hw_35 hP hD hS => ?_)
  obtain ⟨q_35, q1_35⟩ := u
  have hP : va_P D classes [(h0, .inr (7, [.ref q_1, .ref q_3, .ref q_4, .ref q_5, .ref q_7, .int 0, .int (-1), .ref q_8, .ref q_10, .ref q_11, .ref q_12, .ref q_14])), (q_1, .inr (6, [.ref q_2, .int 0, .int 0, .int 0, .int 0, .int 0])), (q_2, .inl (k 0, 240, .inl (fun _ => 0))), (q_3, .inl (k 3, 3, .inr (.inr (.inr (.inr (va_up (va_up (va_up (fun _ => none) (Int32.toNatClampNeg 0) (some q_16)) (Int32.toNatClampNeg 1) (some q_20)) (Int32.toNatClampNeg 2) (some q_24))))))), (q_4, .inl (k 4, 3, .inr (.inr (.inr (.inr (va_up (va_up (va_up (fun _ => none) (Int32.toNatClampNeg 0) (some q_18)) (Int32.toNatClampNeg 1) (some q_22)) (Int32.toNatClampNeg 2) (some q_26))))))), (q_5, .inr (5, [.ref q_6, .ref q1_6, .ref q2_6, .ref q3_6])), (q_6, .inl (k 1, 10, .inl (fun _ => 0))), (q_7, .inl (k 5, 4, .inr (.inr (.inr (.inr (va_up (va_up (va_up (fun _ => none) (Int32.toNatClampNeg 0) (some q_28)) (Int32.toNatClampNeg 1) (some q_30)) (Int32.toNatClampNeg 2) (some q_32))))))), (q_8, .inr (4, [.ref q_9, .ref q1_9, .int 0, .int 0, .int 0, .int 0])), (q_9, .inl (k 1, 4, .inl (fun _ => 0))), (q1_9, .inl (k 1, 4, .inl (fun _ => 0))), (q_10, .inl (k 6, 2, .inr (.inr (.inr (.inr (fun _ => none)))))), (q_11, .inl (k 2, 2, .inl (fun _ => 0))), (q_16, .inr (5, [.ref q_17, .ref q1_17, .ref q2_17, .ref q3_17])), (q_17, .inl (k 1, 10, .inl (fun _ => 0))), (q_18, .inr (0, [.ref q_16, .ref q_19, .ref q1_19, .ref q2_19, .ref q3_19])), (q_20, .inr (5, [.ref q_21, .ref q1_21, .ref q2_21, .ref q3_21])), (q_21, .inl (k 1, 10, .inl (fun _ => 0))), (q_22, .inr (0, [.ref q_20, .ref q_23, .ref q1_23, .ref q2_23, .ref q3_23])), (q_24, .inr (5, [.ref q_25, .ref q1_25, .ref q2_25, .ref q3_25])), (q_25, .inl (k 1, 10, .inl (fun _ => 0))), (q_26, .inr (0, [.ref q_24, .ref q_27, .ref q1_27, .ref q2_27, .ref q3_27])), (q_28, .inr (3, [.ref q_29, .ref q1_29, .int 0, .int 0, .int 0])), (q_30, .inr (3, [.ref q_31, .ref q1_31, .int 0, .int 0, .int 0])), (q_32, .inr (3, [.ref q_33, .ref q1_33, .int 0, .int 0, .int 0])), (q_34, .inr (3, [.ref q_35, .ref q1_35, .int 0, .int 0, .int 0]))] H := hP
  have hD : va_D A [(h0, .inr (7, [.ref q_1, .ref q_3, .ref q_4, .ref q_5, .ref q_7, .int 0, .int (-1), .ref q_8, .ref q_10, .ref q_11, .ref q_12, .ref q_14])), (q_1, .inr (6, [.ref q_2, .int 0, .int 0, .int 0, .int 0, .int 0])), (q_2, .inl (k 0, 240, .inl (fun _ => 0))), (q_3, .inl (k 3, 3, .inr (.inr (.inr (.inr (va_up (va_up (va_up (fun _ => none) (Int32.toNatClampNeg 0) (some q_16)) (Int32.toNatClampNeg 1) (some q_20)) (Int32.toNatClampNeg 2) (some q_24))))))), (q_4, .inl (k 4, 3, .inr (.inr (.inr (.inr (va_up (va_up (va_up (fun _ => none) (Int32.toNatClampNeg 0) (some q_18)) (Int32.toNatClampNeg 1) (some q_22)) (Int32.toNatClampNeg 2) (some q_26))))))), (q_5, .inr (5, [.ref q_6, .ref q1_6, .ref q2_6, .ref q3_6])), (q_6, .inl (k 1, 10, .inl (fun _ => 0))), (q_7, .inl (k 5, 4, .inr (.inr (.inr (.inr (va_up (va_up (va_up (fun _ => none) (Int32.toNatClampNeg 0) (some q_28)) (Int32.toNatClampNeg 1) (some q_30)) (Int32.toNatClampNeg 2) (some q_32))))))), (q_8, .inr (4, [.ref q_9, .ref q1_9, .int 0, .int 0, .int 0, .int 0])), (q_9, .inl (k 1, 4, .inl (fun _ => 0))), (q1_9, .inl (k 1, 4, .inl (fun _ => 0))), (q_10, .inl (k 6, 2, .inr (.inr (.inr (.inr (fun _ => none)))))), (q_11, .inl (k 2, 2, .inl (fun _ => 0))), (q_16, .inr (5, [.ref q_17, .ref q1_17, .ref q2_17, .ref q3_17])), (q_17, .inl (k 1, 10, .inl (fun _ => 0))), (q_18, .inr (0, [.ref q_16, .ref q_19, .ref q1_19, .ref q2_19, .ref q3_19])), (q_20, .inr (5, [.ref q_21, .ref q1_21, .ref q2_21, .ref q3_21])), (q_21, .inl (k 1, 10, .inl (fun _ => 0))), (q_22, .inr (0, [.ref q_20, .ref q_23, .ref q1_23, .ref q2_23, .ref q3_23])), (q_24, .inr (5, [.ref q_25, .ref q1_25, .ref q2_25, .ref q3_25])), (q_25, .inl (k 1, 10, .inl (fun _ => 0))), (q_26, .inr (0, [.ref q_24, .ref q_27, .ref q1_27, .ref q2_27, .ref q3_27])), (q_28, .inr (3, [.ref q_29, .ref q1_29, .int 0, .int 0, .int 0])), (q_30, .inr (3, [.ref q_31, .ref q1_31, .int 0, .int 0, .int 0])), (q_32, .inr (3, [.ref q_33, .ref q1_33, .int 0, .int 0, .int 0])), (q_34, .inr (3, [.ref q_35, .ref q1_35, .int 0, .int 0, .int 0]))] := hD
  try dsimp only at hw_35
  refine W.widen (k := 65) (n := 3325) (by decide) (by decide) ?_
  refine va_astq hx hb hK hP hD hS 7 5 25 3 rfl rfl rfl rfl (by unfold vp_in; decide) dX7_init_176 (fun H locs hP hD hS => ?_)
  have hP : va_P D classes [(h0, .inr (7, [.ref q_1, .ref q_3, .ref q_4, .ref q_5, .ref q_7, .int 0, .int (-1), .ref q_8, .ref q_10, .ref q_11, .ref q_12, .ref q_14])), (q_1, .inr (6, [.ref q_2, .int 0, .int 0, .int 0, .int 0, .int 0])), (q_2, .inl (k 0, 240, .inl (fun _ => 0))), (q_3, .inl (k 3, 3, .inr (.inr (.inr (.inr (va_up (va_up (va_up (fun _ => none) (Int32.toNatClampNeg 0) (some q_16)) (Int32.toNatClampNeg 1) (some q_20)) (Int32.toNatClampNeg 2) (some q_24))))))), (q_4, .inl (k 4, 3, .inr (.inr (.inr (.inr (va_up (va_up (va_up (fun _ => none) (Int32.toNatClampNeg 0) (some q_18)) (Int32.toNatClampNeg 1) (some q_22)) (Int32.toNatClampNeg 2) (some q_26))))))), (q_5, .inr (5, [.ref q_6, .ref q1_6, .ref q2_6, .ref q3_6])), (q_6, .inl (k 1, 10, .inl (fun _ => 0))), (q_7, .inl (k 5, 4, .inr (.inr (.inr (.inr (va_up (va_up (va_up (va_up (fun _ => none) (Int32.toNatClampNeg 0) (some q_28)) (Int32.toNatClampNeg 1) (some q_30)) (Int32.toNatClampNeg 2) (some q_32)) (Int32.toNatClampNeg 3) (some q_34))))))), (q_8, .inr (4, [.ref q_9, .ref q1_9, .int 0, .int 0, .int 0, .int 0])), (q_9, .inl (k 1, 4, .inl (fun _ => 0))), (q1_9, .inl (k 1, 4, .inl (fun _ => 0))), (q_10, .inl (k 6, 2, .inr (.inr (.inr (.inr (fun _ => none)))))), (q_11, .inl (k 2, 2, .inl (fun _ => 0))), (q_16, .inr (5, [.ref q_17, .ref q1_17, .ref q2_17, .ref q3_17])), (q_17, .inl (k 1, 10, .inl (fun _ => 0))), (q_18, .inr (0, [.ref q_16, .ref q_19, .ref q1_19, .ref q2_19, .ref q3_19])), (q_20, .inr (5, [.ref q_21, .ref q1_21, .ref q2_21, .ref q3_21])), (q_21, .inl (k 1, 10, .inl (fun _ => 0))), (q_22, .inr (0, [.ref q_20, .ref q_23, .ref q1_23, .ref q2_23, .ref q3_23])), (q_24, .inr (5, [.ref q_25, .ref q1_25, .ref q2_25, .ref q3_25])), (q_25, .inl (k 1, 10, .inl (fun _ => 0))), (q_26, .inr (0, [.ref q_24, .ref q_27, .ref q1_27, .ref q2_27, .ref q3_27])), (q_28, .inr (3, [.ref q_29, .ref q1_29, .int 0, .int 0, .int 0])), (q_30, .inr (3, [.ref q_31, .ref q1_31, .int 0, .int 0, .int 0])), (q_32, .inr (3, [.ref q_33, .ref q1_33, .int 0, .int 0, .int 0])), (q_34, .inr (3, [.ref q_35, .ref q1_35, .int 0, .int 0, .int 0]))] H := hP
  have hD : va_D A [(h0, .inr (7, [.ref q_1, .ref q_3, .ref q_4, .ref q_5, .ref q_7, .int 0, .int (-1), .ref q_8, .ref q_10, .ref q_11, .ref q_12, .ref q_14])), (q_1, .inr (6, [.ref q_2, .int 0, .int 0, .int 0, .int 0, .int 0])), (q_2, .inl (k 0, 240, .inl (fun _ => 0))), (q_3, .inl (k 3, 3, .inr (.inr (.inr (.inr (va_up (va_up (va_up (fun _ => none) (Int32.toNatClampNeg 0) (some q_16)) (Int32.toNatClampNeg 1) (some q_20)) (Int32.toNatClampNeg 2) (some q_24))))))), (q_4, .inl (k 4, 3, .inr (.inr (.inr (.inr (va_up (va_up (va_up (fun _ => none) (Int32.toNatClampNeg 0) (some q_18)) (Int32.toNatClampNeg 1) (some q_22)) (Int32.toNatClampNeg 2) (some q_26))))))), (q_5, .inr (5, [.ref q_6, .ref q1_6, .ref q2_6, .ref q3_6])), (q_6, .inl (k 1, 10, .inl (fun _ => 0))), (q_7, .inl (k 5, 4, .inr (.inr (.inr (.inr (va_up (va_up (va_up (va_up (fun _ => none) (Int32.toNatClampNeg 0) (some q_28)) (Int32.toNatClampNeg 1) (some q_30)) (Int32.toNatClampNeg 2) (some q_32)) (Int32.toNatClampNeg 3) (some q_34))))))), (q_8, .inr (4, [.ref q_9, .ref q1_9, .int 0, .int 0, .int 0, .int 0])), (q_9, .inl (k 1, 4, .inl (fun _ => 0))), (q1_9, .inl (k 1, 4, .inl (fun _ => 0))), (q_10, .inl (k 6, 2, .inr (.inr (.inr (.inr (fun _ => none)))))), (q_11, .inl (k 2, 2, .inl (fun _ => 0))), (q_16, .inr (5, [.ref q_17, .ref q1_17, .ref q2_17, .ref q3_17])), (q_17, .inl (k 1, 10, .inl (fun _ => 0))), (q_18, .inr (0, [.ref q_16, .ref q_19, .ref q1_19, .ref q2_19, .ref q3_19])), (q_20, .inr (5, [.ref q_21, .ref q1_21, .ref q2_21, .ref q3_21])), (q_21, .inl (k 1, 10, .inl (fun _ => 0))), (q_22, .inr (0, [.ref q_20, .ref q_23, .ref q1_23, .ref q2_23, .ref q3_23])), (q_24, .inr (5, [.ref q_25, .ref q1_25, .ref q2_25, .ref q3_25])), (q_25, .inl (k 1, 10, .inl (fun _ => 0))), (q_26, .inr (0, [.ref q_24, .ref q_27, .ref q1_27, .ref q2_27, .ref q3_27])), (q_28, .inr (3, [.ref q_29, .ref q1_29, .int 0, .int 0, .int 0])), (q_30, .inr (3, [.ref q_31, .ref q1_31, .int 0, .int 0, .int 0])), (q_32, .inr (3, [.ref q_33, .ref q1_33, .int 0, .int 0, .int 0])), (q_34, .inr (3, [.ref q_35, .ref q1_35, .int 0, .int 0, .int 0]))] := hD
  refine lv_iinc (v := 4) (lv' := [(1, .int 4), (0, .ref h0)]) hx hb dX7_init_177 hl (k := 0) rfl (by decide) (by decide) rfl (fun ls hl => ?_)
  refine lv_goto (tgt := 159) hx hb dX7_init_180 (by decide) ?_
  refine lv_iload_n hx hb dX7_init_159 rfl (lv_at hl 0 rfl) ?_
  refine lv_iconst (v := 4) hx hb dX7_init_160 (by decide) ?_
  refine lv_icmp_ge (tgt := 183) hx hb dX7_init_161 (by decide) (fun _ => ?_) (fun h => absurd (by decide) h)
  refine lv_iconst (v := 0) hx hb dX7_init_183 (by decide) ?_
  refine lv_istore_n (lv' := [(1, .int 0), (0, .ref h0)]) hx hb dX7_init_184 rfl hl (by decide) rfl (fun ls hl => ?_)
  refine lv_iload_n hx hb dX7_init_185 rfl (lv_at hl 0 rfl) ?_
  refine lv_iconst (v := 2) hx hb dX7_init_186 (by decide) ?_
  refine lv_icmp_ge (tgt := 209) hx hb dX7_init_187 (by decide) (fun h => absurd h (by decide)) (fun _ => ?_)
  refine lv_aload_n hx hb dX7_init_190 rfl (lv_at hl 1 rfl) ?_
  refine va_get (D := D) (ci := 7) (v := .ref q_10) (C := RX7) (T := TX7) (N := 12) hx hb hts inX7 hown hK hP 0 rfl rfl 8 (by decide) (hts _ tw_313) (fun _ h9 => h9) rfl dX7_init_191 ?_
  refine lv_iload_n hx hb dX7_init_194 rfl (lv_at hl 0 rfl) ?_
  refine va_new (ci := 4) (fs := [.null, .null, .int 0, .int 0, .int 0, .int 0]) (C := RX4) (T := TX4) (N := 6) hx hb hts inX4 tyX4 tyX4_ok hown (hts _ tw_167) (hts _ tw_168) (hts _ tw_82) hK hP hD hS hA rfl (fun j hj => match j, hj with | 0, _ => rfl | 1, _ => rfl | 2, _ => rfl | 3, _ => rfl | 4, _ => rfl | 5, _ => rfl | j + 6, h => absurd h (by omega)) (Nat.le_of_ble_eq_true rfl) (Nat.le_of_ble_eq_true rfl) dX7_init_195 (fun q_36 H hP hD hS => ?_)
  refine W.widen (k := 66) (n := 3331) (by decide) (by decide) ?_
  have hP : va_P D classes [(h0, .inr (7, [.ref q_1, .ref q_3, .ref q_4, .ref q_5, .ref q_7, .int 0, .int (-1), .ref q_8, .ref q_10, .ref q_11, .ref q_12, .ref q_14])), (q_1, .inr (6, [.ref q_2, .int 0, .int 0, .int 0, .int 0, .int 0])), (q_2, .inl (k 0, 240, .inl (fun _ => 0))), (q_3, .inl (k 3, 3, .inr (.inr (.inr (.inr (va_up (va_up (va_up (fun _ => none) (Int32.toNatClampNeg 0) (some q_16)) (Int32.toNatClampNeg 1) (some q_20)) (Int32.toNatClampNeg 2) (some q_24))))))), (q_4, .inl (k 4, 3, .inr (.inr (.inr (.inr (va_up (va_up (va_up (fun _ => none) (Int32.toNatClampNeg 0) (some q_18)) (Int32.toNatClampNeg 1) (some q_22)) (Int32.toNatClampNeg 2) (some q_26))))))), (q_5, .inr (5, [.ref q_6, .ref q1_6, .ref q2_6, .ref q3_6])), (q_6, .inl (k 1, 10, .inl (fun _ => 0))), (q_7, .inl (k 5, 4, .inr (.inr (.inr (.inr (va_up (va_up (va_up (va_up (fun _ => none) (Int32.toNatClampNeg 0) (some q_28)) (Int32.toNatClampNeg 1) (some q_30)) (Int32.toNatClampNeg 2) (some q_32)) (Int32.toNatClampNeg 3) (some q_34))))))), (q_8, .inr (4, [.ref q_9, .ref q1_9, .int 0, .int 0, .int 0, .int 0])), (q_9, .inl (k 1, 4, .inl (fun _ => 0))), (q1_9, .inl (k 1, 4, .inl (fun _ => 0))), (q_10, .inl (k 6, 2, .inr (.inr (.inr (.inr (fun _ => none)))))), (q_11, .inl (k 2, 2, .inl (fun _ => 0))), (q_16, .inr (5, [.ref q_17, .ref q1_17, .ref q2_17, .ref q3_17])), (q_17, .inl (k 1, 10, .inl (fun _ => 0))), (q_18, .inr (0, [.ref q_16, .ref q_19, .ref q1_19, .ref q2_19, .ref q3_19])), (q_20, .inr (5, [.ref q_21, .ref q1_21, .ref q2_21, .ref q3_21])), (q_21, .inl (k 1, 10, .inl (fun _ => 0))), (q_22, .inr (0, [.ref q_20, .ref q_23, .ref q1_23, .ref q2_23, .ref q3_23])), (q_24, .inr (5, [.ref q_25, .ref q1_25, .ref q2_25, .ref q3_25])), (q_25, .inl (k 1, 10, .inl (fun _ => 0))), (q_26, .inr (0, [.ref q_24, .ref q_27, .ref q1_27, .ref q2_27, .ref q3_27])), (q_28, .inr (3, [.ref q_29, .ref q1_29, .int 0, .int 0, .int 0])), (q_30, .inr (3, [.ref q_31, .ref q1_31, .int 0, .int 0, .int 0])), (q_32, .inr (3, [.ref q_33, .ref q1_33, .int 0, .int 0, .int 0])), (q_34, .inr (3, [.ref q_35, .ref q1_35, .int 0, .int 0, .int 0])), (q_36, .inr (4, [.null, .null, .int 0, .int 0, .int 0, .int 0]))] H := hP
  have hD : va_D A [(h0, .inr (7, [.ref q_1, .ref q_3, .ref q_4, .ref q_5, .ref q_7, .int 0, .int (-1), .ref q_8, .ref q_10, .ref q_11, .ref q_12, .ref q_14])), (q_1, .inr (6, [.ref q_2, .int 0, .int 0, .int 0, .int 0, .int 0])), (q_2, .inl (k 0, 240, .inl (fun _ => 0))), (q_3, .inl (k 3, 3, .inr (.inr (.inr (.inr (va_up (va_up (va_up (fun _ => none) (Int32.toNatClampNeg 0) (some q_16)) (Int32.toNatClampNeg 1) (some q_20)) (Int32.toNatClampNeg 2) (some q_24))))))), (q_4, .inl (k 4, 3, .inr (.inr (.inr (.inr (va_up (va_up (va_up (fun _ => none) (Int32.toNatClampNeg 0) (some q_18)) (Int32.toNatClampNeg 1) (some q_22)) (Int32.toNatClampNeg 2) (some q_26))))))), (q_5, .inr (5, [.ref q_6, .ref q1_6, .ref q2_6, .ref q3_6])), (q_6, .inl (k 1, 10, .inl (fun _ => 0))), (q_7, .inl (k 5, 4, .inr (.inr (.inr (.inr (va_up (va_up (va_up (va_up (fun _ => none) (Int32.toNatClampNeg 0) (some q_28)) (Int32.toNatClampNeg 1) (some q_30)) (Int32.toNatClampNeg 2) (some q_32)) (Int32.toNatClampNeg 3) (some q_34))))))), (q_8, .inr (4, [.ref q_9, .ref q1_9, .int 0, .int 0, .int 0, .int 0])), (q_9, .inl (k 1, 4, .inl (fun _ => 0))), (q1_9, .inl (k 1, 4, .inl (fun _ => 0))), (q_10, .inl (k 6, 2, .inr (.inr (.inr (.inr (fun _ => none)))))), (q_11, .inl (k 2, 2, .inl (fun _ => 0))), (q_16, .inr (5, [.ref q_17, .ref q1_17, .ref q2_17, .ref q3_17])), (q_17, .inl (k 1, 10, .inl (fun _ => 0))), (q_18, .inr (0, [.ref q_16, .ref q_19, .ref q1_19, .ref q2_19, .ref q3_19])), (q_20, .inr (5, [.ref q_21, .ref q1_21, .ref q2_21, .ref q3_21])), (q_21, .inl (k 1, 10, .inl (fun _ => 0))), (q_22, .inr (0, [.ref q_20, .ref q_23, .ref q1_23, .ref q2_23, .ref q3_23])), (q_24, .inr (5, [.ref q_25, .ref q1_25, .ref q2_25, .ref q3_25])), (q_25, .inl (k 1, 10, .inl (fun _ => 0))), (q_26, .inr (0, [.ref q_24, .ref q_27, .ref q1_27, .ref q2_27, .ref q3_27])), (q_28, .inr (3, [.ref q_29, .ref q1_29, .int 0, .int 0, .int 0])), (q_30, .inr (3, [.ref q_31, .ref q1_31, .int 0, .int 0, .int 0])), (q_32, .inr (3, [.ref q_33, .ref q1_33, .int 0, .int 0, .int 0])), (q_34, .inr (3, [.ref q_35, .ref q1_35, .int 0, .int 0, .int 0])), (q_36, .inr (4, [.null, .null, .int 0, .int 0, .int 0, .int 0]))] := hD
  refine lv_dup hx hb dX7_init_198 rfl ?_
  refine rw_v (D := D) (wr := [(h0, .inr (7, [.ref q_1, .ref q_3, .ref q_4, .ref q_5, .ref q_7, .int 0, .int (-1), .ref q_8, .ref q_10, .ref q_11, .ref q_12, .ref q_14])), (q_1, .inr (6, [.ref q_2, .int 0, .int 0, .int 0, .int 0, .int 0])), (q_2, .inl (k 0, 240, .inl (fun _ => 0))), (q_3, .inl (k 3, 3, .inr (.inr (.inr (.inr (va_up (va_up (va_up (fun _ => none) (Int32.toNatClampNeg 0) (some q_16)) (Int32.toNatClampNeg 1) (some q_20)) (Int32.toNatClampNeg 2) (some q_24))))))), (q_4, .inl (k 4, 3, .inr (.inr (.inr (.inr (va_up (va_up (va_up (fun _ => none) (Int32.toNatClampNeg 0) (some q_18)) (Int32.toNatClampNeg 1) (some q_22)) (Int32.toNatClampNeg 2) (some q_26))))))), (q_5, .inr (5, [.ref q_6, .ref q1_6, .ref q2_6, .ref q3_6])), (q_6, .inl (k 1, 10, .inl (fun _ => 0))), (q_7, .inl (k 5, 4, .inr (.inr (.inr (.inr (va_up (va_up (va_up (va_up (fun _ => none) (Int32.toNatClampNeg 0) (some q_28)) (Int32.toNatClampNeg 1) (some q_30)) (Int32.toNatClampNeg 2) (some q_32)) (Int32.toNatClampNeg 3) (some q_34))))))), (q_8, .inr (4, [.ref q_9, .ref q1_9, .int 0, .int 0, .int 0, .int 0])), (q_9, .inl (k 1, 4, .inl (fun _ => 0))), (q1_9, .inl (k 1, 4, .inl (fun _ => 0))), (q_10, .inl (k 6, 2, .inr (.inr (.inr (.inr (fun _ => none)))))), (q_11, .inl (k 2, 2, .inl (fun _ => 0))), (q_16, .inr (5, [.ref q_17, .ref q1_17, .ref q2_17, .ref q3_17])), (q_17, .inl (k 1, 10, .inl (fun _ => 0))), (q_18, .inr (0, [.ref q_16, .ref q_19, .ref q1_19, .ref q2_19, .ref q3_19])), (q_20, .inr (5, [.ref q_21, .ref q1_21, .ref q2_21, .ref q3_21])), (q_21, .inl (k 1, 10, .inl (fun _ => 0))), (q_22, .inr (0, [.ref q_20, .ref q_23, .ref q1_23, .ref q2_23, .ref q3_23])), (q_24, .inr (5, [.ref q_25, .ref q1_25, .ref q2_25, .ref q3_25])), (q_25, .inl (k 1, 10, .inl (fun _ => 0))), (q_26, .inr (0, [.ref q_24, .ref q_27, .ref q1_27, .ref q2_27, .ref q3_27])), (q_28, .inr (3, [.ref q_29, .ref q1_29, .int 0, .int 0, .int 0])), (q_30, .inr (3, [.ref q_31, .ref q1_31, .int 0, .int 0, .int 0])), (q_32, .inr (3, [.ref q_33, .ref q1_33, .int 0, .int 0, .int 0])), (q_34, .inr (3, [.ref q_35, .ref q1_35, .int 0, .int 0, .int 0]))]) (va_runIN (As := []) (rest := [.ref q_36, .int 0, .ref q_10]) ⟨hx, hb, hml, hown, hts⟩ ((k_Scene_init l D k st lo q_36) H.size) ⟨va_cnB 0 hts (gLW tw_171) rfl rfl rfl (hZ.2.2.2.2.2.2.2.2.2.2.2.1 (RX7, 48, yX4_init, RX7) (List.mem_of_getElem? (i := 2) rfl)) (hts _ tw_82) (by decide +kernel) ⟨Nat.le_of_ble_eq_true rfl, Nat.le_of_ble_eq_true rfl⟩, rfl, hts _ tw_170⟩ (pS hS hAlo hlo hP hK (va_Dlo hD hAlo) hZ [26] (by decide) rfl) rfl rfl hl.1 rfl (lv_room (Nat.le_of_ble_eq_true rfl)) dX7_init_199 ⟨Nat.le_of_ble_eq_true rfl, Nat.le_of_ble_eq_true rfl⟩) hS hA hP hD [26] [0, 1, 2, 3, 4, 5, 6, 7, 8, 9, 10, 11, 12, 13, 14, 15, 16, 17, 18, 19, 20, 21, 22, 23, 24, 25] rfl rfl (by decide) (by decide) (fun u H locs hw_37 hP hD hS => ?_)
  obtain ⟨q_37, q1_37⟩ := u
  have hP : va_P D classes [(h0, .inr (7, [.ref q_1, .ref q_3, .ref q_4, .ref q_5, .ref q_7, .int 0, .int (-1), .ref q_8, .ref q_10, .ref q_11, .ref q_12, .ref q_14])), (q_1, .inr (6, [.ref q_2, .int 0, .int 0, .int 0, .int 0, .int 0])), (q_2, .inl (k 0, 240, .inl (fun _ => 0))), (q_3, .inl (k 3, 3, .inr (.inr (.inr (.inr (va_up (va_up (va_up (fun _ => none) (Int32.toNatClampNeg 0) (some q_16)) (Int32.toNatClampNeg 1) (some q_20)) (Int32.toNatClampNeg 2) (some q_24))))))), (q_4, .inl (k 4, 3, .inr (.inr (.inr (.inr (va_up (va_up (va_up (fun _ => none) (Int32.toNatClampNeg 0) (some q_18)) (Int32.toNatClampNeg 1) (some q_22)) (Int32.toNatClampNeg 2) (some q_26))))))), (q_5, .inr (5, [.ref q_6, .ref q1_6, .ref q2_6, .ref q3_6])), (q_6, .inl (k 1, 10, .inl (fun _ => 0))), (q_7, .inl (k 5, 4, .inr (.inr (.inr (.inr (va_up (va_up (va_up (va_up (fun _ => none) (Int32.toNatClampNeg 0) (some q_28)) (Int32.toNatClampNeg 1) (some q_30)) (Int32.toNatClampNeg 2) (some q_32)) (Int32.toNatClampNeg 3) (some q_34))))))), (q_8, .inr (4, [.ref q_9, .ref q1_9, .int 0, .int 0, .int 0, .int 0])), (q_9, .inl (k 1, 4, .inl (fun _ => 0))), (q1_9, .inl (k 1, 4, .inl (fun _ => 0))), (q_10, .inl (k 6, 2, .inr (.inr (.inr (.inr (fun _ => none)))))), (q_11, .inl (k 2, 2, .inl (fun _ => 0))), (q_16, .inr (5, [.ref q_17, .ref q1_17, .ref q2_17, .ref q3_17])), (q_17, .inl (k 1, 10, .inl (fun _ => 0))), (q_18, .inr (0, [.ref q_16, .ref q_19, .ref q1_19, .ref q2_19, .ref q3_19])), (q_20, .inr (5, [.ref q_21, .ref q1_21, .ref q2_21, .ref q3_21])), (q_21, .inl (k 1, 10, .inl (fun _ => 0))), (q_22, .inr (0, [.ref q_20, .ref q_23, .ref q1_23, .ref q2_23, .ref q3_23])), (q_24, .inr (5, [.ref q_25, .ref q1_25, .ref q2_25, .ref q3_25])), (q_25, .inl (k 1, 10, .inl (fun _ => 0))), (q_26, .inr (0, [.ref q_24, .ref q_27, .ref q1_27, .ref q2_27, .ref q3_27])), (q_28, .inr (3, [.ref q_29, .ref q1_29, .int 0, .int 0, .int 0])), (q_30, .inr (3, [.ref q_31, .ref q1_31, .int 0, .int 0, .int 0])), (q_32, .inr (3, [.ref q_33, .ref q1_33, .int 0, .int 0, .int 0])), (q_34, .inr (3, [.ref q_35, .ref q1_35, .int 0, .int 0, .int 0])), (q_36, .inr (4, [.ref q_37, .ref q1_37, .int 0, .int 0, .int 0, .int 0])), (q_37, .inl (k 1, 4, .inl (fun _ => 0))), (q1_37, .inl (k 1, 4, .inl (fun _ => 0)))] H := hP
  have hD : va_D A [(h0, .inr (7, [.ref q_1, .ref q_3, .ref q_4, .ref q_5, .ref q_7, .int 0, .int (-1), .ref q_8, .ref q_10, .ref q_11, .ref q_12, .ref q_14])), (q_1, .inr (6, [.ref q_2, .int 0, .int 0, .int 0, .int 0, .int 0])), (q_2, .inl (k 0, 240, .inl (fun _ => 0))), (q_3, .inl (k 3, 3, .inr (.inr (.inr (.inr (va_up (va_up (va_up (fun _ => none) (Int32.toNatClampNeg 0) (some q_16)) (Int32.toNatClampNeg 1) (some q_20)) (Int32.toNatClampNeg 2) (some q_24))))))), (q_4, .inl (k 4, 3, .inr (.inr (.inr (.inr (va_up (va_up (va_up (fun _ => none) (Int32.toNatClampNeg 0) (some q_18)) (Int32.toNatClampNeg 1) (some q_22)) (Int32.toNatClampNeg 2) (some q_26))))))), (q_5, .inr (5, [.ref q_6, .ref q1_6, .ref q2_6, .ref q3_6])), (q_6, .inl (k 1, 10, .inl (fun _ => 0))), (q_7, .inl (k 5, 4, .inr (.inr (.inr (.inr (va_up (va_up (va_up (va_up (fun _ => none) (Int32.toNatClampNeg 0) (some q_28)) (Int32.toNatClampNeg 1) (some q_30)) (Int32.toNatClampNeg 2) (some q_32)) (Int32.toNatClampNeg 3) (some q_34))))))), (q_8, .inr (4, [.ref q_9, .ref q1_9, .int 0, .int 0, .int 0, .int 0])), (q_9, .inl (k 1, 4, .inl (fun _ => 0))), (q1_9, .inl (k 1, 4, .inl (fun _ => 0))), (q_10, .inl (k 6, 2, .inr (.inr (.inr (.inr (fun _ => none)))))), (q_11, .inl (k 2, 2, .inl (fun _ => 0))), (q_16, .inr (5, [.ref q_17, .ref q1_17, .ref q2_17, .ref q3_17])), (q_17, .inl (k 1, 10, .inl (fun _ => 0))), (q_18, .inr (0, [.ref q_16, .ref q_19, .ref q1_19, .ref q2_19, .ref q3_19])), (q_20, .inr (5, [.ref q_21, .ref q1_21, .ref q2_21, .ref q3_21])), (q_21, .inl (k 1, 10, .inl (fun _ => 0))), (q_22, .inr (0, [.ref q_20, .ref q_23, .ref q1_23, .ref q2_23, .ref q3_23])), (q_24, .inr (5, [.ref q_25, .ref q1_25, .ref q2_25, .ref q3_25])), (q_25, .inl (k 1, 10, .inl (fun _ => 0))), (q_26, .inr (0, [.ref q_24, .ref q_27, .ref q1_27, .ref q2_27, .ref q3_27])), (q_28, .inr (3, [.ref q_29, .ref q1_29, .int 0, .int 0, .int 0])), (q_30, .inr (3, [.ref q_31, .ref q1_31, .int 0, .int 0, .int 0])), (q_32, .inr (3, [.ref q_33, .ref q1_33, .int 0, .int 0, .int 0])), (q_34, .inr (3, [.ref q_35, .ref q1_35, .int 0, .int 0, .int 0])), (q_36, .inr (4, [.ref q_37, .ref q1_37, .int 0, .int 0, .int 0, .int 0])), (q_37, .inl (k 1, 4, .inl (fun _ => 0))), (q1_37, .inl (k 1, 4, .inl (fun _ => 0)))] := hD
  try dsimp only at hw_37
  refine W.widen (k := 68) (n := 3339) (by decide) (by decide) ?_
  refine va_astq hx hb hK hP hD hS 11 6 26 4 rfl rfl rfl rfl (by unfold vp_in; decide) dX7_init_202 (fun H locs hP hD hS => ?_)
  have hP : va_P D classes [(h0, .inr (7, [.ref q_1, .ref q_3, .ref q_4, .ref q_5, .ref q_7, .int 0, .int (-1), .ref q_8, .ref q_10, .ref q_11, .ref q_12, .ref q_14])), (q_1, .inr (6, [.ref q_2, .int 0, .int 0, .int 0, .int 0, .int 0])), (q_2, .inl (k 0, 240, .inl (fun _ => 0))), (q_3, .inl (k 3, 3, .inr (.inr (.inr (.inr (va_up (va_up (va_up (fun _ => none) (Int32.toNatClampNeg 0) (some q_16)) (Int32.toNatClampNeg 1) (some q_20)) (Int32.toNatClampNeg 2) (some q_24))))))), (q_4, .inl (k 4, 3, .inr (.inr (.inr (.inr (va_up (va_up (va_up (fun _ => none) (Int32.toNatClampNeg 0) (some q_18)) (Int32.toNatClampNeg 1) (some q_22)) (Int32.toNatClampNeg 2) (some q_26))))))), (q_5, .inr (5, [.ref q_6, .ref q1_6, .ref q2_6, .ref q3_6])), (q_6, .inl (k 1, 10, .inl (fun _ => 0))), (q_7, .inl (k 5, 4, .inr (.inr (.inr (.inr (va_up (va_up (va_up (va_up (fun _ => none) (Int32.toNatClampNeg 0) (some q_28)) (Int32.toNatClampNeg 1) (some q_30)) (Int32.toNatClampNeg 2) (some q_32)) (Int32.toNatClampNeg 3) (some q_34))))))), (q_8, .inr (4, [.ref q_9, .ref q1_9, .int 0, .int 0, .int 0, .int 0])), (q_9, .inl (k 1, 4, .inl (fun _ => 0))), (q1_9, .inl (k 1, 4, .inl (fun _ => 0))), (q_10, .inl (k 6, 2, .inr (.inr (.inr (.inr (va_up (fun _ => none) (Int32.toNatClampNeg 0) (some q_36))))))), (q_11, .inl (k 2, 2, .inl (fun _ => 0))), (q_16, .inr (5, [.ref q_17, .ref q1_17, .ref q2_17, .ref q3_17])), (q_17, .inl (k 1, 10, .inl (fun _ => 0))), (q_18, .inr (0, [.ref q_16, .ref q_19, .ref q1_19, .ref q2_19, .ref q3_19])), (q_20, .inr (5, [.ref q_21, .ref q1_21, .ref q2_21, .ref q3_21])), (q_21, .inl (k 1, 10, .inl (fun _ => 0))), (q_22, .inr (0, [.ref q_20, .ref q_23, .ref q1_23, .ref q2_23, .ref q3_23])), (q_24, .inr (5, [.ref q_25, .ref q1_25, .ref q2_25, .ref q3_25])), (q_25, .inl (k 1, 10, .inl (fun _ => 0))), (q_26, .inr (0, [.ref q_24, .ref q_27, .ref q1_27, .ref q2_27, .ref q3_27])), (q_28, .inr (3, [.ref q_29, .ref q1_29, .int 0, .int 0, .int 0])), (q_30, .inr (3, [.ref q_31, .ref q1_31, .int 0, .int 0, .int 0])), (q_32, .inr (3, [.ref q_33, .ref q1_33, .int 0, .int 0, .int 0])), (q_34, .inr (3, [.ref q_35, .ref q1_35, .int 0, .int 0, .int 0])), (q_36, .inr (4, [.ref q_37, .ref q1_37, .int 0, .int 0, .int 0, .int 0])), (q_37, .inl (k 1, 4, .inl (fun _ => 0))), (q1_37, .inl (k 1, 4, .inl (fun _ => 0)))] H := hP
  have hD : va_D A [(h0, .inr (7, [.ref q_1, .ref q_3, .ref q_4, .ref q_5, .ref q_7, .int 0, .int (-1), .ref q_8, .ref q_10, .ref q_11, .ref q_12, .ref q_14])), (q_1, .inr (6, [.ref q_2, .int 0, .int 0, .int 0, .int 0, .int 0])), (q_2, .inl (k 0, 240, .inl (fun _ => 0))), (q_3, .inl (k 3, 3, .inr (.inr (.inr (.inr (va_up (va_up (va_up (fun _ => none) (Int32.toNatClampNeg 0) (some q_16)) (Int32.toNatClampNeg 1) (some q_20)) (Int32.toNatClampNeg 2) (some q_24))))))), (q_4, .inl (k 4, 3, .inr (.inr (.inr (.inr (va_up (va_up (va_up (fun _ => none) (Int32.toNatClampNeg 0) (some q_18)) (Int32.toNatClampNeg 1) (some q_22)) (Int32.toNatClampNeg 2) (some q_26))))))), (q_5, .inr (5, [.ref q_6, .ref q1_6, .ref q2_6, .ref q3_6])), (q_6, .inl (k 1, 10, .inl (fun _ => 0))), (q_7, .inl (k 5, 4, .inr (.inr (.inr (.inr (va_up (va_up (va_up (va_up (fun _ => none) (Int32.toNatClampNeg 0) (some q_28)) (Int32.toNatClampNeg 1) (some q_30)) (Int32.toNatClampNeg 2) (some q_32)) (Int32.toNatClampNeg 3) (some q_34))))))), (q_8, .inr (4, [.ref q_9, .ref q1_9, .int 0, .int 0, .int 0, .int 0])), (q_9, .inl (k 1, 4, .inl (fun _ => 0))), (q1_9, .inl (k 1, 4, .inl (fun _ => 0))), (q_10, .inl (k 6, 2, .inr (.inr (.inr (.inr (va_up (fun _ => none) (Int32.toNatClampNeg 0) (some q_36))))))), (q_11, .inl (k 2, 2, .inl (fun _ => 0))), (q_16, .inr (5, [.ref q_17, .ref q1_17, .ref q2_17, .ref q3_17])), (q_17, .inl (k 1, 10, .inl (fun _ => 0))), (q_18, .inr (0, [.ref q_16, .ref q_19, .ref q1_19, .ref q2_19, .ref q3_19])), (q_20, .inr (5, [.ref q_21, .ref q1_21, .ref q2_21, .ref q3_21])), (q_21, .inl (k 1, 10, .inl (fun _ => 0))), (q_22, .inr (0, [.ref q_20, .ref q_23, .ref q1_23, .ref q2_23, .ref q3_23])), (q_24, .inr (5, [.ref q_25, .ref q1_25, .ref q2_25, .ref q3_25])), (q_25, .inl (k 1, 10, .inl (fun _ => 0))), (q_26, .inr (0, [.ref q_24, .ref q_27, .ref q1_27, .ref q2_27, .ref q3_27])), (q_28, .inr (3, [.ref q_29, .ref q1_29, .int 0, .int 0, .int 0])), (q_30, .inr (3, [.ref q_31, .ref q1_31, .int 0, .int 0, .int 0])), (q_32, .inr (3, [.ref q_33, .ref q1_33, .int 0, .int 0, .int 0])), (q_34, .inr (3, [.ref q_35, .ref q1_35, .int 0, .int 0, .int 0])), (q_36, .inr (4, [.ref q_37, .ref q1_37, .int 0, .int 0, .int 0, .int 0])), (q_37, .inl (k 1, 4, .inl (fun _ => 0))), (q1_37, .inl (k 1, 4, .inl (fun _ => 0)))] := hD
  refine lv_iinc (v := 1) (lv' := [(1, .int 1), (0, .ref h0)]) hx hb dX7_init_203 hl (k := 0) rfl (by decide) (by decide) rfl (fun ls hl => ?_)
  refine lv_goto (tgt := 185) hx hb dX7_init_206 (by decide) ?_
  refine lv_iload_n hx hb dX7_init_185 rfl (lv_at hl 0 rfl) ?_
  refine lv_iconst (v := 2) hx hb dX7_init_186 (by decide) ?_
  refine lv_icmp_ge (tgt := 209) hx hb dX7_init_187 (by decide) (fun h => absurd h (by decide)) (fun _ => ?_)
  refine lv_aload_n hx hb dX7_init_190 rfl (lv_at hl 1 rfl) ?_
  refine va_get (D := D) (ci := 7) (v := .ref q_10) (C := RX7) (T := TX7) (N := 12) hx hb hts inX7 hown hK hP 0 rfl rfl 8 (by decide) (hts _ tw_313) (fun _ h9 => h9) rfl dX7_init_191 ?_
  refine lv_iload_n hx hb dX7_init_194 rfl (lv_at hl 0 rfl) ?_
  refine va_new (ci := 4) (fs := [.null, .null, .int 0, .int 0, .int 0, .int 0]) (C := RX4) (T := TX4) (N := 6) hx hb hts inX4 tyX4 tyX4_ok hown (hts _ tw_167) (hts _ tw_168) (hts _ tw_82) hK hP hD hS hA rfl (fun j hj => match j, hj with | 0, _ => rfl | 1, _ => rfl | 2, _ => rfl | 3, _ => rfl | 4, _ => rfl | 5, _ => rfl | j + 6, h => absurd h (by omega)) (Nat.le_of_ble_eq_true rfl) (Nat.le_of_ble_eq_true rfl) dX7_init_195 (fun q_38 H hP hD hS => ?_)
  refine W.widen (k := 69) (n := 3345) (by decide) (by decide) ?_
  have hP : va_P D classes [(h0, .inr (7, [.ref q_1, .ref q_3, .ref q_4, .ref q_5, .ref q_7, .int 0, .int (-1), .ref q_8, .ref q_10, .ref q_11, .ref q_12, .ref q_14])), (q_1, .inr (6, [.ref q_2, .int 0, .int 0, .int 0, .int 0, .int 0])), (q_2, .inl (k 0, 240, .inl (fun _ => 0))), (q_3, .inl (k 3, 3, .inr (.inr (.inr (.inr (va_up (va_up (va_up (fun _ => none) (Int32.toNatClampNeg 0) (some q_16)) (Int32.toNatClampNeg 1) (some q_20)) (Int32.toNatClampNeg 2) (some q_24))))))), (q_4, .inl (k 4, 3, .inr (.inr (.inr (.inr (va_up (va_up (va_up (fun _ => none) (Int32.toNatClampNeg 0) (some q_18)) (Int32.toNatClampNeg 1) (some q_22)) (Int32.toNatClampNeg 2) (some q_26))))))), (q_5, .inr (5, [.ref q_6, .ref q1_6, .ref q2_6, .ref q3_6])), (q_6, .inl (k 1, 10, .inl (fun _ => 0))), (q_7, .inl (k 5, 4, .inr (.inr (.inr (.inr (va_up (va_up (va_up (va_up (fun _ => none) (Int32.toNatClampNeg 0) (some q_28)) (Int32.toNatClampNeg 1) (some q_30)) (Int32.toNatClampNeg 2) (some q_32)) (Int32.toNatClampNeg 3) (some q_34))))))), (q_8, .inr (4, [.ref q_9, .ref q1_9, .int 0, .int 0, .int 0, .int 0])), (q_9, .inl (k 1, 4, .inl (fun _ => 0))), (q1_9, .inl (k 1, 4, .inl (fun _ => 0))), (q_10, .inl (k 6, 2, .inr (.inr (.inr (.inr (va_up (fun _ => none) (Int32.toNatClampNeg 0) (some q_36))))))), (q_11, .inl (k 2, 2, .inl (fun _ => 0))), (q_16, .inr (5, [.ref q_17, .ref q1_17, .ref q2_17, .ref q3_17])), (q_17, .inl (k 1, 10, .inl (fun _ => 0))), (q_18, .inr (0, [.ref q_16, .ref q_19, .ref q1_19, .ref q2_19, .ref q3_19])), (q_20, .inr (5, [.ref q_21, .ref q1_21, .ref q2_21, .ref q3_21])), (q_21, .inl (k 1, 10, .inl (fun _ => 0))), (q_22, .inr (0, [.ref q_20, .ref q_23, .ref q1_23, .ref q2_23, .ref q3_23])), (q_24, .inr (5, [.ref q_25, .ref q1_25, .ref q2_25, .ref q3_25])), (q_25, .inl (k 1, 10, .inl (fun _ => 0))), (q_26, .inr (0, [.ref q_24, .ref q_27, .ref q1_27, .ref q2_27, .ref q3_27])), (q_28, .inr (3, [.ref q_29, .ref q1_29, .int 0, .int 0, .int 0])), (q_30, .inr (3, [.ref q_31, .ref q1_31, .int 0, .int 0, .int 0])), (q_32, .inr (3, [.ref q_33, .ref q1_33, .int 0, .int 0, .int 0])), (q_34, .inr (3, [.ref q_35, .ref q1_35, .int 0, .int 0, .int 0])), (q_36, .inr (4, [.ref q_37, .ref q1_37, .int 0, .int 0, .int 0, .int 0])), (q_37, .inl (k 1, 4, .inl (fun _ => 0))), (q1_37, .inl (k 1, 4, .inl (fun _ => 0))), (q_38, .inr (4, [.null, .null, .int 0, .int 0, .int 0, .int 0]))] H := hP
  have hD : va_D A [(h0, .inr (7, [.ref q_1, .ref q_3, .ref q_4, .ref q_5, .ref q_7, .int 0, .int (-1), .ref q_8, .ref q_10, .ref q_11, .ref q_12, .ref q_14])), (q_1, .inr (6, [.ref q_2, .int 0, .int 0, .int 0, .int 0, .int 0])), (q_2, .inl (k 0, 240, .inl (fun _ => 0))), (q_3, .inl (k 3, 3, .inr (.inr (.inr (.inr (va_up (va_up (va_up (fun _ => none) (Int32.toNatClampNeg 0) (some q_16)) (Int32.toNatClampNeg 1) (some q_20)) (Int32.toNatClampNeg 2) (some q_24))))))), (q_4, .inl (k 4, 3, .inr (.inr (.inr (.inr (va_up (va_up (va_up (fun _ => none) (Int32.toNatClampNeg 0) (some q_18)) (Int32.toNatClampNeg 1) (some q_22)) (Int32.toNatClampNeg 2) (some q_26))))))), (q_5, .inr (5, [.ref q_6, .ref q1_6, .ref q2_6, .ref q3_6])), (q_6, .inl (k 1, 10, .inl (fun _ => 0))), (q_7, .inl (k 5, 4, .inr (.inr (.inr (.inr (va_up (va_up (va_up (va_up (fun _ => none) (Int32.toNatClampNeg 0) (some q_28)) (Int32.toNatClampNeg 1) (some q_30)) (Int32.toNatClampNeg 2) (some q_32)) (Int32.toNatClampNeg 3) (some q_34))))))), (q_8, .inr (4, [.ref q_9, .ref q1_9, .int 0, .int 0, .int 0, .int 0])), (q_9, .inl (k 1, 4, .inl (fun _ => 0))), (q1_9, .inl (k 1, 4, .inl (fun _ => 0))), (q_10, .inl (k 6, 2, .inr (.inr (.inr (.inr (va_up (fun _ => none) (Int32.toNatClampNeg 0) (some q_36))))))), (q_11, .inl (k 2, 2, .inl (fun _ => 0))), (q_16, .inr (5, [.ref q_17, .ref q1_17, .ref q2_17, .ref q3_17])), (q_17, .inl (k 1, 10, .inl (fun _ => 0))), (q_18, .inr (0, [.ref q_16, .ref q_19, .ref q1_19, .ref q2_19, .ref q3_19])), (q_20, .inr (5, [.ref q_21, .ref q1_21, .ref q2_21, .ref q3_21])), (q_21, .inl (k 1, 10, .inl (fun _ => 0))), (q_22, .inr (0, [.ref q_20, .ref q_23, .ref q1_23, .ref q2_23, .ref q3_23])), (q_24, .inr (5, [.ref q_25, .ref q1_25, .ref q2_25, .ref q3_25])), (q_25, .inl (k 1, 10, .inl (fun _ => 0))), (q_26, .inr (0, [.ref q_24, .ref q_27, .ref q1_27, .ref q2_27, .ref q3_27])), (q_28, .inr (3, [.ref q_29, .ref q1_29, .int 0, .int 0, .int 0])), (q_30, .inr (3, [.ref q_31, .ref q1_31, .int 0, .int 0, .int 0])), (q_32, .inr (3, [.ref q_33, .ref q1_33, .int 0, .int 0, .int 0])), (q_34, .inr (3, [.ref q_35, .ref q1_35, .int 0, .int 0, .int 0])), (q_36, .inr (4, [.ref q_37, .ref q1_37, .int 0, .int 0, .int 0, .int 0])), (q_37, .inl (k 1, 4, .inl (fun _ => 0))), (q1_37, .inl (k 1, 4, .inl (fun _ => 0))), (q_38, .inr (4, [.null, .null, .int 0, .int 0, .int 0, .int 0]))] := hD
  refine lv_dup hx hb dX7_init_198 rfl ?_
  refine rw_v (D := D) (wr := [(h0, .inr (7, [.ref q_1, .ref q_3, .ref q_4, .ref q_5, .ref q_7, .int 0, .int (-1), .ref q_8, .ref q_10, .ref q_11, .ref q_12, .ref q_14])), (q_1, .inr (6, [.ref q_2, .int 0, .int 0, .int 0, .int 0, .int 0])), (q_2, .inl (k 0, 240, .inl (fun _ => 0))), (q_3, .inl (k 3, 3, .inr (.inr (.inr (.inr (va_up (va_up (va_up (fun _ => none) (Int32.toNatClampNeg 0) (some q_16)) (Int32.toNatClampNeg 1) (some q_20)) (Int32.toNatClampNeg 2) (some q_24))))))), (q_4, .inl (k 4, 3, .inr (.inr (.inr (.inr (va_up (va_up (va_up (fun _ => none) (Int32.toNatClampNeg 0) (some q_18)) (Int32.toNatClampNeg 1) (some q_22)) (Int32.toNatClampNeg 2) (some q_26))))))), (q_5, .inr (5, [.ref q_6, .ref q1_6, .ref q2_6, .ref q3_6])), (q_6, .inl (k 1, 10, .inl (fun _ => 0))), (q_7, .inl (k 5, 4, .inr (.inr (.inr (.inr (va_up (va_up (va_up (va_up (fun _ => none) (Int32.toNatClampNeg 0) (some q_28)) (Int32.toNatClampNeg 1) (some q_30)) (Int32.toNatClampNeg 2) (some q_32)) (Int32.toNatClampNeg 3) (some q_34))))))), (q_8, .inr (4, [.ref q_9, .ref q1_9, .int 0, .int 0, .int 0, .int 0])), (q_9, .inl (k 1, 4, .inl (fun _ => 0))), (q1_9, .inl (k 1, 4, .inl (fun _ => 0))), (q_10, .inl (k 6, 2, .inr (.inr (.inr (.inr (va_up (fun _ => none) (Int32.toNatClampNeg 0) (some q_36))))))), (q_11, .inl (k 2, 2, .inl (fun _ => 0))), (q_16, .inr (5, [.ref q_17, .ref q1_17, .ref q2_17, .ref q3_17])), (q_17, .inl (k 1, 10, .inl (fun _ => 0))), (q_18, .inr (0, [.ref q_16, .ref q_19, .ref q1_19, .ref q2_19, .ref q3_19])), (q_20, .inr (5, [.ref q_21, .ref q1_21, .ref q2_21, .ref q3_21])), (q_21, .inl (k 1, 10, .inl (fun _ => 0))), (q_22, .inr (0, [.ref q_20, .ref q_23, .ref q1_23, .ref q2_23, .ref q3_23])), (q_24, .inr (5, [.ref q_25, .ref q1_25, .ref q2_25, .ref q3_25])), (q_25, .inl (k 1, 10, .inl (fun _ => 0))), (q_26, .inr (0, [.ref q_24, .ref q_27, .ref q1_27, .ref q2_27, .ref q3_27])), (q_28, .inr (3, [.ref q_29, .ref q1_29, .int 0, .int 0, .int 0])), (q_30, .inr (3, [.ref q_31, .ref q1_31, .int 0, .int 0, .int 0])), (q_32, .inr (3, [.ref q_33, .ref q1_33, .int 0, .int 0, .int 0])), (q_34, .inr (3, [.ref q_35, .ref q1_35, .int 0, .int 0, .int 0])), (q_36, .inr (4, [.ref q_37, .ref q1_37, .int 0, .int 0, .int 0, .int 0])), (q_37, .inl (k 1, 4, .inl (fun _ => 0))), (q1_37, .inl (k 1, 4, .inl (fun _ => 0)))]) (va_runIN (As := []) (rest := [.ref q_38, .int 1, .ref q_10]) ⟨hx, hb, hml, hown, hts⟩ ((k_Scene_init l D k st lo q_38) H.size) ⟨va_cnB 0 hts (gLW tw_171) rfl rfl rfl (hZ.2.2.2.2.2.2.2.2.2.2.2.1 (RX7, 48, yX4_init, RX7) (List.mem_of_getElem? (i := 2) rfl)) (hts _ tw_82) (by decide +kernel) ⟨Nat.le_of_ble_eq_true rfl, Nat.le_of_ble_eq_true rfl⟩, rfl, hts _ tw_170⟩ (pS hS hAlo hlo hP hK (va_Dlo hD hAlo) hZ [29] (by decide) rfl) rfl rfl hl.1 rfl (lv_room (Nat.le_of_ble_eq_true rfl)) dX7_init_199 ⟨Nat.le_of_ble_eq_true rfl, Nat.le_of_ble_eq_true rfl⟩) hS hA hP hD [29] [0, 1, 2, 3, 4, 5, 6, 7, 8, 9, 10, 11, 12, 13, 14, 15, 16, 17, 18, 19, 20, 21, 22, 23, 24, 25, 26, 27, 28] rfl rfl (by decide) (by decide) (fun u H locs hw_39 hP hD hS => ?_)
  obtain ⟨q_39, q1_39⟩ := u
  have hP : va_P D classes [(h0, .inr (7, [.ref q_1, .ref q_3, .ref q_4, .ref q_5, .ref q_7, .int 0, .int (-1), .ref q_8, .ref q_10, .ref q_11, .ref q_12, .ref q_14])), (q_1, .inr (6, [.ref q_2, .int 0, .int 0, .int 0, .int 0, .int 0])), (q_2, .inl (k 0, 240, .inl (fun _ => 0))), (q_3, .inl (k 3, 3, .inr (.inr (.inr (.inr (va_up (va_up (va_up (fun _ => none) (Int32.toNatClampNeg 0) (some q_16)) (Int32.toNatClampNeg 1) (some q_20)) (Int32.toNatClampNeg 2) (some q_24))))))), (q_4, .inl (k 4, 3, .inr (.inr (.inr (.inr (va_up (va_up (va_up (fun _ => none) (Int32.toNatClampNeg 0) (some q_18)) (Int32.toNatClampNeg 1) (some q_22)) (Int32.toNatClampNeg 2) (some q_26))))))), (q_5, .inr (5, [.ref q_6, .ref q1_6, .ref q2_6, .ref q3_6])), (q_6, .inl (k 1, 10, .inl (fun _ => 0))), (q_7, .inl (k 5, 4, .inr (.inr (.inr (.inr (va_up (va_up (va_up (va_up (fun _ => none) (Int32.toNatClampNeg 0) (some q_28)) (Int32.toNatClampNeg 1) (some q_30)) (Int32.toNatClampNeg 2) (some q_32)) (Int32.toNatClampNeg 3) (some q_34))))))), (q_8, .inr (4, [.ref q_9, .ref q1_9, .int 0, .int 0, .int 0, .int 0])), (q_9, .inl (k 1, 4, .inl (fun _ => 0))), (q1_9, .inl (k 1, 4, .inl (fun _ => 0))), (q_10, .inl (k 6, 2, .inr (.inr (.inr (.inr (va_up (fun _ => none) (Int32.toNatClampNeg 0) (some q_36))))))), (q_11, .inl (k 2, 2, .inl (fun _ => 0))), (q_16, .inr (5, [.ref q_17, .ref q1_17, .ref q2_17, .ref q3_17])), (q_17, .inl (k 1, 10, .inl (fun _ => 0))), (q_18, .inr (0, [.ref q_16, .ref q_19, .ref q1_19, .ref q2_19, .ref q3_19])), (q_20, .inr (5, [.ref q_21, .ref q1_21, .ref q2_21, .ref q3_21])), (q_21, .inl (k 1, 10, .inl (fun _ => 0))), (q_22, .inr (0, [.ref q_20, .ref q_23, .ref q1_23, .ref q2_23, .ref q3_23])), (q_24, .inr (5, [.ref q_25, .ref q1_25, .ref q2_25, .ref q3_25])), (q_25, .inl (k 1, 10, .inl (fun _ => 0))), (q_26, .inr (0, [.ref q_24, .ref q_27, .ref q1_27, .ref q2_27, .ref q3_27])), (q_28, .inr (3, [.ref q_29, .ref q1_29, .int 0, .int 0, .int 0])), (q_30, .inr (3, [.ref q_31, .ref q1_31, .int 0, .int 0, .int 0])), (q_32, .inr (3, [.ref q_33, .ref q1_33, .int 0, .int 0, .int 0])), (q_34, .inr (3, [.ref q_35, .ref q1_35, .int 0, .int 0, .int 0])), (q_36, .inr (4, [.ref q_37, .ref q1_37, .int 0, .int 0, .int 0, .int 0])), (q_37, .inl (k 1, 4, .inl (fun _ => 0))), (q1_37, .inl (k 1, 4, .inl (fun _ => 0))), (q_38, .inr (4, [.ref q_39, .ref q1_39, .int 0, .int 0, .int 0, .int 0])), (q_39, .inl (k 1, 4, .inl (fun _ => 0))), (q1_39, .inl (k 1, 4, .inl (fun _ => 0)))] H := hP
  have hD : va_D A [(h0, .inr (7, [.ref q_1, .ref q_3, .ref q_4, .ref q_5, .ref q_7, .int 0, .int (-1), .ref q_8, .ref q_10, .ref q_11, .ref q_12, .ref q_14])), (q_1, .inr (6, [.ref q_2, .int 0, .int 0, .int 0, .int 0, .int 0])), (q_2, .inl (k 0, 240, .inl (fun _ => 0))), (q_3, .inl (k 3, 3, .inr (.inr (.inr (.inr (va_up (va_up (va_up (fun _ => none) (Int32.toNatClampNeg 0) (some q_16)) (Int32.toNatClampNeg 1) (some q_20)) (Int32.toNatClampNeg 2) (some q_24))))))), (q_4, .inl (k 4, 3, .inr (.inr (.inr (.inr (va_up (va_up (va_up (fun _ => none) (Int32.toNatClampNeg 0) (some q_18)) (Int32.toNatClampNeg 1) (some q_22)) (Int32.toNatClampNeg 2) (some q_26))))))), (q_5, .inr (5, [.ref q_6, .ref q1_6, .ref q2_6, .ref q3_6])), (q_6, .inl (k 1, 10, .inl (fun _ => 0))), (q_7, .inl (k 5, 4, .inr (.inr (.inr (.inr (va_up (va_up (va_up (va_up (fun _ => none) (Int32.toNatClampNeg 0) (some q_28)) (Int32.toNatClampNeg 1) (some q_30)) (Int32.toNatClampNeg 2) (some q_32)) (Int32.toNatClampNeg 3) (some q_34))))))), (q_8, .inr (4, [.ref q_9, .ref q1_9, .int 0, .int 0, .int 0, .int 0])), (q_9, .inl (k 1, 4, .inl (fun _ => 0))), (q1_9, .inl (k 1, 4, .inl (fun _ => 0))), (q_10, .inl (k 6, 2, .inr (.inr (.inr (.inr (va_up (fun _ => none) (Int32.toNatClampNeg 0) (some q_36))))))), (q_11, .inl (k 2, 2, .inl (fun _ => 0))), (q_16, .inr (5, [.ref q_17, .ref q1_17, .ref q2_17, .ref q3_17])), (q_17, .inl (k 1, 10, .inl (fun _ => 0))), (q_18, .inr (0, [.ref q_16, .ref q_19, .ref q1_19, .ref q2_19, .ref q3_19])), (q_20, .inr (5, [.ref q_21, .ref q1_21, .ref q2_21, .ref q3_21])), (q_21, .inl (k 1, 10, .inl (fun _ => 0))), (q_22, .inr (0, [.ref q_20, .ref q_23, .ref q1_23, .ref q2_23, .ref q3_23])), (q_24, .inr (5, [.ref q_25, .ref q1_25, .ref q2_25, .ref q3_25])), (q_25, .inl (k 1, 10, .inl (fun _ => 0))), (q_26, .inr (0, [.ref q_24, .ref q_27, .ref q1_27, .ref q2_27, .ref q3_27])), (q_28, .inr (3, [.ref q_29, .ref q1_29, .int 0, .int 0, .int 0])), (q_30, .inr (3, [.ref q_31, .ref q1_31, .int 0, .int 0, .int 0])), (q_32, .inr (3, [.ref q_33, .ref q1_33, .int 0, .int 0, .int 0])), (q_34, .inr (3, [.ref q_35, .ref q1_35, .int 0, .int 0, .int 0])), (q_36, .inr (4, [.ref q_37, .ref q1_37, .int 0, .int 0, .int 0, .int 0])), (q_37, .inl (k 1, 4, .inl (fun _ => 0))), (q1_37, .inl (k 1, 4, .inl (fun _ => 0))), (q_38, .inr (4, [.ref q_39, .ref q1_39, .int 0, .int 0, .int 0, .int 0])), (q_39, .inl (k 1, 4, .inl (fun _ => 0))), (q1_39, .inl (k 1, 4, .inl (fun _ => 0)))] := hD
  try dsimp only at hw_39
  refine W.widen (k := 71) (n := 3353) (by decide) (by decide) ?_
  refine va_astq hx hb hK hP hD hS 11 6 29 4 rfl rfl rfl rfl (by unfold vp_in; decide) dX7_init_202 (fun H locs hP hD hS => ?_)
  have hP : va_P D classes [(h0, .inr (7, [.ref q_1, .ref q_3, .ref q_4, .ref q_5, .ref q_7, .int 0, .int (-1), .ref q_8, .ref q_10, .ref q_11, .ref q_12, .ref q_14])), (q_1, .inr (6, [.ref q_2, .int 0, .int 0, .int 0, .int 0, .int 0])), (q_2, .inl (k 0, 240, .inl (fun _ => 0))), (q_3, .inl (k 3, 3, .inr (.inr (.inr (.inr (va_up (va_up (va_up (fun _ => none) (Int32.toNatClampNeg 0) (some q_16)) (Int32.toNatClampNeg 1) (some q_20)) (Int32.toNatClampNeg 2) (some q_24))))))), (q_4, .inl (k 4, 3, .inr (.inr (.inr (.inr (va_up (va_up (va_up (fun _ => none) (Int32.toNatClampNeg 0) (some q_18)) (Int32.toNatClampNeg 1) (some q_22)) (Int32.toNatClampNeg 2) (some q_26))))))), (q_5, .inr (5, [.ref q_6, .ref q1_6, .ref q2_6, .ref q3_6])), (q_6, .inl (k 1, 10, .inl (fun _ => 0))), (q_7, .inl (k 5, 4, .inr (.inr (.inr (.inr (va_up (va_up (va_up (va_up (fun _ => none) (Int32.toNatClampNeg 0) (some q_28)) (Int32.toNatClampNeg 1) (some q_30)) (Int32.toNatClampNeg 2) (some q_32)) (Int32.toNatClampNeg 3) (some q_34))))))), (q_8, .inr (4, [.ref q_9, .ref q1_9, .int 0, .int 0, .int 0, .int 0])), (q_9, .inl (k 1, 4, .inl (fun _ => 0))), (q1_9, .inl (k 1, 4, .inl (fun _ => 0))), (q_10, .inl (k 6, 2, .inr (.inr (.inr (.inr (va_up (va_up (fun _ => none) (Int32.toNatClampNeg 0) (some q_36)) (Int32.toNatClampNeg 1) (some q_38))))))), (q_11, .inl (k 2, 2, .inl (fun _ => 0))), (q_16, .inr (5, [.ref q_17, .ref q1_17, .ref q2_17, .ref q3_17])), (q_17, .inl (k 1, 10, .inl (fun _ => 0))), (q_18, .inr (0, [.ref q_16, .ref q_19, .ref q1_19, .ref q2_19, .ref q3_19])), (q_20, .inr (5, [.ref q_21, .ref q1_21, .ref q2_21, .ref q3_21])), (q_21, .inl (k 1, 10, .inl (fun _ => 0))), (q_22, .inr (0, [.ref q_20, .ref q_23, .ref q1_23, .ref q2_23, .ref q3_23])), (q_24, .inr (5, [.ref q_25, .ref q1_25, .ref q2_25, .ref q3_25])), (q_25, .inl (k 1, 10, .inl (fun _ => 0))), (q_26, .inr (0, [.ref q_24, .ref q_27, .ref q1_27, .ref q2_27, .ref q3_27])), (q_28, .inr (3, [.ref q_29, .ref q1_29, .int 0, .int 0, .int 0])), (q_30, .inr (3, [.ref q_31, .ref q1_31, .int 0, .int 0, .int 0])), (q_32, .inr (3, [.ref q_33, .ref q1_33, .int 0, .int 0, .int 0])), (q_34, .inr (3, [.ref q_35, .ref q1_35, .int 0, .int 0, .int 0])), (q_36, .inr (4, [.ref q_37, .ref q1_37, .int 0, .int 0, .int 0, .int 0])), (q_37, .inl (k 1, 4, .inl (fun _ => 0))), (q1_37, .inl (k 1, 4, .inl (fun _ => 0))), (q_38, .inr (4, [.ref q_39, .ref q1_39, .int 0, .int 0, .int 0, .int 0])), (q_39, .inl (k 1, 4, .inl (fun _ => 0))), (q1_39, .inl (k 1, 4, .inl (fun _ => 0)))] H := hP
  have hD : va_D A [(h0, .inr (7, [.ref q_1, .ref q_3, .ref q_4, .ref q_5, .ref q_7, .int 0, .int (-1), .ref q_8, .ref q_10, .ref q_11, .ref q_12, .ref q_14])), (q_1, .inr (6, [.ref q_2, .int 0, .int 0, .int 0, .int 0, .int 0])), (q_2, .inl (k 0, 240, .inl (fun _ => 0))), (q_3, .inl (k 3, 3, .inr (.inr (.inr (.inr (va_up (va_up (va_up (fun _ => none) (Int32.toNatClampNeg 0) (some q_16)) (Int32.toNatClampNeg 1) (some q_20)) (Int32.toNatClampNeg 2) (some q_24))))))), (q_4, .inl (k 4, 3, .inr (.inr (.inr (.inr (va_up (va_up (va_up (fun _ => none) (Int32.toNatClampNeg 0) (some q_18)) (Int32.toNatClampNeg 1) (some q_22)) (Int32.toNatClampNeg 2) (some q_26))))))), (q_5, .inr (5, [.ref q_6, .ref q1_6, .ref q2_6, .ref q3_6])), (q_6, .inl (k 1, 10, .inl (fun _ => 0))), (q_7, .inl (k 5, 4, .inr (.inr (.inr (.inr (va_up (va_up (va_up (va_up (fun _ => none) (Int32.toNatClampNeg 0) (some q_28)) (Int32.toNatClampNeg 1) (some q_30)) (Int32.toNatClampNeg 2) (some q_32)) (Int32.toNatClampNeg 3) (some q_34))))))), (q_8, .inr (4, [.ref q_9, .ref q1_9, .int 0, .int 0, .int 0, .int 0])), (q_9, .inl (k 1, 4, .inl (fun _ => 0))), (q1_9, .inl (k 1, 4, .inl (fun _ => 0))), (q_10, .inl (k 6, 2, .inr (.inr (.inr (.inr (va_up (va_up (fun _ => none) (Int32.toNatClampNeg 0) (some q_36)) (Int32.toNatClampNeg 1) (some q_38))))))), (q_11, .inl (k 2, 2, .inl (fun _ => 0))), (q_16, .inr (5, [.ref q_17, .ref q1_17, .ref q2_17, .ref q3_17])), (q_17, .inl (k 1, 10, .inl (fun _ => 0))), (q_18, .inr (0, [.ref q_16, .ref q_19, .ref q1_19, .ref q2_19, .ref q3_19])), (q_20, .inr (5, [.ref q_21, .ref q1_21, .ref q2_21, .ref q3_21])), (q_21, .inl (k 1, 10, .inl (fun _ => 0))), (q_22, .inr (0, [.ref q_20, .ref q_23, .ref q1_23, .ref q2_23, .ref q3_23])), (q_24, .inr (5, [.ref q_25, .ref q1_25, .ref q2_25, .ref q3_25])), (q_25, .inl (k 1, 10, .inl (fun _ => 0))), (q_26, .inr (0, [.ref q_24, .ref q_27, .ref q1_27, .ref q2_27, .ref q3_27])), (q_28, .inr (3, [.ref q_29, .ref q1_29, .int 0, .int 0, .int 0])), (q_30, .inr (3, [.ref q_31, .ref q1_31, .int 0, .int 0, .int 0])), (q_32, .inr (3, [.ref q_33, .ref q1_33, .int 0, .int 0, .int 0])), (q_34, .inr (3, [.ref q_35, .ref q1_35, .int 0, .int 0, .int 0])), (q_36, .inr (4, [.ref q_37, .ref q1_37, .int 0, .int 0, .int 0, .int 0])), (q_37, .inl (k 1, 4, .inl (fun _ => 0))), (q1_37, .inl (k 1, 4, .inl (fun _ => 0))), (q_38, .inr (4, [.ref q_39, .ref q1_39, .int 0, .int 0, .int 0, .int 0])), (q_39, .inl (k 1, 4, .inl (fun _ => 0))), (q1_39, .inl (k 1, 4, .inl (fun _ => 0)))] := hD
  refine lv_iinc (v := 2) (lv' := [(1, .int 2), (0, .ref h0)]) hx hb dX7_init_203 hl (k := 0) rfl (by decide) (by decide) rfl (fun ls hl => ?_)
  refine lv_goto (tgt := 185) hx hb dX7_init_206 (by decide) ?_
  refine lv_iload_n hx hb dX7_init_185 rfl (lv_at hl 0 rfl) ?_
  refine lv_iconst (v := 2) hx hb dX7_init_186 (by decide) ?_
  refine lv_icmp_ge (tgt := 209) hx hb dX7_init_187 (by decide) (fun _ => ?_) (fun h => absurd (by decide) h)
  rw [up3 q_16 q_20 q_24, up4 q_28 q_30 q_32 q_34, up2 q_36 q_38] at hP hD
  have hP : va_P D classes [(h0, .inr (7, [.ref q_1, .ref q_3, .ref q_4, .ref q_5, .ref q_7, .int 0, .int (-1), .ref q_8, .ref q_10, .ref q_11, .ref q_12, .ref q_14])), (q_1, .inr (6, [.ref q_2, .int 0, .int 0, .int 0, .int 0, .int 0])), (q_2, .inl (k 0, 240, .inl (fun _ => 0))), (q_3, .inl (k 3, 3, .inr (.inr (.inr (.inr (a3 q_16 q_20 q_24)))))), (q_4, .inl (k 4, 3, .inr (.inr (.inr (.inr (va_up (va_up (va_up (fun _ => none) (Int32.toNatClampNeg 0) (some q_18)) (Int32.toNatClampNeg 1) (some q_22)) (Int32.toNatClampNeg 2) (some q_26))))))), (q_5, .inr (5, [.ref q_6, .ref q1_6, .ref q2_6, .ref q3_6])), (q_6, .inl (k 1, 10, .inl (fun _ => 0))), (q_7, .inl (k 5, 4, .inr (.inr (.inr (.inr (a4 q_28 q_30 q_32 q_34)))))), (q_8, .inr (4, [.ref q_9, .ref q1_9, .int 0, .int 0, .int 0, .int 0])), (q_9, .inl (k 1, 4, .inl (fun _ => 0))), (q1_9, .inl (k 1, 4, .inl (fun _ => 0))), (q_10, .inl (k 6, 2, .inr (.inr (.inr (.inr (a2 q_36 q_38)))))), (q_11, .inl (k 2, 2, .inl (fun _ => 0))), (q_16, .inr (5, [.ref q_17, .ref q1_17, .ref q2_17, .ref q3_17])), (q_17, .inl (k 1, 10, .inl (fun _ => 0))), (q_18, .inr (0, [.ref q_16, .ref q_19, .ref q1_19, .ref q2_19, .ref q3_19])), (q_20, .inr (5, [.ref q_21, .ref q1_21, .ref q2_21, .ref q3_21])), (q_21, .inl (k 1, 10, .inl (fun _ => 0))), (q_22, .inr (0, [.ref q_20, .ref q_23, .ref q1_23, .ref q2_23, .ref q3_23])), (q_24, .inr (5, [.ref q_25, .ref q1_25, .ref q2_25, .ref q3_25])), (q_25, .inl (k 1, 10, .inl (fun _ => 0))), (q_26, .inr (0, [.ref q_24, .ref q_27, .ref q1_27, .ref q2_27, .ref q3_27])), (q_28, .inr (3, [.ref q_29, .ref q1_29, .int 0, .int 0, .int 0])), (q_30, .inr (3, [.ref q_31, .ref q1_31, .int 0, .int 0, .int 0])), (q_32, .inr (3, [.ref q_33, .ref q1_33, .int 0, .int 0, .int 0])), (q_34, .inr (3, [.ref q_35, .ref q1_35, .int 0, .int 0, .int 0])), (q_36, .inr (4, [.ref q_37, .ref q1_37, .int 0, .int 0, .int 0, .int 0])), (q_37, .inl (k 1, 4, .inl (fun _ => 0))), (q1_37, .inl (k 1, 4, .inl (fun _ => 0))), (q_38, .inr (4, [.ref q_39, .ref q1_39, .int 0, .int 0, .int 0, .int 0])), (q_39, .inl (k 1, 4, .inl (fun _ => 0))), (q1_39, .inl (k 1, 4, .inl (fun _ => 0)))] H := hP
  have hD : va_D A [(h0, .inr (7, [.ref q_1, .ref q_3, .ref q_4, .ref q_5, .ref q_7, .int 0, .int (-1), .ref q_8, .ref q_10, .ref q_11, .ref q_12, .ref q_14])), (q_1, .inr (6, [.ref q_2, .int 0, .int 0, .int 0, .int 0, .int 0])), (q_2, .inl (k 0, 240, .inl (fun _ => 0))), (q_3, .inl (k 3, 3, .inr (.inr (.inr (.inr (a3 q_16 q_20 q_24)))))), (q_4, .inl (k 4, 3, .inr (.inr (.inr (.inr (va_up (va_up (va_up (fun _ => none) (Int32.toNatClampNeg 0) (some q_18)) (Int32.toNatClampNeg 1) (some q_22)) (Int32.toNatClampNeg 2) (some q_26))))))), (q_5, .inr (5, [.ref q_6, .ref q1_6, .ref q2_6, .ref q3_6])), (q_6, .inl (k 1, 10, .inl (fun _ => 0))), (q_7, .inl (k 5, 4, .inr (.inr (.inr (.inr (a4 q_28 q_30 q_32 q_34)))))), (q_8, .inr (4, [.ref q_9, .ref q1_9, .int 0, .int 0, .int 0, .int 0])), (q_9, .inl (k 1, 4, .inl (fun _ => 0))), (q1_9, .inl (k 1, 4, .inl (fun _ => 0))), (q_10, .inl (k 6, 2, .inr (.inr (.inr (.inr (a2 q_36 q_38)))))), (q_11, .inl (k 2, 2, .inl (fun _ => 0))), (q_16, .inr (5, [.ref q_17, .ref q1_17, .ref q2_17, .ref q3_17])), (q_17, .inl (k 1, 10, .inl (fun _ => 0))), (q_18, .inr (0, [.ref q_16, .ref q_19, .ref q1_19, .ref q2_19, .ref q3_19])), (q_20, .inr (5, [.ref q_21, .ref q1_21, .ref q2_21, .ref q3_21])), (q_21, .inl (k 1, 10, .inl (fun _ => 0))), (q_22, .inr (0, [.ref q_20, .ref q_23, .ref q1_23, .ref q2_23, .ref q3_23])), (q_24, .inr (5, [.ref q_25, .ref q1_25, .ref q2_25, .ref q3_25])), (q_25, .inl (k 1, 10, .inl (fun _ => 0))), (q_26, .inr (0, [.ref q_24, .ref q_27, .ref q1_27, .ref q2_27, .ref q3_27])), (q_28, .inr (3, [.ref q_29, .ref q1_29, .int 0, .int 0, .int 0])), (q_30, .inr (3, [.ref q_31, .ref q1_31, .int 0, .int 0, .int 0])), (q_32, .inr (3, [.ref q_33, .ref q1_33, .int 0, .int 0, .int 0])), (q_34, .inr (3, [.ref q_35, .ref q1_35, .int 0, .int 0, .int 0])), (q_36, .inr (4, [.ref q_37, .ref q1_37, .int 0, .int 0, .int 0, .int 0])), (q_37, .inl (k 1, 4, .inl (fun _ => 0))), (q1_37, .inl (k 1, 4, .inl (fun _ => 0))), (q_38, .inr (4, [.ref q_39, .ref q1_39, .int 0, .int 0, .int 0, .int 0])), (q_39, .inl (k 1, 4, .inl (fun _ => 0))), (q1_39, .inl (k 1, 4, .inl (fun _ => 0)))] := hD
  have hP9 := hP.sub (ws' := [(h0, .inr (7, [.ref q_1, .ref q_3, .ref q_4, .ref q_5, .ref q_7, .int 0, .int (-1), .ref q_8, .ref q_10, .ref q_11, .ref q_12, .ref q_14])), (q_1, .inr (6, [.ref q_2, .int 0, .int 0, .int 0, .int 0, .int 0])), (q_2, .inl (k 0, 240, .inl (fun _ => 0))), (q_3, .inl (k 3, 3, .inr (.inr (.inr (.inr (a3 q_16 q_20 q_24)))))), (q_16, .inr (5, [.ref q_17, .ref q1_17, .ref q2_17, .ref q3_17])), (q_20, .inr (5, [.ref q_21, .ref q1_21, .ref q2_21, .ref q3_21])), (q_24, .inr (5, [.ref q_25, .ref q1_25, .ref q2_25, .ref q3_25])), (q_17, .inl (k 1, 10, .inl (fun _ => 0))), (q_21, .inl (k 1, 10, .inl (fun _ => 0))), (q_25, .inl (k 1, 10, .inl (fun _ => 0))), (q_5, .inr (5, [.ref q_6, .ref q1_6, .ref q2_6, .ref q3_6])), (q_6, .inl (k 1, 10, .inl (fun _ => 0))), (q_7, .inl (k 5, 4, .inr (.inr (.inr (.inr (a4 q_28 q_30 q_32 q_34)))))), (q_28, .inr (3, [.ref q_29, .ref q1_29, .int 0, .int 0, .int 0])), (q_8, .inr (4, [.ref q_9, .ref q1_9, .int 0, .int 0, .int 0, .int 0])), (q_9, .inl (k 1, 4, .inl (fun _ => 0))), (q1_9, .inl (k 1, 4, .inl (fun _ => 0))), (q_10, .inl (k 6, 2, .inr (.inr (.inr (.inr (a2 q_36 q_38)))))), (q_36, .inr (4, [.ref q_37, .ref q1_37, .int 0, .int 0, .int 0, .int 0])), (q_37, .inl (k 1, 4, .inl (fun _ => 0))), (q1_37, .inl (k 1, 4, .inl (fun _ => 0))), (q_38, .inr (4, [.ref q_39, .ref q1_39, .int 0, .int 0, .int 0, .int 0])), (q_39, .inl (k 1, 4, .inl (fun _ => 0))), (q1_39, .inl (k 1, 4, .inl (fun _ => 0))), (q_11, .inl (k 2, 2, .inl (fun _ => 0)))]) [0, 1, 2, 3, 13, 16, 19, 14, 17, 20, 5, 6, 7, 22, 8, 9, 10, 11, 26, 27, 28, 29, 30, 31, 12] rfl
  have hD9 := hD.sub (ws' := [(h0, .inr (7, [.ref q_1, .ref q_3, .ref q_4, .ref q_5, .ref q_7, .int 0, .int (-1), .ref q_8, .ref q_10, .ref q_11, .ref q_12, .ref q_14])), (q_1, .inr (6, [.ref q_2, .int 0, .int 0, .int 0, .int 0, .int 0])), (q_2, .inl (k 0, 240, .inl (fun _ => 0))), (q_3, .inl (k 3, 3, .inr (.inr (.inr (.inr (a3 q_16 q_20 q_24)))))), (q_16, .inr (5, [.ref q_17, .ref q1_17, .ref q2_17, .ref q3_17])), (q_20, .inr (5, [.ref q_21, .ref q1_21, .ref q2_21, .ref q3_21])), (q_24, .inr (5, [.ref q_25, .ref q1_25, .ref q2_25, .ref q3_25])), (q_17, .inl (k 1, 10, .inl (fun _ => 0))), (q_21, .inl (k 1, 10, .inl (fun _ => 0))), (q_25, .inl (k 1, 10, .inl (fun _ => 0))), (q_5, .inr (5, [.ref q_6, .ref q1_6, .ref q2_6, .ref q3_6])), (q_6, .inl (k 1, 10, .inl (fun _ => 0))), (q_7, .inl (k 5, 4, .inr (.inr (.inr (.inr (a4 q_28 q_30 q_32 q_34)))))), (q_28, .inr (3, [.ref q_29, .ref q1_29, .int 0, .int 0, .int 0])), (q_8, .inr (4, [.ref q_9, .ref q1_9, .int 0, .int 0, .int 0, .int 0])), (q_9, .inl (k 1, 4, .inl (fun _ => 0))), (q1_9, .inl (k 1, 4, .inl (fun _ => 0))), (q_10, .inl (k 6, 2, .inr (.inr (.inr (.inr (a2 q_36 q_38)))))), (q_36, .inr (4, [.ref q_37, .ref q1_37, .int 0, .int 0, .int 0, .int 0])), (q_37, .inl (k 1, 4, .inl (fun _ => 0))), (q1_37, .inl (k 1, 4, .inl (fun _ => 0))), (q_38, .inr (4, [.ref q_39, .ref q1_39, .int 0, .int 0, .int 0, .int 0])), (q_39, .inl (k 1, 4, .inl (fun _ => 0))), (q1_39, .inl (k 1, 4, .inl (fun _ => 0))), (q_11, .inl (k 2, 2, .inl (fun _ => 0)))]) [0, 1, 2, 3, 13, 16, 19, 14, 17, 20, 5, 6, 7, 22, 8, 9, 10, 11, 26, 27, 28, 29, 30, 31, 12] (by decide) rfl
  refine W.widen (k := 71) (n := 3353) (by decide) (by decide) ?_
  exact W.vret hx hb hr (fun t ht hW => ⟨⟨(fun i => ([h0, q_1, q_2, q_3, q_16, q_20, q_24, q_17, q_21, q_25, q1_17, q1_21, q1_25, q2_17, q2_21, q2_25, q3_17, q3_21, q3_25, q_4, q_5, q_6, q1_6, q2_6, q3_6, q_7, q_28, q_30, q_32, q_34, q_29, q1_29, q_8, q_9, q1_9, q_10, q_36, q_38, q_37, q1_37, q_39, q1_39, q_11, q_12, q_14] : List Nat).getD i 0), rfl, rfl, by rw [ht]; exact hP9, hD9⟩, hS.F ht⟩) hS.2.2 dX7_init_209
end
