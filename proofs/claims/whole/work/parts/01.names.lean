-- ===== PART A: goes FIRST, ahead of the names: the tables' words, and 'selects' of the private methods out of them =====
/-- a private method of a class that the tables say can be made, by its rows of tables_1 -/
def lw_okq (q : MethodName × Nat) : Prop := (q.1.cls ≠ "java/lang/invoke/MethodHandle" ∧ q.1.cls ≠ "java/lang/invoke/VarHandle") ∧ Cond.instantiable q.1.cls q.2 ∈ tables_1 ∧ Cond.privateMethod q.1 ∈ tables_1 ∧ Cond.instanceMethod q.1 ∈ tables_1
theorem lw_p0 : lw_okq (⟨"MarriedMap", "textAt", "(I)LMarriedMap$Text;"⟩, 12) := ⟨⟨by decide +kernel, by decide +kernel⟩, List.mem_of_getElem? (i := 18) (by decide +kernel), List.mem_of_getElem? (i := 323) (by decide +kernel), List.mem_of_getElem? (i := 324) (by decide +kernel)⟩
theorem lw_p1 : lw_okq (⟨"MarriedMap", "parseTexts", "()V"⟩, 12) := ⟨⟨by decide +kernel, by decide +kernel⟩, List.mem_of_getElem? (i := 18) (by decide +kernel), List.mem_of_getElem? (i := 339) (by decide +kernel), List.mem_of_getElem? (i := 340) (by decide +kernel)⟩
theorem lw_p2 : lw_okq (⟨"MarriedMap", "sheetAt", "(I)LMarriedMap$Sheet;"⟩, 12) := ⟨⟨by decide +kernel, by decide +kernel⟩, List.mem_of_getElem? (i := 18) (by decide +kernel), List.mem_of_getElem? (i := 505) (by decide +kernel), List.mem_of_getElem? (i := 506) (by decide +kernel)⟩
theorem lw_p3 : lw_okq (⟨"MarriedMap", "finding", "(I)I"⟩, 12) := ⟨⟨by decide +kernel, by decide +kernel⟩, List.mem_of_getElem? (i := 18) (by decide +kernel), List.mem_of_getElem? (i := 513) (by decide +kernel), List.mem_of_getElem? (i := 514) (by decide +kernel)⟩
theorem lw_p4 : lw_okq (⟨"MarriedMap$World", "differenceAt", "(I)I"⟩, 14) := ⟨⟨by decide +kernel, by decide +kernel⟩, List.mem_of_getElem? (i := 119) (by decide +kernel), List.mem_of_getElem? (i := 574) (by decide +kernel), List.mem_of_getElem? (i := 575) (by decide +kernel)⟩
theorem lw_p5 : lw_okq (⟨"MarriedMap$World", "marry", "(III)Z"⟩, 14) := ⟨⟨by decide +kernel, by decide +kernel⟩, List.mem_of_getElem? (i := 119) (by decide +kernel), List.mem_of_getElem? (i := 585) (by decide +kernel), List.mem_of_getElem? (i := 586) (by decide +kernel)⟩
theorem lw_p6 : lw_okq (⟨"MarriedMap$World", "bind", "(IIII)V"⟩, 14) := ⟨⟨by decide +kernel, by decide +kernel⟩, List.mem_of_getElem? (i := 119) (by decide +kernel), List.mem_of_getElem? (i := 604) (by decide +kernel), List.mem_of_getElem? (i := 605) (by decide +kernel)⟩
theorem lw_p7 : lw_okq (⟨"MarriedMap$World", "part", "(I)Z"⟩, 14) := ⟨⟨by decide +kernel, by decide +kernel⟩, List.mem_of_getElem? (i := 119) (by decide +kernel), List.mem_of_getElem? (i := 609) (by decide +kernel), List.mem_of_getElem? (i := 610) (by decide +kernel)⟩
theorem lw_p8 : lw_okq (⟨"MarriedMap$World", "dissolve", "(I)I"⟩, 14) := ⟨⟨by decide +kernel, by decide +kernel⟩, List.mem_of_getElem? (i := 119) (by decide +kernel), List.mem_of_getElem? (i := 617) (by decide +kernel), List.mem_of_getElem? (i := 618) (by decide +kernel)⟩
theorem lw_p9 : lw_okq (⟨"MarriedMap$World", "die", "(I)Z"⟩, 14) := ⟨⟨by decide +kernel, by decide +kernel⟩, List.mem_of_getElem? (i := 119) (by decide +kernel), List.mem_of_getElem? (i := 621) (by decide +kernel), List.mem_of_getElem? (i := 622) (by decide +kernel)⟩
theorem lw_p10 : lw_okq (⟨"MarriedMap", "mayBeBehind", "(I)Z"⟩, 12) := ⟨⟨by decide +kernel, by decide +kernel⟩, List.mem_of_getElem? (i := 18) (by decide +kernel), List.mem_of_getElem? (i := 647) (by decide +kernel), List.mem_of_getElem? (i := 648) (by decide +kernel)⟩
theorem lw_p11 : lw_okq (⟨"MarriedMap$Courtship", "search", "(II)V"⟩, 10) := ⟨⟨by decide +kernel, by decide +kernel⟩, List.mem_of_getElem? (i := 169) (by decide +kernel), List.mem_of_getElem? (i := 681) (by decide +kernel), List.mem_of_getElem? (i := 682) (by decide +kernel)⟩
theorem lw_p12 : lw_okq (⟨"MarriedMap$Courtship", "note", "(III)V"⟩, 10) := ⟨⟨by decide +kernel, by decide +kernel⟩, List.mem_of_getElem? (i := 169) (by decide +kernel), List.mem_of_getElem? (i := 732) (by decide +kernel), List.mem_of_getElem? (i := 733) (by decide +kernel)⟩
theorem lw_p13 : lw_okq (⟨"MarriedMap$Courtship", "hasAll", "(II)Z"⟩, 10) := ⟨⟨by decide +kernel, by decide +kernel⟩, List.mem_of_getElem? (i := 169) (by decide +kernel), List.mem_of_getElem? (i := 737) (by decide +kernel), List.mem_of_getElem? (i := 738) (by decide +kernel)⟩
theorem lw_p14 : lw_okq (⟨"MarriedMap", "wouldLeave", "(II)Z"⟩, 12) := ⟨⟨by decide +kernel, by decide +kernel⟩, List.mem_of_getElem? (i := 18) (by decide +kernel), List.mem_of_getElem? (i := 754) (by decide +kernel), List.mem_of_getElem? (i := 755) (by decide +kernel)⟩
theorem lw_p15 : lw_okq (⟨"MarriedMap$Turns", "noteFirst", "(II)V"⟩, 3) := ⟨⟨by decide +kernel, by decide +kernel⟩, List.mem_of_getElem? (i := 228) (by decide +kernel), List.mem_of_getElem? (i := 846) (by decide +kernel), List.mem_of_getElem? (i := 847) (by decide +kernel)⟩
def lw_privs_1 : List (MethodName × Nat) := [(⟨"MarriedMap", "textAt", "(I)LMarriedMap$Text;"⟩, 12), (⟨"MarriedMap", "parseTexts", "()V"⟩, 12), (⟨"MarriedMap", "sheetAt", "(I)LMarriedMap$Sheet;"⟩, 12), (⟨"MarriedMap", "finding", "(I)I"⟩, 12), (⟨"MarriedMap$World", "differenceAt", "(I)I"⟩, 14), (⟨"MarriedMap$World", "marry", "(III)Z"⟩, 14), (⟨"MarriedMap$World", "bind", "(IIII)V"⟩, 14), (⟨"MarriedMap$World", "part", "(I)Z"⟩, 14), (⟨"MarriedMap$World", "dissolve", "(I)I"⟩, 14), (⟨"MarriedMap$World", "die", "(I)Z"⟩, 14), (⟨"MarriedMap", "mayBeBehind", "(I)Z"⟩, 12), (⟨"MarriedMap$Courtship", "search", "(II)V"⟩, 10), (⟨"MarriedMap$Courtship", "note", "(III)V"⟩, 10), (⟨"MarriedMap$Courtship", "hasAll", "(II)Z"⟩, 10), (⟨"MarriedMap", "wouldLeave", "(II)Z"⟩, 12), (⟨"MarriedMap$Turns", "noteFirst", "(II)V"⟩, 3)]
theorem lw_r1 : ∀ q ∈ lw_privs_1, lw_okq q := List.forall_mem_cons.mpr ⟨lw_p0, List.forall_mem_cons.mpr ⟨lw_p1, List.forall_mem_cons.mpr ⟨lw_p2, List.forall_mem_cons.mpr ⟨lw_p3, List.forall_mem_cons.mpr ⟨lw_p4, List.forall_mem_cons.mpr ⟨lw_p5, List.forall_mem_cons.mpr ⟨lw_p6, List.forall_mem_cons.mpr ⟨lw_p7, List.forall_mem_cons.mpr ⟨lw_p8, List.forall_mem_cons.mpr ⟨lw_p9, List.forall_mem_cons.mpr ⟨lw_p10, List.forall_mem_cons.mpr ⟨lw_p11, List.forall_mem_cons.mpr ⟨lw_p12, List.forall_mem_cons.mpr ⟨lw_p13, List.forall_mem_cons.mpr ⟨lw_p14, List.forall_mem_cons.mpr ⟨lw_p15, fun _ h => absurd h List.not_mem_nil⟩⟩⟩⟩⟩⟩⟩⟩⟩⟩⟩⟩⟩⟩⟩⟩
theorem lw_p16 : lw_okq (⟨"MarriedMap", "itemRefusal", "(LMarriedMap$Sheet;II)I"⟩, 12) := ⟨⟨by decide +kernel, by decide +kernel⟩, List.mem_of_getElem? (i := 18) (by decide +kernel), List.mem_of_getElem? (i := 882) (by decide +kernel), List.mem_of_getElem? (i := 883) (by decide +kernel)⟩
theorem lw_p17 : lw_okq (⟨"MarriedMap$Sheet", "fitted", "(I)I"⟩, 3) := ⟨⟨by decide +kernel, by decide +kernel⟩, List.mem_of_getElem? (i := 266) (by decide +kernel), List.mem_of_getElem? (i := 895) (by decide +kernel), List.mem_of_getElem? (i := 896) (by decide +kernel)⟩
theorem lw_p18 : lw_okq (⟨"MarriedMapModel", "met", "(I)I"⟩, 41) := ⟨⟨by decide +kernel, by decide +kernel⟩, List.mem_of_getElem? (i := 960) (by decide +kernel), List.mem_of_getElem? (i := 1102) (by decide +kernel), List.mem_of_getElem? (i := 1103) (by decide +kernel)⟩
theorem lw_p19 : lw_okq (⟨"MarriedMapModel", "lacks", "(III)I"⟩, 41) := ⟨⟨by decide +kernel, by decide +kernel⟩, List.mem_of_getElem? (i := 960) (by decide +kernel), List.mem_of_getElem? (i := 1114) (by decide +kernel), List.mem_of_getElem? (i := 1115) (by decide +kernel)⟩
theorem lw_p20 : lw_okq (⟨"MarriedMapModel", "faultOf", "(I)I"⟩, 41) := ⟨⟨by decide +kernel, by decide +kernel⟩, List.mem_of_getElem? (i := 960) (by decide +kernel), List.mem_of_getElem? (i := 1149) (by decide +kernel), List.mem_of_getElem? (i := 1150) (by decide +kernel)⟩
theorem lw_p21 : lw_okq (⟨"MarriedMapModel", "reads", "(I)I"⟩, 41) := ⟨⟨by decide +kernel, by decide +kernel⟩, List.mem_of_getElem? (i := 960) (by decide +kernel), List.mem_of_getElem? (i := 1153) (by decide +kernel), List.mem_of_getElem? (i := 1154) (by decide +kernel)⟩
theorem lw_p22 : lw_okq (⟨"MarriedMapModel", "readsLand", "()Z"⟩, 41) := ⟨⟨by decide +kernel, by decide +kernel⟩, List.mem_of_getElem? (i := 960) (by decide +kernel), List.mem_of_getElem? (i := 1157) (by decide +kernel), List.mem_of_getElem? (i := 1158) (by decide +kernel)⟩
theorem lw_p23 : lw_okq (⟨"MarriedMapModel", "figure", "(III)I"⟩, 41) := ⟨⟨by decide +kernel, by decide +kernel⟩, List.mem_of_getElem? (i := 960) (by decide +kernel), List.mem_of_getElem? (i := 1161) (by decide +kernel), List.mem_of_getElem? (i := 1162) (by decide +kernel)⟩
theorem lw_p24 : lw_okq (⟨"MarriedMapModel", "here", "(I)I"⟩, 41) := ⟨⟨by decide +kernel, by decide +kernel⟩, List.mem_of_getElem? (i := 960) (by decide +kernel), List.mem_of_getElem? (i := 1165) (by decide +kernel), List.mem_of_getElem? (i := 1166) (by decide +kernel)⟩
theorem lw_p25 : lw_okq (⟨"MarriedMapModel", "readsPerson", "()Z"⟩, 41) := ⟨⟨by decide +kernel, by decide +kernel⟩, List.mem_of_getElem? (i := 960) (by decide +kernel), List.mem_of_getElem? (i := 1169) (by decide +kernel), List.mem_of_getElem? (i := 1170) (by decide +kernel)⟩
theorem lw_p26 : lw_okq (⟨"MarriedMapModel", "fails", "(I)I"⟩, 41) := ⟨⟨by decide +kernel, by decide +kernel⟩, List.mem_of_getElem? (i := 960) (by decide +kernel), List.mem_of_getElem? (i := 1173) (by decide +kernel), List.mem_of_getElem? (i := 1174) (by decide +kernel)⟩
theorem lw_p27 : lw_okq (⟨"MarriedMapModel", "isPerson", "(I)Z"⟩, 41) := ⟨⟨by decide +kernel, by decide +kernel⟩, List.mem_of_getElem? (i := 960) (by decide +kernel), List.mem_of_getElem? (i := 1181) (by decide +kernel), List.mem_of_getElem? (i := 1182) (by decide +kernel)⟩
theorem lw_p28 : lw_okq (⟨"MarriedMapModel", "find", "()V"⟩, 41) := ⟨⟨by decide +kernel, by decide +kernel⟩, List.mem_of_getElem? (i := 960) (by decide +kernel), List.mem_of_getElem? (i := 1185) (by decide +kernel), List.mem_of_getElem? (i := 1186) (by decide +kernel)⟩
theorem lw_p29 : lw_okq (⟨"MarriedMapModel", "shadowOf", "(II)I"⟩, 41) := ⟨⟨by decide +kernel, by decide +kernel⟩, List.mem_of_getElem? (i := 960) (by decide +kernel), List.mem_of_getElem? (i := 1198) (by decide +kernel), List.mem_of_getElem? (i := 1199) (by decide +kernel)⟩
theorem lw_p30 : lw_okq (⟨"MarriedMapModel", "isLate", "(I)Z"⟩, 41) := ⟨⟨by decide +kernel, by decide +kernel⟩, List.mem_of_getElem? (i := 960) (by decide +kernel), List.mem_of_getElem? (i := 1214) (by decide +kernel), List.mem_of_getElem? (i := 1215) (by decide +kernel)⟩
theorem lw_p31 : lw_okq (⟨"MarriedMapModel", "tells", "(IIIII)I"⟩, 41) := ⟨⟨by decide +kernel, by decide +kernel⟩, List.mem_of_getElem? (i := 960) (by decide +kernel), List.mem_of_getElem? (i := 1222) (by decide +kernel), List.mem_of_getElem? (i := 1223) (by decide +kernel)⟩
def lw_privs_2 : List (MethodName × Nat) := [(⟨"MarriedMap", "itemRefusal", "(LMarriedMap$Sheet;II)I"⟩, 12), (⟨"MarriedMap$Sheet", "fitted", "(I)I"⟩, 3), (⟨"MarriedMapModel", "met", "(I)I"⟩, 41), (⟨"MarriedMapModel", "lacks", "(III)I"⟩, 41), (⟨"MarriedMapModel", "faultOf", "(I)I"⟩, 41), (⟨"MarriedMapModel", "reads", "(I)I"⟩, 41), (⟨"MarriedMapModel", "readsLand", "()Z"⟩, 41), (⟨"MarriedMapModel", "figure", "(III)I"⟩, 41), (⟨"MarriedMapModel", "here", "(I)I"⟩, 41), (⟨"MarriedMapModel", "readsPerson", "()Z"⟩, 41), (⟨"MarriedMapModel", "fails", "(I)I"⟩, 41), (⟨"MarriedMapModel", "isPerson", "(I)Z"⟩, 41), (⟨"MarriedMapModel", "find", "()V"⟩, 41), (⟨"MarriedMapModel", "shadowOf", "(II)I"⟩, 41), (⟨"MarriedMapModel", "isLate", "(I)Z"⟩, 41), (⟨"MarriedMapModel", "tells", "(IIIII)I"⟩, 41)]
theorem lw_r2 : ∀ q ∈ lw_privs_2, lw_okq q := List.forall_mem_cons.mpr ⟨lw_p16, List.forall_mem_cons.mpr ⟨lw_p17, List.forall_mem_cons.mpr ⟨lw_p18, List.forall_mem_cons.mpr ⟨lw_p19, List.forall_mem_cons.mpr ⟨lw_p20, List.forall_mem_cons.mpr ⟨lw_p21, List.forall_mem_cons.mpr ⟨lw_p22, List.forall_mem_cons.mpr ⟨lw_p23, List.forall_mem_cons.mpr ⟨lw_p24, List.forall_mem_cons.mpr ⟨lw_p25, List.forall_mem_cons.mpr ⟨lw_p26, List.forall_mem_cons.mpr ⟨lw_p27, List.forall_mem_cons.mpr ⟨lw_p28, List.forall_mem_cons.mpr ⟨lw_p29, List.forall_mem_cons.mpr ⟨lw_p30, List.forall_mem_cons.mpr ⟨lw_p31, fun _ h => absurd h List.not_mem_nil⟩⟩⟩⟩⟩⟩⟩⟩⟩⟩⟩⟩⟩⟩⟩⟩
theorem lw_p32 : lw_okq (⟨"MarriedMapModel", "goesAll", "()V"⟩, 41) := ⟨⟨by decide +kernel, by decide +kernel⟩, List.mem_of_getElem? (i := 960) (by decide +kernel), List.mem_of_getElem? (i := 1243) (by decide +kernel), List.mem_of_getElem? (i := 1244) (by decide +kernel)⟩
theorem lw_p33 : lw_okq (⟨"MarriedMapModel", "goes", "(II)V"⟩, 41) := ⟨⟨by decide +kernel, by decide +kernel⟩, List.mem_of_getElem? (i := 960) (by decide +kernel), List.mem_of_getElem? (i := 1247) (by decide +kernel), List.mem_of_getElem? (i := 1248) (by decide +kernel)⟩
theorem lw_p34 : lw_okq (⟨"MarriedMapModel", "begins", "()V"⟩, 41) := ⟨⟨by decide +kernel, by decide +kernel⟩, List.mem_of_getElem? (i := 960) (by decide +kernel), List.mem_of_getElem? (i := 1251) (by decide +kernel), List.mem_of_getElem? (i := 1252) (by decide +kernel)⟩
theorem lw_p35 : lw_okq (⟨"MarriedMapModel", "isLawful", "(I)Z"⟩, 41) := ⟨⟨by decide +kernel, by decide +kernel⟩, List.mem_of_getElem? (i := 960) (by decide +kernel), List.mem_of_getElem? (i := 1255) (by decide +kernel), List.mem_of_getElem? (i := 1256) (by decide +kernel)⟩
theorem lw_p36 : lw_okq (⟨"MarriedMapModel", "mayWed", "(II)Z"⟩, 41) := ⟨⟨by decide +kernel, by decide +kernel⟩, List.mem_of_getElem? (i := 960) (by decide +kernel), List.mem_of_getElem? (i := 1259) (by decide +kernel), List.mem_of_getElem? (i := 1260) (by decide +kernel)⟩
theorem lw_p37 : lw_okq (⟨"MarriedMapModel", "isFree", "(I)Z"⟩, 41) := ⟨⟨by decide +kernel, by decide +kernel⟩, List.mem_of_getElem? (i := 960) (by decide +kernel), List.mem_of_getElem? (i := 1263) (by decide +kernel), List.mem_of_getElem? (i := 1264) (by decide +kernel)⟩
theorem lw_p38 : lw_okq (⟨"MarriedMapModel", "does", "(I)V"⟩, 41) := ⟨⟨by decide +kernel, by decide +kernel⟩, List.mem_of_getElem? (i := 960) (by decide +kernel), List.mem_of_getElem? (i := 1267) (by decide +kernel), List.mem_of_getElem? (i := 1268) (by decide +kernel)⟩
theorem lw_p39 : lw_okq (⟨"MarriedMapModel", "weds", "(I)V"⟩, 41) := ⟨⟨by decide +kernel, by decide +kernel⟩, List.mem_of_getElem? (i := 960) (by decide +kernel), List.mem_of_getElem? (i := 1271) (by decide +kernel), List.mem_of_getElem? (i := 1272) (by decide +kernel)⟩
theorem lw_p40 : lw_okq (⟨"MarriedMapModel", "takes", "(II)I"⟩, 41) := ⟨⟨by decide +kernel, by decide +kernel⟩, List.mem_of_getElem? (i := 960) (by decide +kernel), List.mem_of_getElem? (i := 1275) (by decide +kernel), List.mem_of_getElem? (i := 1276) (by decide +kernel)⟩
theorem lw_p41 : lw_okq (⟨"MarriedMapModel", "parts", "(I)I"⟩, 41) := ⟨⟨by decide +kernel, by decide +kernel⟩, List.mem_of_getElem? (i := 960) (by decide +kernel), List.mem_of_getElem? (i := 1279) (by decide +kernel), List.mem_of_getElem? (i := 1280) (by decide +kernel)⟩
theorem lw_p42 : lw_okq (⟨"MarriedMapModel", "isLand", "(I)Z"⟩, 41) := ⟨⟨by decide +kernel, by decide +kernel⟩, List.mem_of_getElem? (i := 960) (by decide +kernel), List.mem_of_getElem? (i := 1291) (by decide +kernel), List.mem_of_getElem? (i := 1292) (by decide +kernel)⟩
theorem lw_p43 : lw_okq (⟨"MarriedMapModel", "isSo", "(I)Z"⟩, 41) := ⟨⟨by decide +kernel, by decide +kernel⟩, List.mem_of_getElem? (i := 960) (by decide +kernel), List.mem_of_getElem? (i := 1295) (by decide +kernel), List.mem_of_getElem? (i := 1296) (by decide +kernel)⟩
theorem lw_p44 : lw_okq (⟨"MarriedMapModel", "widthOf", "(III)I"⟩, 41) := ⟨⟨by decide +kernel, by decide +kernel⟩, List.mem_of_getElem? (i := 960) (by decide +kernel), List.mem_of_getElem? (i := 1299) (by decide +kernel), List.mem_of_getElem? (i := 1300) (by decide +kernel)⟩
theorem lw_p45 : lw_okq (⟨"MarriedMapModel", "stateNow", "(II)I"⟩, 41) := ⟨⟨by decide +kernel, by decide +kernel⟩, List.mem_of_getElem? (i := 960) (by decide +kernel), List.mem_of_getElem? (i := 1307) (by decide +kernel), List.mem_of_getElem? (i := 1308) (by decide +kernel)⟩
theorem lw_p46 : lw_okq (⟨"MarriedMapModel", "reachOf", "(II)I"⟩, 41) := ⟨⟨by decide +kernel, by decide +kernel⟩, List.mem_of_getElem? (i := 960) (by decide +kernel), List.mem_of_getElem? (i := 1320) (by decide +kernel), List.mem_of_getElem? (i := 1321) (by decide +kernel)⟩
theorem lw_p47 : lw_okq (⟨"MarriedMapModel", "findMost", "(I)V"⟩, 41) := ⟨⟨by decide +kernel, by decide +kernel⟩, List.mem_of_getElem? (i := 960) (by decide +kernel), List.mem_of_getElem? (i := 1324) (by decide +kernel), List.mem_of_getElem? (i := 1325) (by decide +kernel)⟩
def lw_privs_3 : List (MethodName × Nat) := [(⟨"MarriedMapModel", "goesAll", "()V"⟩, 41), (⟨"MarriedMapModel", "goes", "(II)V"⟩, 41), (⟨"MarriedMapModel", "begins", "()V"⟩, 41), (⟨"MarriedMapModel", "isLawful", "(I)Z"⟩, 41), (⟨"MarriedMapModel", "mayWed", "(II)Z"⟩, 41), (⟨"MarriedMapModel", "isFree", "(I)Z"⟩, 41), (⟨"MarriedMapModel", "does", "(I)V"⟩, 41), (⟨"MarriedMapModel", "weds", "(I)V"⟩, 41), (⟨"MarriedMapModel", "takes", "(II)I"⟩, 41), (⟨"MarriedMapModel", "parts", "(I)I"⟩, 41), (⟨"MarriedMapModel", "isLand", "(I)Z"⟩, 41), (⟨"MarriedMapModel", "isSo", "(I)Z"⟩, 41), (⟨"MarriedMapModel", "widthOf", "(III)I"⟩, 41), (⟨"MarriedMapModel", "stateNow", "(II)I"⟩, 41), (⟨"MarriedMapModel", "reachOf", "(II)I"⟩, 41), (⟨"MarriedMapModel", "findMost", "(I)V"⟩, 41)]
theorem lw_r3 : ∀ q ∈ lw_privs_3, lw_okq q := List.forall_mem_cons.mpr ⟨lw_p32, List.forall_mem_cons.mpr ⟨lw_p33, List.forall_mem_cons.mpr ⟨lw_p34, List.forall_mem_cons.mpr ⟨lw_p35, List.forall_mem_cons.mpr ⟨lw_p36, List.forall_mem_cons.mpr ⟨lw_p37, List.forall_mem_cons.mpr ⟨lw_p38, List.forall_mem_cons.mpr ⟨lw_p39, List.forall_mem_cons.mpr ⟨lw_p40, List.forall_mem_cons.mpr ⟨lw_p41, List.forall_mem_cons.mpr ⟨lw_p42, List.forall_mem_cons.mpr ⟨lw_p43, List.forall_mem_cons.mpr ⟨lw_p44, List.forall_mem_cons.mpr ⟨lw_p45, List.forall_mem_cons.mpr ⟨lw_p46, List.forall_mem_cons.mpr ⟨lw_p47, fun _ h => absurd h List.not_mem_nil⟩⟩⟩⟩⟩⟩⟩⟩⟩⟩⟩⟩⟩⟩⟩⟩
theorem lw_p48 : lw_okq (⟨"MarriedMapModel", "keepsMost", "(I)V"⟩, 41) := ⟨⟨by decide +kernel, by decide +kernel⟩, List.mem_of_getElem? (i := 960) (by decide +kernel), List.mem_of_getElem? (i := 1328) (by decide +kernel), List.mem_of_getElem? (i := 1329) (by decide +kernel)⟩
theorem lw_p49 : lw_okq (⟨"MarriedMapModel", "gain", "(II)I"⟩, 41) := ⟨⟨by decide +kernel, by decide +kernel⟩, List.mem_of_getElem? (i := 960) (by decide +kernel), List.mem_of_getElem? (i := 1332) (by decide +kernel), List.mem_of_getElem? (i := 1333) (by decide +kernel)⟩
theorem lw_p50 : lw_okq (⟨"MarriedMapModel", "isUseful", "(III)Z"⟩, 41) := ⟨⟨by decide +kernel, by decide +kernel⟩, List.mem_of_getElem? (i := 960) (by decide +kernel), List.mem_of_getElem? (i := 1336) (by decide +kernel), List.mem_of_getElem? (i := 1337) (by decide +kernel)⟩
theorem lw_p51 : lw_okq (⟨"MarriedMapModel", "growsOf", "(II)I"⟩, 41) := ⟨⟨by decide +kernel, by decide +kernel⟩, List.mem_of_getElem? (i := 960) (by decide +kernel), List.mem_of_getElem? (i := 1345) (by decide +kernel), List.mem_of_getElem? (i := 1346) (by decide +kernel)⟩
theorem lw_p52 : lw_okq (⟨"MarriedMapModel", "leaveNow", "()I"⟩, 41) := ⟨⟨by decide +kernel, by decide +kernel⟩, List.mem_of_getElem? (i := 960) (by decide +kernel), List.mem_of_getElem? (i := 1353) (by decide +kernel), List.mem_of_getElem? (i := 1354) (by decide +kernel)⟩
theorem lw_p53 : lw_okq (⟨"MarriedMapModel", "wouldLeave", "(II)Z"⟩, 41) := ⟨⟨by decide +kernel, by decide +kernel⟩, List.mem_of_getElem? (i := 960) (by decide +kernel), List.mem_of_getElem? (i := 1357) (by decide +kernel), List.mem_of_getElem? (i := 1358) (by decide +kernel)⟩
theorem lw_p54 : lw_okq (⟨"MarriedMapModel", "forgedOf", "(I)I"⟩, 41) := ⟨⟨by decide +kernel, by decide +kernel⟩, List.mem_of_getElem? (i := 960) (by decide +kernel), List.mem_of_getElem? (i := 1375) (by decide +kernel), List.mem_of_getElem? (i := 1376) (by decide +kernel)⟩
theorem lw_p55 : lw_okq (⟨"MarriedMapModel", "canBeAsked", "(I)Z"⟩, 41) := ⟨⟨by decide +kernel, by decide +kernel⟩, List.mem_of_getElem? (i := 960) (by decide +kernel), List.mem_of_getElem? (i := 1379) (by decide +kernel), List.mem_of_getElem? (i := 1380) (by decide +kernel)⟩
theorem lw_p56 : lw_okq (⟨"MarriedMapModel", "isRight", "(I)Z"⟩, 41) := ⟨⟨by decide +kernel, by decide +kernel⟩, List.mem_of_getElem? (i := 960) (by decide +kernel), List.mem_of_getElem? (i := 1383) (by decide +kernel), List.mem_of_getElem? (i := 1384) (by decide +kernel)⟩
theorem lw_p57 : lw_okq (⟨"MarriedMapModel", "unlikeNow", "()I"⟩, 41) := ⟨⟨by decide +kernel, by decide +kernel⟩, List.mem_of_getElem? (i := 960) (by decide +kernel), List.mem_of_getElem? (i := 1391) (by decide +kernel), List.mem_of_getElem? (i := 1392) (by decide +kernel)⟩
theorem lw_p58 : lw_okq (⟨"MarriedMapModel", "withoutOf", "(II)I"⟩, 41) := ⟨⟨by decide +kernel, by decide +kernel⟩, List.mem_of_getElem? (i := 960) (by decide +kernel), List.mem_of_getElem? (i := 1399) (by decide +kernel), List.mem_of_getElem? (i := 1400) (by decide +kernel)⟩
theorem lw_p59 : lw_okq (⟨"MarriedMapModel", "blameOf", "(I)I"⟩, 41) := ⟨⟨by decide +kernel, by decide +kernel⟩, List.mem_of_getElem? (i := 960) (by decide +kernel), List.mem_of_getElem? (i := 1407) (by decide +kernel), List.mem_of_getElem? (i := 1408) (by decide +kernel)⟩
theorem lw_p60 : lw_okq (⟨"MarriedMapModel", "turnsBy", "(III)I"⟩, 41) := ⟨⟨by decide +kernel, by decide +kernel⟩, List.mem_of_getElem? (i := 960) (by decide +kernel), List.mem_of_getElem? (i := 1415) (by decide +kernel), List.mem_of_getElem? (i := 1416) (by decide +kernel)⟩
theorem lw_p61 : lw_okq (⟨"MarriedMapModel", "turnsOf", "(III)I"⟩, 41) := ⟨⟨by decide +kernel, by decide +kernel⟩, List.mem_of_getElem? (i := 960) (by decide +kernel), List.mem_of_getElem? (i := 1419) (by decide +kernel), List.mem_of_getElem? (i := 1420) (by decide +kernel)⟩
theorem lw_p62 : lw_okq (⟨"MarriedMapModel", "freeOf", "(I[I)I"⟩, 41) := ⟨⟨by decide +kernel, by decide +kernel⟩, List.mem_of_getElem? (i := 960) (by decide +kernel), List.mem_of_getElem? (i := 1423) (by decide +kernel), List.mem_of_getElem? (i := 1424) (by decide +kernel)⟩
theorem lw_p63 : lw_okq (⟨"MarriedMapModel", "enters", "(III)V"⟩, 41) := ⟨⟨by decide +kernel, by decide +kernel⟩, List.mem_of_getElem? (i := 960) (by decide +kernel), List.mem_of_getElem? (i := 1427) (by decide +kernel), List.mem_of_getElem? (i := 1428) (by decide +kernel)⟩
def lw_privs_4 : List (MethodName × Nat) := [(⟨"MarriedMapModel", "keepsMost", "(I)V"⟩, 41), (⟨"MarriedMapModel", "gain", "(II)I"⟩, 41), (⟨"MarriedMapModel", "isUseful", "(III)Z"⟩, 41), (⟨"MarriedMapModel", "growsOf", "(II)I"⟩, 41), (⟨"MarriedMapModel", "leaveNow", "()I"⟩, 41), (⟨"MarriedMapModel", "wouldLeave", "(II)Z"⟩, 41), (⟨"MarriedMapModel", "forgedOf", "(I)I"⟩, 41), (⟨"MarriedMapModel", "canBeAsked", "(I)Z"⟩, 41), (⟨"MarriedMapModel", "isRight", "(I)Z"⟩, 41), (⟨"MarriedMapModel", "unlikeNow", "()I"⟩, 41), (⟨"MarriedMapModel", "withoutOf", "(II)I"⟩, 41), (⟨"MarriedMapModel", "blameOf", "(I)I"⟩, 41), (⟨"MarriedMapModel", "turnsBy", "(III)I"⟩, 41), (⟨"MarriedMapModel", "turnsOf", "(III)I"⟩, 41), (⟨"MarriedMapModel", "freeOf", "(I[I)I"⟩, 41), (⟨"MarriedMapModel", "enters", "(III)V"⟩, 41)]
theorem lw_r4 : ∀ q ∈ lw_privs_4, lw_okq q := List.forall_mem_cons.mpr ⟨lw_p48, List.forall_mem_cons.mpr ⟨lw_p49, List.forall_mem_cons.mpr ⟨lw_p50, List.forall_mem_cons.mpr ⟨lw_p51, List.forall_mem_cons.mpr ⟨lw_p52, List.forall_mem_cons.mpr ⟨lw_p53, List.forall_mem_cons.mpr ⟨lw_p54, List.forall_mem_cons.mpr ⟨lw_p55, List.forall_mem_cons.mpr ⟨lw_p56, List.forall_mem_cons.mpr ⟨lw_p57, List.forall_mem_cons.mpr ⟨lw_p58, List.forall_mem_cons.mpr ⟨lw_p59, List.forall_mem_cons.mpr ⟨lw_p60, List.forall_mem_cons.mpr ⟨lw_p61, List.forall_mem_cons.mpr ⟨lw_p62, List.forall_mem_cons.mpr ⟨lw_p63, fun _ h => absurd h List.not_mem_nil⟩⟩⟩⟩⟩⟩⟩⟩⟩⟩⟩⟩⟩⟩⟩⟩
theorem lw_p64 : lw_okq (⟨"MarriedMapModel", "mayPick", "(II)Z"⟩, 41) := ⟨⟨by decide +kernel, by decide +kernel⟩, List.mem_of_getElem? (i := 960) (by decide +kernel), List.mem_of_getElem? (i := 1431) (by decide +kernel), List.mem_of_getElem? (i := 1432) (by decide +kernel)⟩
theorem lw_p65 : lw_okq (⟨"MarriedMapModel", "widthBehind", "(III)I"⟩, 41) := ⟨⟨by decide +kernel, by decide +kernel⟩, List.mem_of_getElem? (i := 960) (by decide +kernel), List.mem_of_getElem? (i := 1435) (by decide +kernel), List.mem_of_getElem? (i := 1436) (by decide +kernel)⟩
theorem lw_p66 : lw_okq (⟨"MarriedMapModel", "keeps", "(II)V"⟩, 41) := ⟨⟨by decide +kernel, by decide +kernel⟩, List.mem_of_getElem? (i := 960) (by decide +kernel), List.mem_of_getElem? (i := 1439) (by decide +kernel), List.mem_of_getElem? (i := 1440) (by decide +kernel)⟩
def lw_privs_5 : List (MethodName × Nat) := [(⟨"MarriedMapModel", "mayPick", "(II)Z"⟩, 41), (⟨"MarriedMapModel", "widthBehind", "(III)I"⟩, 41), (⟨"MarriedMapModel", "keeps", "(II)V"⟩, 41)]
theorem lw_r5 : ∀ q ∈ lw_privs_5, lw_okq q := List.forall_mem_cons.mpr ⟨lw_p64, List.forall_mem_cons.mpr ⟨lw_p65, List.forall_mem_cons.mpr ⟨lw_p66, fun _ h => absurd h List.not_mem_nil⟩⟩⟩
def lw_privs : List (MethodName × Nat) := lw_privs_1 ++ (lw_privs_2 ++ (lw_privs_3 ++ (lw_privs_4 ++ (lw_privs_5))))
def lw_tbl : List Cond := k2_sels lw_privs ++ tables_1
theorem lw_privs_ok : ∀ q ∈ lw_privs, lw_okq q := by
  show ∀ q ∈ lw_privs_1 ++ (lw_privs_2 ++ (lw_privs_3 ++ (lw_privs_4 ++ (lw_privs_5)))), lw_okq q
  exact List.forall_mem_append.mpr ⟨lw_r1, List.forall_mem_append.mpr ⟨lw_r2, List.forall_mem_append.mpr ⟨lw_r3, List.forall_mem_append.mpr ⟨lw_r4, lw_r5⟩⟩⟩⟩
def RX0 : String := "MarriedMap$Couples"
def TX0 : u_T := fun k => match k with
  | 0 => ("MarriedMap$Couples", "world", "LMarriedMap$World;", true)
  | 1 => ("MarriedMap$Couples", "people", "LMarriedMap$People;", true)
  | 2 => ("MarriedMap$Couples", "ones", "[I", true)
  | 3 => ("MarriedMap$Couples", "others", "[I", true)
  | _ => ("MarriedMap$Couples", "number", "I", false)
def tyX0 : Nat → FieldType := fun k => match k with
  | 0 => .object "MarriedMap$World"
  | 1 => .object "MarriedMap$People"
  | 2 => .array .int
  | 3 => .array .int
  | _ => .int
abbrev wsX00 : List Cond := u_ws RX0 TX0 5
theorem nmX0 : ∀ a, a < 5 → ∀ b, b < 5 → a ≠ b → (TX0 a).2.1 ≠ (TX0 b).2.1 := by decide +kernel
theorem tyX0_ok : ∀ k, k < 5 → parseFieldDescriptor (TX0 k).2.2.1 = some (tyX0 k) := by decide +kernel
abbrev cX0_init : ByteArray := prog_2_method_1_code
def yX0_init : MethodName := ⟨RX0, "<init>", "(LMarriedMap$World;LMarriedMap$People;)V"⟩
abbrev cX0_number : ByteArray := prog_2_method_2_code
def yX0_number : MethodName := ⟨RX0, "number", "()I"⟩
abbrev cX0_clear : ByteArray := prog_2_method_3_code
def yX0_clear : MethodName := ⟨RX0, "clear", "()V"⟩
abbrev cX0_gather : ByteArray := prog_2_method_4_code
def yX0_gather : MethodName := ⟨RX0, "gather", "(II)V"⟩
abbrev cX0_has : ByteArray := prog_2_method_5_code
def yX0_has : MethodName := ⟨RX0, "has", "(I)Z"⟩
abbrev cX0_oneOf : ByteArray := prog_2_method_6_code
def yX0_oneOf : MethodName := ⟨RX0, "oneOf", "(I)I"⟩
abbrev cX0_otherOf : ByteArray := prog_2_method_7_code
def yX0_otherOf : MethodName := ⟨RX0, "otherOf", "(I)I"⟩
abbrev cX0_bitsOf : ByteArray := prog_2_method_8_code
def yX0_bitsOf : MethodName := ⟨RX0, "bitsOf", "(I)I"⟩
abbrev cX0_differenceOf : ByteArray := prog_2_method_9_code
def yX0_differenceOf : MethodName := ⟨RX0, "differenceOf", "(I)I"⟩
def RX1 : String := "MarriedMap$Courtship"
def TX1 : u_T := fun k => match k with
  | 0 => ("MarriedMap$Courtship", "world", "LMarriedMap$World;", true)
  | 1 => ("MarriedMap$Courtship", "couples", "LMarriedMap$Couples;", true)
  | 2 => ("MarriedMap$Courtship", "differences", "[I", true)
  | 3 => ("MarriedMap$Courtship", "bits", "[I", true)
  | 4 => ("MarriedMap$Courtship", "widest", "[I", true)
  | 5 => ("MarriedMap$Courtship", "ownWidth", "I", false)
  | 6 => ("MarriedMap$Courtship", "widthBelow", "I", false)
  | 7 => ("MarriedMap$Courtship", "widthAbove", "I", false)
  | 8 => ("MarriedMap$Courtship", "firstAbove", "I", false)
  | _ => ("MarriedMap$Courtship", "mostWeddings", "I", false)
def tyX1 : Nat → FieldType := fun k => match k with
  | 0 => .object "MarriedMap$World"
  | 1 => .object "MarriedMap$Couples"
  | 2 => .array .int
  | 3 => .array .int
  | 4 => .array .int
  | 5 => .int
  | 6 => .int
  | 7 => .int
  | 8 => .int
  | _ => .int
abbrev wsX10 : List Cond := u_ws RX1 TX1 10
theorem nmX1 : ∀ a, a < 10 → ∀ b, b < 10 → a ≠ b → (TX1 a).2.1 ≠ (TX1 b).2.1 := by decide +kernel
theorem tyX1_ok : ∀ k, k < 10 → parseFieldDescriptor (TX1 k).2.2.1 = some (tyX1 k) := by decide +kernel
abbrev cX1_init : ByteArray := prog_3_method_1_code
def yX1_init : MethodName := ⟨RX1, "<init>", "(LMarriedMap$World;LMarriedMap$People;)V"⟩
abbrev cX1_fewestFor : ByteArray := prog_3_method_2_code
def yX1_fewestFor : MethodName := ⟨RX1, "fewestFor", "(II)I"⟩
abbrev cX1_widestBy : ByteArray := prog_3_method_3_code
def yX1_widestBy : MethodName := ⟨RX1, "widestBy", "(II)I"⟩
abbrev cX1_search : ByteArray := prog_3_method_4_code
def yX1_search : MethodName := ⟨RX1, "search", "(II)V"⟩
abbrev cX1_court : ByteArray := prog_3_method_5_code
def yX1_court : MethodName := ⟨RX1, "court", "(LMarriedMap$Courtship;IIIII)V"⟩
abbrev cX1_hasAll : ByteArray := prog_3_method_6_code
def yX1_hasAll : MethodName := ⟨RX1, "hasAll", "(II)Z"⟩
abbrev cX1_note : ByteArray := prog_3_method_7_code
def yX1_note : MethodName := ⟨RX1, "note", "(III)V"⟩
def RX2 : String := "MarriedMap$Events"
def TX2 : u_T := fun k => match k with
  | 0 => ("MarriedMap$Events", "weeks", "[I", true)
  | 1 => ("MarriedMap$Events", "kinds", "[I", true)
  | 2 => ("MarriedMap$Events", "ones", "[I", true)
  | 3 => ("MarriedMap$Events", "others", "[I", true)
  | 4 => ("MarriedMap$Events", "hours", "[I", true)
  | _ => ("MarriedMap$Events", "number", "I", false)
def tyX2 : Nat → FieldType := fun k => match k with
  | 0 => .array .int
  | 1 => .array .int
  | 2 => .array .int
  | 3 => .array .int
  | 4 => .array .int
  | _ => .int
abbrev wsX20 : List Cond := u_ws RX2 TX2 6
theorem nmX2 : ∀ a, a < 6 → ∀ b, b < 6 → a ≠ b → (TX2 a).2.1 ≠ (TX2 b).2.1 := by decide +kernel
theorem tyX2_ok : ∀ k, k < 6 → parseFieldDescriptor (TX2 k).2.2.1 = some (tyX2 k) := by decide +kernel
abbrev cX2_init : ByteArray := prog_4_method_1_code
def yX2_init : MethodName := ⟨RX2, "<init>", "()V"⟩
abbrev cX2_number : ByteArray := prog_4_method_2_code
def yX2_number : MethodName := ⟨RX2, "number", "()I"⟩
abbrev cX2_has : ByteArray := prog_4_method_3_code
def yX2_has : MethodName := ⟨RX2, "has", "(I)Z"⟩
abbrev cX2_isFull : ByteArray := prog_4_method_4_code
def yX2_isFull : MethodName := ⟨RX2, "isFull", "()Z"⟩
abbrev cX2_mayComeIn : ByteArray := prog_4_method_5_code
def yX2_mayComeIn : MethodName := ⟨RX2, "mayComeIn", "(I)Z"⟩
abbrev cX2_add : ByteArray := prog_4_method_6_code
def yX2_add : MethodName := ⟨RX2, "add", "(IIIII)V"⟩
abbrev cX2_dropLast : ByteArray := prog_4_method_7_code
def yX2_dropLast : MethodName := ⟨RX2, "dropLast", "()V"⟩
abbrev cX2_weekOf : ByteArray := prog_4_method_8_code
def yX2_weekOf : MethodName := ⟨RX2, "weekOf", "(I)I"⟩
abbrev cX2_kindOf : ByteArray := prog_4_method_9_code
def yX2_kindOf : MethodName := ⟨RX2, "kindOf", "(I)I"⟩
abbrev cX2_oneOf : ByteArray := prog_4_method_10_code
def yX2_oneOf : MethodName := ⟨RX2, "oneOf", "(I)I"⟩
abbrev cX2_otherOf : ByteArray := prog_4_method_11_code
def yX2_otherOf : MethodName := ⟨RX2, "otherOf", "(I)I"⟩
abbrev cX2_hourOf : ByteArray := prog_4_method_12_code
def yX2_hourOf : MethodName := ⟨RX2, "hourOf", "(I)I"⟩
def RX3 : String := "MarriedMap$Lands"
def TX3 : u_T := fun k => match k with
  | 0 => ("MarriedMap$Lands", "widths", "[I", true)
  | 1 => ("MarriedMap$Lands", "number", "I", false)
  | _ => ("MarriedMap$Lands", "faultAt", "I", false)
def tyX3 : Nat → FieldType := fun k => match k with
  | 0 => .array .int
  | 1 => .int
  | _ => .int
abbrev wsX30 : List Cond := u_ws RX3 TX3 3
theorem nmX3 : ∀ a, a < 3 → ∀ b, b < 3 → a ≠ b → (TX3 a).2.1 ≠ (TX3 b).2.1 := by decide +kernel
theorem tyX3_ok : ∀ k, k < 3 → parseFieldDescriptor (TX3 k).2.2.1 = some (tyX3 k) := by decide +kernel
abbrev cX3_init : ByteArray := prog_5_method_1_code
def yX3_init : MethodName := ⟨RX3, "<init>", "()V"⟩
abbrev cX3_number : ByteArray := prog_5_method_2_code
def yX3_number : MethodName := ⟨RX3, "number", "()I"⟩
abbrev cX3_faultAt : ByteArray := prog_5_method_3_code
def yX3_faultAt : MethodName := ⟨RX3, "faultAt", "()I"⟩
abbrev cX3_has : ByteArray := prog_5_method_4_code
def yX3_has : MethodName := ⟨RX3, "has", "(I)Z"⟩
abbrev cX3_toldWidth : ByteArray := prog_5_method_5_code
def yX3_toldWidth : MethodName := ⟨RX3, "toldWidth", "(I)I"⟩
abbrev cX3_parse : ByteArray := prog_5_method_6_code
def yX3_parse : MethodName := ⟨RX3, "parse", "(LMarriedMap$Text;)V"⟩
abbrev cX3_firstFault : ByteArray := prog_5_method_7_code
def yX3_firstFault : MethodName := ⟨RX3, "firstFault", "(LMarriedMap$Text;)I"⟩
abbrev cX3_goesOn : ByteArray := prog_5_method_8_code
def yX3_goesOn : MethodName := ⟨RX3, "goesOn", "(LMarriedMap$Text;I)Z"⟩
def RX4 : String := "MarriedMap$People"
def TX4 : u_T := fun k => match k with
  | 0 => ("MarriedMap$People", "sexes", "[I", true)
  | 1 => ("MarriedMap$People", "homes", "[I", true)
  | 2 => ("MarriedMap$People", "heights", "[I", true)
  | 3 => ("MarriedMap$People", "hats", "[I", true)
  | 4 => ("MarriedMap$People", "number", "I", false)
  | _ => ("MarriedMap$People", "faultAt", "I", false)
def tyX4 : Nat → FieldType := fun k => match k with
  | 0 => .array .int
  | 1 => .array .int
  | 2 => .array .int
  | 3 => .array .int
  | 4 => .int
  | _ => .int
abbrev wsX40 : List Cond := u_ws RX4 TX4 6
theorem nmX4 : ∀ a, a < 6 → ∀ b, b < 6 → a ≠ b → (TX4 a).2.1 ≠ (TX4 b).2.1 := by decide +kernel
theorem tyX4_ok : ∀ k, k < 6 → parseFieldDescriptor (TX4 k).2.2.1 = some (tyX4 k) := by decide +kernel
abbrev cX4_init : ByteArray := prog_6_method_1_code
def yX4_init : MethodName := ⟨RX4, "<init>", "()V"⟩
abbrev cX4_number : ByteArray := prog_6_method_2_code
def yX4_number : MethodName := ⟨RX4, "number", "()I"⟩
abbrev cX4_faultAt : ByteArray := prog_6_method_3_code
def yX4_faultAt : MethodName := ⟨RX4, "faultAt", "()I"⟩
abbrev cX4_has : ByteArray := prog_6_method_4_code
def yX4_has : MethodName := ⟨RX4, "has", "(I)Z"⟩
abbrev cX4_sexOf : ByteArray := prog_6_method_5_code
def yX4_sexOf : MethodName := ⟨RX4, "sexOf", "(I)I"⟩
abbrev cX4_homeOf : ByteArray := prog_6_method_6_code
def yX4_homeOf : MethodName := ⟨RX4, "homeOf", "(I)I"⟩
abbrev cX4_heightOf : ByteArray := prog_6_method_7_code
def yX4_heightOf : MethodName := ⟨RX4, "heightOf", "(I)I"⟩
abbrev cX4_hatOf : ByteArray := prog_6_method_8_code
def yX4_hatOf : MethodName := ⟨RX4, "hatOf", "(I)I"⟩
abbrev cX4_setHeight : ByteArray := prog_6_method_9_code
def yX4_setHeight : MethodName := ⟨RX4, "setHeight", "(II)V"⟩
abbrev cX4_shadowOf : ByteArray := prog_6_method_10_code
def yX4_shadowOf : MethodName := ⟨RX4, "shadowOf", "(II)I"⟩
abbrev cX4_areMatch : ByteArray := prog_6_method_11_code
def yX4_areMatch : MethodName := ⟨RX4, "areMatch", "(II)Z"⟩
abbrev cX4_parse : ByteArray := prog_6_method_12_code
def yX4_parse : MethodName := ⟨RX4, "parse", "(LMarriedMap$Text;I)V"⟩
abbrev cX4_firstFault : ByteArray := prog_6_method_13_code
def yX4_firstFault : MethodName := ⟨RX4, "firstFault", "(LMarriedMap$Text;I)I"⟩
abbrev cX4_goesOn : ByteArray := prog_6_method_14_code
def yX4_goesOn : MethodName := ⟨RX4, "goesOn", "(LMarriedMap$Text;II)Z"⟩
def RX5 : String := "MarriedMap$Sheet"
def TX5 : u_T := fun k => match k with
  | 0 => ("MarriedMap$Sheet", "items", "[I", true)
  | 1 => ("MarriedMap$Sheet", "form", "I", false)
  | _ => ("MarriedMap$Sheet", "size", "I", false)
def tyX5 : Nat → FieldType := fun k => match k with
  | 0 => .array .int
  | 1 => .int
  | _ => .int
abbrev wsX50 : List Cond := u_ws RX5 TX5 3
theorem nmX5 : ∀ a, a < 3 → ∀ b, b < 3 → a ≠ b → (TX5 a).2.1 ≠ (TX5 b).2.1 := by decide +kernel
theorem tyX5_ok : ∀ k, k < 3 → parseFieldDescriptor (TX5 k).2.2.1 = some (tyX5 k) := by decide +kernel
abbrev cX5_init : ByteArray := prog_7_method_1_code
def yX5_init : MethodName := ⟨RX5, "<init>", "()V"⟩
abbrev cX5_isLost : ByteArray := prog_7_method_2_code
def yX5_isLost : MethodName := ⟨RX5, "isLost", "()Z"⟩
abbrev cX5_size : ByteArray := prog_7_method_3_code
def yX5_size : MethodName := ⟨RX5, "size", "()I"⟩
abbrev cX5_form : ByteArray := prog_7_method_4_code
def yX5_form : MethodName := ⟨RX5, "form", "()I"⟩
abbrev cX5_hasItem : ByteArray := prog_7_method_5_code
def yX5_hasItem : MethodName := ⟨RX5, "hasItem", "(I)Z"⟩
abbrev cX5_hasSpan : ByteArray := prog_7_method_6_code
def yX5_hasSpan : MethodName := ⟨RX5, "hasSpan", "(II)Z"⟩
abbrev cX5_renew : ByteArray := prog_7_method_7_code
def yX5_renew : MethodName := ⟨RX5, "renew", "(II)V"⟩
abbrev cX5_drop : ByteArray := prog_7_method_8_code
def yX5_drop : MethodName := ⟨RX5, "drop", "()V"⟩
abbrev cX5_itemAt : ByteArray := prog_7_method_9_code
def yX5_itemAt : MethodName := ⟨RX5, "itemAt", "(I)I"⟩
abbrev cX5_put : ByteArray := prog_7_method_10_code
def yX5_put : MethodName := ⟨RX5, "put", "(II)V"⟩
abbrev cX5_take : ByteArray := prog_7_method_11_code
def yX5_take : MethodName := ⟨RX5, "take", "(ILMarriedMap$Sheet;II)V"⟩
abbrev cX5_fitted : ByteArray := prog_7_method_12_code
def yX5_fitted : MethodName := ⟨RX5, "fitted", "(I)I"⟩
def RX6 : String := "MarriedMap$Sky"
def TX6 : u_T := fun k => match k with
  | _ => ("MarriedMap$Sky", "clouds", "[I", true)
def tyX6 : Nat → FieldType := fun k => match k with
  | _ => .array .int
abbrev wsX60 : List Cond := u_ws RX6 TX6 1
theorem nmX6 : ∀ a, a < 1 → ∀ b, b < 1 → a ≠ b → (TX6 a).2.1 ≠ (TX6 b).2.1 := by decide +kernel
theorem tyX6_ok : ∀ k, k < 1 → parseFieldDescriptor (TX6 k).2.2.1 = some (tyX6 k) := by decide +kernel
abbrev cX6_init : ByteArray := prog_8_method_1_code
def yX6_init : MethodName := ⟨RX6, "<init>", "()V"⟩
abbrev cX6_cloudsIn : ByteArray := prog_8_method_2_code
def yX6_cloudsIn : MethodName := ⟨RX6, "cloudsIn", "(I)I"⟩
abbrev cX6_setClouds : ByteArray := prog_8_method_3_code
def yX6_setClouds : MethodName := ⟨RX6, "setClouds", "(II)V"⟩
abbrev cX6_cloudedWeeks : ByteArray := prog_8_method_4_code
def yX6_cloudedWeeks : MethodName := ⟨RX6, "cloudedWeeks", "()I"⟩
def RX7 : String := "MarriedMap$Surveys"
def TX7 : u_T := fun k => match k with
  | 0 => ("MarriedMap$Surveys", "measuredLands", "[I", true)
  | 1 => ("MarriedMap$Surveys", "measuredBehind", "[I", true)
  | 2 => ("MarriedMap$Surveys", "measuredWidths", "[I", true)
  | _ => ("MarriedMap$Surveys", "number", "I", false)
def tyX7 : Nat → FieldType := fun k => match k with
  | 0 => .array .int
  | 1 => .array .int
  | 2 => .array .int
  | _ => .int
abbrev wsX70 : List Cond := u_ws RX7 TX7 4
theorem nmX7 : ∀ a, a < 4 → ∀ b, b < 4 → a ≠ b → (TX7 a).2.1 ≠ (TX7 b).2.1 := by decide +kernel
theorem tyX7_ok : ∀ k, k < 4 → parseFieldDescriptor (TX7 k).2.2.1 = some (tyX7 k) := by decide +kernel
abbrev cX7_init : ByteArray := prog_9_method_1_code
def yX7_init : MethodName := ⟨RX7, "<init>", "()V"⟩
abbrev cX7_number : ByteArray := prog_9_method_2_code
def yX7_number : MethodName := ⟨RX7, "number", "()I"⟩
abbrev cX7_isFull : ByteArray := prog_9_method_3_code
def yX7_isFull : MethodName := ⟨RX7, "isFull", "()Z"⟩
abbrev cX7_add : ByteArray := prog_9_method_4_code
def yX7_add : MethodName := ⟨RX7, "add", "(III)V"⟩
abbrev cX7_clear : ByteArray := prog_9_method_5_code
def yX7_clear : MethodName := ⟨RX7, "clear", "()V"⟩
abbrev cX7_unaskable : ByteArray := prog_9_method_6_code
def yX7_unaskable : MethodName := ⟨RX7, "unaskable", "(LMarriedMap$Lands;LMarriedMap$Events;)I"⟩
abbrev cX7_otherwiseIn : ByteArray := prog_9_method_7_code
def yX7_otherwiseIn : MethodName := ⟨RX7, "otherwiseIn", "(LMarriedMap$World;LMarriedMap$Lands;LMarriedMap$Events;)I"⟩
def RX8 : String := "MarriedMap$Text"
def TX8 : u_T := fun k => match k with
  | 0 => ("MarriedMap$Text", "bytes", "[I", true)
  | _ => ("MarriedMap$Text", "length", "I", false)
def tyX8 : Nat → FieldType := fun k => match k with
  | 0 => .array .int
  | _ => .int
abbrev wsX80 : List Cond := u_ws RX8 TX8 2
theorem nmX8 : ∀ a, a < 2 → ∀ b, b < 2 → a ≠ b → (TX8 a).2.1 ≠ (TX8 b).2.1 := by decide +kernel
theorem tyX8_ok : ∀ k, k < 2 → parseFieldDescriptor (TX8 k).2.2.1 = some (tyX8 k) := by decide +kernel
abbrev cX8_init : ByteArray := prog_10_method_1_code
def yX8_init : MethodName := ⟨RX8, "<init>", "(I)V"⟩
abbrev cX8_length : ByteArray := prog_10_method_2_code
def yX8_length : MethodName := ⟨RX8, "length", "()I"⟩
abbrev cX8_isFull : ByteArray := prog_10_method_3_code
def yX8_isFull : MethodName := ⟨RX8, "isFull", "()Z"⟩
abbrev cX8_append : ByteArray := prog_10_method_4_code
def yX8_append : MethodName := ⟨RX8, "append", "(I)V"⟩
abbrev cX8_clear : ByteArray := prog_10_method_5_code
def yX8_clear : MethodName := ⟨RX8, "clear", "()V"⟩
abbrev cX8_at : ByteArray := prog_10_method_6_code
def yX8_at : MethodName := ⟨RX8, "at", "(I)I"⟩
abbrev cX8_figureAt : ByteArray := prog_10_method_7_code
def yX8_figureAt : MethodName := ⟨RX8, "figureAt", "(I)I"⟩
def RX9 : String := "MarriedMap$Turns"
def TX9 : u_T := fun k => match k with
  | 0 => ("MarriedMap$Turns", "world", "LMarriedMap$World;", true)
  | 1 => ("MarriedMap$Turns", "couples", "LMarriedMap$Couples;", true)
  | _ => ("MarriedMap$Turns", "firstWedding", "I", false)
def tyX9 : Nat → FieldType := fun k => match k with
  | 0 => .object "MarriedMap$World"
  | 1 => .object "MarriedMap$Couples"
  | _ => .int
abbrev wsX90 : List Cond := u_ws RX9 TX9 3
theorem nmX9 : ∀ a, a < 3 → ∀ b, b < 3 → a ≠ b → (TX9 a).2.1 ≠ (TX9 b).2.1 := by decide +kernel
theorem tyX9_ok : ∀ k, k < 3 → parseFieldDescriptor (TX9 k).2.2.1 = some (tyX9 k) := by decide +kernel
abbrev cX9_init : ByteArray := prog_11_method_1_code
def yX9_init : MethodName := ⟨RX9, "<init>", "(LMarriedMap$World;LMarriedMap$People;)V"⟩
abbrev cX9_playOut : ByteArray := prog_11_method_2_code
def yX9_playOut : MethodName := ⟨RX9, "playOut", "(II)I"⟩
abbrev cX9_firstWedding : ByteArray := prog_11_method_3_code
def yX9_firstWedding : MethodName := ⟨RX9, "firstWedding", "()I"⟩
abbrev cX9_takeTurn : ByteArray := prog_11_method_4_code
def yX9_takeTurn : MethodName := ⟨RX9, "takeTurn", "(LMarriedMap$Turns;IIII)I"⟩
abbrev cX9_noteFirst : ByteArray := prog_11_method_5_code
def yX9_noteFirst : MethodName := ⟨RX9, "noteFirst", "(II)V"⟩
def RX10 : String := "MarriedMap$World"
def TX10 : u_T := fun k => match k with
  | 0 => ("MarriedMap$World", "lands", "LMarriedMap$Lands;", true)
  | 1 => ("MarriedMap$World", "people", "LMarriedMap$People;", true)
  | 2 => ("MarriedMap$World", "sky", "LMarriedMap$Sky;", true)
  | 3 => ("MarriedMap$World", "events", "LMarriedMap$Events;", true)
  | 4 => ("MarriedMap$World", "widths", "[I", true)
  | 5 => ("MarriedMap$World", "partners", "[I", true)
  | 6 => ("MarriedMap$World", "provinces", "[I", true)
  | 7 => ("MarriedMap$World", "alive", "[Z", true)
  | 8 => ("MarriedMap$World", "dowries", "[I", true)
  | 9 => ("MarriedMap$World", "takers", "[I", true)
  | 10 => ("MarriedMap$World", "nobodys", "I", false)
  | 11 => ("MarriedMap$World", "movedLast", "I", false)
  | 12 => ("MarriedMap$World", "againstLaw", "I", false)
  | _ => ("MarriedMap$World", "firstAgainstLaw", "I", false)
def tyX10 : Nat → FieldType := fun k => match k with
  | 0 => .object "MarriedMap$Lands"
  | 1 => .object "MarriedMap$People"
  | 2 => .object "MarriedMap$Sky"
  | 3 => .object "MarriedMap$Events"
  | 4 => .array .int
  | 5 => .array .int
  | 6 => .array .int
  | 7 => .array .boolean
  | 8 => .array .int
  | 9 => .array .int
  | 10 => .int
  | 11 => .int
  | 12 => .int
  | _ => .int
abbrev wsX100 : List Cond := u_ws RX10 TX10 14
theorem nmX10 : ∀ a, a < 14 → ∀ b, b < 14 → a ≠ b → (TX10 a).2.1 ≠ (TX10 b).2.1 := by decide +kernel
theorem tyX10_ok : ∀ k, k < 14 → parseFieldDescriptor (TX10 k).2.2.1 = some (tyX10 k) := by decide +kernel
abbrev cX10_init : ByteArray := prog_12_method_1_code
def yX10_init : MethodName := ⟨RX10, "<init>", "(LMarriedMap$Lands;LMarriedMap$People;LMarriedMap$Sky;LMarriedMap$Events;)V"⟩
abbrev cX10_widthOf : ByteArray := prog_12_method_2_code
def yX10_widthOf : MethodName := ⟨RX10, "widthOf", "(I)I"⟩
abbrev cX10_partnerOf : ByteArray := prog_12_method_3_code
def yX10_partnerOf : MethodName := ⟨RX10, "partnerOf", "(I)I"⟩
abbrev cX10_provinceOf : ByteArray := prog_12_method_4_code
def yX10_provinceOf : MethodName := ⟨RX10, "provinceOf", "(I)I"⟩
abbrev cX10_isAlive : ByteArray := prog_12_method_5_code
def yX10_isAlive : MethodName := ⟨RX10, "isAlive", "(I)Z"⟩
abbrev cX10_isFree : ByteArray := prog_12_method_6_code
def yX10_isFree : MethodName := ⟨RX10, "isFree", "(I)Z"⟩
abbrev cX10_mayMarry : ByteArray := prog_12_method_7_code
def yX10_mayMarry : MethodName := ⟨RX10, "mayMarry", "(II)Z"⟩
abbrev cX10_freeIn : ByteArray := prog_12_method_8_code
def yX10_freeIn : MethodName := ⟨RX10, "freeIn", "(I)I"⟩
abbrev cX10_nobodys : ByteArray := prog_12_method_9_code
def yX10_nobodys : MethodName := ⟨RX10, "nobodys", "()I"⟩
abbrev cX10_movedLast : ByteArray := prog_12_method_10_code
def yX10_movedLast : MethodName := ⟨RX10, "movedLast", "()I"⟩
abbrev cX10_againstLaw : ByteArray := prog_12_method_11_code
def yX10_againstLaw : MethodName := ⟨RX10, "againstLaw", "()I"⟩
abbrev cX10_firstAgainstLaw : ByteArray := prog_12_method_12_code
def yX10_firstAgainstLaw : MethodName := ⟨RX10, "firstAgainstLaw", "()I"⟩
abbrev cX10_play : ByteArray := prog_12_method_13_code
def yX10_play : MethodName := ⟨RX10, "play", "(II)V"⟩
abbrev cX10_begin : ByteArray := prog_12_method_14_code
def yX10_begin : MethodName := ⟨RX10, "begin", "()V"⟩
abbrev cX10_playOne : ByteArray := prog_12_method_15_code
def yX10_playOne : MethodName := ⟨RX10, "playOne", "(I)V"⟩
abbrev cX10_gain : ByteArray := prog_12_method_16_code
def yX10_gain : MethodName := ⟨RX10, "gain", "(III)I"⟩
abbrev cX10_marry : ByteArray := prog_12_method_17_code
def yX10_marry : MethodName := ⟨RX10, "marry", "(III)Z"⟩
abbrev cX10_part : ByteArray := prog_12_method_18_code
def yX10_part : MethodName := ⟨RX10, "part", "(I)Z"⟩
abbrev cX10_die : ByteArray := prog_12_method_19_code
def yX10_die : MethodName := ⟨RX10, "die", "(I)Z"⟩
abbrev cX10_differenceAt : ByteArray := prog_12_method_20_code
def yX10_differenceAt : MethodName := ⟨RX10, "differenceAt", "(I)I"⟩
abbrev cX10_bind : ByteArray := prog_12_method_21_code
def yX10_bind : MethodName := ⟨RX10, "bind", "(IIII)V"⟩
abbrev cX10_dissolve : ByteArray := prog_12_method_22_code
def yX10_dissolve : MethodName := ⟨RX10, "dissolve", "(I)I"⟩
def RX11 : String := "MarriedMap"
def TX11 : u_T := fun k => match k with
  | 0 => ("MarriedMap", "landsText", "LMarriedMap$Text;", true)
  | 1 => ("MarriedMap", "peopleText", "LMarriedMap$Text;", true)
  | 2 => ("MarriedMap", "lands", "LMarriedMap$Lands;", true)
  | 3 => ("MarriedMap", "people", "LMarriedMap$People;", true)
  | 4 => ("MarriedMap", "sky", "LMarriedMap$Sky;", true)
  | 5 => ("MarriedMap", "events", "LMarriedMap$Events;", true)
  | 6 => ("MarriedMap", "world", "LMarriedMap$World;", true)
  | 7 => ("MarriedMap", "courtship", "LMarriedMap$Courtship;", true)
  | 8 => ("MarriedMap", "turns", "LMarriedMap$Turns;", true)
  | 9 => ("MarriedMap", "surveys", "LMarriedMap$Surveys;", true)
  | 10 => ("MarriedMap", "sheets", "[LMarriedMap$Sheet;", true)
  | _ => ("MarriedMap", "latestFinding", "I", false)
def tyX11 : Nat → FieldType := fun k => match k with
  | 0 => .object "MarriedMap$Text"
  | 1 => .object "MarriedMap$Text"
  | 2 => .object "MarriedMap$Lands"
  | 3 => .object "MarriedMap$People"
  | 4 => .object "MarriedMap$Sky"
  | 5 => .object "MarriedMap$Events"
  | 6 => .object "MarriedMap$World"
  | 7 => .object "MarriedMap$Courtship"
  | 8 => .object "MarriedMap$Turns"
  | 9 => .object "MarriedMap$Surveys"
  | 10 => .array (.object "MarriedMap$Sheet")
  | _ => .int
abbrev wsX110 : List Cond := u_ws RX11 TX11 12
theorem nmX11 : ∀ a, a < 12 → ∀ b, b < 12 → a ≠ b → (TX11 a).2.1 ≠ (TX11 b).2.1 := by decide +kernel
theorem tyX11_ok : ∀ k, k < 12 → parseFieldDescriptor (TX11 k).2.2.1 = some (tyX11 k) := by decide +kernel
abbrev cX11_init : ByteArray := prog_1_method_1_code
def yX11_init : MethodName := ⟨RX11, "<init>", "()V"⟩
abbrev cX11_type : ByteArray := prog_1_method_2_code
def yX11_type : MethodName := ⟨RX11, "type", "(II)I"⟩
abbrev cX11_wipe : ByteArray := prog_1_method_3_code
def yX11_wipe : MethodName := ⟨RX11, "wipe", "(I)I"⟩
abbrev cX11_fault : ByteArray := prog_1_method_4_code
def yX11_fault : MethodName := ⟨RX11, "fault", "(I)I"⟩
abbrev cX11_person : ByteArray := prog_1_method_5_code
def yX11_person : MethodName := ⟨RX11, "person", "(II)I"⟩
abbrev cX11_shadow : ByteArray := prog_1_method_6_code
def yX11_shadow : MethodName := ⟨RX11, "shadow", "(II)I"⟩
abbrev cX11_cloud : ByteArray := prog_1_method_7_code
def yX11_cloud : MethodName := ⟨RX11, "cloud", "(II)I"⟩
abbrev cX11_wed : ByteArray := prog_1_method_8_code
def yX11_wed : MethodName := ⟨RX11, "wed", "(IIII)I"⟩
abbrev cX11_ends : ByteArray := prog_1_method_9_code
def yX11_ends : MethodName := ⟨RX11, "ends", "(III)I"⟩
abbrev cX11_read : ByteArray := prog_1_method_10_code
def yX11_read : MethodName := ⟨RX11, "read", "(II)I"⟩
abbrev cX11_undo : ByteArray := prog_1_method_11_code
def yX11_undo : MethodName := ⟨RX11, "undo", "()I"⟩
abbrev cX11_judged : ByteArray := prog_1_method_12_code
def yX11_judged : MethodName := ⟨RX11, "judged", "()I"⟩
abbrev cX11_moved : ByteArray := prog_1_method_13_code
def yX11_moved : MethodName := ⟨RX11, "moved", "(I)I"⟩
abbrev cX11_width : ByteArray := prog_1_method_14_code
def yX11_width : MethodName := ⟨RX11, "width", "(II)I"⟩
abbrev cX11_state : ByteArray := prog_1_method_15_code
def yX11_state : MethodName := ⟨RX11, "state", "(III)I"⟩
abbrev cX11_nobody : ByteArray := prog_1_method_16_code
def yX11_nobody : MethodName := ⟨RX11, "nobody", "(I)I"⟩
abbrev cX11_reach : ByteArray := prog_1_method_17_code
def yX11_reach : MethodName := ⟨RX11, "reach", "(II)I"⟩
abbrev cX11_grows : ByteArray := prog_1_method_18_code
def yX11_grows : MethodName := ⟨RX11, "grows", "(II)I"⟩
abbrev cX11_leave : ByteArray := prog_1_method_19_code
def yX11_leave : MethodName := ⟨RX11, "leave", "()I"⟩
abbrev cX11_survey : ByteArray := prog_1_method_20_code
def yX11_survey : MethodName := ⟨RX11, "survey", "(III)I"⟩
abbrev cX11_forget : ByteArray := prog_1_method_21_code
def yX11_forget : MethodName := ⟨RX11, "forget", "()I"⟩
abbrev cX11_forged : ByteArray := prog_1_method_22_code
def yX11_forged : MethodName := ⟨RX11, "forged", "(I)I"⟩
abbrev cX11_unlike : ByteArray := prog_1_method_23_code
def yX11_unlike : MethodName := ⟨RX11, "unlike", "()I"⟩
abbrev cX11_without : ByteArray := prog_1_method_24_code
def yX11_without : MethodName := ⟨RX11, "without", "(II)I"⟩
abbrev cX11_blame : ByteArray := prog_1_method_25_code
def yX11_blame : MethodName := ⟨RX11, "blame", "(I)I"⟩
abbrev cX11_lords : ByteArray := prog_1_method_26_code
def yX11_lords : MethodName := ⟨RX11, "lords", "(III)I"⟩
abbrev cX11_sheet : ByteArray := prog_1_method_27_code
def yX11_sheet : MethodName := ⟨RX11, "sheet", "(III)I"⟩
abbrev cX11_lose : ByteArray := prog_1_method_28_code
def yX11_lose : MethodName := ⟨RX11, "lose", "(I)I"⟩
abbrev cX11_lay : ByteArray := prog_1_method_29_code
def yX11_lay : MethodName := ⟨RX11, "lay", "(IIII)I"⟩
abbrev cX11_get : ByteArray := prog_1_method_30_code
def yX11_get : MethodName := ⟨RX11, "get", "(III)I"⟩
abbrev cX11_copy : ByteArray := prog_1_method_31_code
def yX11_copy : MethodName := ⟨RX11, "copy", "(IIIII)I"⟩
abbrev cX11_write : ByteArray := prog_1_method_32_code
def yX11_write : MethodName := ⟨RX11, "write", "(II)I"⟩
abbrev cX11_count : ByteArray := prog_1_method_33_code
def yX11_count : MethodName := ⟨RX11, "count", "(I)I"⟩
abbrev cX11_digest : ByteArray := prog_1_method_34_code
def yX11_digest : MethodName := ⟨RX11, "digest", "()J"⟩
abbrev cX11_isWithin : ByteArray := prog_1_method_35_code
def yX11_isWithin : MethodName := ⟨RX11, "isWithin", "(III)Z"⟩
abbrev cX11_isHour : ByteArray := prog_1_method_36_code
def yX11_isHour : MethodName := ⟨RX11, "isHour", "(I)Z"⟩
abbrev cX11_isPersonNumber : ByteArray := prog_1_method_37_code
def yX11_isPersonNumber : MethodName := ⟨RX11, "isPersonNumber", "(I)Z"⟩
abbrev cX11_isForm : ByteArray := prog_1_method_38_code
def yX11_isForm : MethodName := ⟨RX11, "isForm", "(I)Z"⟩
abbrev cX11_mayBeWedding : ByteArray := prog_1_method_39_code
def yX11_mayBeWedding : MethodName := ⟨RX11, "mayBeWedding", "(III)Z"⟩
abbrev cX11_mayBeBehind : ByteArray := prog_1_method_40_code
def yX11_mayBeBehind : MethodName := ⟨RX11, "mayBeBehind", "(I)Z"⟩
abbrev cX11_textAt : ByteArray := prog_1_method_41_code
def yX11_textAt : MethodName := ⟨RX11, "textAt", "(I)LMarriedMap$Text;"⟩
abbrev cX11_sheetAt : ByteArray := prog_1_method_42_code
def yX11_sheetAt : MethodName := ⟨RX11, "sheetAt", "(I)LMarriedMap$Sheet;"⟩
abbrev cX11_parseTexts : ByteArray := prog_1_method_43_code
def yX11_parseTexts : MethodName := ⟨RX11, "parseTexts", "()V"⟩
abbrev cX11_wouldLeave : ByteArray := prog_1_method_44_code
def yX11_wouldLeave : MethodName := ⟨RX11, "wouldLeave", "(II)Z"⟩
abbrev cX11_itemRefusal : ByteArray := prog_1_method_45_code
def yX11_itemRefusal : MethodName := ⟨RX11, "itemRefusal", "(LMarriedMap$Sheet;II)I"⟩
abbrev cX11_finding : ByteArray := prog_1_method_46_code
def yX11_finding : MethodName := ⟨RX11, "finding", "(I)I"⟩
def RX12 : String := "MarriedMapModel"
def TX12 : u_T := fun k => match k with
  | 0 => ("MarriedMapModel", "forms", "[I", true)
  | 1 => ("MarriedMapModel", "sizes", "[I", true)
  | 2 => ("MarriedMapModel", "items", "[I", true)
  | 3 => ("MarriedMapModel", "moving", "[I", true)
  | 4 => ("MarriedMapModel", "latest", "I", false)
  | 5 => ("MarriedMapModel", "bytes", "[I", true)
  | 6 => ("MarriedMapModel", "typed", "[I", true)
  | 7 => ("MarriedMapModel", "at", "I", false)
  | 8 => ("MarriedMapModel", "lands", "I", false)
  | 9 => ("MarriedMapModel", "landWidth", "[I", true)
  | 10 => ("MarriedMapModel", "people", "I", false)
  | 11 => ("MarriedMapModel", "who", "[I", true)
  | 12 => ("MarriedMapModel", "clouds", "[I", true)
  | 13 => ("MarriedMapModel", "events", "I", false)
  | 14 => ("MarriedMapModel", "told", "[I", true)
  | 15 => ("MarriedMapModel", "widths", "[I", true)
  | 16 => ("MarriedMapModel", "mate", "[I", true)
  | 17 => ("MarriedMapModel", "took", "[I", true)
  | 18 => ("MarriedMapModel", "taker", "[I", true)
  | 19 => ("MarriedMapModel", "province", "[I", true)
  | 20 => ("MarriedMapModel", "alive", "[I", true)
  | 21 => ("MarriedMapModel", "nobodys", "I", false)
  | 22 => ("MarriedMapModel", "moved", "[I", true)
  | 23 => ("MarriedMapModel", "against", "I", false)
  | 24 => ("MarriedMapModel", "firstAgainst", "I", false)
  | 25 => ("MarriedMapModel", "own", "[I", true)
  | 26 => ("MarriedMapModel", "ownMany", "I", false)
  | 27 => ("MarriedMapModel", "pick", "[I", true)
  | 28 => ("MarriedMapModel", "most", "[I", true)
  | 29 => ("MarriedMapModel", "surveys", "I", false)
  | 30 => ("MarriedMapModel", "measured", "[I", true)
  | 31 => ("MarriedMapModel", "firsts", "[I", true)
  | 32 => ("MarriedMapModel", "seconds", "[I", true)
  | 33 => ("MarriedMapModel", "firstMany", "I", false)
  | 34 => ("MarriedMapModel", "secondMany", "I", false)
  | 35 => ("MarriedMapModel", "next", "[I", true)
  | 36 => ("MarriedMapModel", "bestBy", "[I", true)
  | 37 => ("MarriedMapModel", "hasBest", "[Z", true)
  | 38 => ("MarriedMapModel", "used", "[I", true)
  | 39 => ("MarriedMapModel", "wide", "[I", true)
  | _ => ("MarriedMapModel", "firstPick", "I", false)
def tyX12 : Nat → FieldType := fun k => match k with
  | 0 => .array .int
  | 1 => .array .int
  | 2 => .array .int
  | 3 => .array .int
  | 4 => .int
  | 5 => .array .int
  | 6 => .array .int
  | 7 => .int
  | 8 => .int
  | 9 => .array .int
  | 10 => .int
  | 11 => .array .int
  | 12 => .array .int
  | 13 => .int
  | 14 => .array .int
  | 15 => .array .int
  | 16 => .array .int
  | 17 => .array .int
  | 18 => .array .int
  | 19 => .array .int
  | 20 => .array .int
  | 21 => .int
  | 22 => .array .int
  | 23 => .int
  | 24 => .int
  | 25 => .array .int
  | 26 => .int
  | 27 => .array .int
  | 28 => .array .int
  | 29 => .int
  | 30 => .array .int
  | 31 => .array .int
  | 32 => .array .int
  | 33 => .int
  | 34 => .int
  | 35 => .array .int
  | 36 => .array .int
  | 37 => .array .boolean
  | 38 => .array .int
  | 39 => .array .int
  | _ => .int
abbrev wsX120 : List Cond := u_ws RX12 TX12 41
theorem nmX12 : ∀ a, a < 41 → ∀ b, b < 41 → a ≠ b → (TX12 a).2.1 ≠ (TX12 b).2.1 := by decide +kernel
theorem tyX12_ok : ∀ k, k < 41 → parseFieldDescriptor (TX12 k).2.2.1 = some (tyX12 k) := by decide +kernel
abbrev cX12_init : ByteArray := prog_14_method_1_code
def yX12_init : MethodName := ⟨RX12, "<init>", "()V"⟩
abbrev cX12_in : ByteArray := prog_14_method_3_code
def yX12_in : MethodName := ⟨RX12, "in", "(JJJ)Z"⟩
abbrev cX12_isTwo : ByteArray := prog_14_method_4_code
def yX12_isTwo : MethodName := ⟨RX12, "isTwo", "(I)Z"⟩
abbrev cX12_met : ByteArray := prog_14_method_5_code
def yX12_met : MethodName := ⟨RX12, "met", "(I)I"⟩
abbrev cX12_isSheet : ByteArray := prog_14_method_6_code
def yX12_isSheet : MethodName := ⟨RX12, "isSheet", "(I)Z"⟩
abbrev cX12_sheet : ByteArray := prog_14_method_7_code
def yX12_sheet : MethodName := ⟨RX12, "sheet", "(III)I"⟩
abbrev cX12_lose : ByteArray := prog_14_method_8_code
def yX12_lose : MethodName := ⟨RX12, "lose", "(I)I"⟩
abbrev cX12_lacks : ByteArray := prog_14_method_9_code
def yX12_lacks : MethodName := ⟨RX12, "lacks", "(III)I"⟩
abbrev cX12_cut : ByteArray := prog_14_method_10_code
def yX12_cut : MethodName := ⟨RX12, "cut", "(II)I"⟩
abbrev cX12_lay : ByteArray := prog_14_method_11_code
def yX12_lay : MethodName := ⟨RX12, "lay", "(IIII)I"⟩
abbrev cX12_get : ByteArray := prog_14_method_12_code
def yX12_get : MethodName := ⟨RX12, "get", "(III)I"⟩
abbrev cX12_copy : ByteArray := prog_14_method_13_code
def yX12_copy : MethodName := ⟨RX12, "copy", "(IIIII)I"⟩
abbrev cX12_room : ByteArray := prog_14_method_14_code
def yX12_room : MethodName := ⟨RX12, "room", "(I)I"⟩
abbrev cX12_type : ByteArray := prog_14_method_15_code
def yX12_type : MethodName := ⟨RX12, "type", "(II)I"⟩
abbrev cX12_wipe : ByteArray := prog_14_method_16_code
def yX12_wipe : MethodName := ⟨RX12, "wipe", "(I)I"⟩
abbrev cX12_here : ByteArray := prog_14_method_17_code
def yX12_here : MethodName := ⟨RX12, "here", "(I)I"⟩
abbrev cX12_figure : ByteArray := prog_14_method_18_code
def yX12_figure : MethodName := ⟨RX12, "figure", "(III)I"⟩
abbrev cX12_readsLand : ByteArray := prog_14_method_19_code
def yX12_readsLand : MethodName := ⟨RX12, "readsLand", "()Z"⟩
abbrev cX12_readsPerson : ByteArray := prog_14_method_20_code
def yX12_readsPerson : MethodName := ⟨RX12, "readsPerson", "()Z"⟩
abbrev cX12_fails : ByteArray := prog_14_method_21_code
def yX12_fails : MethodName := ⟨RX12, "fails", "(I)I"⟩
abbrev cX12_reads : ByteArray := prog_14_method_22_code
def yX12_reads : MethodName := ⟨RX12, "reads", "(I)I"⟩
abbrev cX12_find : ByteArray := prog_14_method_23_code
def yX12_find : MethodName := ⟨RX12, "find", "()V"⟩
abbrev cX12_faultOf : ByteArray := prog_14_method_24_code
def yX12_faultOf : MethodName := ⟨RX12, "faultOf", "(I)I"⟩
abbrev cX12_fault : ByteArray := prog_14_method_25_code
def yX12_fault : MethodName := ⟨RX12, "fault", "(I)I"⟩
abbrev cX12_isLand : ByteArray := prog_14_method_26_code
def yX12_isLand : MethodName := ⟨RX12, "isLand", "(I)Z"⟩
abbrev cX12_isPerson : ByteArray := prog_14_method_27_code
def yX12_isPerson : MethodName := ⟨RX12, "isPerson", "(I)Z"⟩
abbrev cX12_person : ByteArray := prog_14_method_28_code
def yX12_person : MethodName := ⟨RX12, "person", "(II)I"⟩
abbrev cX12_shadowOf : ByteArray := prog_14_method_29_code
def yX12_shadowOf : MethodName := ⟨RX12, "shadowOf", "(II)I"⟩
abbrev cX12_isHour : ByteArray := prog_14_method_30_code
def yX12_isHour : MethodName := ⟨RX12, "isHour", "(I)Z"⟩
abbrev cX12_shadow : ByteArray := prog_14_method_31_code
def yX12_shadow : MethodName := ⟨RX12, "shadow", "(II)I"⟩
abbrev cX12_isWeek : ByteArray := prog_14_method_32_code
def yX12_isWeek : MethodName := ⟨RX12, "isWeek", "(I)Z"⟩
abbrev cX12_cloud : ByteArray := prog_14_method_33_code
def yX12_cloud : MethodName := ⟨RX12, "cloud", "(II)I"⟩
abbrev cX12_isLate : ByteArray := prog_14_method_34_code
def yX12_isLate : MethodName := ⟨RX12, "isLate", "(I)Z"⟩
abbrev cX12_isAnyone : ByteArray := prog_14_method_35_code
def yX12_isAnyone : MethodName := ⟨RX12, "isAnyone", "(I)Z"⟩
abbrev cX12_tells : ByteArray := prog_14_method_36_code
def yX12_tells : MethodName := ⟨RX12, "tells", "(IIIII)I"⟩
abbrev cX12_wed : ByteArray := prog_14_method_37_code
def yX12_wed : MethodName := ⟨RX12, "wed", "(IIII)I"⟩
abbrev cX12_ends : ByteArray := prog_14_method_38_code
def yX12_ends : MethodName := ⟨RX12, "ends", "(III)I"⟩
abbrev cX12_read : ByteArray := prog_14_method_39_code
def yX12_read : MethodName := ⟨RX12, "read", "(II)I"⟩
abbrev cX12_undo : ByteArray := prog_14_method_40_code
def yX12_undo : MethodName := ⟨RX12, "undo", "()I"⟩
abbrev cX12_begins : ByteArray := prog_14_method_41_code
def yX12_begins : MethodName := ⟨RX12, "begins", "()V"⟩
abbrev cX12_isFree : ByteArray := prog_14_method_42_code
def yX12_isFree : MethodName := ⟨RX12, "isFree", "(I)Z"⟩
abbrev cX12_mayWed : ByteArray := prog_14_method_43_code
def yX12_mayWed : MethodName := ⟨RX12, "mayWed", "(II)Z"⟩
abbrev cX12_isLawful : ByteArray := prog_14_method_44_code
def yX12_isLawful : MethodName := ⟨RX12, "isLawful", "(I)Z"⟩
abbrev cX12_takes : ByteArray := prog_14_method_45_code
def yX12_takes : MethodName := ⟨RX12, "takes", "(II)I"⟩
abbrev cX12_weds : ByteArray := prog_14_method_46_code
def yX12_weds : MethodName := ⟨RX12, "weds", "(I)V"⟩
abbrev cX12_parts : ByteArray := prog_14_method_47_code
def yX12_parts : MethodName := ⟨RX12, "parts", "(I)I"⟩
abbrev cX12_does : ByteArray := prog_14_method_48_code
def yX12_does : MethodName := ⟨RX12, "does", "(I)V"⟩
abbrev cX12_goes : ByteArray := prog_14_method_49_code
def yX12_goes : MethodName := ⟨RX12, "goes", "(II)V"⟩
abbrev cX12_goesAll : ByteArray := prog_14_method_50_code
def yX12_goesAll : MethodName := ⟨RX12, "goesAll", "()V"⟩
abbrev cX12_judged : ByteArray := prog_14_method_51_code
def yX12_judged : MethodName := ⟨RX12, "judged", "()I"⟩
abbrev cX12_moved : ByteArray := prog_14_method_52_code
def yX12_moved : MethodName := ⟨RX12, "moved", "(I)I"⟩
abbrev cX12_isSo : ByteArray := prog_14_method_53_code
def yX12_isSo : MethodName := ⟨RX12, "isSo", "(I)Z"⟩
abbrev cX12_widthOf : ByteArray := prog_14_method_54_code
def yX12_widthOf : MethodName := ⟨RX12, "widthOf", "(III)I"⟩
abbrev cX12_width : ByteArray := prog_14_method_55_code
def yX12_width : MethodName := ⟨RX12, "width", "(II)I"⟩
abbrev cX12_stateNow : ByteArray := prog_14_method_56_code
def yX12_stateNow : MethodName := ⟨RX12, "stateNow", "(II)I"⟩
abbrev cX12_state : ByteArray := prog_14_method_57_code
def yX12_state : MethodName := ⟨RX12, "state", "(III)I"⟩
abbrev cX12_nobody : ByteArray := prog_14_method_58_code
def yX12_nobody : MethodName := ⟨RX12, "nobody", "(I)I"⟩
abbrev cX12_gain : ByteArray := prog_14_method_59_code
def yX12_gain : MethodName := ⟨RX12, "gain", "(II)I"⟩
abbrev cX12_findMost : ByteArray := prog_14_method_60_code
def yX12_findMost : MethodName := ⟨RX12, "findMost", "(I)V"⟩
abbrev cX12_isUseful : ByteArray := prog_14_method_61_code
def yX12_isUseful : MethodName := ⟨RX12, "isUseful", "(III)Z"⟩
abbrev cX12_keepsMost : ByteArray := prog_14_method_62_code
def yX12_keepsMost : MethodName := ⟨RX12, "keepsMost", "(I)V"⟩
abbrev cX12_reachOf : ByteArray := prog_14_method_63_code
def yX12_reachOf : MethodName := ⟨RX12, "reachOf", "(II)I"⟩
abbrev cX12_reach : ByteArray := prog_14_method_64_code
def yX12_reach : MethodName := ⟨RX12, "reach", "(II)I"⟩
abbrev cX12_growsOf : ByteArray := prog_14_method_65_code
def yX12_growsOf : MethodName := ⟨RX12, "growsOf", "(II)I"⟩
abbrev cX12_grows : ByteArray := prog_14_method_66_code
def yX12_grows : MethodName := ⟨RX12, "grows", "(II)I"⟩
abbrev cX12_wouldLeave : ByteArray := prog_14_method_67_code
def yX12_wouldLeave : MethodName := ⟨RX12, "wouldLeave", "(II)Z"⟩
abbrev cX12_leaveNow : ByteArray := prog_14_method_68_code
def yX12_leaveNow : MethodName := ⟨RX12, "leaveNow", "()I"⟩
abbrev cX12_leave : ByteArray := prog_14_method_69_code
def yX12_leave : MethodName := ⟨RX12, "leave", "()I"⟩
abbrev cX12_survey : ByteArray := prog_14_method_70_code
def yX12_survey : MethodName := ⟨RX12, "survey", "(III)I"⟩
abbrev cX12_forget : ByteArray := prog_14_method_71_code
def yX12_forget : MethodName := ⟨RX12, "forget", "()I"⟩
abbrev cX12_canBeAsked : ByteArray := prog_14_method_72_code
def yX12_canBeAsked : MethodName := ⟨RX12, "canBeAsked", "(I)Z"⟩
abbrev cX12_isRight : ByteArray := prog_14_method_73_code
def yX12_isRight : MethodName := ⟨RX12, "isRight", "(I)Z"⟩
abbrev cX12_forgedOf : ByteArray := prog_14_method_74_code
def yX12_forgedOf : MethodName := ⟨RX12, "forgedOf", "(I)I"⟩
abbrev cX12_forged : ByteArray := prog_14_method_75_code
def yX12_forged : MethodName := ⟨RX12, "forged", "(I)I"⟩
abbrev cX12_unlikeNow : ByteArray := prog_14_method_76_code
def yX12_unlikeNow : MethodName := ⟨RX12, "unlikeNow", "()I"⟩
abbrev cX12_unlike : ByteArray := prog_14_method_77_code
def yX12_unlike : MethodName := ⟨RX12, "unlike", "()I"⟩
abbrev cX12_withoutOf : ByteArray := prog_14_method_78_code
def yX12_withoutOf : MethodName := ⟨RX12, "withoutOf", "(II)I"⟩
abbrev cX12_without : ByteArray := prog_14_method_79_code
def yX12_without : MethodName := ⟨RX12, "without", "(II)I"⟩
abbrev cX12_blameOf : ByteArray := prog_14_method_80_code
def yX12_blameOf : MethodName := ⟨RX12, "blameOf", "(I)I"⟩
abbrev cX12_blame : ByteArray := prog_14_method_81_code
def yX12_blame : MethodName := ⟨RX12, "blame", "(I)I"⟩
abbrev cX12_freeOf : ByteArray := prog_14_method_82_code
def yX12_freeOf : MethodName := ⟨RX12, "freeOf", "(I[I)I"⟩
abbrev cX12_mayPick : ByteArray := prog_14_method_83_code
def yX12_mayPick : MethodName := ⟨RX12, "mayPick", "(II)Z"⟩
abbrev cX12_widthBehind : ByteArray := prog_14_method_84_code
def yX12_widthBehind : MethodName := ⟨RX12, "widthBehind", "(III)I"⟩
abbrev cX12_turnsOf : ByteArray := prog_14_method_85_code
def yX12_turnsOf : MethodName := ⟨RX12, "turnsOf", "(III)I"⟩
abbrev cX12_enters : ByteArray := prog_14_method_86_code
def yX12_enters : MethodName := ⟨RX12, "enters", "(III)V"⟩
abbrev cX12_keeps : ByteArray := prog_14_method_87_code
def yX12_keeps : MethodName := ⟨RX12, "keeps", "(II)V"⟩
abbrev cX12_turnsBy : ByteArray := prog_14_method_88_code
def yX12_turnsBy : MethodName := ⟨RX12, "turnsBy", "(III)I"⟩
abbrev cX12_lords : ByteArray := prog_14_method_89_code
def yX12_lords : MethodName := ⟨RX12, "lords", "(III)I"⟩
abbrev cX12_write : ByteArray := prog_14_method_90_code
def yX12_write : MethodName := ⟨RX12, "write", "(II)I"⟩
abbrev cX12_count : ByteArray := prog_14_method_91_code
def yX12_count : MethodName := ⟨RX12, "count", "(I)I"⟩
abbrev cX12_digest : ByteArray := prog_14_method_92_code
def yX12_digest : MethodName := ⟨RX12, "digest", "()J"⟩
def RJ7 : String := "java/util/Arrays"
abbrev cJ7_fill_53178 : ByteArray := prog_17_method_103_code
def yJ7_fill_53178 : MethodName := ⟨RJ7, "fill", "([II)V"⟩
def RL : String := "MarriedMapLaw"
abbrev cL_law : ByteArray := code
def yL_law : MethodName := ⟨RL, "law", "([I)Z"⟩
abbrev vwCl : List vw_C := [(RX0, TX0, 5), (RX1, TX1, 10), (RX2, TX2, 6), (RX3, TX3, 3), (RX4, TX4, 6), (RX5, TX5, 3), (RX6, TX6, 1), (RX7, TX7, 4), (RX8, TX8, 2), (RX9, TX9, 3), (RX10, TX10, 14), (RX11, TX11, 12), (RX12, TX12, 41)]
