section
-- ===== PART A: goes FIRST, ahead of the names: the tables' words, and 'selects' of the private methods out of them =====
/-- a private method of a class that the tables say can be made, by its rows of tables_1 -/
def lw_okq (q : MethodName × Nat) : Prop := (q.1.cls ≠ "java/lang/invoke/MethodHandle" ∧ q.1.cls ≠ "java/lang/invoke/VarHandle") ∧ Cond.instantiable q.1.cls q.2 ∈ tables_1 ∧ Cond.privateMethod q.1 ∈ tables_1 ∧ Cond.instanceMethod q.1 ∈ tables_1
theorem lw_p0 : lw_okq (⟨"MarriedMap", "textAt", "(I)LMarriedMap$Text;"⟩, 12) := ⟨⟨by decide +kernel, by decide +kernel⟩, List.mem_of_getElem? (i := 18) (by decide +kernel), List.mem_of_getElem? (i := 323) (by decide +kernel), List.mem_of_getElem? (i := 324) (by decide +kernel)⟩
theorem lw_p1 : lw_okq (⟨"MarriedMap", "parseTexts", "()V"⟩, 12) := ⟨⟨by decide +kernel, by decide +kernel⟩, List.mem_of_getElem? (i := 18) (by decide +kernel), List.mem_of_getElem? (i := 339) (by decide +kernel), List.mem_of_getElem? (i := 340) (by decide +kernel)⟩
theorem lw_p2 : lw_okq (⟨"MarriedMap", "sheetAt", "(I)LMarriedMap$Sheet;"⟩, 12) := ⟨⟨by decide +kernel, by decide +kernel⟩, List.mem_of_getElem? (i := 18) (by decide +kernel), List.mem_of_getElem? (i := 505) (by decide +kernel), List.mem_of_getElem? (i := 506) (by decide +kernel)⟩
theorem lw_p3 : lw_okq (⟨"MarriedMap", "finding", "(I)I"⟩, 12) := ⟨⟨by decide +kernel, by decide +kernel⟩, List.mem_of_getElem? (i := 18) (by decide +kernel), List.mem_of_getElem? (i := 513) (by decide +kernel), List.mem_of_getElem? (i := 514) (by decide +kernel)⟩
theorem lw_p4 : lw_okq (⟨"MarriedMap$World", "differenceAt", "(I)I"⟩, 14) := ⟨⟨by decide +kernel, by decide +kernel⟩, List.mem_of_getElem? (i := 119) (by decide +kernel), List.mem_of_getElem? (i := 574) (by decide +kernel), List.mem_of_getElem? (i := 575) (by decide +kernel)⟩
theorem lw_p5 : lw_okq (⟨"MarriedMap$World", "marry", "(III)Z"⟩, 14) := ⟨⟨by decide +kernel, by decide +kernel⟩, List.mem_of_getElem? (i := 119) (by decide +kernel), List.mem_of_getElem? (i := 585) (by decide +kernel), List.mem_of_getElem? (i := 586) (by decide +kernel)⟩
theorem lw_p6 : lw_okq (⟨"MarriedMap$World", "bind", "(IIII)V"⟩, 14) := ⟨⟨by decide +kernel, by decide +kernel⟩, List.mem_of_getElem? (i := 119) (by decide +kernel), List.mem_of_getElem? (i := 604) (by decide +kernel), List.mem_of_getElem? (i := 605) (by decide +kernel)⟩
theorem lw_p7 : lw_okq (⟨"MarriedMap$World", "part", "(I)Z"⟩, 14) := ⟨⟨by decide +kernel, by decide +kernel⟩, List.mem_of_getElem? (i := 119) (by decide +kernel), List.mem_of_getElem? (i := 609) (by decide +kernel), List.mem_of_getElem? (i := 610) (by decide +kernel)⟩
theorem lw_p8 : lw_okq (⟨"MarriedMap$World", "dissolve", "(I)I"⟩, 14) := ⟨⟨by decide +kernel, by decide +kernel⟩, List.mem_of_getElem? (i := 119) (by decide +kernel), List.mem_of_getElem? (i := 617) (by decide +kernel), List.mem_of_getElem? (i := 618) (by decide +kernel)⟩
theorem lw_p9 : lw_okq (⟨"MarriedMap$World", "die", "(I)Z"⟩, 14) := ⟨⟨by decide +kernel, by decide +kernel⟩, List.mem_of_getElem? (i := 119) (by decide +kernel), List.mem_of_getElem? (i := 621) (by decide +kernel), List.mem_of_getElem? (i := 622) (by decide +kernel)⟩
theorem lw_p10 : lw_okq (⟨"MarriedMap", "mayBeBehind", "(I)Z"⟩, 12) := ⟨⟨by decide +kernel, by decide +kernel⟩, List.mem_of_getElem? (i := 18) (by decide +kernel), List.mem_of_getElem? (i := 647) (by decide +kernel), List.mem_of_getElem? (i := 648) (by decide +kernel)⟩
theorem lw_p11 : lw_okq (⟨"MarriedMap$Courtship", "search", "(II)V"⟩, 10) := ⟨⟨by decide +kernel, by decide +kernel⟩, List.mem_of_getElem? (i := 169) (by decide +kernel), List.mem_of_getElem? (i := 681) (by decide +kernel), List.mem_of_getElem? (i := 682) (by decide +kernel)⟩
theorem lw_p12 : lw_okq (⟨"MarriedMap$Courtship", "note", "(III)V"⟩, 10) := ⟨⟨by decide +kernel, by decide +kernel⟩, List.mem_of_getElem? (i := 169) (by decide +kernel), List.mem_of_getElem? (i := 732) (by decide +kernel), List.mem_of_getElem? (i := 733) (by decide +kernel)⟩
theorem lw_p13 : lw_okq (⟨"MarriedMap$Courtship", "hasAll", "(II)Z"⟩, 10) := ⟨⟨by decide +kernel, by decide +kernel⟩, List.mem_of_getElem? (i := 169) (by decide +kernel), List.mem_of_getElem? (i := 737) (by decide +kernel), List.mem_of_getElem? (i := 738) (by decide +kernel)⟩
theorem lw_p14 : lw_okq (⟨"MarriedMap", "wouldLeave", "(II)Z"⟩, 12) := ⟨⟨by decide +kernel, by decide +kernel⟩, List.mem_of_getElem? (i := 18) (by decide +kernel), List.mem_of_getElem? (i := 754) (by decide +kernel), List.mem_of_getElem? (i := 755) (by decide +kernel)⟩
theorem lw_p15 : lw_okq (⟨"MarriedMap$Turns", "noteFirst", "(II)V"⟩, 3) := ⟨⟨by decide +kernel, by decide +kernel⟩, List.mem_of_getElem? (i := 228) (by decide +kernel), List.mem_of_getElem? (i := 846) (by decide +kernel), List.mem_of_getElem? (i := 847) (by decide +kernel)⟩
def lw_privs_1 : List (MethodName × Nat) := [(⟨"MarriedMap", "textAt", "(I)LMarriedMap$Text;"⟩, 12), (⟨"MarriedMap", "parseTexts", "()V"⟩, 12), (⟨"MarriedMap", "sheetAt", "(I)LMarriedMap$Sheet;"⟩, 12), (⟨"MarriedMap", "finding", "(I)I"⟩, 12), (⟨"MarriedMap$World", "differenceAt", "(I)I"⟩, 14), (⟨"MarriedMap$World", "marry", "(III)Z"⟩, 14), (⟨"MarriedMap$World", "bind", "(IIII)V"⟩, 14), (⟨"MarriedMap$World", "part", "(I)Z"⟩, 14), (⟨"MarriedMap$World", "dissolve", "(I)I"⟩, 14), (⟨"MarriedMap$World", "die", "(I)Z"⟩, 14), (⟨"MarriedMap", "mayBeBehind", "(I)Z"⟩, 12), (⟨"MarriedMap$Courtship", "search", "(II)V"⟩, 10), (⟨"MarriedMap$Courtship", "note", "(III)V"⟩, 10), (⟨"MarriedMap$Courtship", "hasAll", "(II)Z"⟩, 10), (⟨"MarriedMap", "wouldLeave", "(II)Z"⟩, 12), (⟨"MarriedMap$Turns", "noteFirst", "(II)V"⟩, 3)]
theorem lw_r1 : ∀ q ∈ lw_privs_1, lw_okq q := List.forall_mem_cons.mpr ⟨lw_p0, List.forall_mem_cons.mpr ⟨lw_p1, List.forall_mem_cons.mpr ⟨lw_p2, List.forall_mem_cons.mpr ⟨lw_p3, List.forall_mem_cons.mpr ⟨lw_p4, List.forall_mem_cons.mpr ⟨lw_p5, List.forall_mem_cons.mpr ⟨lw_p6, List.forall_mem_cons.mpr ⟨lw_p7, List.forall_mem_cons.mpr ⟨lw_p8, List.forall_mem_cons.mpr ⟨lw_p9, List.forall_mem_cons.mpr ⟨lw_p10, List.forall_mem_cons.mpr ⟨lw_p11, List.forall_mem_cons.mpr ⟨lw_p12, List.forall_mem_cons.mpr ⟨lw_p13, List.forall_mem_cons.mpr ⟨lw_p14, List.forall_mem_cons.mpr ⟨lw_p15, fun _ h => absurd h List.not_mem_nil⟩⟩⟩⟩⟩⟩⟩⟩⟩⟩⟩⟩⟩⟩⟩⟩
theorem lw_p16 : lw_okq (⟨"MarriedMap", "itemRefusal", "(LMarriedMap$Sheet;II)I"⟩, 12) := ⟨⟨by decide +kernel, by decide +kernel⟩, List.mem_of_getElem? (i := 18) (by decide +kernel), List.mem_of_getElem? (i := 882) (by decide +kernel), List.mem_of_getElem? (i := 883) (by decide +kernel)⟩
theorem lw_p17 : lw_okq (⟨"MarriedMap$Sheet", "fitted", "(I)I"⟩, 3) := ⟨⟨by decide +kernel, by decide +kernel⟩, List.mem_of_getElem? (i := 266) (by decide +kernel), List.mem_of_getElem? (i := 895) (by decide +kernel), List.mem_of_getElem? (i := 896) (by decide +kernel)⟩
theorem lw_p18 : lw_okq (⟨"MarriedMapModel", "met", "(I)I"⟩, 41) := ⟨⟨by decide +kernel, by decide +kernel⟩, List.mem_of_getElem? (i := 960) (by decide +kernel), List.mem_of_getElem? (i := 1102) (by decide +kernel), List.mem_of_getElem? (i := 1103) (by decide +kernel)⟩
theorem lw_p19 : lw_okq (⟨"MarriedMapModel", "lacks", "(III)I"⟩, 41) := ⟨⟨by decide +kernel, by decide +kernel⟩, List.mem_of_getElem? (i := 960) (by decide +kernel), List.mem_of_getElem? (i := 1114) (by decide +kernel), List.mem_of_getElem? (i := 1115) (by decide +kernel)⟩
theorem lw_p20 : lw_okq (⟨"MarriedMapModel", "faultOf", "(I)I"⟩, 41) := ⟨⟨by decide +kernel, by decide +kernel⟩, List.mem_of_getElem? (i := 960) (by decide +kernel), List.mem_of_getElem? (i := 1149) (by decide +kernel), List.mem_of_getElem? (i := 1150) (by decide +kernel)⟩
theorem lw_p21 : lw_okq (⟨"MarriedMapModel", "reads", "(I)I"⟩, 41) := ⟨⟨by decide +kernel, by decide +kernel⟩, List.mem_of_getElem? (i := 960) (by decide +kernel), List.mem_of_getElem? (i := 1153) (by decide +kernel), List.mem_of_getElem? (i := 1154) (by decide +kernel)⟩
theorem lw_p22 : lw_okq (⟨"MarriedMapModel", "readsLand", "()Z"⟩, 41) := ⟨⟨by decide +kernel, by decide +kernel⟩, List.mem_of_getElem? (i := 960) (by decide +kernel), List.mem_of_getElem? (i := 1157) (by decide +kernel), List.mem_of_getElem? (i := 1158) (by decide +kernel)⟩
theorem lw_p23 : lw_okq (⟨"MarriedMapModel", "figure", "(III)I"⟩, 41) := ⟨⟨by decide +kernel, by decide +kernel⟩, List.mem_of_getElem? (i := 960) (by decide +kernel), List.mem_of_getElem? (i := 1161) (by decide +kernel), List.mem_of_getElem? (i := 1162) (by decide +kernel)⟩
theorem lw_p24 : lw_okq (⟨"MarriedMapModel", "here", "(I)I"⟩, 41) := ⟨⟨by decide +kernel, by decide +kernel⟩, List.mem_of_getElem? (i := 960) (by decide +kernel), List.mem_of_getElem? (i := 1165) (by decide +kernel), List.mem_of_getElem? (i := 1166) (by decide +kernel)⟩
theorem lw_p25 : lw_okq (⟨"MarriedMapModel", "readsPerson", "()Z"⟩, 41) := ⟨⟨by decide +kernel, by decide +kernel⟩, List.mem_of_getElem? (i := 960) (by decide +kernel), List.mem_of_getElem? (i := 1169) (by decide +kernel), List.mem_of_getElem? (i := 1170) (by decide +kernel)⟩
theorem lw_p26 : lw_okq (⟨"MarriedMapModel", "fails", "(I)I"⟩, 41) := ⟨⟨by decide +kernel, by decide +kernel⟩, List.mem_of_getElem? (i := 960) (by decide +kernel), List.mem_of_getElem? (i := 1173) (by decide +kernel), List.mem_of_getElem? (i := 1174) (by decide +kernel)⟩
theorem lw_p27 : lw_okq (⟨"MarriedMapModel", "isPerson", "(I)Z"⟩, 41) := ⟨⟨by decide +kernel, by decide +kernel⟩, List.mem_of_getElem? (i := 960) (by decide +kernel), List.mem_of_getElem? (i := 1181) (by decide +kernel), List.mem_of_getElem? (i := 1182) (by decide +kernel)⟩
theorem lw_p28 : lw_okq (⟨"MarriedMapModel", "find", "()V"⟩, 41) := ⟨⟨by decide +kernel, by decide +kernel⟩, List.mem_of_getElem? (i := 960) (by decide +kernel), List.mem_of_getElem? (i := 1185) (by decide +kernel), List.mem_of_getElem? (i := 1186) (by decide +kernel)⟩
theorem lw_p29 : lw_okq (⟨"MarriedMapModel", "shadowOf", "(II)I"⟩, 41) := ⟨⟨by decide +kernel, by decide +kernel⟩, List.mem_of_getElem? (i := 960) (by decide +kernel), List.mem_of_getElem? (i := 1198) (by decide +kernel), List.mem_of_getElem? (i := 1199) (by decide +kernel)⟩
theorem lw_p30 : lw_okq (⟨"MarriedMapModel", "isLate", "(I)Z"⟩, 41) := ⟨⟨by decide +kernel, by decide +kernel⟩, List.mem_of_getElem? (i := 960) (by decide +kernel), List.mem_of_getElem? (i := 1214) (by decide +kernel), List.mem_of_getElem? (i := 1215) (by decide +kernel)⟩
theorem lw_p31 : lw_okq (⟨"MarriedMapModel", "tells", "(IIIII)I"⟩, 41) := ⟨⟨by decide +kernel, by decide +kernel⟩, List.mem_of_getElem? (i := 960) (by decide +kernel), List.mem_of_getElem? (i := 1222) (by decide +kernel), List.mem_of_getElem? (i := 1223) (by decide +kernel)⟩
def lw_privs_2 : List (MethodName × Nat) := [(⟨"MarriedMap", "itemRefusal", "(LMarriedMap$Sheet;II)I"⟩, 12), (⟨"MarriedMap$Sheet", "fitted", "(I)I"⟩, 3), (⟨"MarriedMapModel", "met", "(I)I"⟩, 41), (⟨"MarriedMapModel", "lacks", "(III)I"⟩, 41), (⟨"MarriedMapModel", "faultOf", "(I)I"⟩, 41), (⟨"MarriedMapModel", "reads", "(I)I"⟩, 41), (⟨"MarriedMapModel", "readsLand", "()Z"⟩, 41), (⟨"MarriedMapModel", "figure", "(III)I"⟩, 41), (⟨"MarriedMapModel", "here", "(I)I"⟩, 41), (⟨"MarriedMapModel", "readsPerson", "()Z"⟩, 41), (⟨"MarriedMapModel", "fails", "(I)I"⟩, 41), (⟨"MarriedMapModel", "isPerson", "(I)Z"⟩, 41), (⟨"MarriedMapModel", "find", "()V"⟩, 41), (⟨"MarriedMapModel", "shadowOf", "(II)I"⟩, 41), (⟨"MarriedMapModel", "isLate", "(I)Z"⟩, 41), (⟨"MarriedMapModel", "tells", "(IIIII)I"⟩, 41)]
theorem lw_r2 : ∀ q ∈ lw_privs_2, lw_okq q := List.forall_mem_cons.mpr ⟨lw_p16, List.forall_mem_cons.mpr ⟨lw_p17, List.forall_mem_cons.mpr ⟨lw_p18, List.forall_mem_cons.mpr ⟨lw_p19, List.forall_mem_cons.mpr ⟨lw_p20, List.forall_mem_cons.mpr ⟨lw_p21, List.forall_mem_cons.mpr ⟨lw_p22, List.forall_mem_cons.mpr ⟨lw_p23, List.forall_mem_cons.mpr ⟨lw_p24, List.forall_mem_cons.mpr ⟨lw_p25, List.forall_mem_cons.mpr ⟨lw_p26, List.forall_mem_cons.mpr ⟨lw_p27, List.forall_mem_cons.mpr ⟨lw_p28, List.forall_mem_cons.mpr ⟨lw_p29, List.forall_mem_cons.mpr ⟨lw_p30, List.forall_mem_cons.mpr ⟨lw_p31, fun _ h => absurd h List.not_mem_nil⟩⟩⟩⟩⟩⟩⟩⟩⟩⟩⟩⟩⟩⟩⟩⟩
theorem lw_p32 : lw_okq (⟨"MarriedMapModel", "goesAll", "()V"⟩, 41) := ⟨⟨by decide +kernel, by decide +kernel⟩, List.mem_of_getElem? (i := 960) (by decide +kernel), List.mem_of_getElem? (i := 1243) (by decide +kernel), List.mem_of_getElem? (i := 1244) (by decide +kernel)⟩
theorem lw_p33 : lw_okq (⟨"MarriedMapModel", "goes", "(II)V"⟩, 41) := ⟨⟨by decide +kernel, by decide +kernel⟩, List.mem_of_getElem? (i := 960) (by decide +kernel), List.mem_of_getElem? (i := 1247) (by decide +kernel), List.mem_of_getElem? (i := 1248) (by decide +kernel)⟩
theorem lw_p34 : lw_okq (⟨"MarriedMapModel", "begins", "()V"⟩, 41) := ⟨⟨by decide +kernel, by decide +kernel⟩, List.mem_of_getElem? (i := 960) (by decide +kernel), List.mem_of_getElem? (i := 1251) (by decide +kernel), List.mem_of_getElem? (i := 1252) (by decide +kernel)⟩
theorem lw_p35 : lw_okq (⟨"MarriedMapModel", "isLawful", "(I)Z"⟩, 41) := ⟨⟨by decide +kernel, by decide +kernel⟩, List.mem_of_getElem? (i := 960) (by decide +kernel), List.mem_of_getElem? (i := 1255) (by decide +kernel), List.mem_of_getElem? (i := 1256) (by decide +kernel)⟩
theorem lw_p36 : lw_okq (⟨"MarriedMapModel", "mayWed", "(II)Z"⟩, 41) := ⟨⟨by decide +kernel, by decide +kernel⟩, List.mem_of_getElem? (i := 960) (by decide +kernel), List.mem_of_getElem? (i := 1259) (by decide +kernel), List.mem_of_getElem? (i := 1260) (by decide +kernel)⟩
theorem lw_p37 : lw_okq (⟨"MarriedMapModel", "isFree", "(I)Z"⟩, 41) := ⟨⟨by decide +kernel, by decide +kernel⟩, List.mem_of_getElem? (i := 960) (by decide +kernel), List.mem_of_getElem? (i := 1263) (by decide +kernel), List.mem_of_getElem? (i := 1264) (by decide +kernel)⟩
theorem lw_p38 : lw_okq (⟨"MarriedMapModel", "does", "(I)V"⟩, 41) := ⟨⟨by decide +kernel, by decide +kernel⟩, List.mem_of_getElem? (i := 960) (by decide +kernel), List.mem_of_getElem? (i := 1267) (by decide +kernel), List.mem_of_getElem? (i := 1268) (by decide +kernel)⟩
theorem lw_p39 : lw_okq (⟨"MarriedMapModel", "weds", "(I)V"⟩, 41) := ⟨⟨by decide +kernel, by decide +kernel⟩, List.mem_of_getElem? (i := 960) (by decide +kernel), List.mem_of_getElem? (i := 1271) (by decide +kernel), List.mem_of_getElem? (i := 1272) (by decide +kernel)⟩
theorem lw_p40 : lw_okq (⟨"MarriedMapModel", "takes", "(II)I"⟩, 41) := ⟨⟨by decide +kernel, by decide +kernel⟩, List.mem_of_getElem? (i := 960) (by decide +kernel), List.mem_of_getElem? (i := 1275) (by decide +kernel), List.mem_of_getElem? (i := 1276) (by decide +kernel)⟩
theorem lw_p41 : lw_okq (⟨"MarriedMapModel", "parts", "(I)I"⟩, 41) := ⟨⟨by decide +kernel, by decide +kernel⟩, List.mem_of_getElem? (i := 960) (by decide +kernel), List.mem_of_getElem? (i := 1279) (by decide +kernel), List.mem_of_getElem? (i := 1280) (by decide +kernel)⟩
theorem lw_p42 : lw_okq (⟨"MarriedMapModel", "isLand", "(I)Z"⟩, 41) := ⟨⟨by decide +kernel, by decide +kernel⟩, List.mem_of_getElem? (i := 960) (by decide +kernel), List.mem_of_getElem? (i := 1291) (by decide +kernel), List.mem_of_getElem? (i := 1292) (by decide +kernel)⟩
theorem lw_p43 : lw_okq (⟨"MarriedMapModel", "isSo", "(I)Z"⟩, 41) := ⟨⟨by decide +kernel, by decide +kernel⟩, List.mem_of_getElem? (i := 960) (by decide +kernel), List.mem_of_getElem? (i := 1295) (by decide +kernel), List.mem_of_getElem? (i := 1296) (by decide +kernel)⟩
theorem lw_p44 : lw_okq (⟨"MarriedMapModel", "widthOf", "(III)I"⟩, 41) := ⟨⟨by decide +kernel, by decide +kernel⟩, List.mem_of_getElem? (i := 960) (by decide +kernel), List.mem_of_getElem? (i := 1299) (by decide +kernel), List.mem_of_getElem? (i := 1300) (by decide +kernel)⟩
theorem lw_p45 : lw_okq (⟨"MarriedMapModel", "stateNow", "(II)I"⟩, 41) := ⟨⟨by decide +kernel, by decide +kernel⟩, List.mem_of_getElem? (i := 960) (by decide +kernel), List.mem_of_getElem? (i := 1307) (by decide +kernel), List.mem_of_getElem? (i := 1308) (by decide +kernel)⟩
theorem lw_p46 : lw_okq (⟨"MarriedMapModel", "reachOf", "(II)I"⟩, 41) := ⟨⟨by decide +kernel, by decide +kernel⟩, List.mem_of_getElem? (i := 960) (by decide +kernel), List.mem_of_getElem? (i := 1320) (by decide +kernel), List.mem_of_getElem? (i := 1321) (by decide +kernel)⟩
theorem lw_p47 : lw_okq (⟨"MarriedMapModel", "findMost", "(I)V"⟩, 41) := ⟨⟨by decide +kernel, by decide +kernel⟩, List.mem_of_getElem? (i := 960) (by decide +kernel), List.mem_of_getElem? (i := 1324) (by decide +kernel), List.mem_of_getElem? (i := 1325) (by decide +kernel)⟩
def lw_privs_3 : List (MethodName × Nat) := [(⟨"MarriedMapModel", "goesAll", "()V"⟩, 41), (⟨"MarriedMapModel", "goes", "(II)V"⟩, 41), (⟨"MarriedMapModel", "begins", "()V"⟩, 41), (⟨"MarriedMapModel", "isLawful", "(I)Z"⟩, 41), (⟨"MarriedMapModel", "mayWed", "(II)Z"⟩, 41), (⟨"MarriedMapModel", "isFree", "(I)Z"⟩, 41), (⟨"MarriedMapModel", "does", "(I)V"⟩, 41), (⟨"MarriedMapModel", "weds", "(I)V"⟩, 41), (⟨"MarriedMapModel", "takes", "(II)I"⟩, 41), (⟨"MarriedMapModel", "parts", "(I)I"⟩, 41), (⟨"MarriedMapModel", "isLand", "(I)Z"⟩, 41), (⟨"MarriedMapModel", "isSo", "(I)Z"⟩, 41), (⟨"MarriedMapModel", "widthOf", "(III)I"⟩, 41), (⟨"MarriedMapModel", "stateNow", "(II)I"⟩, 41), (⟨"MarriedMapModel", "reachOf", "(II)I"⟩, 41), (⟨"MarriedMapModel", "findMost", "(I)V"⟩, 41)]
theorem lw_r3 : ∀ q ∈ lw_privs_3, lw_okq q := List.forall_mem_cons.mpr ⟨lw_p32, List.forall_mem_cons.mpr ⟨lw_p33, List.forall_mem_cons.mpr ⟨lw_p34, List.forall_mem_cons.mpr ⟨lw_p35, List.forall_mem_cons.mpr ⟨lw_p36, List.forall_mem_cons.mpr ⟨lw_p37, List.forall_mem_cons.mpr ⟨lw_p38, List.forall_mem_cons.mpr ⟨lw_p39, List.forall_mem_cons.mpr ⟨lw_p40, List.forall_mem_cons.mpr ⟨lw_p41, List.forall_mem_cons.mpr ⟨lw_p42, List.forall_mem_cons.mpr ⟨lw_p43, List.forall_mem_cons.mpr ⟨lw_p44, List.forall_mem_cons.mpr ⟨lw_p45, List.forall_mem_cons.mpr ⟨lw_p46, List.forall_mem_cons.mpr ⟨lw_p47, fun _ h => absurd h List.not_mem_nil⟩⟩⟩⟩⟩⟩⟩⟩⟩⟩⟩⟩⟩⟩⟩⟩
theorem lw_p48 : lw_okq (⟨"MarriedMapModel", "keepsMost", "(I)V"⟩, 41) := ⟨⟨by decide +kernel, by decide +kernel⟩, List.mem_of_getElem? (i := 960) (by decide +kernel), List.mem_of_getElem? (i := 1328) (by decide +kernel), List.mem_of_getElem? (i := 1329) (by decide +kernel)⟩
theorem lw_p49 : lw_okq (⟨"MarriedMapModel", "gain", "(II)I"⟩, 41) := ⟨⟨by decide +kernel, by decide +kernel⟩, List.mem_of_getElem? (i := 960) (by decide +kernel), List.mem_of_getElem? (i := 1332) (by decide +kernel), List.mem_of_getElem? (i := 1333) (by decide +kernel)⟩
theorem lw_p50 : lw_okq (⟨"MarriedMapModel", "isUseful", "(III)Z"⟩, 41) := ⟨⟨by decide +kernel, by decide +kernel⟩, List.mem_of_getElem? (i := 960) (by decide +kernel), List.mem_of_getElem? (i := 1336) (by decide +kernel), List.mem_of_getElem? (i := 1337) (by decide +kernel)⟩
theorem lw_p51 : lw_okq (⟨"MarriedMapModel", "growsOf", "(II)I"⟩, 41) := ⟨⟨by decide +kernel, by decide +kernel⟩, List.mem_of_getElem? (i := 960) (by decide +kernel), List.mem_of_getElem? (i := 1345) (by decide +kernel), List.mem_of_getElem? (i := 1346) (by decide +kernel)⟩
theorem lw_p52 : lw_okq (⟨"MarriedMapModel", "leaveNow", "()I"⟩, 41) := ⟨⟨by decide +kernel, by decide +kernel⟩, List.mem_of_getElem? (i := 960) (by decide +kernel), List.mem_of_getElem? (i := 1353) (by decide +kernel), List.mem_of_getElem? (i := 1354) (by decide +kernel)⟩
theorem lw_p53 : lw_okq (⟨"MarriedMapModel", "wouldLeave", "(II)Z"⟩, 41) := ⟨⟨by decide +kernel, by decide +kernel⟩, List.mem_of_getElem? (i := 960) (by decide +kernel), List.mem_of_getElem? (i := 1357) (by decide +kernel), List.mem_of_getElem? (i := 1358) (by decide +kernel)⟩
theorem lw_p54 : lw_okq (⟨"MarriedMapModel", "forgedOf", "(I)I"⟩, 41) := ⟨⟨by decide +kernel, by decide +kernel⟩, List.mem_of_getElem? (i := 960) (by decide +kernel), List.mem_of_getElem? (i := 1375) (by decide +kernel), List.mem_of_getElem? (i := 1376) (by decide +kernel)⟩
theorem lw_p55 : lw_okq (⟨"MarriedMapModel", "canBeAsked", "(I)Z"⟩, 41) := ⟨⟨by decide +kernel, by decide +kernel⟩, List.mem_of_getElem? (i := 960) (by decide +kernel), List.mem_of_getElem? (i := 1379) (by decide +kernel), List.mem_of_getElem? (i := 1380) (by decide +kernel)⟩
theorem lw_p56 : lw_okq (⟨"MarriedMapModel", "isRight", "(I)Z"⟩, 41) := ⟨⟨by decide +kernel, by decide +kernel⟩, List.mem_of_getElem? (i := 960) (by decide +kernel), List.mem_of_getElem? (i := 1383) (by decide +kernel), List.mem_of_getElem? (i := 1384) (by decide +kernel)⟩
theorem lw_p57 : lw_okq (⟨"MarriedMapModel", "unlikeNow", "()I"⟩, 41) := ⟨⟨by decide +kernel, by decide +kernel⟩, List.mem_of_getElem? (i := 960) (by decide +kernel), List.mem_of_getElem? (i := 1391) (by decide +kernel), List.mem_of_getElem? (i := 1392) (by decide +kernel)⟩
theorem lw_p58 : lw_okq (⟨"MarriedMapModel", "withoutOf", "(II)I"⟩, 41) := ⟨⟨by decide +kernel, by decide +kernel⟩, List.mem_of_getElem? (i := 960) (by decide +kernel), List.mem_of_getElem? (i := 1399) (by decide +kernel), List.mem_of_getElem? (i := 1400) (by decide +kernel)⟩
theorem lw_p59 : lw_okq (⟨"MarriedMapModel", "blameOf", "(I)I"⟩, 41) := ⟨⟨by decide +kernel, by decide +kernel⟩, List.mem_of_getElem? (i := 960) (by decide +kernel), List.mem_of_getElem? (i := 1407) (by decide +kernel), List.mem_of_getElem? (i := 1408) (by decide +kernel)⟩
theorem lw_p60 : lw_okq (⟨"MarriedMapModel", "turnsBy", "(III)I"⟩, 41) := ⟨⟨by decide +kernel, by decide +kernel⟩, List.mem_of_getElem? (i := 960) (by decide +kernel), List.mem_of_getElem? (i := 1415) (by decide +kernel), List.mem_of_getElem? (i := 1416) (by decide +kernel)⟩
theorem lw_p61 : lw_okq (⟨"MarriedMapModel", "turnsOf", "(III)I"⟩, 41) := ⟨⟨by decide +kernel, by decide +kernel⟩, List.mem_of_getElem? (i := 960) (by decide +kernel), List.mem_of_getElem? (i := 1419) (by decide +kernel), List.mem_of_getElem? (i := 1420) (by decide +kernel)⟩
theorem lw_p62 : lw_okq (⟨"MarriedMapModel", "freeOf", "(I[I)I"⟩, 41) := ⟨⟨by decide +kernel, by decide +kernel⟩, List.mem_of_getElem? (i := 960) (by decide +kernel), List.mem_of_getElem? (i := 1423) (by decide +kernel), List.mem_of_getElem? (i := 1424) (by decide +kernel)⟩
theorem lw_p63 : lw_okq (⟨"MarriedMapModel", "enters", "(III)V"⟩, 41) := ⟨⟨by decide +kernel, by decide +kernel⟩, List.mem_of_getElem? (i := 960) (by decide +kernel), List.mem_of_getElem? (i := 1427) (by decide +kernel), List.mem_of_getElem? (i := 1428) (by decide +kernel)⟩
def lw_privs_4 : List (MethodName × Nat) := [(⟨"MarriedMapModel", "keepsMost", "(I)V"⟩, 41), (⟨"MarriedMapModel", "gain", "(II)I"⟩, 41), (⟨"MarriedMapModel", "isUseful", "(III)Z"⟩, 41), (⟨"MarriedMapModel", "growsOf", "(II)I"⟩, 41), (⟨"MarriedMapModel", "leaveNow", "()I"⟩, 41), (⟨"MarriedMapModel", "wouldLeave", "(II)Z"⟩, 41), (⟨"MarriedMapModel", "forgedOf", "(I)I"⟩, 41), (⟨"MarriedMapModel", "canBeAsked", "(I)Z"⟩, 41), (⟨"MarriedMapModel", "isRight", "(I)Z"⟩, 41), (⟨"MarriedMapModel", "unlikeNow", "()I"⟩, 41), (⟨"MarriedMapModel", "withoutOf", "(II)I"⟩, 41), (⟨"MarriedMapModel", "blameOf", "(I)I"⟩, 41), (⟨"MarriedMapModel", "turnsBy", "(III)I"⟩, 41), (⟨"MarriedMapModel", "turnsOf", "(III)I"⟩, 41), (⟨"MarriedMapModel", "freeOf", "(I[I)I"⟩, 41), (⟨"MarriedMapModel", "enters", "(III)V"⟩, 41)]
theorem lw_r4 : ∀ q ∈ lw_privs_4, lw_okq q := List.forall_mem_cons.mpr ⟨lw_p48, List.forall_mem_cons.mpr ⟨lw_p49, List.forall_mem_cons.mpr ⟨lw_p50, List.forall_mem_cons.mpr ⟨lw_p51, List.forall_mem_cons.mpr ⟨lw_p52, List.forall_mem_cons.mpr ⟨lw_p53, List.forall_mem_cons.mpr ⟨lw_p54, List.forall_mem_cons.mpr ⟨lw_p55, List.forall_mem_cons.mpr ⟨lw_p56, List.forall_mem_cons.mpr ⟨lw_p57, List.forall_mem_cons.mpr ⟨lw_p58, List.forall_mem_cons.mpr ⟨lw_p59, List.forall_mem_cons.mpr ⟨lw_p60, List.forall_mem_cons.mpr ⟨lw_p61, List.forall_mem_cons.mpr ⟨lw_p62, List.forall_mem_cons.mpr ⟨lw_p63, fun _ h => absurd h List.not_mem_nil⟩⟩⟩⟩⟩⟩⟩⟩⟩⟩⟩⟩⟩⟩⟩⟩
theorem lw_p64 : lw_okq (⟨"MarriedMapModel", "mayPick", "(II)Z"⟩, 41) := ⟨⟨by decide +kernel, by decide +kernel⟩, List.mem_of_getElem? (i := 960) (by decide +kernel), List.mem_of_getElem? (i := 1431) (by decide +kernel), List.mem_of_getElem? (i := 1432) (by decide +kernel)⟩
theorem lw_p65 : lw_okq (⟨"MarriedMapModel", "widthBehind", "(III)I"⟩, 41) := ⟨⟨by decide +kernel, by decide +kernel⟩, List.mem_of_getElem? (i := 960) (by decide +kernel), List.mem_of_getElem? (i := 1435) (by decide +kernel), List.mem_of_getElem? (i := 1436) (by decide +kernel)⟩
theorem lw_p66 : lw_okq (⟨"MarriedMapModel", "keeps", "(II)V"⟩, 41) := ⟨⟨by decide +kernel, by decide +kernel⟩, List.mem_of_getElem? (i := 960) (by decide +kernel), List.mem_of_getElem? (i := 1439) (by decide +kernel), List.mem_of_getElem? (i := 1440) (by decide +kernel)⟩
def lw_privs_5 : List (MethodName × Nat) := [(⟨"MarriedMapModel", "mayPick", "(II)Z"⟩, 41), (⟨"MarriedMapModel", "widthBehind", "(III)I"⟩, 41), (⟨"MarriedMapModel", "keeps", "(II)V"⟩, 41)]
theorem lw_r5 : ∀ q ∈ lw_privs_5, lw_okq q := List.forall_mem_cons.mpr ⟨lw_p64, List.forall_mem_cons.mpr ⟨lw_p65, List.forall_mem_cons.mpr ⟨lw_p66, fun _ h => absurd h List.not_mem_nil⟩⟩⟩
def lw_privs : List (MethodName × Nat) := lw_privs_1 ++ (lw_privs_2 ++ (lw_privs_3 ++ (lw_privs_4 ++ (lw_privs_5))))
def lw_tbl : List Cond := k2_sels lw_privs ++ tables_1
theorem lw_privs_ok : ∀ q ∈ lw_privs, lw_okq q := by
  show ∀ q ∈ lw_privs_1 ++ (lw_privs_2 ++ (lw_privs_3 ++ (lw_privs_4 ++ (lw_privs_5)))), lw_okq q
  exact List.forall_mem_append.mpr ⟨lw_r1, List.forall_mem_append.mpr ⟨lw_r2, List.forall_mem_append.mpr ⟨lw_r3, List.forall_mem_append.mpr ⟨lw_r4, lw_r5⟩⟩⟩⟩
def RX0 : String := "MarriedMap$Couples"
def TX0 : u_T := fun k => match k with
  | 0 => ("MarriedMap$Couples", "world", "LMarriedMap$World;", true)
  | 1 => ("MarriedMap$Couples", "people", "LMarriedMap$People;", true)
  | 2 => ("MarriedMap$Couples", "ones", "[I", true)
  | 3 => ("MarriedMap$Couples", "others", "[I", true)
  | _ => ("MarriedMap$Couples", "number", "I", false)
def tyX0 : Nat → FieldType := fun k => match k with
  | 0 => .object "MarriedMap$World"
  | 1 => .object "MarriedMap$People"
  | 2 => .array .int
  | 3 => .array .int
  | _ => .int
abbrev wsX00 : List Cond := u_ws RX0 TX0 5
theorem nmX0 : ∀ a, a < 5 → ∀ b, b < 5 → a ≠ b → (TX0 a).2.1 ≠ (TX0 b).2.1 := by decide +kernel
theorem tyX0_ok : ∀ k, k < 5 → parseFieldDescriptor (TX0 k).2.2.1 = some (tyX0 k) := by decide +kernel
abbrev cX0_init : ByteArray := prog_2_method_1_code
def yX0_init : MethodName := ⟨RX0, "<init>", "(LMarriedMap$World;LMarriedMap$People;)V"⟩
abbrev cX0_number : ByteArray := prog_2_method_2_code
def yX0_number : MethodName := ⟨RX0, "number", "()I"⟩
abbrev cX0_clear : ByteArray := prog_2_method_3_code
def yX0_clear : MethodName := ⟨RX0, "clear", "()V"⟩
abbrev cX0_gather : ByteArray := prog_2_method_4_code
def yX0_gather : MethodName := ⟨RX0, "gather", "(II)V"⟩
abbrev cX0_has : ByteArray := prog_2_method_5_code
def yX0_has : MethodName := ⟨RX0, "has", "(I)Z"⟩
abbrev cX0_oneOf : ByteArray := prog_2_method_6_code
def yX0_oneOf : MethodName := ⟨RX0, "oneOf", "(I)I"⟩
abbrev cX0_otherOf : ByteArray := prog_2_method_7_code
def yX0_otherOf : MethodName := ⟨RX0, "otherOf", "(I)I"⟩
abbrev cX0_bitsOf : ByteArray := prog_2_method_8_code
def yX0_bitsOf : MethodName := ⟨RX0, "bitsOf", "(I)I"⟩
abbrev cX0_differenceOf : ByteArray := prog_2_method_9_code
def yX0_differenceOf : MethodName := ⟨RX0, "differenceOf", "(I)I"⟩
def RX1 : String := "MarriedMap$Courtship"
def TX1 : u_T := fun k => match k with
  | 0 => ("MarriedMap$Courtship", "world", "LMarriedMap$World;", true)
  | 1 => ("MarriedMap$Courtship", "couples", "LMarriedMap$Couples;", true)
  | 2 => ("MarriedMap$Courtship", "differences", "[I", true)
  | 3 => ("MarriedMap$Courtship", "bits", "[I", true)
  | 4 => ("MarriedMap$Courtship", "widest", "[I", true)
  | 5 => ("MarriedMap$Courtship", "ownWidth", "I", false)
  | 6 => ("MarriedMap$Courtship", "widthBelow", "I", false)
  | 7 => ("MarriedMap$Courtship", "widthAbove", "I", false)
  | 8 => ("MarriedMap$Courtship", "firstAbove", "I", false)
  | _ => ("MarriedMap$Courtship", "mostWeddings", "I", false)
def tyX1 : Nat → FieldType := fun k => match k with
  | 0 => .object "MarriedMap$World"
  | 1 => .object "MarriedMap$Couples"
  | 2 => .array .int
  | 3 => .array .int
  | 4 => .array .int
  | 5 => .int
  | 6 => .int
  | 7 => .int
  | 8 => .int
  | _ => .int
abbrev wsX10 : List Cond := u_ws RX1 TX1 10
theorem nmX1 : ∀ a, a < 10 → ∀ b, b < 10 → a ≠ b → (TX1 a).2.1 ≠ (TX1 b).2.1 := by decide +kernel
theorem tyX1_ok : ∀ k, k < 10 → parseFieldDescriptor (TX1 k).2.2.1 = some (tyX1 k) := by decide +kernel
abbrev cX1_init : ByteArray := prog_3_method_1_code
def yX1_init : MethodName := ⟨RX1, "<init>", "(LMarriedMap$World;LMarriedMap$People;)V"⟩
abbrev cX1_fewestFor : ByteArray := prog_3_method_2_code
def yX1_fewestFor : MethodName := ⟨RX1, "fewestFor", "(II)I"⟩
abbrev cX1_widestBy : ByteArray := prog_3_method_3_code
def yX1_widestBy : MethodName := ⟨RX1, "widestBy", "(II)I"⟩
abbrev cX1_search : ByteArray := prog_3_method_4_code
def yX1_search : MethodName := ⟨RX1, "search", "(II)V"⟩
abbrev cX1_court : ByteArray := prog_3_method_5_code
def yX1_court : MethodName := ⟨RX1, "court", "(LMarriedMap$Courtship;IIIII)V"⟩
abbrev cX1_hasAll : ByteArray := prog_3_method_6_code
def yX1_hasAll : MethodName := ⟨RX1, "hasAll", "(II)Z"⟩
abbrev cX1_note : ByteArray := prog_3_method_7_code
def yX1_note : MethodName := ⟨RX1, "note", "(III)V"⟩
def RX2 : String := "MarriedMap$Events"
def TX2 : u_T := fun k => match k with
  | 0 => ("MarriedMap$Events", "weeks", "[I", true)
  | 1 => ("MarriedMap$Events", "kinds", "[I", true)
  | 2 => ("MarriedMap$Events", "ones", "[I", true)
  | 3 => ("MarriedMap$Events", "others", "[I", true)
  | 4 => ("MarriedMap$Events", "hours", "[I", true)
  | _ => ("MarriedMap$Events", "number", "I", false)
def tyX2 : Nat → FieldType := fun k => match k with
  | 0 => .array .int
  | 1 => .array .int
  | 2 => .array .int
  | 3 => .array .int
  | 4 => .array .int
  | _ => .int
abbrev wsX20 : List Cond := u_ws RX2 TX2 6
theorem nmX2 : ∀ a, a < 6 → ∀ b, b < 6 → a ≠ b → (TX2 a).2.1 ≠ (TX2 b).2.1 := by decide +kernel
theorem tyX2_ok : ∀ k, k < 6 → parseFieldDescriptor (TX2 k).2.2.1 = some (tyX2 k) := by decide +kernel
abbrev cX2_init : ByteArray := prog_4_method_1_code
def yX2_init : MethodName := ⟨RX2, "<init>", "()V"⟩
abbrev cX2_number : ByteArray := prog_4_method_2_code
def yX2_number : MethodName := ⟨RX2, "number", "()I"⟩
abbrev cX2_has : ByteArray := prog_4_method_3_code
def yX2_has : MethodName := ⟨RX2, "has", "(I)Z"⟩
abbrev cX2_isFull : ByteArray := prog_4_method_4_code
def yX2_isFull : MethodName := ⟨RX2, "isFull", "()Z"⟩
abbrev cX2_mayComeIn : ByteArray := prog_4_method_5_code
def yX2_mayComeIn : MethodName := ⟨RX2, "mayComeIn", "(I)Z"⟩
abbrev cX2_add : ByteArray := prog_4_method_6_code
def yX2_add : MethodName := ⟨RX2, "add", "(IIIII)V"⟩
abbrev cX2_dropLast : ByteArray := prog_4_method_7_code
def yX2_dropLast : MethodName := ⟨RX2, "dropLast", "()V"⟩
abbrev cX2_weekOf : ByteArray := prog_4_method_8_code
def yX2_weekOf : MethodName := ⟨RX2, "weekOf", "(I)I"⟩
abbrev cX2_kindOf : ByteArray := prog_4_method_9_code
def yX2_kindOf : MethodName := ⟨RX2, "kindOf", "(I)I"⟩
abbrev cX2_oneOf : ByteArray := prog_4_method_10_code
def yX2_oneOf : MethodName := ⟨RX2, "oneOf", "(I)I"⟩
abbrev cX2_otherOf : ByteArray := prog_4_method_11_code
def yX2_otherOf : MethodName := ⟨RX2, "otherOf", "(I)I"⟩
abbrev cX2_hourOf : ByteArray := prog_4_method_12_code
def yX2_hourOf : MethodName := ⟨RX2, "hourOf", "(I)I"⟩
def RX3 : String := "MarriedMap$Lands"
def TX3 : u_T := fun k => match k with
  | 0 => ("MarriedMap$Lands", "widths", "[I", true)
  | 1 => ("MarriedMap$Lands", "number", "I", false)
  | _ => ("MarriedMap$Lands", "faultAt", "I", false)
def tyX3 : Nat → FieldType := fun k => match k with
  | 0 => .array .int
  | 1 => .int
  | _ => .int
abbrev wsX30 : List Cond := u_ws RX3 TX3 3
theorem nmX3 : ∀ a, a < 3 → ∀ b, b < 3 → a ≠ b → (TX3 a).2.1 ≠ (TX3 b).2.1 := by decide +kernel
theorem tyX3_ok : ∀ k, k < 3 → parseFieldDescriptor (TX3 k).2.2.1 = some (tyX3 k) := by decide +kernel
abbrev cX3_init : ByteArray := prog_5_method_1_code
def yX3_init : MethodName := ⟨RX3, "<init>", "()V"⟩
abbrev cX3_number : ByteArray := prog_5_method_2_code
def yX3_number : MethodName := ⟨RX3, "number", "()I"⟩
abbrev cX3_faultAt : ByteArray := prog_5_method_3_code
def yX3_faultAt : MethodName := ⟨RX3, "faultAt", "()I"⟩
abbrev cX3_has : ByteArray := prog_5_method_4_code
def yX3_has : MethodName := ⟨RX3, "has", "(I)Z"⟩
abbrev cX3_toldWidth : ByteArray := prog_5_method_5_code
def yX3_toldWidth : MethodName := ⟨RX3, "toldWidth", "(I)I"⟩
abbrev cX3_parse : ByteArray := prog_5_method_6_code
def yX3_parse : MethodName := ⟨RX3, "parse", "(LMarriedMap$Text;)V"⟩
abbrev cX3_firstFault : ByteArray := prog_5_method_7_code
def yX3_firstFault : MethodName := ⟨RX3, "firstFault", "(LMarriedMap$Text;)I"⟩
abbrev cX3_goesOn : ByteArray := prog_5_method_8_code
def yX3_goesOn : MethodName := ⟨RX3, "goesOn", "(LMarriedMap$Text;I)Z"⟩
def RX4 : String := "MarriedMap$People"
def TX4 : u_T := fun k => match k with
  | 0 => ("MarriedMap$People", "sexes", "[I", true)
  | 1 => ("MarriedMap$People", "homes", "[I", true)
  | 2 => ("MarriedMap$People", "heights", "[I", true)
  | 3 => ("MarriedMap$People", "hats", "[I", true)
  | 4 => ("MarriedMap$People", "number", "I", false)
  | _ => ("MarriedMap$People", "faultAt", "I", false)
def tyX4 : Nat → FieldType := fun k => match k with
  | 0 => .array .int
  | 1 => .array .int
  | 2 => .array .int
  | 3 => .array .int
  | 4 => .int
  | _ => .int
abbrev wsX40 : List Cond := u_ws RX4 TX4 6
theorem nmX4 : ∀ a, a < 6 → ∀ b, b < 6 → a ≠ b → (TX4 a).2.1 ≠ (TX4 b).2.1 := by decide +kernel
theorem tyX4_ok : ∀ k, k < 6 → parseFieldDescriptor (TX4 k).2.2.1 = some (tyX4 k) := by decide +kernel
abbrev cX4_init : ByteArray := prog_6_method_1_code
def yX4_init : MethodName := ⟨RX4, "<init>", "()V"⟩
abbrev cX4_number : ByteArray := prog_6_method_2_code
def yX4_number : MethodName := ⟨RX4, "number", "()I"⟩
abbrev cX4_faultAt : ByteArray := prog_6_method_3_code
def yX4_faultAt : MethodName := ⟨RX4, "faultAt", "()I"⟩
abbrev cX4_has : ByteArray := prog_6_method_4_code
def yX4_has : MethodName := ⟨RX4, "has", "(I)Z"⟩
abbrev cX4_sexOf : ByteArray := prog_6_method_5_code
def yX4_sexOf : MethodName := ⟨RX4, "sexOf", "(I)I"⟩
abbrev cX4_homeOf : ByteArray := prog_6_method_6_code
def yX4_homeOf : MethodName := ⟨RX4, "homeOf", "(I)I"⟩
abbrev cX4_heightOf : ByteArray := prog_6_method_7_code
def yX4_heightOf : MethodName := ⟨RX4, "heightOf", "(I)I"⟩
abbrev cX4_hatOf : ByteArray := prog_6_method_8_code
def yX4_hatOf : MethodName := ⟨RX4, "hatOf", "(I)I"⟩
abbrev cX4_setHeight : ByteArray := prog_6_method_9_code
def yX4_setHeight : MethodName := ⟨RX4, "setHeight", "(II)V"⟩
abbrev cX4_shadowOf : ByteArray := prog_6_method_10_code
def yX4_shadowOf : MethodName := ⟨RX4, "shadowOf", "(II)I"⟩
abbrev cX4_areMatch : ByteArray := prog_6_method_11_code
def yX4_areMatch : MethodName := ⟨RX4, "areMatch", "(II)Z"⟩
abbrev cX4_parse : ByteArray := prog_6_method_12_code
def yX4_parse : MethodName := ⟨RX4, "parse", "(LMarriedMap$Text;I)V"⟩
abbrev cX4_firstFault : ByteArray := prog_6_method_13_code
def yX4_firstFault : MethodName := ⟨RX4, "firstFault", "(LMarriedMap$Text;I)I"⟩
abbrev cX4_goesOn : ByteArray := prog_6_method_14_code
def yX4_goesOn : MethodName := ⟨RX4, "goesOn", "(LMarriedMap$Text;II)Z"⟩
def RX5 : String := "MarriedMap$Sheet"
def TX5 : u_T := fun k => match k with
  | 0 => ("MarriedMap$Sheet", "items", "[I", true)
  | 1 => ("MarriedMap$Sheet", "form", "I", false)
  | _ => ("MarriedMap$Sheet", "size", "I", false)
def tyX5 : Nat → FieldType := fun k => match k with
  | 0 => .array .int
  | 1 => .int
  | _ => .int
abbrev wsX50 : List Cond := u_ws RX5 TX5 3
theorem nmX5 : ∀ a, a < 3 → ∀ b, b < 3 → a ≠ b → (TX5 a).2.1 ≠ (TX5 b).2.1 := by decide +kernel
theorem tyX5_ok : ∀ k, k < 3 → parseFieldDescriptor (TX5 k).2.2.1 = some (tyX5 k) := by decide +kernel
abbrev cX5_init : ByteArray := prog_7_method_1_code
def yX5_init : MethodName := ⟨RX5, "<init>", "()V"⟩
abbrev cX5_isLost : ByteArray := prog_7_method_2_code
def yX5_isLost : MethodName := ⟨RX5, "isLost", "()Z"⟩
abbrev cX5_size : ByteArray := prog_7_method_3_code
def yX5_size : MethodName := ⟨RX5, "size", "()I"⟩
abbrev cX5_form : ByteArray := prog_7_method_4_code
def yX5_form : MethodName := ⟨RX5, "form", "()I"⟩
abbrev cX5_hasItem : ByteArray := prog_7_method_5_code
def yX5_hasItem : MethodName := ⟨RX5, "hasItem", "(I)Z"⟩
abbrev cX5_hasSpan : ByteArray := prog_7_method_6_code
def yX5_hasSpan : MethodName := ⟨RX5, "hasSpan", "(II)Z"⟩
abbrev cX5_renew : ByteArray := prog_7_method_7_code
def yX5_renew : MethodName := ⟨RX5, "renew", "(II)V"⟩
abbrev cX5_drop : ByteArray := prog_7_method_8_code
def yX5_drop : MethodName := ⟨RX5, "drop", "()V"⟩
abbrev cX5_itemAt : ByteArray := prog_7_method_9_code
def yX5_itemAt : MethodName := ⟨RX5, "itemAt", "(I)I"⟩
abbrev cX5_put : ByteArray := prog_7_method_10_code
def yX5_put : MethodName := ⟨RX5, "put", "(II)V"⟩
abbrev cX5_take : ByteArray := prog_7_method_11_code
def yX5_take : MethodName := ⟨RX5, "take", "(ILMarriedMap$Sheet;II)V"⟩
abbrev cX5_fitted : ByteArray := prog_7_method_12_code
def yX5_fitted : MethodName := ⟨RX5, "fitted", "(I)I"⟩
def RX6 : String := "MarriedMap$Sky"
def TX6 : u_T := fun k => match k with
  | _ => ("MarriedMap$Sky", "clouds", "[I", true)
def tyX6 : Nat → FieldType := fun k => match k with
  | _ => .array .int
abbrev wsX60 : List Cond := u_ws RX6 TX6 1
theorem nmX6 : ∀ a, a < 1 → ∀ b, b < 1 → a ≠ b → (TX6 a).2.1 ≠ (TX6 b).2.1 := by decide +kernel
theorem tyX6_ok : ∀ k, k < 1 → parseFieldDescriptor (TX6 k).2.2.1 = some (tyX6 k) := by decide +kernel
abbrev cX6_init : ByteArray := prog_8_method_1_code
def yX6_init : MethodName := ⟨RX6, "<init>", "()V"⟩
abbrev cX6_cloudsIn : ByteArray := prog_8_method_2_code
def yX6_cloudsIn : MethodName := ⟨RX6, "cloudsIn", "(I)I"⟩
abbrev cX6_setClouds : ByteArray := prog_8_method_3_code
def yX6_setClouds : MethodName := ⟨RX6, "setClouds", "(II)V"⟩
abbrev cX6_cloudedWeeks : ByteArray := prog_8_method_4_code
def yX6_cloudedWeeks : MethodName := ⟨RX6, "cloudedWeeks", "()I"⟩
def RX7 : String := "MarriedMap$Surveys"
def TX7 : u_T := fun k => match k with
  | 0 => ("MarriedMap$Surveys", "measuredLands", "[I", true)
  | 1 => ("MarriedMap$Surveys", "measuredBehind", "[I", true)
  | 2 => ("MarriedMap$Surveys", "measuredWidths", "[I", true)
  | _ => ("MarriedMap$Surveys", "number", "I", false)
def tyX7 : Nat → FieldType := fun k => match k with
  | 0 => .array .int
  | 1 => .array .int
  | 2 => .array .int
  | _ => .int
abbrev wsX70 : List Cond := u_ws RX7 TX7 4
theorem nmX7 : ∀ a, a < 4 → ∀ b, b < 4 → a ≠ b → (TX7 a).2.1 ≠ (TX7 b).2.1 := by decide +kernel
theorem tyX7_ok : ∀ k, k < 4 → parseFieldDescriptor (TX7 k).2.2.1 = some (tyX7 k) := by decide +kernel
abbrev cX7_init : ByteArray := prog_9_method_1_code
def yX7_init : MethodName := ⟨RX7, "<init>", "()V"⟩
abbrev cX7_number : ByteArray := prog_9_method_2_code
def yX7_number : MethodName := ⟨RX7, "number", "()I"⟩
abbrev cX7_isFull : ByteArray := prog_9_method_3_code
def yX7_isFull : MethodName := ⟨RX7, "isFull", "()Z"⟩
abbrev cX7_add : ByteArray := prog_9_method_4_code
def yX7_add : MethodName := ⟨RX7, "add", "(III)V"⟩
abbrev cX7_clear : ByteArray := prog_9_method_5_code
def yX7_clear : MethodName := ⟨RX7, "clear", "()V"⟩
abbrev cX7_unaskable : ByteArray := prog_9_method_6_code
def yX7_unaskable : MethodName := ⟨RX7, "unaskable", "(LMarriedMap$Lands;LMarriedMap$Events;)I"⟩
abbrev cX7_otherwiseIn : ByteArray := prog_9_method_7_code
def yX7_otherwiseIn : MethodName := ⟨RX7, "otherwiseIn", "(LMarriedMap$World;LMarriedMap$Lands;LMarriedMap$Events;)I"⟩
def RX8 : String := "MarriedMap$Text"
def TX8 : u_T := fun k => match k with
  | 0 => ("MarriedMap$Text", "bytes", "[I", true)
  | _ => ("MarriedMap$Text", "length", "I", false)
def tyX8 : Nat → FieldType := fun k => match k with
  | 0 => .array .int
  | _ => .int
abbrev wsX80 : List Cond := u_ws RX8 TX8 2
theorem nmX8 : ∀ a, a < 2 → ∀ b, b < 2 → a ≠ b → (TX8 a).2.1 ≠ (TX8 b).2.1 := by decide +kernel
theorem tyX8_ok : ∀ k, k < 2 → parseFieldDescriptor (TX8 k).2.2.1 = some (tyX8 k) := by decide +kernel
abbrev cX8_init : ByteArray := prog_10_method_1_code
def yX8_init : MethodName := ⟨RX8, "<init>", "(I)V"⟩
abbrev cX8_length : ByteArray := prog_10_method_2_code
def yX8_length : MethodName := ⟨RX8, "length", "()I"⟩
abbrev cX8_isFull : ByteArray := prog_10_method_3_code
def yX8_isFull : MethodName := ⟨RX8, "isFull", "()Z"⟩
abbrev cX8_append : ByteArray := prog_10_method_4_code
def yX8_append : MethodName := ⟨RX8, "append", "(I)V"⟩
abbrev cX8_clear : ByteArray := prog_10_method_5_code
def yX8_clear : MethodName := ⟨RX8, "clear", "()V"⟩
abbrev cX8_at : ByteArray := prog_10_method_6_code
def yX8_at : MethodName := ⟨RX8, "at", "(I)I"⟩
abbrev cX8_figureAt : ByteArray := prog_10_method_7_code
def yX8_figureAt : MethodName := ⟨RX8, "figureAt", "(I)I"⟩
def RX9 : String := "MarriedMap$Turns"
def TX9 : u_T := fun k => match k with
  | 0 => ("MarriedMap$Turns", "world", "LMarriedMap$World;", true)
  | 1 => ("MarriedMap$Turns", "couples", "LMarriedMap$Couples;", true)
  | _ => ("MarriedMap$Turns", "firstWedding", "I", false)
def tyX9 : Nat → FieldType := fun k => match k with
  | 0 => .object "MarriedMap$World"
  | 1 => .object "MarriedMap$Couples"
  | _ => .int
abbrev wsX90 : List Cond := u_ws RX9 TX9 3
theorem nmX9 : ∀ a, a < 3 → ∀ b, b < 3 → a ≠ b → (TX9 a).2.1 ≠ (TX9 b).2.1 := by decide +kernel
theorem tyX9_ok : ∀ k, k < 3 → parseFieldDescriptor (TX9 k).2.2.1 = some (tyX9 k) := by decide +kernel
abbrev cX9_init : ByteArray := prog_11_method_1_code
def yX9_init : MethodName := ⟨RX9, "<init>", "(LMarriedMap$World;LMarriedMap$People;)V"⟩
abbrev cX9_playOut : ByteArray := prog_11_method_2_code
def yX9_playOut : MethodName := ⟨RX9, "playOut", "(II)I"⟩
abbrev cX9_firstWedding : ByteArray := prog_11_method_3_code
def yX9_firstWedding : MethodName := ⟨RX9, "firstWedding", "()I"⟩
abbrev cX9_takeTurn : ByteArray := prog_11_method_4_code
def yX9_takeTurn : MethodName := ⟨RX9, "takeTurn", "(LMarriedMap$Turns;IIII)I"⟩
abbrev cX9_noteFirst : ByteArray := prog_11_method_5_code
def yX9_noteFirst : MethodName := ⟨RX9, "noteFirst", "(II)V"⟩
def RX10 : String := "MarriedMap$World"
def TX10 : u_T := fun k => match k with
  | 0 => ("MarriedMap$World", "lands", "LMarriedMap$Lands;", true)
  | 1 => ("MarriedMap$World", "people", "LMarriedMap$People;", true)
  | 2 => ("MarriedMap$World", "sky", "LMarriedMap$Sky;", true)
  | 3 => ("MarriedMap$World", "events", "LMarriedMap$Events;", true)
  | 4 => ("MarriedMap$World", "widths", "[I", true)
  | 5 => ("MarriedMap$World", "partners", "[I", true)
  | 6 => ("MarriedMap$World", "provinces", "[I", true)
  | 7 => ("MarriedMap$World", "alive", "[Z", true)
  | 8 => ("MarriedMap$World", "dowries", "[I", true)
  | 9 => ("MarriedMap$World", "takers", "[I", true)
  | 10 => ("MarriedMap$World", "nobodys", "I", false)
  | 11 => ("MarriedMap$World", "movedLast", "I", false)
  | 12 => ("MarriedMap$World", "againstLaw", "I", false)
  | _ => ("MarriedMap$World", "firstAgainstLaw", "I", false)
def tyX10 : Nat → FieldType := fun k => match k with
  | 0 => .object "MarriedMap$Lands"
  | 1 => .object "MarriedMap$People"
  | 2 => .object "MarriedMap$Sky"
  | 3 => .object "MarriedMap$Events"
  | 4 => .array .int
  | 5 => .array .int
  | 6 => .array .int
  | 7 => .array .boolean
  | 8 => .array .int
  | 9 => .array .int
  | 10 => .int
  | 11 => .int
  | 12 => .int
  | _ => .int
abbrev wsX100 : List Cond := u_ws RX10 TX10 14
theorem nmX10 : ∀ a, a < 14 → ∀ b, b < 14 → a ≠ b → (TX10 a).2.1 ≠ (TX10 b).2.1 := by decide +kernel
theorem tyX10_ok : ∀ k, k < 14 → parseFieldDescriptor (TX10 k).2.2.1 = some (tyX10 k) := by decide +kernel
abbrev cX10_init : ByteArray := prog_12_method_1_code
def yX10_init : MethodName := ⟨RX10, "<init>", "(LMarriedMap$Lands;LMarriedMap$People;LMarriedMap$Sky;LMarriedMap$Events;)V"⟩
abbrev cX10_widthOf : ByteArray := prog_12_method_2_code
def yX10_widthOf : MethodName := ⟨RX10, "widthOf", "(I)I"⟩
abbrev cX10_partnerOf : ByteArray := prog_12_method_3_code
def yX10_partnerOf : MethodName := ⟨RX10, "partnerOf", "(I)I"⟩
abbrev cX10_provinceOf : ByteArray := prog_12_method_4_code
def yX10_provinceOf : MethodName := ⟨RX10, "provinceOf", "(I)I"⟩
abbrev cX10_isAlive : ByteArray := prog_12_method_5_code
def yX10_isAlive : MethodName := ⟨RX10, "isAlive", "(I)Z"⟩
abbrev cX10_isFree : ByteArray := prog_12_method_6_code
def yX10_isFree : MethodName := ⟨RX10, "isFree", "(I)Z"⟩
abbrev cX10_mayMarry : ByteArray := prog_12_method_7_code
def yX10_mayMarry : MethodName := ⟨RX10, "mayMarry", "(II)Z"⟩
abbrev cX10_freeIn : ByteArray := prog_12_method_8_code
def yX10_freeIn : MethodName := ⟨RX10, "freeIn", "(I)I"⟩
abbrev cX10_nobodys : ByteArray := prog_12_method_9_code
def yX10_nobodys : MethodName := ⟨RX10, "nobodys", "()I"⟩
abbrev cX10_movedLast : ByteArray := prog_12_method_10_code
def yX10_movedLast : MethodName := ⟨RX10, "movedLast", "()I"⟩
abbrev cX10_againstLaw : ByteArray := prog_12_method_11_code
def yX10_againstLaw : MethodName := ⟨RX10, "againstLaw", "()I"⟩
abbrev cX10_firstAgainstLaw : ByteArray := prog_12_method_12_code
def yX10_firstAgainstLaw : MethodName := ⟨RX10, "firstAgainstLaw", "()I"⟩
abbrev cX10_play : ByteArray := prog_12_method_13_code
def yX10_play : MethodName := ⟨RX10, "play", "(II)V"⟩
abbrev cX10_begin : ByteArray := prog_12_method_14_code
def yX10_begin : MethodName := ⟨RX10, "begin", "()V"⟩
abbrev cX10_playOne : ByteArray := prog_12_method_15_code
def yX10_playOne : MethodName := ⟨RX10, "playOne", "(I)V"⟩
abbrev cX10_gain : ByteArray := prog_12_method_16_code
def yX10_gain : MethodName := ⟨RX10, "gain", "(III)I"⟩
abbrev cX10_marry : ByteArray := prog_12_method_17_code
def yX10_marry : MethodName := ⟨RX10, "marry", "(III)Z"⟩
abbrev cX10_part : ByteArray := prog_12_method_18_code
def yX10_part : MethodName := ⟨RX10, "part", "(I)Z"⟩
abbrev cX10_die : ByteArray := prog_12_method_19_code
def yX10_die : MethodName := ⟨RX10, "die", "(I)Z"⟩
abbrev cX10_differenceAt : ByteArray := prog_12_method_20_code
def yX10_differenceAt : MethodName := ⟨RX10, "differenceAt", "(I)I"⟩
abbrev cX10_bind : ByteArray := prog_12_method_21_code
def yX10_bind : MethodName := ⟨RX10, "bind", "(IIII)V"⟩
abbrev cX10_dissolve : ByteArray := prog_12_method_22_code
def yX10_dissolve : MethodName := ⟨RX10, "dissolve", "(I)I"⟩
def RX11 : String := "MarriedMap"
def TX11 : u_T := fun k => match k with
  | 0 => ("MarriedMap", "landsText", "LMarriedMap$Text;", true)
  | 1 => ("MarriedMap", "peopleText", "LMarriedMap$Text;", true)
  | 2 => ("MarriedMap", "lands", "LMarriedMap$Lands;", true)
  | 3 => ("MarriedMap", "people", "LMarriedMap$People;", true)
  | 4 => ("MarriedMap", "sky", "LMarriedMap$Sky;", true)
  | 5 => ("MarriedMap", "events", "LMarriedMap$Events;", true)
  | 6 => ("MarriedMap", "world", "LMarriedMap$World;", true)
  | 7 => ("MarriedMap", "courtship", "LMarriedMap$Courtship;", true)
  | 8 => ("MarriedMap", "turns", "LMarriedMap$Turns;", true)
  | 9 => ("MarriedMap", "surveys", "LMarriedMap$Surveys;", true)
  | 10 => ("MarriedMap", "sheets", "[LMarriedMap$Sheet;", true)
  | _ => ("MarriedMap", "latestFinding", "I", false)
def tyX11 : Nat → FieldType := fun k => match k with
  | 0 => .object "MarriedMap$Text"
  | 1 => .object "MarriedMap$Text"
  | 2 => .object "MarriedMap$Lands"
  | 3 => .object "MarriedMap$People"
  | 4 => .object "MarriedMap$Sky"
  | 5 => .object "MarriedMap$Events"
  | 6 => .object "MarriedMap$World"
  | 7 => .object "MarriedMap$Courtship"
  | 8 => .object "MarriedMap$Turns"
  | 9 => .object "MarriedMap$Surveys"
  | 10 => .array (.object "MarriedMap$Sheet")
  | _ => .int
abbrev wsX110 : List Cond := u_ws RX11 TX11 12
theorem nmX11 : ∀ a, a < 12 → ∀ b, b < 12 → a ≠ b → (TX11 a).2.1 ≠ (TX11 b).2.1 := by decide +kernel
theorem tyX11_ok : ∀ k, k < 12 → parseFieldDescriptor (TX11 k).2.2.1 = some (tyX11 k) := by decide +kernel
abbrev cX11_init : ByteArray := prog_1_method_1_code
def yX11_init : MethodName := ⟨RX11, "<init>", "()V"⟩
abbrev cX11_type : ByteArray := prog_1_method_2_code
def yX11_type : MethodName := ⟨RX11, "type", "(II)I"⟩
abbrev cX11_wipe : ByteArray := prog_1_method_3_code
def yX11_wipe : MethodName := ⟨RX11, "wipe", "(I)I"⟩
abbrev cX11_fault : ByteArray := prog_1_method_4_code
def yX11_fault : MethodName := ⟨RX11, "fault", "(I)I"⟩
abbrev cX11_person : ByteArray := prog_1_method_5_code
def yX11_person : MethodName := ⟨RX11, "person", "(II)I"⟩
abbrev cX11_shadow : ByteArray := prog_1_method_6_code
def yX11_shadow : MethodName := ⟨RX11, "shadow", "(II)I"⟩
abbrev cX11_cloud : ByteArray := prog_1_method_7_code
def yX11_cloud : MethodName := ⟨RX11, "cloud", "(II)I"⟩
abbrev cX11_wed : ByteArray := prog_1_method_8_code
def yX11_wed : MethodName := ⟨RX11, "wed", "(IIII)I"⟩
abbrev cX11_ends : ByteArray := prog_1_method_9_code
def yX11_ends : MethodName := ⟨RX11, "ends", "(III)I"⟩
abbrev cX11_read : ByteArray := prog_1_method_10_code
def yX11_read : MethodName := ⟨RX11, "read", "(II)I"⟩
abbrev cX11_undo : ByteArray := prog_1_method_11_code
def yX11_undo : MethodName := ⟨RX11, "undo", "()I"⟩
abbrev cX11_judged : ByteArray := prog_1_method_12_code
def yX11_judged : MethodName := ⟨RX11, "judged", "()I"⟩
abbrev cX11_moved : ByteArray := prog_1_method_13_code
def yX11_moved : MethodName := ⟨RX11, "moved", "(I)I"⟩
abbrev cX11_width : ByteArray := prog_1_method_14_code
def yX11_width : MethodName := ⟨RX11, "width", "(II)I"⟩
abbrev cX11_state : ByteArray := prog_1_method_15_code
def yX11_state : MethodName := ⟨RX11, "state", "(III)I"⟩
abbrev cX11_nobody : ByteArray := prog_1_method_16_code
def yX11_nobody : MethodName := ⟨RX11, "nobody", "(I)I"⟩
abbrev cX11_reach : ByteArray := prog_1_method_17_code
def yX11_reach : MethodName := ⟨RX11, "reach", "(II)I"⟩
abbrev cX11_grows : ByteArray := prog_1_method_18_code
def yX11_grows : MethodName := ⟨RX11, "grows", "(II)I"⟩
abbrev cX11_leave : ByteArray := prog_1_method_19_code
def yX11_leave : MethodName := ⟨RX11, "leave", "()I"⟩
abbrev cX11_survey : ByteArray := prog_1_method_20_code
def yX11_survey : MethodName := ⟨RX11, "survey", "(III)I"⟩
abbrev cX11_forget : ByteArray := prog_1_method_21_code
def yX11_forget : MethodName := ⟨RX11, "forget", "()I"⟩
abbrev cX11_forged : ByteArray := prog_1_method_22_code
def yX11_forged : MethodName := ⟨RX11, "forged", "(I)I"⟩
abbrev cX11_unlike : ByteArray := prog_1_method_23_code
def yX11_unlike : MethodName := ⟨RX11, "unlike", "()I"⟩
abbrev cX11_without : ByteArray := prog_1_method_24_code
def yX11_without : MethodName := ⟨RX11, "without", "(II)I"⟩
abbrev cX11_blame : ByteArray := prog_1_method_25_code
def yX11_blame : MethodName := ⟨RX11, "blame", "(I)I"⟩
abbrev cX11_lords : ByteArray := prog_1_method_26_code
def yX11_lords : MethodName := ⟨RX11, "lords", "(III)I"⟩
abbrev cX11_sheet : ByteArray := prog_1_method_27_code
def yX11_sheet : MethodName := ⟨RX11, "sheet", "(III)I"⟩
abbrev cX11_lose : ByteArray := prog_1_method_28_code
def yX11_lose : MethodName := ⟨RX11, "lose", "(I)I"⟩
abbrev cX11_lay : ByteArray := prog_1_method_29_code
def yX11_lay : MethodName := ⟨RX11, "lay", "(IIII)I"⟩
abbrev cX11_get : ByteArray := prog_1_method_30_code
def yX11_get : MethodName := ⟨RX11, "get", "(III)I"⟩
abbrev cX11_copy : ByteArray := prog_1_method_31_code
def yX11_copy : MethodName := ⟨RX11, "copy", "(IIIII)I"⟩
abbrev cX11_write : ByteArray := prog_1_method_32_code
def yX11_write : MethodName := ⟨RX11, "write", "(II)I"⟩
abbrev cX11_count : ByteArray := prog_1_method_33_code
def yX11_count : MethodName := ⟨RX11, "count", "(I)I"⟩
abbrev cX11_digest : ByteArray := prog_1_method_34_code
def yX11_digest : MethodName := ⟨RX11, "digest", "()J"⟩
abbrev cX11_isWithin : ByteArray := prog_1_method_35_code
def yX11_isWithin : MethodName := ⟨RX11, "isWithin", "(III)Z"⟩
abbrev cX11_isHour : ByteArray := prog_1_method_36_code
def yX11_isHour : MethodName := ⟨RX11, "isHour", "(I)Z"⟩
abbrev cX11_isPersonNumber : ByteArray := prog_1_method_37_code
def yX11_isPersonNumber : MethodName := ⟨RX11, "isPersonNumber", "(I)Z"⟩
abbrev cX11_isForm : ByteArray := prog_1_method_38_code
def yX11_isForm : MethodName := ⟨RX11, "isForm", "(I)Z"⟩
abbrev cX11_mayBeWedding : ByteArray := prog_1_method_39_code
def yX11_mayBeWedding : MethodName := ⟨RX11, "mayBeWedding", "(III)Z"⟩
abbrev cX11_mayBeBehind : ByteArray := prog_1_method_40_code
def yX11_mayBeBehind : MethodName := ⟨RX11, "mayBeBehind", "(I)Z"⟩
abbrev cX11_textAt : ByteArray := prog_1_method_41_code
def yX11_textAt : MethodName := ⟨RX11, "textAt", "(I)LMarriedMap$Text;"⟩
abbrev cX11_sheetAt : ByteArray := prog_1_method_42_code
def yX11_sheetAt : MethodName := ⟨RX11, "sheetAt", "(I)LMarriedMap$Sheet;"⟩
abbrev cX11_parseTexts : ByteArray := prog_1_method_43_code
def yX11_parseTexts : MethodName := ⟨RX11, "parseTexts", "()V"⟩
abbrev cX11_wouldLeave : ByteArray := prog_1_method_44_code
def yX11_wouldLeave : MethodName := ⟨RX11, "wouldLeave", "(II)Z"⟩
abbrev cX11_itemRefusal : ByteArray := prog_1_method_45_code
def yX11_itemRefusal : MethodName := ⟨RX11, "itemRefusal", "(LMarriedMap$Sheet;II)I"⟩
abbrev cX11_finding : ByteArray := prog_1_method_46_code
def yX11_finding : MethodName := ⟨RX11, "finding", "(I)I"⟩
def RX12 : String := "MarriedMapModel"
def TX12 : u_T := fun k => match k with
  | 0 => ("MarriedMapModel", "forms", "[I", true)
  | 1 => ("MarriedMapModel", "sizes", "[I", true)
  | 2 => ("MarriedMapModel", "items", "[I", true)
  | 3 => ("MarriedMapModel", "moving", "[I", true)
  | 4 => ("MarriedMapModel", "latest", "I", false)
  | 5 => ("MarriedMapModel", "bytes", "[I", true)
  | 6 => ("MarriedMapModel", "typed", "[I", true)
  | 7 => ("MarriedMapModel", "at", "I", false)
  | 8 => ("MarriedMapModel", "lands", "I", false)
  | 9 => ("MarriedMapModel", "landWidth", "[I", true)
  | 10 => ("MarriedMapModel", "people", "I", false)
  | 11 => ("MarriedMapModel", "who", "[I", true)
  | 12 => ("MarriedMapModel", "clouds", "[I", true)
  | 13 => ("MarriedMapModel", "events", "I", false)
  | 14 => ("MarriedMapModel", "told", "[I", true)
  | 15 => ("MarriedMapModel", "widths", "[I", true)
  | 16 => ("MarriedMapModel", "mate", "[I", true)
  | 17 => ("MarriedMapModel", "took", "[I", true)
  | 18 => ("MarriedMapModel", "taker", "[I", true)
  | 19 => ("MarriedMapModel", "province", "[I", true)
  | 20 => ("MarriedMapModel", "alive", "[I", true)
  | 21 => ("MarriedMapModel", "nobodys", "I", false)
  | 22 => ("MarriedMapModel", "moved", "[I", true)
  | 23 => ("MarriedMapModel", "against", "I", false)
  | 24 => ("MarriedMapModel", "firstAgainst", "I", false)
  | 25 => ("MarriedMapModel", "own", "[I", true)
  | 26 => ("MarriedMapModel", "ownMany", "I", false)
  | 27 => ("MarriedMapModel", "pick", "[I", true)
  | 28 => ("MarriedMapModel", "most", "[I", true)
  | 29 => ("MarriedMapModel", "surveys", "I", false)
  | 30 => ("MarriedMapModel", "measured", "[I", true)
  | 31 => ("MarriedMapModel", "firsts", "[I", true)
  | 32 => ("MarriedMapModel", "seconds", "[I", true)
  | 33 => ("MarriedMapModel", "firstMany", "I", false)
  | 34 => ("MarriedMapModel", "secondMany", "I", false)
  | 35 => ("MarriedMapModel", "next", "[I", true)
  | 36 => ("MarriedMapModel", "bestBy", "[I", true)
  | 37 => ("MarriedMapModel", "hasBest", "[Z", true)
  | 38 => ("MarriedMapModel", "used", "[I", true)
  | 39 => ("MarriedMapModel", "wide", "[I", true)
  | _ => ("MarriedMapModel", "firstPick", "I", false)
def tyX12 : Nat → FieldType := fun k => match k with
  | 0 => .array .int
  | 1 => .array .int
  | 2 => .array .int
  | 3 => .array .int
  | 4 => .int
  | 5 => .array .int
  | 6 => .array .int
  | 7 => .int
  | 8 => .int
  | 9 => .array .int
  | 10 => .int
  | 11 => .array .int
  | 12 => .array .int
  | 13 => .int
  | 14 => .array .int
  | 15 => .array .int
  | 16 => .array .int
  | 17 => .array .int
  | 18 => .array .int
  | 19 => .array .int
  | 20 => .array .int
  | 21 => .int
  | 22 => .array .int
  | 23 => .int
  | 24 => .int
  | 25 => .array .int
  | 26 => .int
  | 27 => .array .int
  | 28 => .array .int
  | 29 => .int
  | 30 => .array .int
  | 31 => .array .int
  | 32 => .array .int
  | 33 => .int
  | 34 => .int
  | 35 => .array .int
  | 36 => .array .int
  | 37 => .array .boolean
  | 38 => .array .int
  | 39 => .array .int
  | _ => .int
abbrev wsX120 : List Cond := u_ws RX12 TX12 41
theorem nmX12 : ∀ a, a < 41 → ∀ b, b < 41 → a ≠ b → (TX12 a).2.1 ≠ (TX12 b).2.1 := by decide +kernel
theorem tyX12_ok : ∀ k, k < 41 → parseFieldDescriptor (TX12 k).2.2.1 = some (tyX12 k) := by decide +kernel
abbrev cX12_init : ByteArray := prog_14_method_1_code
def yX12_init : MethodName := ⟨RX12, "<init>", "()V"⟩
abbrev cX12_in : ByteArray := prog_14_method_3_code
def yX12_in : MethodName := ⟨RX12, "in", "(JJJ)Z"⟩
abbrev cX12_isTwo : ByteArray := prog_14_method_4_code
def yX12_isTwo : MethodName := ⟨RX12, "isTwo", "(I)Z"⟩
abbrev cX12_met : ByteArray := prog_14_method_5_code
def yX12_met : MethodName := ⟨RX12, "met", "(I)I"⟩
abbrev cX12_isSheet : ByteArray := prog_14_method_6_code
def yX12_isSheet : MethodName := ⟨RX12, "isSheet", "(I)Z"⟩
abbrev cX12_sheet : ByteArray := prog_14_method_7_code
def yX12_sheet : MethodName := ⟨RX12, "sheet", "(III)I"⟩
abbrev cX12_lose : ByteArray := prog_14_method_8_code
def yX12_lose : MethodName := ⟨RX12, "lose", "(I)I"⟩
abbrev cX12_lacks : ByteArray := prog_14_method_9_code
def yX12_lacks : MethodName := ⟨RX12, "lacks", "(III)I"⟩
abbrev cX12_cut : ByteArray := prog_14_method_10_code
def yX12_cut : MethodName := ⟨RX12, "cut", "(II)I"⟩
abbrev cX12_lay : ByteArray := prog_14_method_11_code
def yX12_lay : MethodName := ⟨RX12, "lay", "(IIII)I"⟩
abbrev cX12_get : ByteArray := prog_14_method_12_code
def yX12_get : MethodName := ⟨RX12, "get", "(III)I"⟩
abbrev cX12_copy : ByteArray := prog_14_method_13_code
def yX12_copy : MethodName := ⟨RX12, "copy", "(IIIII)I"⟩
abbrev cX12_room : ByteArray := prog_14_method_14_code
def yX12_room : MethodName := ⟨RX12, "room", "(I)I"⟩
abbrev cX12_type : ByteArray := prog_14_method_15_code
def yX12_type : MethodName := ⟨RX12, "type", "(II)I"⟩
abbrev cX12_wipe : ByteArray := prog_14_method_16_code
def yX12_wipe : MethodName := ⟨RX12, "wipe", "(I)I"⟩
abbrev cX12_here : ByteArray := prog_14_method_17_code
def yX12_here : MethodName := ⟨RX12, "here", "(I)I"⟩
abbrev cX12_figure : ByteArray := prog_14_method_18_code
def yX12_figure : MethodName := ⟨RX12, "figure", "(III)I"⟩
abbrev cX12_readsLand : ByteArray := prog_14_method_19_code
def yX12_readsLand : MethodName := ⟨RX12, "readsLand", "()Z"⟩
abbrev cX12_readsPerson : ByteArray := prog_14_method_20_code
def yX12_readsPerson : MethodName := ⟨RX12, "readsPerson", "()Z"⟩
abbrev cX12_fails : ByteArray := prog_14_method_21_code
def yX12_fails : MethodName := ⟨RX12, "fails", "(I)I"⟩
abbrev cX12_reads : ByteArray := prog_14_method_22_code
def yX12_reads : MethodName := ⟨RX12, "reads", "(I)I"⟩
abbrev cX12_find : ByteArray := prog_14_method_23_code
def yX12_find : MethodName := ⟨RX12, "find", "()V"⟩
abbrev cX12_faultOf : ByteArray := prog_14_method_24_code
def yX12_faultOf : MethodName := ⟨RX12, "faultOf", "(I)I"⟩
abbrev cX12_fault : ByteArray := prog_14_method_25_code
def yX12_fault : MethodName := ⟨RX12, "fault", "(I)I"⟩
abbrev cX12_isLand : ByteArray := prog_14_method_26_code
def yX12_isLand : MethodName := ⟨RX12, "isLand", "(I)Z"⟩
abbrev cX12_isPerson : ByteArray := prog_14_method_27_code
def yX12_isPerson : MethodName := ⟨RX12, "isPerson", "(I)Z"⟩
abbrev cX12_person : ByteArray := prog_14_method_28_code
def yX12_person : MethodName := ⟨RX12, "person", "(II)I"⟩
abbrev cX12_shadowOf : ByteArray := prog_14_method_29_code
def yX12_shadowOf : MethodName := ⟨RX12, "shadowOf", "(II)I"⟩
abbrev cX12_isHour : ByteArray := prog_14_method_30_code
def yX12_isHour : MethodName := ⟨RX12, "isHour", "(I)Z"⟩
abbrev cX12_shadow : ByteArray := prog_14_method_31_code
def yX12_shadow : MethodName := ⟨RX12, "shadow", "(II)I"⟩
abbrev cX12_isWeek : ByteArray := prog_14_method_32_code
def yX12_isWeek : MethodName := ⟨RX12, "isWeek", "(I)Z"⟩
abbrev cX12_cloud : ByteArray := prog_14_method_33_code
def yX12_cloud : MethodName := ⟨RX12, "cloud", "(II)I"⟩
abbrev cX12_isLate : ByteArray := prog_14_method_34_code
def yX12_isLate : MethodName := ⟨RX12, "isLate", "(I)Z"⟩
abbrev cX12_isAnyone : ByteArray := prog_14_method_35_code
def yX12_isAnyone : MethodName := ⟨RX12, "isAnyone", "(I)Z"⟩
abbrev cX12_tells : ByteArray := prog_14_method_36_code
def yX12_tells : MethodName := ⟨RX12, "tells", "(IIIII)I"⟩
abbrev cX12_wed : ByteArray := prog_14_method_37_code
def yX12_wed : MethodName := ⟨RX12, "wed", "(IIII)I"⟩
abbrev cX12_ends : ByteArray := prog_14_method_38_code
def yX12_ends : MethodName := ⟨RX12, "ends", "(III)I"⟩
abbrev cX12_read : ByteArray := prog_14_method_39_code
def yX12_read : MethodName := ⟨RX12, "read", "(II)I"⟩
abbrev cX12_undo : ByteArray := prog_14_method_40_code
def yX12_undo : MethodName := ⟨RX12, "undo", "()I"⟩
abbrev cX12_begins : ByteArray := prog_14_method_41_code
def yX12_begins : MethodName := ⟨RX12, "begins", "()V"⟩
abbrev cX12_isFree : ByteArray := prog_14_method_42_code
def yX12_isFree : MethodName := ⟨RX12, "isFree", "(I)Z"⟩
abbrev cX12_mayWed : ByteArray := prog_14_method_43_code
def yX12_mayWed : MethodName := ⟨RX12, "mayWed", "(II)Z"⟩
abbrev cX12_isLawful : ByteArray := prog_14_method_44_code
def yX12_isLawful : MethodName := ⟨RX12, "isLawful", "(I)Z"⟩
abbrev cX12_takes : ByteArray := prog_14_method_45_code
def yX12_takes : MethodName := ⟨RX12, "takes", "(II)I"⟩
abbrev cX12_weds : ByteArray := prog_14_method_46_code
def yX12_weds : MethodName := ⟨RX12, "weds", "(I)V"⟩
abbrev cX12_parts : ByteArray := prog_14_method_47_code
def yX12_parts : MethodName := ⟨RX12, "parts", "(I)I"⟩
abbrev cX12_does : ByteArray := prog_14_method_48_code
def yX12_does : MethodName := ⟨RX12, "does", "(I)V"⟩
abbrev cX12_goes : ByteArray := prog_14_method_49_code
def yX12_goes : MethodName := ⟨RX12, "goes", "(II)V"⟩
abbrev cX12_goesAll : ByteArray := prog_14_method_50_code
def yX12_goesAll : MethodName := ⟨RX12, "goesAll", "()V"⟩
abbrev cX12_judged : ByteArray := prog_14_method_51_code
def yX12_judged : MethodName := ⟨RX12, "judged", "()I"⟩
abbrev cX12_moved : ByteArray := prog_14_method_52_code
def yX12_moved : MethodName := ⟨RX12, "moved", "(I)I"⟩
abbrev cX12_isSo : ByteArray := prog_14_method_53_code
def yX12_isSo : MethodName := ⟨RX12, "isSo", "(I)Z"⟩
abbrev cX12_widthOf : ByteArray := prog_14_method_54_code
def yX12_widthOf : MethodName := ⟨RX12, "widthOf", "(III)I"⟩
abbrev cX12_width : ByteArray := prog_14_method_55_code
def yX12_width : MethodName := ⟨RX12, "width", "(II)I"⟩
abbrev cX12_stateNow : ByteArray := prog_14_method_56_code
def yX12_stateNow : MethodName := ⟨RX12, "stateNow", "(II)I"⟩
abbrev cX12_state : ByteArray := prog_14_method_57_code
def yX12_state : MethodName := ⟨RX12, "state", "(III)I"⟩
abbrev cX12_nobody : ByteArray := prog_14_method_58_code
def yX12_nobody : MethodName := ⟨RX12, "nobody", "(I)I"⟩
abbrev cX12_gain : ByteArray := prog_14_method_59_code
def yX12_gain : MethodName := ⟨RX12, "gain", "(II)I"⟩
abbrev cX12_findMost : ByteArray := prog_14_method_60_code
def yX12_findMost : MethodName := ⟨RX12, "findMost", "(I)V"⟩
abbrev cX12_isUseful : ByteArray := prog_14_method_61_code
def yX12_isUseful : MethodName := ⟨RX12, "isUseful", "(III)Z"⟩
abbrev cX12_keepsMost : ByteArray := prog_14_method_62_code
def yX12_keepsMost : MethodName := ⟨RX12, "keepsMost", "(I)V"⟩
abbrev cX12_reachOf : ByteArray := prog_14_method_63_code
def yX12_reachOf : MethodName := ⟨RX12, "reachOf", "(II)I"⟩
abbrev cX12_reach : ByteArray := prog_14_method_64_code
def yX12_reach : MethodName := ⟨RX12, "reach", "(II)I"⟩
abbrev cX12_growsOf : ByteArray := prog_14_method_65_code
def yX12_growsOf : MethodName := ⟨RX12, "growsOf", "(II)I"⟩
abbrev cX12_grows : ByteArray := prog_14_method_66_code
def yX12_grows : MethodName := ⟨RX12, "grows", "(II)I"⟩
abbrev cX12_wouldLeave : ByteArray := prog_14_method_67_code
def yX12_wouldLeave : MethodName := ⟨RX12, "wouldLeave", "(II)Z"⟩
abbrev cX12_leaveNow : ByteArray := prog_14_method_68_code
def yX12_leaveNow : MethodName := ⟨RX12, "leaveNow", "()I"⟩
abbrev cX12_leave : ByteArray := prog_14_method_69_code
def yX12_leave : MethodName := ⟨RX12, "leave", "()I"⟩
abbrev cX12_survey : ByteArray := prog_14_method_70_code
def yX12_survey : MethodName := ⟨RX12, "survey", "(III)I"⟩
abbrev cX12_forget : ByteArray := prog_14_method_71_code
def yX12_forget : MethodName := ⟨RX12, "forget", "()I"⟩
abbrev cX12_canBeAsked : ByteArray := prog_14_method_72_code
def yX12_canBeAsked : MethodName := ⟨RX12, "canBeAsked", "(I)Z"⟩
abbrev cX12_isRight : ByteArray := prog_14_method_73_code
def yX12_isRight : MethodName := ⟨RX12, "isRight", "(I)Z"⟩
abbrev cX12_forgedOf : ByteArray := prog_14_method_74_code
def yX12_forgedOf : MethodName := ⟨RX12, "forgedOf", "(I)I"⟩
abbrev cX12_forged : ByteArray := prog_14_method_75_code
def yX12_forged : MethodName := ⟨RX12, "forged", "(I)I"⟩
abbrev cX12_unlikeNow : ByteArray := prog_14_method_76_code
def yX12_unlikeNow : MethodName := ⟨RX12, "unlikeNow", "()I"⟩
abbrev cX12_unlike : ByteArray := prog_14_method_77_code
def yX12_unlike : MethodName := ⟨RX12, "unlike", "()I"⟩
abbrev cX12_withoutOf : ByteArray := prog_14_method_78_code
def yX12_withoutOf : MethodName := ⟨RX12, "withoutOf", "(II)I"⟩
abbrev cX12_without : ByteArray := prog_14_method_79_code
def yX12_without : MethodName := ⟨RX12, "without", "(II)I"⟩
abbrev cX12_blameOf : ByteArray := prog_14_method_80_code
def yX12_blameOf : MethodName := ⟨RX12, "blameOf", "(I)I"⟩
abbrev cX12_blame : ByteArray := prog_14_method_81_code
def yX12_blame : MethodName := ⟨RX12, "blame", "(I)I"⟩
abbrev cX12_freeOf : ByteArray := prog_14_method_82_code
def yX12_freeOf : MethodName := ⟨RX12, "freeOf", "(I[I)I"⟩
abbrev cX12_mayPick : ByteArray := prog_14_method_83_code
def yX12_mayPick : MethodName := ⟨RX12, "mayPick", "(II)Z"⟩
abbrev cX12_widthBehind : ByteArray := prog_14_method_84_code
def yX12_widthBehind : MethodName := ⟨RX12, "widthBehind", "(III)I"⟩
abbrev cX12_turnsOf : ByteArray := prog_14_method_85_code
def yX12_turnsOf : MethodName := ⟨RX12, "turnsOf", "(III)I"⟩
abbrev cX12_enters : ByteArray := prog_14_method_86_code
def yX12_enters : MethodName := ⟨RX12, "enters", "(III)V"⟩
abbrev cX12_keeps : ByteArray := prog_14_method_87_code
def yX12_keeps : MethodName := ⟨RX12, "keeps", "(II)V"⟩
abbrev cX12_turnsBy : ByteArray := prog_14_method_88_code
def yX12_turnsBy : MethodName := ⟨RX12, "turnsBy", "(III)I"⟩
abbrev cX12_lords : ByteArray := prog_14_method_89_code
def yX12_lords : MethodName := ⟨RX12, "lords", "(III)I"⟩
abbrev cX12_write : ByteArray := prog_14_method_90_code
def yX12_write : MethodName := ⟨RX12, "write", "(II)I"⟩
abbrev cX12_count : ByteArray := prog_14_method_91_code
def yX12_count : MethodName := ⟨RX12, "count", "(I)I"⟩
abbrev cX12_digest : ByteArray := prog_14_method_92_code
def yX12_digest : MethodName := ⟨RX12, "digest", "()J"⟩
def RJ7 : String := "java/util/Arrays"
abbrev cJ7_fill_53178 : ByteArray := prog_17_method_103_code
def yJ7_fill_53178 : MethodName := ⟨RJ7, "fill", "([II)V"⟩
def RL : String := "MarriedMapLaw"
abbrev cL_law : ByteArray := code
def yL_law : MethodName := ⟨RL, "law", "([I)Z"⟩
abbrev vwCl : List vw_C := [(RX0, TX0, 5), (RX1, TX1, 10), (RX2, TX2, 6), (RX3, TX3, 3), (RX4, TX4, 6), (RX5, TX5, 3), (RX6, TX6, 1), (RX7, TX7, 4), (RX8, TX8, 2), (RX9, TX9, 3), (RX10, TX10, 14), (RX11, TX11, 12), (RX12, TX12, 41)]
end
section
theorem dX0_init_0 : decode cX0_init 0 = .ok (.aload_n 0, 1) := by decide +kernel
theorem dX0_init_1 : decode cX0_init 1 = .ok (.invokespecial 3, 3) := by decide +kernel
theorem dX0_init_4 : decode cX0_init 4 = .ok (.aload_n 0, 1) := by decide +kernel
theorem dX0_init_5 : decode cX0_init 5 = .ok (.bipush 36, 2) := by decide +kernel
theorem dX0_init_7 : decode cX0_init 7 = .ok (.newarray .int, 2) := by decide +kernel
theorem dX0_init_9 : decode cX0_init 9 = .ok (.putfield 9, 3) := by decide +kernel
theorem dX0_init_12 : decode cX0_init 12 = .ok (.aload_n 0, 1) := by decide +kernel
theorem dX0_init_13 : decode cX0_init 13 = .ok (.bipush 36, 2) := by decide +kernel
theorem dX0_init_15 : decode cX0_init 15 = .ok (.newarray .int, 2) := by decide +kernel
theorem dX0_init_17 : decode cX0_init 17 = .ok (.putfield 15, 3) := by decide +kernel
theorem dX0_init_20 : decode cX0_init 20 = .ok (.aload_n 0, 1) := by decide +kernel
theorem dX0_init_21 : decode cX0_init 21 = .ok (.iconst 0, 1) := by decide +kernel
theorem dX0_init_22 : decode cX0_init 22 = .ok (.putfield 18, 3) := by decide +kernel
theorem dX0_init_25 : decode cX0_init 25 = .ok (.aload_n 0, 1) := by decide +kernel
theorem dX0_init_26 : decode cX0_init 26 = .ok (.aload_n 1, 1) := by decide +kernel
theorem dX0_init_27 : decode cX0_init 27 = .ok (.putfield 22, 3) := by decide +kernel
theorem dX0_init_30 : decode cX0_init 30 = .ok (.aload_n 0, 1) := by decide +kernel
theorem dX0_init_31 : decode cX0_init 31 = .ok (.aload_n 2, 1) := by decide +kernel
theorem dX0_init_32 : decode cX0_init 32 = .ok (.putfield 26, 3) := by decide +kernel
theorem dX0_init_35 : decode cX0_init 35 = .ok (.return_, 1) := by decide +kernel
theorem dX0_number_0 : decode cX0_number 0 = .ok (.aload_n 0, 1) := by decide +kernel
theorem dX0_number_1 : decode cX0_number 1 = .ok (.getfield 18, 3) := by decide +kernel
theorem dX0_number_4 : decode cX0_number 4 = .ok (.ireturn, 1) := by decide +kernel
theorem dX0_clear_0 : decode cX0_clear 0 = .ok (.aload_n 0, 1) := by decide +kernel
theorem dX0_clear_1 : decode cX0_clear 1 = .ok (.iconst 0, 1) := by decide +kernel
theorem dX0_clear_2 : decode cX0_clear 2 = .ok (.putfield 18, 3) := by decide +kernel
theorem dX0_clear_5 : decode cX0_clear 5 = .ok (.return_, 1) := by decide +kernel
theorem dX0_gather_0 : decode cX0_gather 0 = .ok (.iconst 0, 1) := by decide +kernel
theorem dX0_gather_1 : decode cX0_gather 1 = .ok (.istore_n 3, 1) := by decide +kernel
theorem dX0_gather_2 : decode cX0_gather 2 = .ok (.iload_n 3, 1) := by decide +kernel
theorem dX0_gather_3 : decode cX0_gather 3 = .ok (.aload_n 0, 1) := by decide +kernel
theorem dX0_gather_4 : decode cX0_gather 4 = .ok (.getfield 26, 3) := by decide +kernel
theorem dX0_gather_7 : decode cX0_gather 7 = .ok (.invokevirtual 30, 3) := by decide +kernel
theorem dX0_gather_10 : decode cX0_gather 10 = .ok (.if_icmp .ge 108, 3) := by decide +kernel
theorem dX0_gather_13 : decode cX0_gather 13 = .ok (.iconst 0, 1) := by decide +kernel
theorem dX0_gather_14 : decode cX0_gather 14 = .ok (.istore 4, 2) := by decide +kernel
theorem dX0_gather_16 : decode cX0_gather 16 = .ok (.iload 4, 2) := by decide +kernel
theorem dX0_gather_18 : decode cX0_gather 18 = .ok (.aload_n 0, 1) := by decide +kernel
theorem dX0_gather_19 : decode cX0_gather 19 = .ok (.getfield 26, 3) := by decide +kernel
theorem dX0_gather_22 : decode cX0_gather 22 = .ok (.invokevirtual 30, 3) := by decide +kernel
theorem dX0_gather_25 : decode cX0_gather 25 = .ok (.if_icmp .ge 87, 3) := by decide +kernel
theorem dX0_gather_28 : decode cX0_gather 28 = .ok (.aload_n 0, 1) := by decide +kernel
theorem dX0_gather_29 : decode cX0_gather 29 = .ok (.getfield 26, 3) := by decide +kernel
theorem dX0_gather_32 : decode cX0_gather 32 = .ok (.iload_n 3, 1) := by decide +kernel
theorem dX0_gather_33 : decode cX0_gather 33 = .ok (.invokevirtual 35, 3) := by decide +kernel
theorem dX0_gather_36 : decode cX0_gather 36 = .ok (.iload_n 1, 1) := by decide +kernel
theorem dX0_gather_37 : decode cX0_gather 37 = .ok (.if_icmp .ne 69, 3) := by decide +kernel
theorem dX0_gather_40 : decode cX0_gather 40 = .ok (.aload_n 0, 1) := by decide +kernel
theorem dX0_gather_41 : decode cX0_gather 41 = .ok (.getfield 26, 3) := by decide +kernel
theorem dX0_gather_44 : decode cX0_gather 44 = .ok (.iload 4, 2) := by decide +kernel
theorem dX0_gather_46 : decode cX0_gather 46 = .ok (.invokevirtual 35, 3) := by decide +kernel
theorem dX0_gather_49 : decode cX0_gather 49 = .ok (.iload_n 2, 1) := by decide +kernel
theorem dX0_gather_50 : decode cX0_gather 50 = .ok (.if_icmp .ne 56, 3) := by decide +kernel
theorem dX0_gather_53 : decode cX0_gather 53 = .ok (.aload_n 0, 1) := by decide +kernel
theorem dX0_gather_54 : decode cX0_gather 54 = .ok (.getfield 22, 3) := by decide +kernel
theorem dX0_gather_57 : decode cX0_gather 57 = .ok (.iload_n 3, 1) := by decide +kernel
theorem dX0_gather_58 : decode cX0_gather 58 = .ok (.iload 4, 2) := by decide +kernel
theorem dX0_gather_60 : decode cX0_gather 60 = .ok (.invokevirtual 39, 3) := by decide +kernel
theorem dX0_gather_63 : decode cX0_gather 63 = .ok (.ifCond .eq 43, 3) := by decide +kernel
theorem dX0_gather_66 : decode cX0_gather 66 = .ok (.aload_n 0, 1) := by decide +kernel
theorem dX0_gather_67 : decode cX0_gather 67 = .ok (.getfield 18, 3) := by decide +kernel
theorem dX0_gather_70 : decode cX0_gather 70 = .ok (.bipush 36, 2) := by decide +kernel
theorem dX0_gather_72 : decode cX0_gather 72 = .ok (.if_icmp .ge 34, 3) := by decide +kernel
theorem dX0_gather_75 : decode cX0_gather 75 = .ok (.aload_n 0, 1) := by decide +kernel
theorem dX0_gather_76 : decode cX0_gather 76 = .ok (.getfield 9, 3) := by decide +kernel
theorem dX0_gather_79 : decode cX0_gather 79 = .ok (.aload_n 0, 1) := by decide +kernel
theorem dX0_gather_80 : decode cX0_gather 80 = .ok (.getfield 18, 3) := by decide +kernel
theorem dX0_gather_83 : decode cX0_gather 83 = .ok (.iload_n 3, 1) := by decide +kernel
theorem dX0_gather_84 : decode cX0_gather 84 = .ok (.iastore, 1) := by decide +kernel
theorem dX0_gather_85 : decode cX0_gather 85 = .ok (.aload_n 0, 1) := by decide +kernel
theorem dX0_gather_86 : decode cX0_gather 86 = .ok (.getfield 15, 3) := by decide +kernel
theorem dX0_gather_89 : decode cX0_gather 89 = .ok (.aload_n 0, 1) := by decide +kernel
theorem dX0_gather_90 : decode cX0_gather 90 = .ok (.getfield 18, 3) := by decide +kernel
theorem dX0_gather_93 : decode cX0_gather 93 = .ok (.iload 4, 2) := by decide +kernel
theorem dX0_gather_95 : decode cX0_gather 95 = .ok (.iastore, 1) := by decide +kernel
theorem dX0_gather_96 : decode cX0_gather 96 = .ok (.aload_n 0, 1) := by decide +kernel
theorem dX0_gather_97 : decode cX0_gather 97 = .ok (.dup, 1) := by decide +kernel
theorem dX0_gather_98 : decode cX0_gather 98 = .ok (.getfield 18, 3) := by decide +kernel
theorem dX0_gather_101 : decode cX0_gather 101 = .ok (.iconst 1, 1) := by decide +kernel
theorem dX0_gather_102 : decode cX0_gather 102 = .ok (.iadd, 1) := by decide +kernel
theorem dX0_gather_103 : decode cX0_gather 103 = .ok (.putfield 18, 3) := by decide +kernel
theorem dX0_gather_106 : decode cX0_gather 106 = .ok (.iinc 4 1, 3) := by decide +kernel
theorem dX0_gather_109 : decode cX0_gather 109 = .ok (.goto (-93), 3) := by decide +kernel
theorem dX0_gather_112 : decode cX0_gather 112 = .ok (.iinc 3 1, 3) := by decide +kernel
theorem dX0_gather_115 : decode cX0_gather 115 = .ok (.goto (-113), 3) := by decide +kernel
theorem dX0_gather_118 : decode cX0_gather 118 = .ok (.return_, 1) := by decide +kernel
theorem dX0_has_0 : decode cX0_has 0 = .ok (.iload_n 1, 1) := by decide +kernel
theorem dX0_has_1 : decode cX0_has 1 = .ok (.ifCond .lt 15, 3) := by decide +kernel
theorem dX0_has_4 : decode cX0_has 4 = .ok (.iload_n 1, 1) := by decide +kernel
theorem dX0_has_5 : decode cX0_has 5 = .ok (.aload_n 0, 1) := by decide +kernel
theorem dX0_has_6 : decode cX0_has 6 = .ok (.getfield 18, 3) := by decide +kernel
theorem dX0_has_9 : decode cX0_has 9 = .ok (.if_icmp .ge 7, 3) := by decide +kernel
theorem dX0_has_12 : decode cX0_has 12 = .ok (.iconst 1, 1) := by decide +kernel
theorem dX0_has_13 : decode cX0_has 13 = .ok (.goto 4, 3) := by decide +kernel
theorem dX0_has_16 : decode cX0_has 16 = .ok (.iconst 0, 1) := by decide +kernel
theorem dX0_has_17 : decode cX0_has 17 = .ok (.ireturn, 1) := by decide +kernel
theorem dX0_oneOf_0 : decode cX0_oneOf 0 = .ok (.aload_n 0, 1) := by decide +kernel
theorem dX0_oneOf_1 : decode cX0_oneOf 1 = .ok (.iload_n 1, 1) := by decide +kernel
theorem dX0_oneOf_2 : decode cX0_oneOf 2 = .ok (.invokevirtual 45, 3) := by decide +kernel
theorem dX0_oneOf_5 : decode cX0_oneOf 5 = .ok (.ifCond .eq 12, 3) := by decide +kernel
theorem dX0_oneOf_8 : decode cX0_oneOf 8 = .ok (.aload_n 0, 1) := by decide +kernel
theorem dX0_oneOf_9 : decode cX0_oneOf 9 = .ok (.getfield 9, 3) := by decide +kernel
theorem dX0_oneOf_12 : decode cX0_oneOf 12 = .ok (.iload_n 1, 1) := by decide +kernel
theorem dX0_oneOf_13 : decode cX0_oneOf 13 = .ok (.iaload, 1) := by decide +kernel
theorem dX0_oneOf_14 : decode cX0_oneOf 14 = .ok (.goto 4, 3) := by decide +kernel
theorem dX0_oneOf_17 : decode cX0_oneOf 17 = .ok (.iconst (-1), 1) := by decide +kernel
theorem dX0_oneOf_18 : decode cX0_oneOf 18 = .ok (.ireturn, 1) := by decide +kernel
theorem dX0_otherOf_0 : decode cX0_otherOf 0 = .ok (.aload_n 0, 1) := by decide +kernel
theorem dX0_otherOf_1 : decode cX0_otherOf 1 = .ok (.iload_n 1, 1) := by decide +kernel
theorem dX0_otherOf_2 : decode cX0_otherOf 2 = .ok (.invokevirtual 45, 3) := by decide +kernel
theorem dX0_otherOf_5 : decode cX0_otherOf 5 = .ok (.ifCond .eq 12, 3) := by decide +kernel
theorem dX0_otherOf_8 : decode cX0_otherOf 8 = .ok (.aload_n 0, 1) := by decide +kernel
theorem dX0_otherOf_9 : decode cX0_otherOf 9 = .ok (.getfield 15, 3) := by decide +kernel
theorem dX0_otherOf_12 : decode cX0_otherOf 12 = .ok (.iload_n 1, 1) := by decide +kernel
theorem dX0_otherOf_13 : decode cX0_otherOf 13 = .ok (.iaload, 1) := by decide +kernel
theorem dX0_otherOf_14 : decode cX0_otherOf 14 = .ok (.goto 4, 3) := by decide +kernel
theorem dX0_otherOf_17 : decode cX0_otherOf 17 = .ok (.iconst (-1), 1) := by decide +kernel
theorem dX0_otherOf_18 : decode cX0_otherOf 18 = .ok (.ireturn, 1) := by decide +kernel
theorem dX0_bitsOf_0 : decode cX0_bitsOf 0 = .ok (.aload_n 0, 1) := by decide +kernel
theorem dX0_bitsOf_1 : decode cX0_bitsOf 1 = .ok (.iload_n 1, 1) := by decide +kernel
theorem dX0_bitsOf_2 : decode cX0_bitsOf 2 = .ok (.invokevirtual 45, 3) := by decide +kernel
theorem dX0_bitsOf_5 : decode cX0_bitsOf 5 = .ok (.ifCond .eq 23, 3) := by decide +kernel
theorem dX0_bitsOf_8 : decode cX0_bitsOf 8 = .ok (.iconst 1, 1) := by decide +kernel
theorem dX0_bitsOf_9 : decode cX0_bitsOf 9 = .ok (.aload_n 0, 1) := by decide +kernel
theorem dX0_bitsOf_10 : decode cX0_bitsOf 10 = .ok (.getfield 9, 3) := by decide +kernel
theorem dX0_bitsOf_13 : decode cX0_bitsOf 13 = .ok (.iload_n 1, 1) := by decide +kernel
theorem dX0_bitsOf_14 : decode cX0_bitsOf 14 = .ok (.iaload, 1) := by decide +kernel
theorem dX0_bitsOf_15 : decode cX0_bitsOf 15 = .ok (.ishl, 1) := by decide +kernel
theorem dX0_bitsOf_16 : decode cX0_bitsOf 16 = .ok (.iconst 1, 1) := by decide +kernel
theorem dX0_bitsOf_17 : decode cX0_bitsOf 17 = .ok (.aload_n 0, 1) := by decide +kernel
theorem dX0_bitsOf_18 : decode cX0_bitsOf 18 = .ok (.getfield 15, 3) := by decide +kernel
theorem dX0_bitsOf_21 : decode cX0_bitsOf 21 = .ok (.iload_n 1, 1) := by decide +kernel
theorem dX0_bitsOf_22 : decode cX0_bitsOf 22 = .ok (.iaload, 1) := by decide +kernel
theorem dX0_bitsOf_23 : decode cX0_bitsOf 23 = .ok (.ishl, 1) := by decide +kernel
theorem dX0_bitsOf_24 : decode cX0_bitsOf 24 = .ok (.ior, 1) := by decide +kernel
theorem dX0_bitsOf_25 : decode cX0_bitsOf 25 = .ok (.goto 4, 3) := by decide +kernel
theorem dX0_bitsOf_28 : decode cX0_bitsOf 28 = .ok (.iconst 0, 1) := by decide +kernel
theorem dX0_bitsOf_29 : decode cX0_bitsOf 29 = .ok (.ireturn, 1) := by decide +kernel
theorem dX0_differenceOf_0 : decode cX0_differenceOf 0 = .ok (.aload_n 0, 1) := by decide +kernel
theorem dX0_differenceOf_1 : decode cX0_differenceOf 1 = .ok (.getfield 26, 3) := by decide +kernel
theorem dX0_differenceOf_4 : decode cX0_differenceOf 4 = .ok (.aload_n 0, 1) := by decide +kernel
theorem dX0_differenceOf_5 : decode cX0_differenceOf 5 = .ok (.iload_n 1, 1) := by decide +kernel
theorem dX0_differenceOf_6 : decode cX0_differenceOf 6 = .ok (.invokevirtual 49, 3) := by decide +kernel
theorem dX0_differenceOf_9 : decode cX0_differenceOf 9 = .ok (.bipush 6, 2) := by decide +kernel
theorem dX0_differenceOf_11 : decode cX0_differenceOf 11 = .ok (.invokevirtual 52, 3) := by decide +kernel
theorem dX0_differenceOf_14 : decode cX0_differenceOf 14 = .ok (.aload_n 0, 1) := by decide +kernel
theorem dX0_differenceOf_15 : decode cX0_differenceOf 15 = .ok (.getfield 26, 3) := by decide +kernel
theorem dX0_differenceOf_18 : decode cX0_differenceOf 18 = .ok (.aload_n 0, 1) := by decide +kernel
theorem dX0_differenceOf_19 : decode cX0_differenceOf 19 = .ok (.iload_n 1, 1) := by decide +kernel
theorem dX0_differenceOf_20 : decode cX0_differenceOf 20 = .ok (.invokevirtual 56, 3) := by decide +kernel
theorem dX0_differenceOf_23 : decode cX0_differenceOf 23 = .ok (.bipush 6, 2) := by decide +kernel
theorem dX0_differenceOf_25 : decode cX0_differenceOf 25 = .ok (.invokevirtual 52, 3) := by decide +kernel
theorem dX0_differenceOf_28 : decode cX0_differenceOf 28 = .ok (.isub, 1) := by decide +kernel
theorem dX0_differenceOf_29 : decode cX0_differenceOf 29 = .ok (.ireturn, 1) := by decide +kernel
theorem dX1_init_0 : decode cX1_init 0 = .ok (.aload_n 0, 1) := by decide +kernel
theorem dX1_init_1 : decode cX1_init 1 = .ok (.invokespecial 3, 3) := by decide +kernel
theorem dX1_init_4 : decode cX1_init 4 = .ok (.aload_n 0, 1) := by decide +kernel
theorem dX1_init_5 : decode cX1_init 5 = .ok (.bipush 36, 2) := by decide +kernel
theorem dX1_init_7 : decode cX1_init 7 = .ok (.newarray .int, 2) := by decide +kernel
theorem dX1_init_9 : decode cX1_init 9 = .ok (.putfield 9, 3) := by decide +kernel
theorem dX1_init_12 : decode cX1_init 12 = .ok (.aload_n 0, 1) := by decide +kernel
theorem dX1_init_13 : decode cX1_init 13 = .ok (.bipush 36, 2) := by decide +kernel
theorem dX1_init_15 : decode cX1_init 15 = .ok (.newarray .int, 2) := by decide +kernel
theorem dX1_init_17 : decode cX1_init 17 = .ok (.putfield 15, 3) := by decide +kernel
theorem dX1_init_20 : decode cX1_init 20 = .ok (.aload_n 0, 1) := by decide +kernel
theorem dX1_init_21 : decode cX1_init 21 = .ok (.bipush 7, 2) := by decide +kernel
theorem dX1_init_23 : decode cX1_init 23 = .ok (.newarray .int, 2) := by decide +kernel
theorem dX1_init_25 : decode cX1_init 25 = .ok (.putfield 18, 3) := by decide +kernel
theorem dX1_init_28 : decode cX1_init 28 = .ok (.aload_n 0, 1) := by decide +kernel
theorem dX1_init_29 : decode cX1_init 29 = .ok (.iconst 0, 1) := by decide +kernel
theorem dX1_init_30 : decode cX1_init 30 = .ok (.putfield 21, 3) := by decide +kernel
theorem dX1_init_33 : decode cX1_init 33 = .ok (.aload_n 0, 1) := by decide +kernel
theorem dX1_init_34 : decode cX1_init 34 = .ok (.iconst 0, 1) := by decide +kernel
theorem dX1_init_35 : decode cX1_init 35 = .ok (.putfield 25, 3) := by decide +kernel
theorem dX1_init_38 : decode cX1_init 38 = .ok (.aload_n 0, 1) := by decide +kernel
theorem dX1_init_39 : decode cX1_init 39 = .ok (.iconst 0, 1) := by decide +kernel
theorem dX1_init_40 : decode cX1_init 40 = .ok (.putfield 28, 3) := by decide +kernel
theorem dX1_init_43 : decode cX1_init 43 = .ok (.aload_n 0, 1) := by decide +kernel
theorem dX1_init_44 : decode cX1_init 44 = .ok (.iconst 0, 1) := by decide +kernel
theorem dX1_init_45 : decode cX1_init 45 = .ok (.putfield 31, 3) := by decide +kernel
theorem dX1_init_48 : decode cX1_init 48 = .ok (.aload_n 0, 1) := by decide +kernel
theorem dX1_init_49 : decode cX1_init 49 = .ok (.iconst 0, 1) := by decide +kernel
theorem dX1_init_50 : decode cX1_init 50 = .ok (.putfield 34, 3) := by decide +kernel
theorem dX1_init_53 : decode cX1_init 53 = .ok (.aload_n 0, 1) := by decide +kernel
theorem dX1_init_54 : decode cX1_init 54 = .ok (.aload_n 1, 1) := by decide +kernel
theorem dX1_init_55 : decode cX1_init 55 = .ok (.putfield 37, 3) := by decide +kernel
theorem dX1_init_58 : decode cX1_init 58 = .ok (.aload_n 0, 1) := by decide +kernel
theorem dX1_init_59 : decode cX1_init 59 = .ok (.new 41, 3) := by decide +kernel
theorem dX1_init_62 : decode cX1_init 62 = .ok (.dup, 1) := by decide +kernel
theorem dX1_init_63 : decode cX1_init 63 = .ok (.aload_n 1, 1) := by decide +kernel
theorem dX1_init_64 : decode cX1_init 64 = .ok (.aload_n 2, 1) := by decide +kernel
theorem dX1_init_65 : decode cX1_init 65 = .ok (.invokespecial 43, 3) := by decide +kernel
theorem dX1_init_68 : decode cX1_init 68 = .ok (.putfield 46, 3) := by decide +kernel
theorem dX1_init_71 : decode cX1_init 71 = .ok (.return_, 1) := by decide +kernel
theorem dX1_fewestFor_0 : decode cX1_fewestFor 0 = .ok (.aload_n 0, 1) := by decide +kernel
theorem dX1_fewestFor_1 : decode cX1_fewestFor 1 = .ok (.iload_n 1, 1) := by decide +kernel
theorem dX1_fewestFor_2 : decode cX1_fewestFor 2 = .ok (.bipush 6, 2) := by decide +kernel
theorem dX1_fewestFor_4 : decode cX1_fewestFor 4 = .ok (.invokevirtual 50, 3) := by decide +kernel
theorem dX1_fewestFor_7 : decode cX1_fewestFor 7 = .ok (.iconst 0, 1) := by decide +kernel
theorem dX1_fewestFor_8 : decode cX1_fewestFor 8 = .ok (.istore_n 3, 1) := by decide +kernel
theorem dX1_fewestFor_9 : decode cX1_fewestFor 9 = .ok (.iload_n 3, 1) := by decide +kernel
theorem dX1_fewestFor_10 : decode cX1_fewestFor 10 = .ok (.bipush 6, 2) := by decide +kernel
theorem dX1_fewestFor_12 : decode cX1_fewestFor 12 = .ok (.if_icmp .gt 21, 3) := by decide +kernel
theorem dX1_fewestFor_15 : decode cX1_fewestFor 15 = .ok (.aload_n 0, 1) := by decide +kernel
theorem dX1_fewestFor_16 : decode cX1_fewestFor 16 = .ok (.getfield 18, 3) := by decide +kernel
theorem dX1_fewestFor_19 : decode cX1_fewestFor 19 = .ok (.iload_n 3, 1) := by decide +kernel
theorem dX1_fewestFor_20 : decode cX1_fewestFor 20 = .ok (.iaload, 1) := by decide +kernel
theorem dX1_fewestFor_21 : decode cX1_fewestFor 21 = .ok (.iload_n 2, 1) := by decide +kernel
theorem dX1_fewestFor_22 : decode cX1_fewestFor 22 = .ok (.if_icmp .lt 5, 3) := by decide +kernel
theorem dX1_fewestFor_25 : decode cX1_fewestFor 25 = .ok (.iload_n 3, 1) := by decide +kernel
theorem dX1_fewestFor_26 : decode cX1_fewestFor 26 = .ok (.ireturn, 1) := by decide +kernel
theorem dX1_fewestFor_27 : decode cX1_fewestFor 27 = .ok (.iinc 3 1, 3) := by decide +kernel
theorem dX1_fewestFor_30 : decode cX1_fewestFor 30 = .ok (.goto (-21), 3) := by decide +kernel
theorem dX1_fewestFor_33 : decode cX1_fewestFor 33 = .ok (.iconst (-1), 1) := by decide +kernel
theorem dX1_fewestFor_34 : decode cX1_fewestFor 34 = .ok (.ireturn, 1) := by decide +kernel
theorem dX1_widestBy_0 : decode cX1_widestBy 0 = .ok (.aload_n 0, 1) := by decide +kernel
theorem dX1_widestBy_1 : decode cX1_widestBy 1 = .ok (.iload_n 1, 1) := by decide +kernel
theorem dX1_widestBy_2 : decode cX1_widestBy 2 = .ok (.iload_n 2, 1) := by decide +kernel
theorem dX1_widestBy_3 : decode cX1_widestBy 3 = .ok (.invokevirtual 50, 3) := by decide +kernel
theorem dX1_widestBy_6 : decode cX1_widestBy 6 = .ok (.iconst (-1), 1) := by decide +kernel
theorem dX1_widestBy_7 : decode cX1_widestBy 7 = .ok (.istore_n 3, 1) := by decide +kernel
theorem dX1_widestBy_8 : decode cX1_widestBy 8 = .ok (.aload_n 0, 1) := by decide +kernel
theorem dX1_widestBy_9 : decode cX1_widestBy 9 = .ok (.getfield 18, 3) := by decide +kernel
theorem dX1_widestBy_12 : decode cX1_widestBy 12 = .ok (.astore 4, 2) := by decide +kernel
theorem dX1_widestBy_14 : decode cX1_widestBy 14 = .ok (.aload 4, 2) := by decide +kernel
theorem dX1_widestBy_16 : decode cX1_widestBy 16 = .ok (.arraylength, 1) := by decide +kernel
theorem dX1_widestBy_17 : decode cX1_widestBy 17 = .ok (.istore 5, 2) := by decide +kernel
theorem dX1_widestBy_19 : decode cX1_widestBy 19 = .ok (.iconst 0, 1) := by decide +kernel
theorem dX1_widestBy_20 : decode cX1_widestBy 20 = .ok (.istore 6, 2) := by decide +kernel
theorem dX1_widestBy_22 : decode cX1_widestBy 22 = .ok (.iload 6, 2) := by decide +kernel
theorem dX1_widestBy_24 : decode cX1_widestBy 24 = .ok (.iload 5, 2) := by decide +kernel
theorem dX1_widestBy_26 : decode cX1_widestBy 26 = .ok (.if_icmp .ge 23, 3) := by decide +kernel
theorem dX1_widestBy_29 : decode cX1_widestBy 29 = .ok (.aload 4, 2) := by decide +kernel
theorem dX1_widestBy_31 : decode cX1_widestBy 31 = .ok (.iload 6, 2) := by decide +kernel
theorem dX1_widestBy_33 : decode cX1_widestBy 33 = .ok (.iaload, 1) := by decide +kernel
theorem dX1_widestBy_34 : decode cX1_widestBy 34 = .ok (.istore 7, 2) := by decide +kernel
theorem dX1_widestBy_36 : decode cX1_widestBy 36 = .ok (.iload_n 3, 1) := by decide +kernel
theorem dX1_widestBy_37 : decode cX1_widestBy 37 = .ok (.iload 7, 2) := by decide +kernel
theorem dX1_widestBy_39 : decode cX1_widestBy 39 = .ok (.invokestatic 54, 3) := by decide +kernel
theorem dX1_widestBy_42 : decode cX1_widestBy 42 = .ok (.istore_n 3, 1) := by decide +kernel
theorem dX1_widestBy_43 : decode cX1_widestBy 43 = .ok (.iinc 6 1, 3) := by decide +kernel
theorem dX1_widestBy_46 : decode cX1_widestBy 46 = .ok (.goto (-24), 3) := by decide +kernel
theorem dX1_widestBy_49 : decode cX1_widestBy 49 = .ok (.iload_n 3, 1) := by decide +kernel
theorem dX1_widestBy_50 : decode cX1_widestBy 50 = .ok (.ireturn, 1) := by decide +kernel
theorem dX1_search_0 : decode cX1_search 0 = .ok (.aload_n 0, 1) := by decide +kernel
theorem dX1_search_1 : decode cX1_search 1 = .ok (.aload_n 0, 1) := by decide +kernel
theorem dX1_search_2 : decode cX1_search 2 = .ok (.getfield 37, 3) := by decide +kernel
theorem dX1_search_5 : decode cX1_search 5 = .ok (.iload_n 1, 1) := by decide +kernel
theorem dX1_search_6 : decode cX1_search 6 = .ok (.invokevirtual 60, 3) := by decide +kernel
theorem dX1_search_9 : decode cX1_search 9 = .ok (.putfield 21, 3) := by decide +kernel
theorem dX1_search_12 : decode cX1_search 12 = .ok (.aload_n 0, 1) := by decide +kernel
theorem dX1_search_13 : decode cX1_search 13 = .ok (.aload_n 0, 1) := by decide +kernel
theorem dX1_search_14 : decode cX1_search 14 = .ok (.getfield 37, 3) := by decide +kernel
theorem dX1_search_17 : decode cX1_search 17 = .ok (.iload_n 1, 1) := by decide +kernel
theorem dX1_search_18 : decode cX1_search 18 = .ok (.iconst 1, 1) := by decide +kernel
theorem dX1_search_19 : decode cX1_search 19 = .ok (.isub, 1) := by decide +kernel
theorem dX1_search_20 : decode cX1_search 20 = .ok (.invokevirtual 60, 3) := by decide +kernel
theorem dX1_search_23 : decode cX1_search 23 = .ok (.putfield 25, 3) := by decide +kernel
theorem dX1_search_26 : decode cX1_search 26 = .ok (.aload_n 0, 1) := by decide +kernel
theorem dX1_search_27 : decode cX1_search 27 = .ok (.aload_n 0, 1) := by decide +kernel
theorem dX1_search_28 : decode cX1_search 28 = .ok (.getfield 37, 3) := by decide +kernel
theorem dX1_search_31 : decode cX1_search 31 = .ok (.iload_n 1, 1) := by decide +kernel
theorem dX1_search_32 : decode cX1_search 32 = .ok (.iconst 1, 1) := by decide +kernel
theorem dX1_search_33 : decode cX1_search 33 = .ok (.iadd, 1) := by decide +kernel
theorem dX1_search_34 : decode cX1_search 34 = .ok (.invokevirtual 60, 3) := by decide +kernel
theorem dX1_search_37 : decode cX1_search 37 = .ok (.putfield 28, 3) := by decide +kernel
theorem dX1_search_40 : decode cX1_search 40 = .ok (.aload_n 0, 1) := by decide +kernel
theorem dX1_search_41 : decode cX1_search 41 = .ok (.iload_n 2, 1) := by decide +kernel
theorem dX1_search_42 : decode cX1_search 42 = .ok (.bipush 6, 2) := by decide +kernel
theorem dX1_search_44 : decode cX1_search 44 = .ok (.invokestatic 66, 3) := by decide +kernel
theorem dX1_search_47 : decode cX1_search 47 = .ok (.putfield 34, 3) := by decide +kernel
theorem dX1_search_50 : decode cX1_search 50 = .ok (.aload_n 0, 1) := by decide +kernel
theorem dX1_search_51 : decode cX1_search 51 = .ok (.getfield 46, 3) := by decide +kernel
theorem dX1_search_54 : decode cX1_search 54 = .ok (.invokevirtual 69, 3) := by decide +kernel
theorem dX1_search_57 : decode cX1_search 57 = .ok (.aload_n 0, 1) := by decide +kernel
theorem dX1_search_58 : decode cX1_search 58 = .ok (.getfield 46, 3) := by decide +kernel
theorem dX1_search_61 : decode cX1_search 61 = .ok (.iload_n 1, 1) := by decide +kernel
theorem dX1_search_62 : decode cX1_search 62 = .ok (.iload_n 1, 1) := by decide +kernel
theorem dX1_search_63 : decode cX1_search 63 = .ok (.iconst 1, 1) := by decide +kernel
theorem dX1_search_64 : decode cX1_search 64 = .ok (.isub, 1) := by decide +kernel
theorem dX1_search_65 : decode cX1_search 65 = .ok (.invokevirtual 72, 3) := by decide +kernel
theorem dX1_search_68 : decode cX1_search 68 = .ok (.aload_n 0, 1) := by decide +kernel
theorem dX1_search_69 : decode cX1_search 69 = .ok (.aload_n 0, 1) := by decide +kernel
theorem dX1_search_70 : decode cX1_search 70 = .ok (.getfield 46, 3) := by decide +kernel
theorem dX1_search_73 : decode cX1_search 73 = .ok (.invokevirtual 75, 3) := by decide +kernel
theorem dX1_search_76 : decode cX1_search 76 = .ok (.putfield 31, 3) := by decide +kernel
theorem dX1_search_79 : decode cX1_search 79 = .ok (.aload_n 0, 1) := by decide +kernel
theorem dX1_search_80 : decode cX1_search 80 = .ok (.getfield 46, 3) := by decide +kernel
theorem dX1_search_83 : decode cX1_search 83 = .ok (.iload_n 1, 1) := by decide +kernel
theorem dX1_search_84 : decode cX1_search 84 = .ok (.iload_n 1, 1) := by decide +kernel
theorem dX1_search_85 : decode cX1_search 85 = .ok (.iconst 1, 1) := by decide +kernel
theorem dX1_search_86 : decode cX1_search 86 = .ok (.iadd, 1) := by decide +kernel
theorem dX1_search_87 : decode cX1_search 87 = .ok (.invokevirtual 72, 3) := by decide +kernel
theorem dX1_search_90 : decode cX1_search 90 = .ok (.iconst 0, 1) := by decide +kernel
theorem dX1_search_91 : decode cX1_search 91 = .ok (.istore_n 3, 1) := by decide +kernel
theorem dX1_search_92 : decode cX1_search 92 = .ok (.iload_n 3, 1) := by decide +kernel
theorem dX1_search_93 : decode cX1_search 93 = .ok (.aload_n 0, 1) := by decide +kernel
theorem dX1_search_94 : decode cX1_search 94 = .ok (.getfield 46, 3) := by decide +kernel
theorem dX1_search_97 : decode cX1_search 97 = .ok (.invokevirtual 75, 3) := by decide +kernel
theorem dX1_search_100 : decode cX1_search 100 = .ok (.if_icmp .ge 43, 3) := by decide +kernel
theorem dX1_search_103 : decode cX1_search 103 = .ok (.iload_n 3, 1) := by decide +kernel
theorem dX1_search_104 : decode cX1_search 104 = .ok (.bipush 36, 2) := by decide +kernel
theorem dX1_search_106 : decode cX1_search 106 = .ok (.if_icmp .ge 37, 3) := by decide +kernel
theorem dX1_search_109 : decode cX1_search 109 = .ok (.aload_n 0, 1) := by decide +kernel
theorem dX1_search_110 : decode cX1_search 110 = .ok (.getfield 9, 3) := by decide +kernel
theorem dX1_search_113 : decode cX1_search 113 = .ok (.iload_n 3, 1) := by decide +kernel
theorem dX1_search_114 : decode cX1_search 114 = .ok (.aload_n 0, 1) := by decide +kernel
theorem dX1_search_115 : decode cX1_search 115 = .ok (.getfield 46, 3) := by decide +kernel
theorem dX1_search_118 : decode cX1_search 118 = .ok (.iload_n 3, 1) := by decide +kernel
theorem dX1_search_119 : decode cX1_search 119 = .ok (.invokevirtual 79, 3) := by decide +kernel
theorem dX1_search_122 : decode cX1_search 122 = .ok (.iastore, 1) := by decide +kernel
theorem dX1_search_123 : decode cX1_search 123 = .ok (.aload_n 0, 1) := by decide +kernel
theorem dX1_search_124 : decode cX1_search 124 = .ok (.getfield 15, 3) := by decide +kernel
theorem dX1_search_127 : decode cX1_search 127 = .ok (.iload_n 3, 1) := by decide +kernel
theorem dX1_search_128 : decode cX1_search 128 = .ok (.aload_n 0, 1) := by decide +kernel
theorem dX1_search_129 : decode cX1_search 129 = .ok (.getfield 46, 3) := by decide +kernel
theorem dX1_search_132 : decode cX1_search 132 = .ok (.iload_n 3, 1) := by decide +kernel
theorem dX1_search_133 : decode cX1_search 133 = .ok (.invokevirtual 82, 3) := by decide +kernel
theorem dX1_search_136 : decode cX1_search 136 = .ok (.iastore, 1) := by decide +kernel
theorem dX1_search_137 : decode cX1_search 137 = .ok (.iinc 3 1, 3) := by decide +kernel
theorem dX1_search_140 : decode cX1_search 140 = .ok (.goto (-48), 3) := by decide +kernel
theorem dX1_search_143 : decode cX1_search 143 = .ok (.aload_n 0, 1) := by decide +kernel
theorem dX1_search_144 : decode cX1_search 144 = .ok (.getfield 18, 3) := by decide +kernel
theorem dX1_search_147 : decode cX1_search 147 = .ok (.iconst (-1), 1) := by decide +kernel
theorem dX1_search_148 : decode cX1_search 148 = .ok (.invokestatic 85, 3) := by decide +kernel
theorem dX1_search_151 : decode cX1_search 151 = .ok (.aload_n 0, 1) := by decide +kernel
theorem dX1_search_152 : decode cX1_search 152 = .ok (.iconst 0, 1) := by decide +kernel
theorem dX1_search_153 : decode cX1_search 153 = .ok (.iconst 0, 1) := by decide +kernel
theorem dX1_search_154 : decode cX1_search 154 = .ok (.iconst 0, 1) := by decide +kernel
theorem dX1_search_155 : decode cX1_search 155 = .ok (.iconst 0, 1) := by decide +kernel
theorem dX1_search_156 : decode cX1_search 156 = .ok (.iconst 0, 1) := by decide +kernel
theorem dX1_search_157 : decode cX1_search 157 = .ok (.invokestatic 91, 3) := by decide +kernel
theorem dX1_search_160 : decode cX1_search 160 = .ok (.return_, 1) := by decide +kernel
theorem dX1_court_0 : decode cX1_court 0 = .ok (.aload_n 0, 1) := by decide +kernel
theorem dX1_court_1 : decode cX1_court 1 = .ok (.iload_n 2, 1) := by decide +kernel
theorem dX1_court_2 : decode cX1_court 2 = .ok (.iload 4, 2) := by decide +kernel
theorem dX1_court_4 : decode cX1_court 4 = .ok (.iload 5, 2) := by decide +kernel
theorem dX1_court_6 : decode cX1_court 6 = .ok (.invokevirtual 95, 3) := by decide +kernel
theorem dX1_court_9 : decode cX1_court 9 = .ok (.iload_n 2, 1) := by decide +kernel
theorem dX1_court_10 : decode cX1_court 10 = .ok (.aload_n 0, 1) := by decide +kernel
theorem dX1_court_11 : decode cX1_court 11 = .ok (.getfield 34, 3) := by decide +kernel
theorem dX1_court_14 : decode cX1_court 14 = .ok (.if_icmp .ge 14, 3) := by decide +kernel
theorem dX1_court_17 : decode cX1_court 17 = .ok (.aload_n 0, 1) := by decide +kernel
theorem dX1_court_18 : decode cX1_court 18 = .ok (.iload 4, 2) := by decide +kernel
theorem dX1_court_20 : decode cX1_court 20 = .ok (.iload 5, 2) := by decide +kernel
theorem dX1_court_22 : decode cX1_court 22 = .ok (.invokevirtual 99, 3) := by decide +kernel
theorem dX1_court_25 : decode cX1_court 25 = .ok (.ifCond .eq 4, 3) := by decide +kernel
theorem dX1_court_28 : decode cX1_court 28 = .ok (.return_, 1) := by decide +kernel
theorem dX1_court_29 : decode cX1_court 29 = .ok (.aload_n 0, 1) := by decide +kernel
theorem dX1_court_30 : decode cX1_court 30 = .ok (.getfield 46, 3) := by decide +kernel
theorem dX1_court_33 : decode cX1_court 33 = .ok (.invokevirtual 75, 3) := by decide +kernel
theorem dX1_court_36 : decode cX1_court 36 = .ok (.bipush 36, 2) := by decide +kernel
theorem dX1_court_38 : decode cX1_court 38 = .ok (.invokestatic 66, 3) := by decide +kernel
theorem dX1_court_41 : decode cX1_court 41 = .ok (.istore 6, 2) := by decide +kernel
theorem dX1_court_43 : decode cX1_court 43 = .ok (.iload_n 1, 1) := by decide +kernel
theorem dX1_court_44 : decode cX1_court 44 = .ok (.iconst 0, 1) := by decide +kernel
theorem dX1_court_45 : decode cX1_court 45 = .ok (.invokestatic 54, 3) := by decide +kernel
theorem dX1_court_48 : decode cX1_court 48 = .ok (.istore 7, 2) := by decide +kernel
theorem dX1_court_50 : decode cX1_court 50 = .ok (.iload 7, 2) := by decide +kernel
theorem dX1_court_52 : decode cX1_court 52 = .ok (.iload 6, 2) := by decide +kernel
theorem dX1_court_54 : decode cX1_court 54 = .ok (.if_icmp .ge 101, 3) := by decide +kernel
theorem dX1_court_57 : decode cX1_court 57 = .ok (.aload_n 0, 1) := by decide +kernel
theorem dX1_court_58 : decode cX1_court 58 = .ok (.getfield 9, 3) := by decide +kernel
theorem dX1_court_61 : decode cX1_court 61 = .ok (.iload 7, 2) := by decide +kernel
theorem dX1_court_63 : decode cX1_court 63 = .ok (.iaload, 1) := by decide +kernel
theorem dX1_court_64 : decode cX1_court 64 = .ok (.istore 8, 2) := by decide +kernel
theorem dX1_court_66 : decode cX1_court 66 = .ok (.iload 8, 2) := by decide +kernel
theorem dX1_court_68 : decode cX1_court 68 = .ok (.ifCond .le 81, 3) := by decide +kernel
theorem dX1_court_71 : decode cX1_court 71 = .ok (.iload_n 3, 1) := by decide +kernel
theorem dX1_court_72 : decode cX1_court 72 = .ok (.aload_n 0, 1) := by decide +kernel
theorem dX1_court_73 : decode cX1_court 73 = .ok (.getfield 15, 3) := by decide +kernel
theorem dX1_court_76 : decode cX1_court 76 = .ok (.iload 7, 2) := by decide +kernel
theorem dX1_court_78 : decode cX1_court 78 = .ok (.iaload, 1) := by decide +kernel
theorem dX1_court_79 : decode cX1_court 79 = .ok (.iand, 1) := by decide +kernel
theorem dX1_court_80 : decode cX1_court 80 = .ok (.ifCond .ne 69, 3) := by decide +kernel
theorem dX1_court_83 : decode cX1_court 83 = .ok (.iload 7, 2) := by decide +kernel
theorem dX1_court_85 : decode cX1_court 85 = .ok (.aload_n 0, 1) := by decide +kernel
theorem dX1_court_86 : decode cX1_court 86 = .ok (.getfield 31, 3) := by decide +kernel
theorem dX1_court_89 : decode cX1_court 89 = .ok (.if_icmp .lt 7, 3) := by decide +kernel
theorem dX1_court_92 : decode cX1_court 92 = .ok (.iconst 1, 1) := by decide +kernel
theorem dX1_court_93 : decode cX1_court 93 = .ok (.goto 4, 3) := by decide +kernel
theorem dX1_court_96 : decode cX1_court 96 = .ok (.iconst 0, 1) := by decide +kernel
theorem dX1_court_97 : decode cX1_court 97 = .ok (.istore 9, 2) := by decide +kernel
theorem dX1_court_99 : decode cX1_court 99 = .ok (.aload_n 0, 1) := by decide +kernel
theorem dX1_court_100 : decode cX1_court 100 = .ok (.iload 7, 2) := by decide +kernel
theorem dX1_court_102 : decode cX1_court 102 = .ok (.iconst 1, 1) := by decide +kernel
theorem dX1_court_103 : decode cX1_court 103 = .ok (.iadd, 1) := by decide +kernel
theorem dX1_court_104 : decode cX1_court 104 = .ok (.iload_n 2, 1) := by decide +kernel
theorem dX1_court_105 : decode cX1_court 105 = .ok (.iconst 1, 1) := by decide +kernel
theorem dX1_court_106 : decode cX1_court 106 = .ok (.iadd, 1) := by decide +kernel
theorem dX1_court_107 : decode cX1_court 107 = .ok (.iload_n 3, 1) := by decide +kernel
theorem dX1_court_108 : decode cX1_court 108 = .ok (.aload_n 0, 1) := by decide +kernel
theorem dX1_court_109 : decode cX1_court 109 = .ok (.getfield 15, 3) := by decide +kernel
theorem dX1_court_112 : decode cX1_court 112 = .ok (.iload 7, 2) := by decide +kernel
theorem dX1_court_114 : decode cX1_court 114 = .ok (.iaload, 1) := by decide +kernel
theorem dX1_court_115 : decode cX1_court 115 = .ok (.ior, 1) := by decide +kernel
theorem dX1_court_116 : decode cX1_court 116 = .ok (.iload 9, 2) := by decide +kernel
theorem dX1_court_118 : decode cX1_court 118 = .ok (.ifCond .eq 8, 3) := by decide +kernel
theorem dX1_court_121 : decode cX1_court 121 = .ok (.iload 4, 2) := by decide +kernel
theorem dX1_court_123 : decode cX1_court 123 = .ok (.goto 8, 3) := by decide +kernel
theorem dX1_court_126 : decode cX1_court 126 = .ok (.iload 4, 2) := by decide +kernel
theorem dX1_court_128 : decode cX1_court 128 = .ok (.iload 8, 2) := by decide +kernel
theorem dX1_court_130 : decode cX1_court 130 = .ok (.iadd, 1) := by decide +kernel
theorem dX1_court_131 : decode cX1_court 131 = .ok (.iload 9, 2) := by decide +kernel
theorem dX1_court_133 : decode cX1_court 133 = .ok (.ifCond .eq 11, 3) := by decide +kernel
theorem dX1_court_136 : decode cX1_court 136 = .ok (.iload 5, 2) := by decide +kernel
theorem dX1_court_138 : decode cX1_court 138 = .ok (.iload 8, 2) := by decide +kernel
theorem dX1_court_140 : decode cX1_court 140 = .ok (.iadd, 1) := by decide +kernel
theorem dX1_court_141 : decode cX1_court 141 = .ok (.goto 5, 3) := by decide +kernel
theorem dX1_court_144 : decode cX1_court 144 = .ok (.iload 5, 2) := by decide +kernel
theorem dX1_court_146 : decode cX1_court 146 = .ok (.invokestatic 91, 3) := by decide +kernel
theorem dX1_court_149 : decode cX1_court 149 = .ok (.iinc 7 1, 3) := by decide +kernel
theorem dX1_court_152 : decode cX1_court 152 = .ok (.goto (-102), 3) := by decide +kernel
theorem dX1_court_155 : decode cX1_court 155 = .ok (.return_, 1) := by decide +kernel
theorem dX1_hasAll_0 : decode cX1_hasAll 0 = .ok (.iload_n 1, 1) := by decide +kernel
theorem dX1_hasAll_1 : decode cX1_hasAll 1 = .ok (.aload_n 0, 1) := by decide +kernel
theorem dX1_hasAll_2 : decode cX1_hasAll 2 = .ok (.getfield 25, 3) := by decide +kernel
theorem dX1_hasAll_5 : decode cX1_hasAll 5 = .ok (.if_icmp .lt 15, 3) := by decide +kernel
theorem dX1_hasAll_8 : decode cX1_hasAll 8 = .ok (.iload_n 2, 1) := by decide +kernel
theorem dX1_hasAll_9 : decode cX1_hasAll 9 = .ok (.aload_n 0, 1) := by decide +kernel
theorem dX1_hasAll_10 : decode cX1_hasAll 10 = .ok (.getfield 28, 3) := by decide +kernel
theorem dX1_hasAll_13 : decode cX1_hasAll 13 = .ok (.if_icmp .lt 7, 3) := by decide +kernel
theorem dX1_hasAll_16 : decode cX1_hasAll 16 = .ok (.iconst 1, 1) := by decide +kernel
theorem dX1_hasAll_17 : decode cX1_hasAll 17 = .ok (.goto 4, 3) := by decide +kernel
theorem dX1_hasAll_20 : decode cX1_hasAll 20 = .ok (.iconst 0, 1) := by decide +kernel
theorem dX1_hasAll_21 : decode cX1_hasAll 21 = .ok (.ireturn, 1) := by decide +kernel
theorem dX1_note_0 : decode cX1_note 0 = .ok (.aload_n 0, 1) := by decide +kernel
theorem dX1_note_1 : decode cX1_note 1 = .ok (.getfield 21, 3) := by decide +kernel
theorem dX1_note_4 : decode cX1_note 4 = .ok (.iload_n 2, 1) := by decide +kernel
theorem dX1_note_5 : decode cX1_note 5 = .ok (.aload_n 0, 1) := by decide +kernel
theorem dX1_note_6 : decode cX1_note 6 = .ok (.getfield 25, 3) := by decide +kernel
theorem dX1_note_9 : decode cX1_note 9 = .ok (.invokestatic 66, 3) := by decide +kernel
theorem dX1_note_12 : decode cX1_note 12 = .ok (.iadd, 1) := by decide +kernel
theorem dX1_note_13 : decode cX1_note 13 = .ok (.iload_n 3, 1) := by decide +kernel
theorem dX1_note_14 : decode cX1_note 14 = .ok (.aload_n 0, 1) := by decide +kernel
theorem dX1_note_15 : decode cX1_note 15 = .ok (.getfield 28, 3) := by decide +kernel
theorem dX1_note_18 : decode cX1_note 18 = .ok (.invokestatic 66, 3) := by decide +kernel
theorem dX1_note_21 : decode cX1_note 21 = .ok (.iadd, 1) := by decide +kernel
theorem dX1_note_22 : decode cX1_note 22 = .ok (.istore 4, 2) := by decide +kernel
theorem dX1_note_24 : decode cX1_note 24 = .ok (.iload_n 1, 1) := by decide +kernel
theorem dX1_note_25 : decode cX1_note 25 = .ok (.ifCond .lt 26, 3) := by decide +kernel
theorem dX1_note_28 : decode cX1_note 28 = .ok (.iload_n 1, 1) := by decide +kernel
theorem dX1_note_29 : decode cX1_note 29 = .ok (.bipush 6, 2) := by decide +kernel
theorem dX1_note_31 : decode cX1_note 31 = .ok (.if_icmp .gt 20, 3) := by decide +kernel
theorem dX1_note_34 : decode cX1_note 34 = .ok (.aload_n 0, 1) := by decide +kernel
theorem dX1_note_35 : decode cX1_note 35 = .ok (.getfield 18, 3) := by decide +kernel
theorem dX1_note_38 : decode cX1_note 38 = .ok (.iload_n 1, 1) := by decide +kernel
theorem dX1_note_39 : decode cX1_note 39 = .ok (.aload_n 0, 1) := by decide +kernel
theorem dX1_note_40 : decode cX1_note 40 = .ok (.getfield 18, 3) := by decide +kernel
theorem dX1_note_43 : decode cX1_note 43 = .ok (.iload_n 1, 1) := by decide +kernel
theorem dX1_note_44 : decode cX1_note 44 = .ok (.iaload, 1) := by decide +kernel
theorem dX1_note_45 : decode cX1_note 45 = .ok (.iload 4, 2) := by decide +kernel
theorem dX1_note_47 : decode cX1_note 47 = .ok (.invokestatic 54, 3) := by decide +kernel
theorem dX1_note_50 : decode cX1_note 50 = .ok (.iastore, 1) := by decide +kernel
theorem dX1_note_51 : decode cX1_note 51 = .ok (.return_, 1) := by decide +kernel
theorem dX2_init_0 : decode cX2_init 0 = .ok (.aload_n 0, 1) := by decide +kernel
theorem dX2_init_1 : decode cX2_init 1 = .ok (.invokespecial 3, 3) := by decide +kernel
theorem dX2_init_4 : decode cX2_init 4 = .ok (.aload_n 0, 1) := by decide +kernel
theorem dX2_init_5 : decode cX2_init 5 = .ok (.bipush 24, 2) := by decide +kernel
theorem dX2_init_7 : decode cX2_init 7 = .ok (.newarray .int, 2) := by decide +kernel
theorem dX2_init_9 : decode cX2_init 9 = .ok (.putfield 9, 3) := by decide +kernel
theorem dX2_init_12 : decode cX2_init 12 = .ok (.aload_n 0, 1) := by decide +kernel
theorem dX2_init_13 : decode cX2_init 13 = .ok (.bipush 24, 2) := by decide +kernel
theorem dX2_init_15 : decode cX2_init 15 = .ok (.newarray .int, 2) := by decide +kernel
theorem dX2_init_17 : decode cX2_init 17 = .ok (.putfield 15, 3) := by decide +kernel
theorem dX2_init_20 : decode cX2_init 20 = .ok (.aload_n 0, 1) := by decide +kernel
theorem dX2_init_21 : decode cX2_init 21 = .ok (.bipush 24, 2) := by decide +kernel
theorem dX2_init_23 : decode cX2_init 23 = .ok (.newarray .int, 2) := by decide +kernel
theorem dX2_init_25 : decode cX2_init 25 = .ok (.putfield 18, 3) := by decide +kernel
theorem dX2_init_28 : decode cX2_init 28 = .ok (.aload_n 0, 1) := by decide +kernel
theorem dX2_init_29 : decode cX2_init 29 = .ok (.bipush 24, 2) := by decide +kernel
theorem dX2_init_31 : decode cX2_init 31 = .ok (.newarray .int, 2) := by decide +kernel
theorem dX2_init_33 : decode cX2_init 33 = .ok (.putfield 21, 3) := by decide +kernel
theorem dX2_init_36 : decode cX2_init 36 = .ok (.aload_n 0, 1) := by decide +kernel
theorem dX2_init_37 : decode cX2_init 37 = .ok (.bipush 24, 2) := by decide +kernel
theorem dX2_init_39 : decode cX2_init 39 = .ok (.newarray .int, 2) := by decide +kernel
theorem dX2_init_41 : decode cX2_init 41 = .ok (.putfield 24, 3) := by decide +kernel
theorem dX2_init_44 : decode cX2_init 44 = .ok (.aload_n 0, 1) := by decide +kernel
theorem dX2_init_45 : decode cX2_init 45 = .ok (.iconst 0, 1) := by decide +kernel
theorem dX2_init_46 : decode cX2_init 46 = .ok (.putfield 27, 3) := by decide +kernel
theorem dX2_init_49 : decode cX2_init 49 = .ok (.return_, 1) := by decide +kernel
theorem dX2_number_0 : decode cX2_number 0 = .ok (.aload_n 0, 1) := by decide +kernel
theorem dX2_number_1 : decode cX2_number 1 = .ok (.getfield 27, 3) := by decide +kernel
theorem dX2_number_4 : decode cX2_number 4 = .ok (.ireturn, 1) := by decide +kernel
theorem dX2_has_0 : decode cX2_has 0 = .ok (.iload_n 1, 1) := by decide +kernel
theorem dX2_has_1 : decode cX2_has 1 = .ok (.ifCond .lt 15, 3) := by decide +kernel
theorem dX2_has_4 : decode cX2_has 4 = .ok (.iload_n 1, 1) := by decide +kernel
theorem dX2_has_5 : decode cX2_has 5 = .ok (.aload_n 0, 1) := by decide +kernel
theorem dX2_has_6 : decode cX2_has 6 = .ok (.getfield 27, 3) := by decide +kernel
theorem dX2_has_9 : decode cX2_has 9 = .ok (.if_icmp .ge 7, 3) := by decide +kernel
theorem dX2_has_12 : decode cX2_has 12 = .ok (.iconst 1, 1) := by decide +kernel
theorem dX2_has_13 : decode cX2_has 13 = .ok (.goto 4, 3) := by decide +kernel
theorem dX2_has_16 : decode cX2_has 16 = .ok (.iconst 0, 1) := by decide +kernel
theorem dX2_has_17 : decode cX2_has 17 = .ok (.ireturn, 1) := by decide +kernel
theorem dX2_isFull_0 : decode cX2_isFull 0 = .ok (.aload_n 0, 1) := by decide +kernel
theorem dX2_isFull_1 : decode cX2_isFull 1 = .ok (.getfield 27, 3) := by decide +kernel
theorem dX2_isFull_4 : decode cX2_isFull 4 = .ok (.bipush 24, 2) := by decide +kernel
theorem dX2_isFull_6 : decode cX2_isFull 6 = .ok (.if_icmp .lt 7, 3) := by decide +kernel
theorem dX2_isFull_9 : decode cX2_isFull 9 = .ok (.iconst 1, 1) := by decide +kernel
theorem dX2_isFull_10 : decode cX2_isFull 10 = .ok (.goto 4, 3) := by decide +kernel
theorem dX2_isFull_13 : decode cX2_isFull 13 = .ok (.iconst 0, 1) := by decide +kernel
theorem dX2_isFull_14 : decode cX2_isFull 14 = .ok (.ireturn, 1) := by decide +kernel
theorem dX2_mayComeIn_0 : decode cX2_mayComeIn 0 = .ok (.iload_n 1, 1) := by decide +kernel
theorem dX2_mayComeIn_1 : decode cX2_mayComeIn 1 = .ok (.aload_n 0, 1) := by decide +kernel
theorem dX2_mayComeIn_2 : decode cX2_mayComeIn 2 = .ok (.aload_n 0, 1) := by decide +kernel
theorem dX2_mayComeIn_3 : decode cX2_mayComeIn 3 = .ok (.getfield 27, 3) := by decide +kernel
theorem dX2_mayComeIn_6 : decode cX2_mayComeIn 6 = .ok (.iconst 1, 1) := by decide +kernel
theorem dX2_mayComeIn_7 : decode cX2_mayComeIn 7 = .ok (.isub, 1) := by decide +kernel
theorem dX2_mayComeIn_8 : decode cX2_mayComeIn 8 = .ok (.invokevirtual 31, 3) := by decide +kernel
theorem dX2_mayComeIn_11 : decode cX2_mayComeIn 11 = .ok (.iconst 0, 1) := by decide +kernel
theorem dX2_mayComeIn_12 : decode cX2_mayComeIn 12 = .ok (.invokestatic 35, 3) := by decide +kernel
theorem dX2_mayComeIn_15 : decode cX2_mayComeIn 15 = .ok (.bipush 51, 2) := by decide +kernel
theorem dX2_mayComeIn_17 : decode cX2_mayComeIn 17 = .ok (.invokestatic 41, 3) := by decide +kernel
theorem dX2_mayComeIn_20 : decode cX2_mayComeIn 20 = .ok (.ireturn, 1) := by decide +kernel
theorem dX2_add_0 : decode cX2_add 0 = .ok (.aload_n 0, 1) := by decide +kernel
theorem dX2_add_1 : decode cX2_add 1 = .ok (.invokevirtual 45, 3) := by decide +kernel
theorem dX2_add_4 : decode cX2_add 4 = .ok (.ifCond .eq 4, 3) := by decide +kernel
theorem dX2_add_7 : decode cX2_add 7 = .ok (.return_, 1) := by decide +kernel
theorem dX2_add_8 : decode cX2_add 8 = .ok (.aload_n 0, 1) := by decide +kernel
theorem dX2_add_9 : decode cX2_add 9 = .ok (.getfield 9, 3) := by decide +kernel
theorem dX2_add_12 : decode cX2_add 12 = .ok (.aload_n 0, 1) := by decide +kernel
theorem dX2_add_13 : decode cX2_add 13 = .ok (.getfield 27, 3) := by decide +kernel
theorem dX2_add_16 : decode cX2_add 16 = .ok (.iload_n 1, 1) := by decide +kernel
theorem dX2_add_17 : decode cX2_add 17 = .ok (.iastore, 1) := by decide +kernel
theorem dX2_add_18 : decode cX2_add 18 = .ok (.aload_n 0, 1) := by decide +kernel
theorem dX2_add_19 : decode cX2_add 19 = .ok (.getfield 15, 3) := by decide +kernel
theorem dX2_add_22 : decode cX2_add 22 = .ok (.aload_n 0, 1) := by decide +kernel
theorem dX2_add_23 : decode cX2_add 23 = .ok (.getfield 27, 3) := by decide +kernel
theorem dX2_add_26 : decode cX2_add 26 = .ok (.iload_n 2, 1) := by decide +kernel
theorem dX2_add_27 : decode cX2_add 27 = .ok (.iastore, 1) := by decide +kernel
theorem dX2_add_28 : decode cX2_add 28 = .ok (.aload_n 0, 1) := by decide +kernel
theorem dX2_add_29 : decode cX2_add 29 = .ok (.getfield 18, 3) := by decide +kernel
theorem dX2_add_32 : decode cX2_add 32 = .ok (.aload_n 0, 1) := by decide +kernel
theorem dX2_add_33 : decode cX2_add 33 = .ok (.getfield 27, 3) := by decide +kernel
theorem dX2_add_36 : decode cX2_add 36 = .ok (.iload_n 3, 1) := by decide +kernel
theorem dX2_add_37 : decode cX2_add 37 = .ok (.iastore, 1) := by decide +kernel
theorem dX2_add_38 : decode cX2_add 38 = .ok (.aload_n 0, 1) := by decide +kernel
theorem dX2_add_39 : decode cX2_add 39 = .ok (.getfield 21, 3) := by decide +kernel
theorem dX2_add_42 : decode cX2_add 42 = .ok (.aload_n 0, 1) := by decide +kernel
theorem dX2_add_43 : decode cX2_add 43 = .ok (.getfield 27, 3) := by decide +kernel
theorem dX2_add_46 : decode cX2_add 46 = .ok (.iload 4, 2) := by decide +kernel
theorem dX2_add_48 : decode cX2_add 48 = .ok (.iastore, 1) := by decide +kernel
theorem dX2_add_49 : decode cX2_add 49 = .ok (.aload_n 0, 1) := by decide +kernel
theorem dX2_add_50 : decode cX2_add 50 = .ok (.getfield 24, 3) := by decide +kernel
theorem dX2_add_53 : decode cX2_add 53 = .ok (.aload_n 0, 1) := by decide +kernel
theorem dX2_add_54 : decode cX2_add 54 = .ok (.getfield 27, 3) := by decide +kernel
theorem dX2_add_57 : decode cX2_add 57 = .ok (.iload 5, 2) := by decide +kernel
theorem dX2_add_59 : decode cX2_add 59 = .ok (.iastore, 1) := by decide +kernel
theorem dX2_add_60 : decode cX2_add 60 = .ok (.aload_n 0, 1) := by decide +kernel
theorem dX2_add_61 : decode cX2_add 61 = .ok (.dup, 1) := by decide +kernel
theorem dX2_add_62 : decode cX2_add 62 = .ok (.getfield 27, 3) := by decide +kernel
theorem dX2_add_65 : decode cX2_add 65 = .ok (.iconst 1, 1) := by decide +kernel
theorem dX2_add_66 : decode cX2_add 66 = .ok (.iadd, 1) := by decide +kernel
theorem dX2_add_67 : decode cX2_add 67 = .ok (.putfield 27, 3) := by decide +kernel
theorem dX2_add_70 : decode cX2_add 70 = .ok (.return_, 1) := by decide +kernel
theorem dX2_dropLast_0 : decode cX2_dropLast 0 = .ok (.aload_n 0, 1) := by decide +kernel
theorem dX2_dropLast_1 : decode cX2_dropLast 1 = .ok (.aload_n 0, 1) := by decide +kernel
theorem dX2_dropLast_2 : decode cX2_dropLast 2 = .ok (.getfield 27, 3) := by decide +kernel
theorem dX2_dropLast_5 : decode cX2_dropLast 5 = .ok (.iconst 1, 1) := by decide +kernel
theorem dX2_dropLast_6 : decode cX2_dropLast 6 = .ok (.isub, 1) := by decide +kernel
theorem dX2_dropLast_7 : decode cX2_dropLast 7 = .ok (.iconst 0, 1) := by decide +kernel
theorem dX2_dropLast_8 : decode cX2_dropLast 8 = .ok (.invokestatic 35, 3) := by decide +kernel
theorem dX2_dropLast_11 : decode cX2_dropLast 11 = .ok (.putfield 27, 3) := by decide +kernel
theorem dX2_dropLast_14 : decode cX2_dropLast 14 = .ok (.return_, 1) := by decide +kernel
theorem dX2_weekOf_0 : decode cX2_weekOf 0 = .ok (.aload_n 0, 1) := by decide +kernel
theorem dX2_weekOf_1 : decode cX2_weekOf 1 = .ok (.iload_n 1, 1) := by decide +kernel
theorem dX2_weekOf_2 : decode cX2_weekOf 2 = .ok (.invokevirtual 49, 3) := by decide +kernel
theorem dX2_weekOf_5 : decode cX2_weekOf 5 = .ok (.ifCond .eq 12, 3) := by decide +kernel
theorem dX2_weekOf_8 : decode cX2_weekOf 8 = .ok (.aload_n 0, 1) := by decide +kernel
theorem dX2_weekOf_9 : decode cX2_weekOf 9 = .ok (.getfield 9, 3) := by decide +kernel
theorem dX2_weekOf_12 : decode cX2_weekOf 12 = .ok (.iload_n 1, 1) := by decide +kernel
theorem dX2_weekOf_13 : decode cX2_weekOf 13 = .ok (.iaload, 1) := by decide +kernel
theorem dX2_weekOf_14 : decode cX2_weekOf 14 = .ok (.goto 4, 3) := by decide +kernel
theorem dX2_weekOf_17 : decode cX2_weekOf 17 = .ok (.iconst (-1), 1) := by decide +kernel
theorem dX2_weekOf_18 : decode cX2_weekOf 18 = .ok (.ireturn, 1) := by decide +kernel
theorem dX2_kindOf_0 : decode cX2_kindOf 0 = .ok (.aload_n 0, 1) := by decide +kernel
theorem dX2_kindOf_1 : decode cX2_kindOf 1 = .ok (.iload_n 1, 1) := by decide +kernel
theorem dX2_kindOf_2 : decode cX2_kindOf 2 = .ok (.invokevirtual 49, 3) := by decide +kernel
theorem dX2_kindOf_5 : decode cX2_kindOf 5 = .ok (.ifCond .eq 12, 3) := by decide +kernel
theorem dX2_kindOf_8 : decode cX2_kindOf 8 = .ok (.aload_n 0, 1) := by decide +kernel
theorem dX2_kindOf_9 : decode cX2_kindOf 9 = .ok (.getfield 15, 3) := by decide +kernel
theorem dX2_kindOf_12 : decode cX2_kindOf 12 = .ok (.iload_n 1, 1) := by decide +kernel
theorem dX2_kindOf_13 : decode cX2_kindOf 13 = .ok (.iaload, 1) := by decide +kernel
theorem dX2_kindOf_14 : decode cX2_kindOf 14 = .ok (.goto 4, 3) := by decide +kernel
theorem dX2_kindOf_17 : decode cX2_kindOf 17 = .ok (.iconst (-1), 1) := by decide +kernel
theorem dX2_kindOf_18 : decode cX2_kindOf 18 = .ok (.ireturn, 1) := by decide +kernel
theorem dX2_oneOf_0 : decode cX2_oneOf 0 = .ok (.aload_n 0, 1) := by decide +kernel
theorem dX2_oneOf_1 : decode cX2_oneOf 1 = .ok (.iload_n 1, 1) := by decide +kernel
theorem dX2_oneOf_2 : decode cX2_oneOf 2 = .ok (.invokevirtual 49, 3) := by decide +kernel
theorem dX2_oneOf_5 : decode cX2_oneOf 5 = .ok (.ifCond .eq 12, 3) := by decide +kernel
theorem dX2_oneOf_8 : decode cX2_oneOf 8 = .ok (.aload_n 0, 1) := by decide +kernel
theorem dX2_oneOf_9 : decode cX2_oneOf 9 = .ok (.getfield 18, 3) := by decide +kernel
theorem dX2_oneOf_12 : decode cX2_oneOf 12 = .ok (.iload_n 1, 1) := by decide +kernel
theorem dX2_oneOf_13 : decode cX2_oneOf 13 = .ok (.iaload, 1) := by decide +kernel
theorem dX2_oneOf_14 : decode cX2_oneOf 14 = .ok (.goto 4, 3) := by decide +kernel
theorem dX2_oneOf_17 : decode cX2_oneOf 17 = .ok (.iconst (-1), 1) := by decide +kernel
theorem dX2_oneOf_18 : decode cX2_oneOf 18 = .ok (.ireturn, 1) := by decide +kernel
theorem dX2_otherOf_0 : decode cX2_otherOf 0 = .ok (.aload_n 0, 1) := by decide +kernel
theorem dX2_otherOf_1 : decode cX2_otherOf 1 = .ok (.iload_n 1, 1) := by decide +kernel
theorem dX2_otherOf_2 : decode cX2_otherOf 2 = .ok (.invokevirtual 49, 3) := by decide +kernel
theorem dX2_otherOf_5 : decode cX2_otherOf 5 = .ok (.ifCond .eq 12, 3) := by decide +kernel
theorem dX2_otherOf_8 : decode cX2_otherOf 8 = .ok (.aload_n 0, 1) := by decide +kernel
theorem dX2_otherOf_9 : decode cX2_otherOf 9 = .ok (.getfield 21, 3) := by decide +kernel
theorem dX2_otherOf_12 : decode cX2_otherOf 12 = .ok (.iload_n 1, 1) := by decide +kernel
theorem dX2_otherOf_13 : decode cX2_otherOf 13 = .ok (.iaload, 1) := by decide +kernel
theorem dX2_otherOf_14 : decode cX2_otherOf 14 = .ok (.goto 4, 3) := by decide +kernel
theorem dX2_otherOf_17 : decode cX2_otherOf 17 = .ok (.iconst (-1), 1) := by decide +kernel
theorem dX2_otherOf_18 : decode cX2_otherOf 18 = .ok (.ireturn, 1) := by decide +kernel
theorem dX2_hourOf_0 : decode cX2_hourOf 0 = .ok (.aload_n 0, 1) := by decide +kernel
theorem dX2_hourOf_1 : decode cX2_hourOf 1 = .ok (.iload_n 1, 1) := by decide +kernel
theorem dX2_hourOf_2 : decode cX2_hourOf 2 = .ok (.invokevirtual 49, 3) := by decide +kernel
theorem dX2_hourOf_5 : decode cX2_hourOf 5 = .ok (.ifCond .eq 12, 3) := by decide +kernel
theorem dX2_hourOf_8 : decode cX2_hourOf 8 = .ok (.aload_n 0, 1) := by decide +kernel
theorem dX2_hourOf_9 : decode cX2_hourOf 9 = .ok (.getfield 24, 3) := by decide +kernel
theorem dX2_hourOf_12 : decode cX2_hourOf 12 = .ok (.iload_n 1, 1) := by decide +kernel
theorem dX2_hourOf_13 : decode cX2_hourOf 13 = .ok (.iaload, 1) := by decide +kernel
theorem dX2_hourOf_14 : decode cX2_hourOf 14 = .ok (.goto 5, 3) := by decide +kernel
theorem dX2_hourOf_17 : decode cX2_hourOf 17 = .ok (.bipush 12, 2) := by decide +kernel
theorem dX2_hourOf_19 : decode cX2_hourOf 19 = .ok (.ireturn, 1) := by decide +kernel
theorem dX3_init_0 : decode cX3_init 0 = .ok (.aload_n 0, 1) := by decide +kernel
theorem dX3_init_1 : decode cX3_init 1 = .ok (.invokespecial 3, 3) := by decide +kernel
theorem dX3_init_4 : decode cX3_init 4 = .ok (.aload_n 0, 1) := by decide +kernel
theorem dX3_init_5 : decode cX3_init 5 = .ok (.bipush 6, 2) := by decide +kernel
theorem dX3_init_7 : decode cX3_init 7 = .ok (.newarray .int, 2) := by decide +kernel
theorem dX3_init_9 : decode cX3_init 9 = .ok (.putfield 9, 3) := by decide +kernel
theorem dX3_init_12 : decode cX3_init 12 = .ok (.aload_n 0, 1) := by decide +kernel
theorem dX3_init_13 : decode cX3_init 13 = .ok (.iconst 0, 1) := by decide +kernel
theorem dX3_init_14 : decode cX3_init 14 = .ok (.putfield 15, 3) := by decide +kernel
theorem dX3_init_17 : decode cX3_init 17 = .ok (.aload_n 0, 1) := by decide +kernel
theorem dX3_init_18 : decode cX3_init 18 = .ok (.iconst (-1), 1) := by decide +kernel
theorem dX3_init_19 : decode cX3_init 19 = .ok (.putfield 19, 3) := by decide +kernel
theorem dX3_init_22 : decode cX3_init 22 = .ok (.return_, 1) := by decide +kernel
theorem dX3_number_0 : decode cX3_number 0 = .ok (.aload_n 0, 1) := by decide +kernel
theorem dX3_number_1 : decode cX3_number 1 = .ok (.getfield 15, 3) := by decide +kernel
theorem dX3_number_4 : decode cX3_number 4 = .ok (.ireturn, 1) := by decide +kernel
theorem dX3_faultAt_0 : decode cX3_faultAt 0 = .ok (.aload_n 0, 1) := by decide +kernel
theorem dX3_faultAt_1 : decode cX3_faultAt 1 = .ok (.getfield 19, 3) := by decide +kernel
theorem dX3_faultAt_4 : decode cX3_faultAt 4 = .ok (.ireturn, 1) := by decide +kernel
theorem dX3_has_0 : decode cX3_has 0 = .ok (.iload_n 1, 1) := by decide +kernel
theorem dX3_has_1 : decode cX3_has 1 = .ok (.ifCond .lt 15, 3) := by decide +kernel
theorem dX3_has_4 : decode cX3_has 4 = .ok (.iload_n 1, 1) := by decide +kernel
theorem dX3_has_5 : decode cX3_has 5 = .ok (.aload_n 0, 1) := by decide +kernel
theorem dX3_has_6 : decode cX3_has 6 = .ok (.getfield 15, 3) := by decide +kernel
theorem dX3_has_9 : decode cX3_has 9 = .ok (.if_icmp .ge 7, 3) := by decide +kernel
theorem dX3_has_12 : decode cX3_has 12 = .ok (.iconst 1, 1) := by decide +kernel
theorem dX3_has_13 : decode cX3_has 13 = .ok (.goto 4, 3) := by decide +kernel
theorem dX3_has_16 : decode cX3_has 16 = .ok (.iconst 0, 1) := by decide +kernel
theorem dX3_has_17 : decode cX3_has 17 = .ok (.ireturn, 1) := by decide +kernel
theorem dX3_toldWidth_0 : decode cX3_toldWidth 0 = .ok (.aload_n 0, 1) := by decide +kernel
theorem dX3_toldWidth_1 : decode cX3_toldWidth 1 = .ok (.iload_n 1, 1) := by decide +kernel
theorem dX3_toldWidth_2 : decode cX3_toldWidth 2 = .ok (.invokevirtual 22, 3) := by decide +kernel
theorem dX3_toldWidth_5 : decode cX3_toldWidth 5 = .ok (.ifCond .eq 12, 3) := by decide +kernel
theorem dX3_toldWidth_8 : decode cX3_toldWidth 8 = .ok (.aload_n 0, 1) := by decide +kernel
theorem dX3_toldWidth_9 : decode cX3_toldWidth 9 = .ok (.getfield 9, 3) := by decide +kernel
theorem dX3_toldWidth_12 : decode cX3_toldWidth 12 = .ok (.iload_n 1, 1) := by decide +kernel
theorem dX3_toldWidth_13 : decode cX3_toldWidth 13 = .ok (.iaload, 1) := by decide +kernel
theorem dX3_toldWidth_14 : decode cX3_toldWidth 14 = .ok (.goto 4, 3) := by decide +kernel
theorem dX3_toldWidth_17 : decode cX3_toldWidth 17 = .ok (.iconst 0, 1) := by decide +kernel
theorem dX3_toldWidth_18 : decode cX3_toldWidth 18 = .ok (.ireturn, 1) := by decide +kernel
theorem dX3_parse_0 : decode cX3_parse 0 = .ok (.aload_n 0, 1) := by decide +kernel
theorem dX3_parse_1 : decode cX3_parse 1 = .ok (.aload_n 1, 1) := by decide +kernel
theorem dX3_parse_2 : decode cX3_parse 2 = .ok (.invokestatic 26, 3) := by decide +kernel
theorem dX3_parse_5 : decode cX3_parse 5 = .ok (.putfield 19, 3) := by decide +kernel
theorem dX3_parse_8 : decode cX3_parse 8 = .ok (.aload_n 0, 1) := by decide +kernel
theorem dX3_parse_9 : decode cX3_parse 9 = .ok (.aload_n 0, 1) := by decide +kernel
theorem dX3_parse_10 : decode cX3_parse 10 = .ok (.getfield 19, 3) := by decide +kernel
theorem dX3_parse_13 : decode cX3_parse 13 = .ok (.iconst (-1), 1) := by decide +kernel
theorem dX3_parse_14 : decode cX3_parse 14 = .ok (.if_icmp .ne 19, 3) := by decide +kernel
theorem dX3_parse_17 : decode cX3_parse 17 = .ok (.aload_n 1, 1) := by decide +kernel
theorem dX3_parse_18 : decode cX3_parse 18 = .ok (.invokevirtual 30, 3) := by decide +kernel
theorem dX3_parse_21 : decode cX3_parse 21 = .ok (.iconst 1, 1) := by decide +kernel
theorem dX3_parse_22 : decode cX3_parse 22 = .ok (.iadd, 1) := by decide +kernel
theorem dX3_parse_23 : decode cX3_parse 23 = .ok (.iconst 3, 1) := by decide +kernel
theorem dX3_parse_24 : decode cX3_parse 24 = .ok (.idiv, 1) := by decide +kernel
theorem dX3_parse_25 : decode cX3_parse 25 = .ok (.bipush 6, 2) := by decide +kernel
theorem dX3_parse_27 : decode cX3_parse 27 = .ok (.invokestatic 36, 3) := by decide +kernel
theorem dX3_parse_30 : decode cX3_parse 30 = .ok (.goto 4, 3) := by decide +kernel
theorem dX3_parse_33 : decode cX3_parse 33 = .ok (.iconst 0, 1) := by decide +kernel
theorem dX3_parse_34 : decode cX3_parse 34 = .ok (.putfield 15, 3) := by decide +kernel
theorem dX3_parse_37 : decode cX3_parse 37 = .ok (.iconst 0, 1) := by decide +kernel
theorem dX3_parse_38 : decode cX3_parse 38 = .ok (.istore_n 2, 1) := by decide +kernel
theorem dX3_parse_39 : decode cX3_parse 39 = .ok (.iload_n 2, 1) := by decide +kernel
theorem dX3_parse_40 : decode cX3_parse 40 = .ok (.aload_n 0, 1) := by decide +kernel
theorem dX3_parse_41 : decode cX3_parse 41 = .ok (.getfield 15, 3) := by decide +kernel
theorem dX3_parse_44 : decode cX3_parse 44 = .ok (.if_icmp .ge 35, 3) := by decide +kernel
theorem dX3_parse_47 : decode cX3_parse 47 = .ok (.iconst 3, 1) := by decide +kernel
theorem dX3_parse_48 : decode cX3_parse 48 = .ok (.iload_n 2, 1) := by decide +kernel
theorem dX3_parse_49 : decode cX3_parse 49 = .ok (.imul, 1) := by decide +kernel
theorem dX3_parse_50 : decode cX3_parse 50 = .ok (.istore_n 3, 1) := by decide +kernel
theorem dX3_parse_51 : decode cX3_parse 51 = .ok (.aload_n 0, 1) := by decide +kernel
theorem dX3_parse_52 : decode cX3_parse 52 = .ok (.getfield 9, 3) := by decide +kernel
theorem dX3_parse_55 : decode cX3_parse 55 = .ok (.iload_n 2, 1) := by decide +kernel
theorem dX3_parse_56 : decode cX3_parse 56 = .ok (.bipush 10, 2) := by decide +kernel
theorem dX3_parse_58 : decode cX3_parse 58 = .ok (.aload_n 1, 1) := by decide +kernel
theorem dX3_parse_59 : decode cX3_parse 59 = .ok (.iload_n 3, 1) := by decide +kernel
theorem dX3_parse_60 : decode cX3_parse 60 = .ok (.invokevirtual 42, 3) := by decide +kernel
theorem dX3_parse_63 : decode cX3_parse 63 = .ok (.imul, 1) := by decide +kernel
theorem dX3_parse_64 : decode cX3_parse 64 = .ok (.aload_n 1, 1) := by decide +kernel
theorem dX3_parse_65 : decode cX3_parse 65 = .ok (.iload_n 3, 1) := by decide +kernel
theorem dX3_parse_66 : decode cX3_parse 66 = .ok (.iconst 1, 1) := by decide +kernel
theorem dX3_parse_67 : decode cX3_parse 67 = .ok (.iadd, 1) := by decide +kernel
theorem dX3_parse_68 : decode cX3_parse 68 = .ok (.invokevirtual 42, 3) := by decide +kernel
theorem dX3_parse_71 : decode cX3_parse 71 = .ok (.iadd, 1) := by decide +kernel
theorem dX3_parse_72 : decode cX3_parse 72 = .ok (.iastore, 1) := by decide +kernel
theorem dX3_parse_73 : decode cX3_parse 73 = .ok (.iinc 2 1, 3) := by decide +kernel
theorem dX3_parse_76 : decode cX3_parse 76 = .ok (.goto (-37), 3) := by decide +kernel
theorem dX3_parse_79 : decode cX3_parse 79 = .ok (.return_, 1) := by decide +kernel
theorem dX3_firstFault_0 : decode cX3_firstFault 0 = .ok (.aload_n 0, 1) := by decide +kernel
theorem dX3_firstFault_1 : decode cX3_firstFault 1 = .ok (.invokevirtual 30, 3) := by decide +kernel
theorem dX3_firstFault_4 : decode cX3_firstFault 4 = .ok (.istore_n 1, 1) := by decide +kernel
theorem dX3_firstFault_5 : decode cX3_firstFault 5 = .ok (.iconst 0, 1) := by decide +kernel
theorem dX3_firstFault_6 : decode cX3_firstFault 6 = .ok (.istore_n 2, 1) := by decide +kernel
theorem dX3_firstFault_7 : decode cX3_firstFault 7 = .ok (.iload_n 2, 1) := by decide +kernel
theorem dX3_firstFault_8 : decode cX3_firstFault 8 = .ok (.iload_n 1, 1) := by decide +kernel
theorem dX3_firstFault_9 : decode cX3_firstFault 9 = .ok (.if_icmp .ge 19, 3) := by decide +kernel
theorem dX3_firstFault_12 : decode cX3_firstFault 12 = .ok (.aload_n 0, 1) := by decide +kernel
theorem dX3_firstFault_13 : decode cX3_firstFault 13 = .ok (.iload_n 2, 1) := by decide +kernel
theorem dX3_firstFault_14 : decode cX3_firstFault 14 = .ok (.invokestatic 46, 3) := by decide +kernel
theorem dX3_firstFault_17 : decode cX3_firstFault 17 = .ok (.ifCond .ne 5, 3) := by decide +kernel
theorem dX3_firstFault_20 : decode cX3_firstFault 20 = .ok (.iload_n 2, 1) := by decide +kernel
theorem dX3_firstFault_21 : decode cX3_firstFault 21 = .ok (.ireturn, 1) := by decide +kernel
theorem dX3_firstFault_22 : decode cX3_firstFault 22 = .ok (.iinc 2 1, 3) := by decide +kernel
theorem dX3_firstFault_25 : decode cX3_firstFault 25 = .ok (.goto (-18), 3) := by decide +kernel
theorem dX3_firstFault_28 : decode cX3_firstFault 28 = .ok (.iload_n 1, 1) := by decide +kernel
theorem dX3_firstFault_29 : decode cX3_firstFault 29 = .ok (.ifCond .eq 10, 3) := by decide +kernel
theorem dX3_firstFault_32 : decode cX3_firstFault 32 = .ok (.iload_n 1, 1) := by decide +kernel
theorem dX3_firstFault_33 : decode cX3_firstFault 33 = .ok (.iconst 3, 1) := by decide +kernel
theorem dX3_firstFault_34 : decode cX3_firstFault 34 = .ok (.irem, 1) := by decide +kernel
theorem dX3_firstFault_35 : decode cX3_firstFault 35 = .ok (.iconst 2, 1) := by decide +kernel
theorem dX3_firstFault_36 : decode cX3_firstFault 36 = .ok (.if_icmp .ne 7, 3) := by decide +kernel
theorem dX3_firstFault_39 : decode cX3_firstFault 39 = .ok (.iconst (-1), 1) := by decide +kernel
theorem dX3_firstFault_40 : decode cX3_firstFault 40 = .ok (.goto 4, 3) := by decide +kernel
theorem dX3_firstFault_43 : decode cX3_firstFault 43 = .ok (.iload_n 1, 1) := by decide +kernel
theorem dX3_firstFault_44 : decode cX3_firstFault 44 = .ok (.ireturn, 1) := by decide +kernel
theorem dX3_goesOn_0 : decode cX3_goesOn 0 = .ok (.iload_n 1, 1) := by decide +kernel
theorem dX3_goesOn_1 : decode cX3_goesOn 1 = .ok (.iconst 3, 1) := by decide +kernel
theorem dX3_goesOn_2 : decode cX3_goesOn 2 = .ok (.irem, 1) := by decide +kernel
theorem dX3_goesOn_3 : decode cX3_goesOn 3 = .ok (.iconst 2, 1) := by decide +kernel
theorem dX3_goesOn_4 : decode cX3_goesOn 4 = .ok (.if_icmp .ne 19, 3) := by decide +kernel
theorem dX3_goesOn_7 : decode cX3_goesOn 7 = .ok (.aload_n 0, 1) := by decide +kernel
theorem dX3_goesOn_8 : decode cX3_goesOn 8 = .ok (.iload_n 1, 1) := by decide +kernel
theorem dX3_goesOn_9 : decode cX3_goesOn 9 = .ok (.invokevirtual 50, 3) := by decide +kernel
theorem dX3_goesOn_12 : decode cX3_goesOn 12 = .ok (.bipush 59, 2) := by decide +kernel
theorem dX3_goesOn_14 : decode cX3_goesOn 14 = .ok (.if_icmp .ne 7, 3) := by decide +kernel
theorem dX3_goesOn_17 : decode cX3_goesOn 17 = .ok (.iconst 1, 1) := by decide +kernel
theorem dX3_goesOn_18 : decode cX3_goesOn 18 = .ok (.goto 4, 3) := by decide +kernel
theorem dX3_goesOn_21 : decode cX3_goesOn 21 = .ok (.iconst 0, 1) := by decide +kernel
theorem dX3_goesOn_22 : decode cX3_goesOn 22 = .ok (.ireturn, 1) := by decide +kernel
theorem dX3_goesOn_23 : decode cX3_goesOn 23 = .ok (.iload_n 1, 1) := by decide +kernel
theorem dX3_goesOn_24 : decode cX3_goesOn 24 = .ok (.iconst 3, 1) := by decide +kernel
theorem dX3_goesOn_25 : decode cX3_goesOn 25 = .ok (.idiv, 1) := by decide +kernel
theorem dX3_goesOn_26 : decode cX3_goesOn 26 = .ok (.bipush 6, 2) := by decide +kernel
theorem dX3_goesOn_28 : decode cX3_goesOn 28 = .ok (.if_icmp .ge 16, 3) := by decide +kernel
theorem dX3_goesOn_31 : decode cX3_goesOn 31 = .ok (.aload_n 0, 1) := by decide +kernel
theorem dX3_goesOn_32 : decode cX3_goesOn 32 = .ok (.iload_n 1, 1) := by decide +kernel
theorem dX3_goesOn_33 : decode cX3_goesOn 33 = .ok (.invokevirtual 42, 3) := by decide +kernel
theorem dX3_goesOn_36 : decode cX3_goesOn 36 = .ok (.iconst (-1), 1) := by decide +kernel
theorem dX3_goesOn_37 : decode cX3_goesOn 37 = .ok (.if_icmp .eq 7, 3) := by decide +kernel
theorem dX3_goesOn_40 : decode cX3_goesOn 40 = .ok (.iconst 1, 1) := by decide +kernel
theorem dX3_goesOn_41 : decode cX3_goesOn 41 = .ok (.goto 4, 3) := by decide +kernel
theorem dX3_goesOn_44 : decode cX3_goesOn 44 = .ok (.iconst 0, 1) := by decide +kernel
theorem dX3_goesOn_45 : decode cX3_goesOn 45 = .ok (.ireturn, 1) := by decide +kernel
theorem dX4_init_0 : decode cX4_init 0 = .ok (.aload_n 0, 1) := by decide +kernel
theorem dX4_init_1 : decode cX4_init 1 = .ok (.invokespecial 3, 3) := by decide +kernel
theorem dX4_init_4 : decode cX4_init 4 = .ok (.aload_n 0, 1) := by decide +kernel
theorem dX4_init_5 : decode cX4_init 5 = .ok (.bipush 12, 2) := by decide +kernel
theorem dX4_init_7 : decode cX4_init 7 = .ok (.newarray .int, 2) := by decide +kernel
theorem dX4_init_9 : decode cX4_init 9 = .ok (.putfield 9, 3) := by decide +kernel
theorem dX4_init_12 : decode cX4_init 12 = .ok (.aload_n 0, 1) := by decide +kernel
theorem dX4_init_13 : decode cX4_init 13 = .ok (.bipush 12, 2) := by decide +kernel
theorem dX4_init_15 : decode cX4_init 15 = .ok (.newarray .int, 2) := by decide +kernel
theorem dX4_init_17 : decode cX4_init 17 = .ok (.putfield 15, 3) := by decide +kernel
theorem dX4_init_20 : decode cX4_init 20 = .ok (.aload_n 0, 1) := by decide +kernel
theorem dX4_init_21 : decode cX4_init 21 = .ok (.bipush 12, 2) := by decide +kernel
theorem dX4_init_23 : decode cX4_init 23 = .ok (.newarray .int, 2) := by decide +kernel
theorem dX4_init_25 : decode cX4_init 25 = .ok (.putfield 18, 3) := by decide +kernel
theorem dX4_init_28 : decode cX4_init 28 = .ok (.aload_n 0, 1) := by decide +kernel
theorem dX4_init_29 : decode cX4_init 29 = .ok (.bipush 12, 2) := by decide +kernel
theorem dX4_init_31 : decode cX4_init 31 = .ok (.newarray .int, 2) := by decide +kernel
theorem dX4_init_33 : decode cX4_init 33 = .ok (.putfield 21, 3) := by decide +kernel
theorem dX4_init_36 : decode cX4_init 36 = .ok (.aload_n 0, 1) := by decide +kernel
theorem dX4_init_37 : decode cX4_init 37 = .ok (.iconst 0, 1) := by decide +kernel
theorem dX4_init_38 : decode cX4_init 38 = .ok (.putfield 24, 3) := by decide +kernel
theorem dX4_init_41 : decode cX4_init 41 = .ok (.aload_n 0, 1) := by decide +kernel
theorem dX4_init_42 : decode cX4_init 42 = .ok (.iconst (-1), 1) := by decide +kernel
theorem dX4_init_43 : decode cX4_init 43 = .ok (.putfield 28, 3) := by decide +kernel
theorem dX4_init_46 : decode cX4_init 46 = .ok (.return_, 1) := by decide +kernel
theorem dX4_number_0 : decode cX4_number 0 = .ok (.aload_n 0, 1) := by decide +kernel
theorem dX4_number_1 : decode cX4_number 1 = .ok (.getfield 24, 3) := by decide +kernel
theorem dX4_number_4 : decode cX4_number 4 = .ok (.ireturn, 1) := by decide +kernel
theorem dX4_faultAt_0 : decode cX4_faultAt 0 = .ok (.aload_n 0, 1) := by decide +kernel
theorem dX4_faultAt_1 : decode cX4_faultAt 1 = .ok (.getfield 28, 3) := by decide +kernel
theorem dX4_faultAt_4 : decode cX4_faultAt 4 = .ok (.ireturn, 1) := by decide +kernel
theorem dX4_has_0 : decode cX4_has 0 = .ok (.iload_n 1, 1) := by decide +kernel
theorem dX4_has_1 : decode cX4_has 1 = .ok (.ifCond .lt 15, 3) := by decide +kernel
theorem dX4_has_4 : decode cX4_has 4 = .ok (.iload_n 1, 1) := by decide +kernel
theorem dX4_has_5 : decode cX4_has 5 = .ok (.aload_n 0, 1) := by decide +kernel
theorem dX4_has_6 : decode cX4_has 6 = .ok (.getfield 24, 3) := by decide +kernel
theorem dX4_has_9 : decode cX4_has 9 = .ok (.if_icmp .ge 7, 3) := by decide +kernel
theorem dX4_has_12 : decode cX4_has 12 = .ok (.iconst 1, 1) := by decide +kernel
theorem dX4_has_13 : decode cX4_has 13 = .ok (.goto 4, 3) := by decide +kernel
theorem dX4_has_16 : decode cX4_has 16 = .ok (.iconst 0, 1) := by decide +kernel
theorem dX4_has_17 : decode cX4_has 17 = .ok (.ireturn, 1) := by decide +kernel
theorem dX4_sexOf_0 : decode cX4_sexOf 0 = .ok (.aload_n 0, 1) := by decide +kernel
theorem dX4_sexOf_1 : decode cX4_sexOf 1 = .ok (.iload_n 1, 1) := by decide +kernel
theorem dX4_sexOf_2 : decode cX4_sexOf 2 = .ok (.invokevirtual 31, 3) := by decide +kernel
theorem dX4_sexOf_5 : decode cX4_sexOf 5 = .ok (.ifCond .eq 12, 3) := by decide +kernel
theorem dX4_sexOf_8 : decode cX4_sexOf 8 = .ok (.aload_n 0, 1) := by decide +kernel
theorem dX4_sexOf_9 : decode cX4_sexOf 9 = .ok (.getfield 9, 3) := by decide +kernel
theorem dX4_sexOf_12 : decode cX4_sexOf 12 = .ok (.iload_n 1, 1) := by decide +kernel
theorem dX4_sexOf_13 : decode cX4_sexOf 13 = .ok (.iaload, 1) := by decide +kernel
theorem dX4_sexOf_14 : decode cX4_sexOf 14 = .ok (.goto 4, 3) := by decide +kernel
theorem dX4_sexOf_17 : decode cX4_sexOf 17 = .ok (.iconst (-1), 1) := by decide +kernel
theorem dX4_sexOf_18 : decode cX4_sexOf 18 = .ok (.ireturn, 1) := by decide +kernel
theorem dX4_homeOf_0 : decode cX4_homeOf 0 = .ok (.aload_n 0, 1) := by decide +kernel
theorem dX4_homeOf_1 : decode cX4_homeOf 1 = .ok (.iload_n 1, 1) := by decide +kernel
theorem dX4_homeOf_2 : decode cX4_homeOf 2 = .ok (.invokevirtual 31, 3) := by decide +kernel
theorem dX4_homeOf_5 : decode cX4_homeOf 5 = .ok (.ifCond .eq 12, 3) := by decide +kernel
theorem dX4_homeOf_8 : decode cX4_homeOf 8 = .ok (.aload_n 0, 1) := by decide +kernel
theorem dX4_homeOf_9 : decode cX4_homeOf 9 = .ok (.getfield 15, 3) := by decide +kernel
theorem dX4_homeOf_12 : decode cX4_homeOf 12 = .ok (.iload_n 1, 1) := by decide +kernel
theorem dX4_homeOf_13 : decode cX4_homeOf 13 = .ok (.iaload, 1) := by decide +kernel
theorem dX4_homeOf_14 : decode cX4_homeOf 14 = .ok (.goto 4, 3) := by decide +kernel
theorem dX4_homeOf_17 : decode cX4_homeOf 17 = .ok (.iconst (-1), 1) := by decide +kernel
theorem dX4_homeOf_18 : decode cX4_homeOf 18 = .ok (.ireturn, 1) := by decide +kernel
theorem dX4_heightOf_0 : decode cX4_heightOf 0 = .ok (.aload_n 0, 1) := by decide +kernel
theorem dX4_heightOf_1 : decode cX4_heightOf 1 = .ok (.iload_n 1, 1) := by decide +kernel
theorem dX4_heightOf_2 : decode cX4_heightOf 2 = .ok (.invokevirtual 31, 3) := by decide +kernel
theorem dX4_heightOf_5 : decode cX4_heightOf 5 = .ok (.ifCond .eq 12, 3) := by decide +kernel
theorem dX4_heightOf_8 : decode cX4_heightOf 8 = .ok (.aload_n 0, 1) := by decide +kernel
theorem dX4_heightOf_9 : decode cX4_heightOf 9 = .ok (.getfield 18, 3) := by decide +kernel
theorem dX4_heightOf_12 : decode cX4_heightOf 12 = .ok (.iload_n 1, 1) := by decide +kernel
theorem dX4_heightOf_13 : decode cX4_heightOf 13 = .ok (.iaload, 1) := by decide +kernel
theorem dX4_heightOf_14 : decode cX4_heightOf 14 = .ok (.goto 4, 3) := by decide +kernel
theorem dX4_heightOf_17 : decode cX4_heightOf 17 = .ok (.iconst 0, 1) := by decide +kernel
theorem dX4_heightOf_18 : decode cX4_heightOf 18 = .ok (.ireturn, 1) := by decide +kernel
theorem dX4_hatOf_0 : decode cX4_hatOf 0 = .ok (.aload_n 0, 1) := by decide +kernel
theorem dX4_hatOf_1 : decode cX4_hatOf 1 = .ok (.iload_n 1, 1) := by decide +kernel
theorem dX4_hatOf_2 : decode cX4_hatOf 2 = .ok (.invokevirtual 31, 3) := by decide +kernel
theorem dX4_hatOf_5 : decode cX4_hatOf 5 = .ok (.ifCond .eq 12, 3) := by decide +kernel
theorem dX4_hatOf_8 : decode cX4_hatOf 8 = .ok (.aload_n 0, 1) := by decide +kernel
theorem dX4_hatOf_9 : decode cX4_hatOf 9 = .ok (.getfield 21, 3) := by decide +kernel
theorem dX4_hatOf_12 : decode cX4_hatOf 12 = .ok (.iload_n 1, 1) := by decide +kernel
theorem dX4_hatOf_13 : decode cX4_hatOf 13 = .ok (.iaload, 1) := by decide +kernel
theorem dX4_hatOf_14 : decode cX4_hatOf 14 = .ok (.goto 4, 3) := by decide +kernel
theorem dX4_hatOf_17 : decode cX4_hatOf 17 = .ok (.iconst 0, 1) := by decide +kernel
theorem dX4_hatOf_18 : decode cX4_hatOf 18 = .ok (.ireturn, 1) := by decide +kernel
theorem dX4_setHeight_0 : decode cX4_setHeight 0 = .ok (.aload_n 0, 1) := by decide +kernel
theorem dX4_setHeight_1 : decode cX4_setHeight 1 = .ok (.iload_n 1, 1) := by decide +kernel
theorem dX4_setHeight_2 : decode cX4_setHeight 2 = .ok (.invokevirtual 31, 3) := by decide +kernel
theorem dX4_setHeight_5 : decode cX4_setHeight 5 = .ok (.ifCond .eq 10, 3) := by decide +kernel
theorem dX4_setHeight_8 : decode cX4_setHeight 8 = .ok (.aload_n 0, 1) := by decide +kernel
theorem dX4_setHeight_9 : decode cX4_setHeight 9 = .ok (.getfield 18, 3) := by decide +kernel
theorem dX4_setHeight_12 : decode cX4_setHeight 12 = .ok (.iload_n 1, 1) := by decide +kernel
theorem dX4_setHeight_13 : decode cX4_setHeight 13 = .ok (.iload_n 2, 1) := by decide +kernel
theorem dX4_setHeight_14 : decode cX4_setHeight 14 = .ok (.iastore, 1) := by decide +kernel
theorem dX4_setHeight_15 : decode cX4_setHeight 15 = .ok (.return_, 1) := by decide +kernel
theorem dX4_shadowOf_0 : decode cX4_shadowOf 0 = .ok (.aload_n 0, 1) := by decide +kernel
theorem dX4_shadowOf_1 : decode cX4_shadowOf 1 = .ok (.iload_n 1, 1) := by decide +kernel
theorem dX4_shadowOf_2 : decode cX4_shadowOf 2 = .ok (.invokevirtual 31, 3) := by decide +kernel
theorem dX4_shadowOf_5 : decode cX4_shadowOf 5 = .ok (.ifCond .eq 29, 3) := by decide +kernel
theorem dX4_shadowOf_8 : decode cX4_shadowOf 8 = .ok (.aload_n 0, 1) := by decide +kernel
theorem dX4_shadowOf_9 : decode cX4_shadowOf 9 = .ok (.getfield 18, 3) := by decide +kernel
theorem dX4_shadowOf_12 : decode cX4_shadowOf 12 = .ok (.iload_n 1, 1) := by decide +kernel
theorem dX4_shadowOf_13 : decode cX4_shadowOf 13 = .ok (.iaload, 1) := by decide +kernel
theorem dX4_shadowOf_14 : decode cX4_shadowOf 14 = .ok (.aload_n 0, 1) := by decide +kernel
theorem dX4_shadowOf_15 : decode cX4_shadowOf 15 = .ok (.getfield 21, 3) := by decide +kernel
theorem dX4_shadowOf_18 : decode cX4_shadowOf 18 = .ok (.iload_n 1, 1) := by decide +kernel
theorem dX4_shadowOf_19 : decode cX4_shadowOf 19 = .ok (.iaload, 1) := by decide +kernel
theorem dX4_shadowOf_20 : decode cX4_shadowOf 20 = .ok (.iadd, 1) := by decide +kernel
theorem dX4_shadowOf_21 : decode cX4_shadowOf 21 = .ok (.iconst 1, 1) := by decide +kernel
theorem dX4_shadowOf_22 : decode cX4_shadowOf 22 = .ok (.iload_n 2, 1) := by decide +kernel
theorem dX4_shadowOf_23 : decode cX4_shadowOf 23 = .ok (.bipush 12, 2) := by decide +kernel
theorem dX4_shadowOf_25 : decode cX4_shadowOf 25 = .ok (.isub, 1) := by decide +kernel
theorem dX4_shadowOf_26 : decode cX4_shadowOf 26 = .ok (.invokestatic 35, 3) := by decide +kernel
theorem dX4_shadowOf_29 : decode cX4_shadowOf 29 = .ok (.iadd, 1) := by decide +kernel
theorem dX4_shadowOf_30 : decode cX4_shadowOf 30 = .ok (.imul, 1) := by decide +kernel
theorem dX4_shadowOf_31 : decode cX4_shadowOf 31 = .ok (.goto 4, 3) := by decide +kernel
theorem dX4_shadowOf_34 : decode cX4_shadowOf 34 = .ok (.iconst 0, 1) := by decide +kernel
theorem dX4_shadowOf_35 : decode cX4_shadowOf 35 = .ok (.ireturn, 1) := by decide +kernel
theorem dX4_areMatch_0 : decode cX4_areMatch 0 = .ok (.iload_n 1, 1) := by decide +kernel
theorem dX4_areMatch_1 : decode cX4_areMatch 1 = .ok (.ifCond .lt 23, 3) := by decide +kernel
theorem dX4_areMatch_4 : decode cX4_areMatch 4 = .ok (.iload_n 1, 1) := by decide +kernel
theorem dX4_areMatch_5 : decode cX4_areMatch 5 = .ok (.aload_n 0, 1) := by decide +kernel
theorem dX4_areMatch_6 : decode cX4_areMatch 6 = .ok (.getfield 24, 3) := by decide +kernel
theorem dX4_areMatch_9 : decode cX4_areMatch 9 = .ok (.if_icmp .ge 15, 3) := by decide +kernel
theorem dX4_areMatch_12 : decode cX4_areMatch 12 = .ok (.iload_n 2, 1) := by decide +kernel
theorem dX4_areMatch_13 : decode cX4_areMatch 13 = .ok (.ifCond .lt 11, 3) := by decide +kernel
theorem dX4_areMatch_16 : decode cX4_areMatch 16 = .ok (.iload_n 2, 1) := by decide +kernel
theorem dX4_areMatch_17 : decode cX4_areMatch 17 = .ok (.aload_n 0, 1) := by decide +kernel
theorem dX4_areMatch_18 : decode cX4_areMatch 18 = .ok (.getfield 24, 3) := by decide +kernel
theorem dX4_areMatch_21 : decode cX4_areMatch 21 = .ok (.if_icmp .lt 5, 3) := by decide +kernel
theorem dX4_areMatch_24 : decode cX4_areMatch 24 = .ok (.iconst 0, 1) := by decide +kernel
theorem dX4_areMatch_25 : decode cX4_areMatch 25 = .ok (.ireturn, 1) := by decide +kernel
theorem dX4_areMatch_26 : decode cX4_areMatch 26 = .ok (.aload_n 0, 1) := by decide +kernel
theorem dX4_areMatch_27 : decode cX4_areMatch 27 = .ok (.getfield 15, 3) := by decide +kernel
theorem dX4_areMatch_30 : decode cX4_areMatch 30 = .ok (.iload_n 1, 1) := by decide +kernel
theorem dX4_areMatch_31 : decode cX4_areMatch 31 = .ok (.iaload, 1) := by decide +kernel
theorem dX4_areMatch_32 : decode cX4_areMatch 32 = .ok (.aload_n 0, 1) := by decide +kernel
theorem dX4_areMatch_33 : decode cX4_areMatch 33 = .ok (.getfield 15, 3) := by decide +kernel
theorem dX4_areMatch_36 : decode cX4_areMatch 36 = .ok (.iload_n 2, 1) := by decide +kernel
theorem dX4_areMatch_37 : decode cX4_areMatch 37 = .ok (.iaload, 1) := by decide +kernel
theorem dX4_areMatch_38 : decode cX4_areMatch 38 = .ok (.isub, 1) := by decide +kernel
theorem dX4_areMatch_39 : decode cX4_areMatch 39 = .ok (.istore_n 3, 1) := by decide +kernel
theorem dX4_areMatch_40 : decode cX4_areMatch 40 = .ok (.aload_n 0, 1) := by decide +kernel
theorem dX4_areMatch_41 : decode cX4_areMatch 41 = .ok (.getfield 9, 3) := by decide +kernel
theorem dX4_areMatch_44 : decode cX4_areMatch 44 = .ok (.iload_n 1, 1) := by decide +kernel
theorem dX4_areMatch_45 : decode cX4_areMatch 45 = .ok (.iaload, 1) := by decide +kernel
theorem dX4_areMatch_46 : decode cX4_areMatch 46 = .ok (.aload_n 0, 1) := by decide +kernel
theorem dX4_areMatch_47 : decode cX4_areMatch 47 = .ok (.getfield 9, 3) := by decide +kernel
theorem dX4_areMatch_50 : decode cX4_areMatch 50 = .ok (.iload_n 2, 1) := by decide +kernel
theorem dX4_areMatch_51 : decode cX4_areMatch 51 = .ok (.iaload, 1) := by decide +kernel
theorem dX4_areMatch_52 : decode cX4_areMatch 52 = .ok (.if_icmp .eq 17, 3) := by decide +kernel
theorem dX4_areMatch_55 : decode cX4_areMatch 55 = .ok (.iload_n 3, 1) := by decide +kernel
theorem dX4_areMatch_56 : decode cX4_areMatch 56 = .ok (.iconst 1, 1) := by decide +kernel
theorem dX4_areMatch_57 : decode cX4_areMatch 57 = .ok (.if_icmp .eq 8, 3) := by decide +kernel
theorem dX4_areMatch_60 : decode cX4_areMatch 60 = .ok (.iload_n 3, 1) := by decide +kernel
theorem dX4_areMatch_61 : decode cX4_areMatch 61 = .ok (.iconst (-1), 1) := by decide +kernel
theorem dX4_areMatch_62 : decode cX4_areMatch 62 = .ok (.if_icmp .ne 7, 3) := by decide +kernel
theorem dX4_areMatch_65 : decode cX4_areMatch 65 = .ok (.iconst 1, 1) := by decide +kernel
theorem dX4_areMatch_66 : decode cX4_areMatch 66 = .ok (.goto 4, 3) := by decide +kernel
theorem dX4_areMatch_69 : decode cX4_areMatch 69 = .ok (.iconst 0, 1) := by decide +kernel
theorem dX4_areMatch_70 : decode cX4_areMatch 70 = .ok (.ireturn, 1) := by decide +kernel
theorem dX4_parse_0 : decode cX4_parse 0 = .ok (.aload_n 0, 1) := by decide +kernel
theorem dX4_parse_1 : decode cX4_parse 1 = .ok (.aload_n 1, 1) := by decide +kernel
theorem dX4_parse_2 : decode cX4_parse 2 = .ok (.iload_n 2, 1) := by decide +kernel
theorem dX4_parse_3 : decode cX4_parse 3 = .ok (.invokestatic 41, 3) := by decide +kernel
theorem dX4_parse_6 : decode cX4_parse 6 = .ok (.putfield 28, 3) := by decide +kernel
theorem dX4_parse_9 : decode cX4_parse 9 = .ok (.aload_n 0, 1) := by decide +kernel
theorem dX4_parse_10 : decode cX4_parse 10 = .ok (.aload_n 0, 1) := by decide +kernel
theorem dX4_parse_11 : decode cX4_parse 11 = .ok (.getfield 28, 3) := by decide +kernel
theorem dX4_parse_14 : decode cX4_parse 14 = .ok (.iconst (-1), 1) := by decide +kernel
theorem dX4_parse_15 : decode cX4_parse 15 = .ok (.if_icmp .ne 19, 3) := by decide +kernel
theorem dX4_parse_18 : decode cX4_parse 18 = .ok (.aload_n 1, 1) := by decide +kernel
theorem dX4_parse_19 : decode cX4_parse 19 = .ok (.invokevirtual 45, 3) := by decide +kernel
theorem dX4_parse_22 : decode cX4_parse 22 = .ok (.iconst 1, 1) := by decide +kernel
theorem dX4_parse_23 : decode cX4_parse 23 = .ok (.iadd, 1) := by decide +kernel
theorem dX4_parse_24 : decode cX4_parse 24 = .ok (.iconst 5, 1) := by decide +kernel
theorem dX4_parse_25 : decode cX4_parse 25 = .ok (.idiv, 1) := by decide +kernel
theorem dX4_parse_26 : decode cX4_parse 26 = .ok (.bipush 12, 2) := by decide +kernel
theorem dX4_parse_28 : decode cX4_parse 28 = .ok (.invokestatic 51, 3) := by decide +kernel
theorem dX4_parse_31 : decode cX4_parse 31 = .ok (.goto 4, 3) := by decide +kernel
theorem dX4_parse_34 : decode cX4_parse 34 = .ok (.iconst 0, 1) := by decide +kernel
theorem dX4_parse_35 : decode cX4_parse 35 = .ok (.putfield 24, 3) := by decide +kernel
theorem dX4_parse_38 : decode cX4_parse 38 = .ok (.iconst 0, 1) := by decide +kernel
theorem dX4_parse_39 : decode cX4_parse 39 = .ok (.istore_n 3, 1) := by decide +kernel
theorem dX4_parse_40 : decode cX4_parse 40 = .ok (.iload_n 3, 1) := by decide +kernel
theorem dX4_parse_41 : decode cX4_parse 41 = .ok (.aload_n 0, 1) := by decide +kernel
theorem dX4_parse_42 : decode cX4_parse 42 = .ok (.getfield 24, 3) := by decide +kernel
theorem dX4_parse_45 : decode cX4_parse 45 = .ok (.if_icmp .ge 78, 3) := by decide +kernel
theorem dX4_parse_48 : decode cX4_parse 48 = .ok (.iconst 5, 1) := by decide +kernel
theorem dX4_parse_49 : decode cX4_parse 49 = .ok (.iload_n 3, 1) := by decide +kernel
theorem dX4_parse_50 : decode cX4_parse 50 = .ok (.imul, 1) := by decide +kernel
theorem dX4_parse_51 : decode cX4_parse 51 = .ok (.istore 4, 2) := by decide +kernel
theorem dX4_parse_53 : decode cX4_parse 53 = .ok (.aload_n 0, 1) := by decide +kernel
theorem dX4_parse_54 : decode cX4_parse 54 = .ok (.getfield 9, 3) := by decide +kernel
theorem dX4_parse_57 : decode cX4_parse 57 = .ok (.iload_n 3, 1) := by decide +kernel
theorem dX4_parse_58 : decode cX4_parse 58 = .ok (.aload_n 1, 1) := by decide +kernel
theorem dX4_parse_59 : decode cX4_parse 59 = .ok (.iload 4, 2) := by decide +kernel
theorem dX4_parse_61 : decode cX4_parse 61 = .ok (.invokevirtual 55, 3) := by decide +kernel
theorem dX4_parse_64 : decode cX4_parse 64 = .ok (.bipush 109, 2) := by decide +kernel
theorem dX4_parse_66 : decode cX4_parse 66 = .ok (.if_icmp .ne 7, 3) := by decide +kernel
theorem dX4_parse_69 : decode cX4_parse 69 = .ok (.iconst 0, 1) := by decide +kernel
theorem dX4_parse_70 : decode cX4_parse 70 = .ok (.goto 4, 3) := by decide +kernel
theorem dX4_parse_73 : decode cX4_parse 73 = .ok (.iconst 1, 1) := by decide +kernel
theorem dX4_parse_74 : decode cX4_parse 74 = .ok (.iastore, 1) := by decide +kernel
theorem dX4_parse_75 : decode cX4_parse 75 = .ok (.aload_n 0, 1) := by decide +kernel
theorem dX4_parse_76 : decode cX4_parse 76 = .ok (.getfield 15, 3) := by decide +kernel
theorem dX4_parse_79 : decode cX4_parse 79 = .ok (.iload_n 3, 1) := by decide +kernel
theorem dX4_parse_80 : decode cX4_parse 80 = .ok (.aload_n 1, 1) := by decide +kernel
theorem dX4_parse_81 : decode cX4_parse 81 = .ok (.iload 4, 2) := by decide +kernel
theorem dX4_parse_83 : decode cX4_parse 83 = .ok (.iconst 1, 1) := by decide +kernel
theorem dX4_parse_84 : decode cX4_parse 84 = .ok (.iadd, 1) := by decide +kernel
theorem dX4_parse_85 : decode cX4_parse 85 = .ok (.invokevirtual 58, 3) := by decide +kernel
theorem dX4_parse_88 : decode cX4_parse 88 = .ok (.iastore, 1) := by decide +kernel
theorem dX4_parse_89 : decode cX4_parse 89 = .ok (.aload_n 0, 1) := by decide +kernel
theorem dX4_parse_90 : decode cX4_parse 90 = .ok (.getfield 18, 3) := by decide +kernel
theorem dX4_parse_93 : decode cX4_parse 93 = .ok (.iload_n 3, 1) := by decide +kernel
theorem dX4_parse_94 : decode cX4_parse 94 = .ok (.aload_n 1, 1) := by decide +kernel
theorem dX4_parse_95 : decode cX4_parse 95 = .ok (.iload 4, 2) := by decide +kernel
theorem dX4_parse_97 : decode cX4_parse 97 = .ok (.iconst 2, 1) := by decide +kernel
theorem dX4_parse_98 : decode cX4_parse 98 = .ok (.iadd, 1) := by decide +kernel
theorem dX4_parse_99 : decode cX4_parse 99 = .ok (.invokevirtual 58, 3) := by decide +kernel
theorem dX4_parse_102 : decode cX4_parse 102 = .ok (.iastore, 1) := by decide +kernel
theorem dX4_parse_103 : decode cX4_parse 103 = .ok (.aload_n 0, 1) := by decide +kernel
theorem dX4_parse_104 : decode cX4_parse 104 = .ok (.getfield 21, 3) := by decide +kernel
theorem dX4_parse_107 : decode cX4_parse 107 = .ok (.iload_n 3, 1) := by decide +kernel
theorem dX4_parse_108 : decode cX4_parse 108 = .ok (.aload_n 1, 1) := by decide +kernel
theorem dX4_parse_109 : decode cX4_parse 109 = .ok (.iload 4, 2) := by decide +kernel
theorem dX4_parse_111 : decode cX4_parse 111 = .ok (.iconst 3, 1) := by decide +kernel
theorem dX4_parse_112 : decode cX4_parse 112 = .ok (.iadd, 1) := by decide +kernel
theorem dX4_parse_113 : decode cX4_parse 113 = .ok (.invokevirtual 58, 3) := by decide +kernel
theorem dX4_parse_116 : decode cX4_parse 116 = .ok (.iastore, 1) := by decide +kernel
theorem dX4_parse_117 : decode cX4_parse 117 = .ok (.iinc 3 1, 3) := by decide +kernel
theorem dX4_parse_120 : decode cX4_parse 120 = .ok (.goto (-80), 3) := by decide +kernel
theorem dX4_parse_123 : decode cX4_parse 123 = .ok (.return_, 1) := by decide +kernel
theorem dX4_firstFault_0 : decode cX4_firstFault 0 = .ok (.aload_n 0, 1) := by decide +kernel
theorem dX4_firstFault_1 : decode cX4_firstFault 1 = .ok (.invokevirtual 45, 3) := by decide +kernel
theorem dX4_firstFault_4 : decode cX4_firstFault 4 = .ok (.istore_n 2, 1) := by decide +kernel
theorem dX4_firstFault_5 : decode cX4_firstFault 5 = .ok (.iconst 0, 1) := by decide +kernel
theorem dX4_firstFault_6 : decode cX4_firstFault 6 = .ok (.istore_n 3, 1) := by decide +kernel
theorem dX4_firstFault_7 : decode cX4_firstFault 7 = .ok (.iload_n 3, 1) := by decide +kernel
theorem dX4_firstFault_8 : decode cX4_firstFault 8 = .ok (.iload_n 2, 1) := by decide +kernel
theorem dX4_firstFault_9 : decode cX4_firstFault 9 = .ok (.if_icmp .ge 20, 3) := by decide +kernel
theorem dX4_firstFault_12 : decode cX4_firstFault 12 = .ok (.aload_n 0, 1) := by decide +kernel
theorem dX4_firstFault_13 : decode cX4_firstFault 13 = .ok (.iload_n 3, 1) := by decide +kernel
theorem dX4_firstFault_14 : decode cX4_firstFault 14 = .ok (.iload_n 1, 1) := by decide +kernel
theorem dX4_firstFault_15 : decode cX4_firstFault 15 = .ok (.invokestatic 61, 3) := by decide +kernel
theorem dX4_firstFault_18 : decode cX4_firstFault 18 = .ok (.ifCond .ne 5, 3) := by decide +kernel
theorem dX4_firstFault_21 : decode cX4_firstFault 21 = .ok (.iload_n 3, 1) := by decide +kernel
theorem dX4_firstFault_22 : decode cX4_firstFault 22 = .ok (.ireturn, 1) := by decide +kernel
theorem dX4_firstFault_23 : decode cX4_firstFault 23 = .ok (.iinc 3 1, 3) := by decide +kernel
theorem dX4_firstFault_26 : decode cX4_firstFault 26 = .ok (.goto (-19), 3) := by decide +kernel
theorem dX4_firstFault_29 : decode cX4_firstFault 29 = .ok (.iload_n 2, 1) := by decide +kernel
theorem dX4_firstFault_30 : decode cX4_firstFault 30 = .ok (.ifCond .eq 10, 3) := by decide +kernel
theorem dX4_firstFault_33 : decode cX4_firstFault 33 = .ok (.iload_n 2, 1) := by decide +kernel
theorem dX4_firstFault_34 : decode cX4_firstFault 34 = .ok (.iconst 5, 1) := by decide +kernel
theorem dX4_firstFault_35 : decode cX4_firstFault 35 = .ok (.irem, 1) := by decide +kernel
theorem dX4_firstFault_36 : decode cX4_firstFault 36 = .ok (.iconst 4, 1) := by decide +kernel
theorem dX4_firstFault_37 : decode cX4_firstFault 37 = .ok (.if_icmp .ne 7, 3) := by decide +kernel
theorem dX4_firstFault_40 : decode cX4_firstFault 40 = .ok (.iconst (-1), 1) := by decide +kernel
theorem dX4_firstFault_41 : decode cX4_firstFault 41 = .ok (.goto 4, 3) := by decide +kernel
theorem dX4_firstFault_44 : decode cX4_firstFault 44 = .ok (.iload_n 2, 1) := by decide +kernel
theorem dX4_firstFault_45 : decode cX4_firstFault 45 = .ok (.ireturn, 1) := by decide +kernel
theorem dX4_goesOn_0 : decode cX4_goesOn 0 = .ok (.aload_n 0, 1) := by decide +kernel
theorem dX4_goesOn_1 : decode cX4_goesOn 1 = .ok (.iload_n 1, 1) := by decide +kernel
theorem dX4_goesOn_2 : decode cX4_goesOn 2 = .ok (.invokevirtual 58, 3) := by decide +kernel
theorem dX4_goesOn_5 : decode cX4_goesOn 5 = .ok (.istore_n 3, 1) := by decide +kernel
theorem dX4_goesOn_6 : decode cX4_goesOn 6 = .ok (.iload_n 1, 1) := by decide +kernel
theorem dX4_goesOn_7 : decode cX4_goesOn 7 = .ok (.iconst 5, 1) := by decide +kernel
theorem dX4_goesOn_8 : decode cX4_goesOn 8 = .ok (.irem, 1) := by decide +kernel
theorem dX4_goesOn_9 : decode cX4_goesOn 9 = .ok (.tableswitch 103 0 3 #[31, 65, 81, 92], 31) := by decide +kernel
theorem dX4_goesOn_40 : decode cX4_goesOn 40 = .ok (.iload_n 1, 1) := by decide +kernel
theorem dX4_goesOn_41 : decode cX4_goesOn 41 = .ok (.iconst 5, 1) := by decide +kernel
theorem dX4_goesOn_42 : decode cX4_goesOn 42 = .ok (.idiv, 1) := by decide +kernel
theorem dX4_goesOn_43 : decode cX4_goesOn 43 = .ok (.bipush 12, 2) := by decide +kernel
theorem dX4_goesOn_45 : decode cX4_goesOn 45 = .ok (.if_icmp .ge 27, 3) := by decide +kernel
theorem dX4_goesOn_48 : decode cX4_goesOn 48 = .ok (.aload_n 0, 1) := by decide +kernel
theorem dX4_goesOn_49 : decode cX4_goesOn 49 = .ok (.iload_n 1, 1) := by decide +kernel
theorem dX4_goesOn_50 : decode cX4_goesOn 50 = .ok (.invokevirtual 55, 3) := by decide +kernel
theorem dX4_goesOn_53 : decode cX4_goesOn 53 = .ok (.bipush 109, 2) := by decide +kernel
theorem dX4_goesOn_55 : decode cX4_goesOn 55 = .ok (.if_icmp .eq 13, 3) := by decide +kernel
theorem dX4_goesOn_58 : decode cX4_goesOn 58 = .ok (.aload_n 0, 1) := by decide +kernel
theorem dX4_goesOn_59 : decode cX4_goesOn 59 = .ok (.iload_n 1, 1) := by decide +kernel
theorem dX4_goesOn_60 : decode cX4_goesOn 60 = .ok (.invokevirtual 55, 3) := by decide +kernel
theorem dX4_goesOn_63 : decode cX4_goesOn 63 = .ok (.bipush 119, 2) := by decide +kernel
theorem dX4_goesOn_65 : decode cX4_goesOn 65 = .ok (.if_icmp .ne 7, 3) := by decide +kernel
theorem dX4_goesOn_68 : decode cX4_goesOn 68 = .ok (.iconst 1, 1) := by decide +kernel
theorem dX4_goesOn_69 : decode cX4_goesOn 69 = .ok (.goto 4, 3) := by decide +kernel
theorem dX4_goesOn_72 : decode cX4_goesOn 72 = .ok (.iconst 0, 1) := by decide +kernel
theorem dX4_goesOn_73 : decode cX4_goesOn 73 = .ok (.ireturn, 1) := by decide +kernel
theorem dX4_goesOn_74 : decode cX4_goesOn 74 = .ok (.iload_n 3, 1) := by decide +kernel
theorem dX4_goesOn_75 : decode cX4_goesOn 75 = .ok (.iconst (-1), 1) := by decide +kernel
theorem dX4_goesOn_76 : decode cX4_goesOn 76 = .ok (.if_icmp .eq 12, 3) := by decide +kernel
theorem dX4_goesOn_79 : decode cX4_goesOn 79 = .ok (.iload_n 3, 1) := by decide +kernel
theorem dX4_goesOn_80 : decode cX4_goesOn 80 = .ok (.iload_n 2, 1) := by decide +kernel
theorem dX4_goesOn_81 : decode cX4_goesOn 81 = .ok (.if_icmp .ge 7, 3) := by decide +kernel
theorem dX4_goesOn_84 : decode cX4_goesOn 84 = .ok (.iconst 1, 1) := by decide +kernel
theorem dX4_goesOn_85 : decode cX4_goesOn 85 = .ok (.goto 4, 3) := by decide +kernel
theorem dX4_goesOn_88 : decode cX4_goesOn 88 = .ok (.iconst 0, 1) := by decide +kernel
theorem dX4_goesOn_89 : decode cX4_goesOn 89 = .ok (.ireturn, 1) := by decide +kernel
theorem dX4_goesOn_90 : decode cX4_goesOn 90 = .ok (.iload_n 3, 1) := by decide +kernel
theorem dX4_goesOn_91 : decode cX4_goesOn 91 = .ok (.iconst 1, 1) := by decide +kernel
theorem dX4_goesOn_92 : decode cX4_goesOn 92 = .ok (.if_icmp .lt 7, 3) := by decide +kernel
theorem dX4_goesOn_95 : decode cX4_goesOn 95 = .ok (.iconst 1, 1) := by decide +kernel
theorem dX4_goesOn_96 : decode cX4_goesOn 96 = .ok (.goto 4, 3) := by decide +kernel
theorem dX4_goesOn_99 : decode cX4_goesOn 99 = .ok (.iconst 0, 1) := by decide +kernel
theorem dX4_goesOn_100 : decode cX4_goesOn 100 = .ok (.ireturn, 1) := by decide +kernel
theorem dX4_goesOn_101 : decode cX4_goesOn 101 = .ok (.iload_n 3, 1) := by decide +kernel
theorem dX4_goesOn_102 : decode cX4_goesOn 102 = .ok (.iconst (-1), 1) := by decide +kernel
theorem dX4_goesOn_103 : decode cX4_goesOn 103 = .ok (.if_icmp .eq 7, 3) := by decide +kernel
theorem dX4_goesOn_106 : decode cX4_goesOn 106 = .ok (.iconst 1, 1) := by decide +kernel
theorem dX4_goesOn_107 : decode cX4_goesOn 107 = .ok (.goto 4, 3) := by decide +kernel
theorem dX4_goesOn_110 : decode cX4_goesOn 110 = .ok (.iconst 0, 1) := by decide +kernel
theorem dX4_goesOn_111 : decode cX4_goesOn 111 = .ok (.ireturn, 1) := by decide +kernel
theorem dX4_goesOn_112 : decode cX4_goesOn 112 = .ok (.aload_n 0, 1) := by decide +kernel
theorem dX4_goesOn_113 : decode cX4_goesOn 113 = .ok (.iload_n 1, 1) := by decide +kernel
theorem dX4_goesOn_114 : decode cX4_goesOn 114 = .ok (.invokevirtual 55, 3) := by decide +kernel
theorem dX4_goesOn_117 : decode cX4_goesOn 117 = .ok (.bipush 59, 2) := by decide +kernel
theorem dX4_goesOn_119 : decode cX4_goesOn 119 = .ok (.if_icmp .ne 7, 3) := by decide +kernel
theorem dX4_goesOn_122 : decode cX4_goesOn 122 = .ok (.iconst 1, 1) := by decide +kernel
theorem dX4_goesOn_123 : decode cX4_goesOn 123 = .ok (.goto 4, 3) := by decide +kernel
theorem dX4_goesOn_126 : decode cX4_goesOn 126 = .ok (.iconst 0, 1) := by decide +kernel
theorem dX4_goesOn_127 : decode cX4_goesOn 127 = .ok (.ireturn, 1) := by decide +kernel
theorem dX5_init_0 : decode cX5_init 0 = .ok (.aload_n 0, 1) := by decide +kernel
theorem dX5_init_1 : decode cX5_init 1 = .ok (.invokespecial 3, 3) := by decide +kernel
theorem dX5_init_4 : decode cX5_init 4 = .ok (.aload_n 0, 1) := by decide +kernel
theorem dX5_init_5 : decode cX5_init 5 = .ok (.bipush 60, 2) := by decide +kernel
theorem dX5_init_7 : decode cX5_init 7 = .ok (.newarray .int, 2) := by decide +kernel
theorem dX5_init_9 : decode cX5_init 9 = .ok (.putfield 9, 3) := by decide +kernel
theorem dX5_init_12 : decode cX5_init 12 = .ok (.aload_n 0, 1) := by decide +kernel
theorem dX5_init_13 : decode cX5_init 13 = .ok (.iconst 0, 1) := by decide +kernel
theorem dX5_init_14 : decode cX5_init 14 = .ok (.putfield 15, 3) := by decide +kernel
theorem dX5_init_17 : decode cX5_init 17 = .ok (.aload_n 0, 1) := by decide +kernel
theorem dX5_init_18 : decode cX5_init 18 = .ok (.iconst (-1), 1) := by decide +kernel
theorem dX5_init_19 : decode cX5_init 19 = .ok (.putfield 19, 3) := by decide +kernel
theorem dX5_init_22 : decode cX5_init 22 = .ok (.return_, 1) := by decide +kernel
theorem dX5_isLost_0 : decode cX5_isLost 0 = .ok (.aload_n 0, 1) := by decide +kernel
theorem dX5_isLost_1 : decode cX5_isLost 1 = .ok (.getfield 19, 3) := by decide +kernel
theorem dX5_isLost_4 : decode cX5_isLost 4 = .ok (.iconst (-1), 1) := by decide +kernel
theorem dX5_isLost_5 : decode cX5_isLost 5 = .ok (.if_icmp .ne 7, 3) := by decide +kernel
theorem dX5_isLost_8 : decode cX5_isLost 8 = .ok (.iconst 1, 1) := by decide +kernel
theorem dX5_isLost_9 : decode cX5_isLost 9 = .ok (.goto 4, 3) := by decide +kernel
theorem dX5_isLost_12 : decode cX5_isLost 12 = .ok (.iconst 0, 1) := by decide +kernel
theorem dX5_isLost_13 : decode cX5_isLost 13 = .ok (.ireturn, 1) := by decide +kernel
theorem dX5_size_0 : decode cX5_size 0 = .ok (.aload_n 0, 1) := by decide +kernel
theorem dX5_size_1 : decode cX5_size 1 = .ok (.getfield 19, 3) := by decide +kernel
theorem dX5_size_4 : decode cX5_size 4 = .ok (.ireturn, 1) := by decide +kernel
theorem dX5_form_0 : decode cX5_form 0 = .ok (.aload_n 0, 1) := by decide +kernel
theorem dX5_form_1 : decode cX5_form 1 = .ok (.getfield 15, 3) := by decide +kernel
theorem dX5_form_4 : decode cX5_form 4 = .ok (.ireturn, 1) := by decide +kernel
theorem dX5_hasItem_0 : decode cX5_hasItem 0 = .ok (.iload_n 1, 1) := by decide +kernel
theorem dX5_hasItem_1 : decode cX5_hasItem 1 = .ok (.ifCond .lt 21, 3) := by decide +kernel
theorem dX5_hasItem_4 : decode cX5_hasItem 4 = .ok (.iload_n 1, 1) := by decide +kernel
theorem dX5_hasItem_5 : decode cX5_hasItem 5 = .ok (.aload_n 0, 1) := by decide +kernel
theorem dX5_hasItem_6 : decode cX5_hasItem 6 = .ok (.getfield 19, 3) := by decide +kernel
theorem dX5_hasItem_9 : decode cX5_hasItem 9 = .ok (.if_icmp .ge 13, 3) := by decide +kernel
theorem dX5_hasItem_12 : decode cX5_hasItem 12 = .ok (.iload_n 1, 1) := by decide +kernel
theorem dX5_hasItem_13 : decode cX5_hasItem 13 = .ok (.bipush 60, 2) := by decide +kernel
theorem dX5_hasItem_15 : decode cX5_hasItem 15 = .ok (.if_icmp .ge 7, 3) := by decide +kernel
theorem dX5_hasItem_18 : decode cX5_hasItem 18 = .ok (.iconst 1, 1) := by decide +kernel
theorem dX5_hasItem_19 : decode cX5_hasItem 19 = .ok (.goto 4, 3) := by decide +kernel
theorem dX5_hasItem_22 : decode cX5_hasItem 22 = .ok (.iconst 0, 1) := by decide +kernel
theorem dX5_hasItem_23 : decode cX5_hasItem 23 = .ok (.ireturn, 1) := by decide +kernel
theorem dX5_hasSpan_0 : decode cX5_hasSpan 0 = .ok (.iload_n 1, 1) := by decide +kernel
theorem dX5_hasSpan_1 : decode cX5_hasSpan 1 = .ok (.ifCond .lt 21, 3) := by decide +kernel
theorem dX5_hasSpan_4 : decode cX5_hasSpan 4 = .ok (.iload_n 2, 1) := by decide +kernel
theorem dX5_hasSpan_5 : decode cX5_hasSpan 5 = .ok (.ifCond .lt 17, 3) := by decide +kernel
theorem dX5_hasSpan_8 : decode cX5_hasSpan 8 = .ok (.iload_n 2, 1) := by decide +kernel
theorem dX5_hasSpan_9 : decode cX5_hasSpan 9 = .ok (.aload_n 0, 1) := by decide +kernel
theorem dX5_hasSpan_10 : decode cX5_hasSpan 10 = .ok (.getfield 19, 3) := by decide +kernel
theorem dX5_hasSpan_13 : decode cX5_hasSpan 13 = .ok (.iload_n 1, 1) := by decide +kernel
theorem dX5_hasSpan_14 : decode cX5_hasSpan 14 = .ok (.isub, 1) := by decide +kernel
theorem dX5_hasSpan_15 : decode cX5_hasSpan 15 = .ok (.if_icmp .gt 7, 3) := by decide +kernel
theorem dX5_hasSpan_18 : decode cX5_hasSpan 18 = .ok (.iconst 1, 1) := by decide +kernel
theorem dX5_hasSpan_19 : decode cX5_hasSpan 19 = .ok (.goto 4, 3) := by decide +kernel
theorem dX5_hasSpan_22 : decode cX5_hasSpan 22 = .ok (.iconst 0, 1) := by decide +kernel
theorem dX5_hasSpan_23 : decode cX5_hasSpan 23 = .ok (.ireturn, 1) := by decide +kernel
theorem dX5_renew_0 : decode cX5_renew 0 = .ok (.aload_n 0, 1) := by decide +kernel
theorem dX5_renew_1 : decode cX5_renew 1 = .ok (.iload_n 1, 1) := by decide +kernel
theorem dX5_renew_2 : decode cX5_renew 2 = .ok (.putfield 15, 3) := by decide +kernel
theorem dX5_renew_5 : decode cX5_renew 5 = .ok (.aload_n 0, 1) := by decide +kernel
theorem dX5_renew_6 : decode cX5_renew 6 = .ok (.iconst 0, 1) := by decide +kernel
theorem dX5_renew_7 : decode cX5_renew 7 = .ok (.iload_n 2, 1) := by decide +kernel
theorem dX5_renew_8 : decode cX5_renew 8 = .ok (.bipush 60, 2) := by decide +kernel
theorem dX5_renew_10 : decode cX5_renew 10 = .ok (.invokestatic 22, 3) := by decide +kernel
theorem dX5_renew_13 : decode cX5_renew 13 = .ok (.invokestatic 28, 3) := by decide +kernel
theorem dX5_renew_16 : decode cX5_renew 16 = .ok (.putfield 19, 3) := by decide +kernel
theorem dX5_renew_19 : decode cX5_renew 19 = .ok (.aload_n 0, 1) := by decide +kernel
theorem dX5_renew_20 : decode cX5_renew 20 = .ok (.getfield 9, 3) := by decide +kernel
theorem dX5_renew_23 : decode cX5_renew 23 = .ok (.iconst 0, 1) := by decide +kernel
theorem dX5_renew_24 : decode cX5_renew 24 = .ok (.invokestatic 31, 3) := by decide +kernel
theorem dX5_renew_27 : decode cX5_renew 27 = .ok (.return_, 1) := by decide +kernel
theorem dX5_drop_0 : decode cX5_drop 0 = .ok (.aload_n 0, 1) := by decide +kernel
theorem dX5_drop_1 : decode cX5_drop 1 = .ok (.iconst (-1), 1) := by decide +kernel
theorem dX5_drop_2 : decode cX5_drop 2 = .ok (.putfield 19, 3) := by decide +kernel
theorem dX5_drop_5 : decode cX5_drop 5 = .ok (.return_, 1) := by decide +kernel
theorem dX5_itemAt_0 : decode cX5_itemAt 0 = .ok (.aload_n 0, 1) := by decide +kernel
theorem dX5_itemAt_1 : decode cX5_itemAt 1 = .ok (.iload_n 1, 1) := by decide +kernel
theorem dX5_itemAt_2 : decode cX5_itemAt 2 = .ok (.invokevirtual 37, 3) := by decide +kernel
theorem dX5_itemAt_5 : decode cX5_itemAt 5 = .ok (.ifCond .eq 12, 3) := by decide +kernel
theorem dX5_itemAt_8 : decode cX5_itemAt 8 = .ok (.aload_n 0, 1) := by decide +kernel
theorem dX5_itemAt_9 : decode cX5_itemAt 9 = .ok (.getfield 9, 3) := by decide +kernel
theorem dX5_itemAt_12 : decode cX5_itemAt 12 = .ok (.iload_n 1, 1) := by decide +kernel
theorem dX5_itemAt_13 : decode cX5_itemAt 13 = .ok (.iaload, 1) := by decide +kernel
theorem dX5_itemAt_14 : decode cX5_itemAt 14 = .ok (.goto 4, 3) := by decide +kernel
theorem dX5_itemAt_17 : decode cX5_itemAt 17 = .ok (.iconst 0, 1) := by decide +kernel
theorem dX5_itemAt_18 : decode cX5_itemAt 18 = .ok (.ireturn, 1) := by decide +kernel
theorem dX5_put_0 : decode cX5_put 0 = .ok (.aload_n 0, 1) := by decide +kernel
theorem dX5_put_1 : decode cX5_put 1 = .ok (.iload_n 1, 1) := by decide +kernel
theorem dX5_put_2 : decode cX5_put 2 = .ok (.invokevirtual 37, 3) := by decide +kernel
theorem dX5_put_5 : decode cX5_put 5 = .ok (.ifCond .eq 14, 3) := by decide +kernel
theorem dX5_put_8 : decode cX5_put 8 = .ok (.aload_n 0, 1) := by decide +kernel
theorem dX5_put_9 : decode cX5_put 9 = .ok (.getfield 9, 3) := by decide +kernel
theorem dX5_put_12 : decode cX5_put 12 = .ok (.iload_n 1, 1) := by decide +kernel
theorem dX5_put_13 : decode cX5_put 13 = .ok (.aload_n 0, 1) := by decide +kernel
theorem dX5_put_14 : decode cX5_put 14 = .ok (.iload_n 2, 1) := by decide +kernel
theorem dX5_put_15 : decode cX5_put 15 = .ok (.invokevirtual 41, 3) := by decide +kernel
theorem dX5_put_18 : decode cX5_put 18 = .ok (.iastore, 1) := by decide +kernel
theorem dX5_put_19 : decode cX5_put 19 = .ok (.return_, 1) := by decide +kernel
theorem dX5_take_0 : decode cX5_take 0 = .ok (.aload_n 0, 1) := by decide +kernel
theorem dX5_take_1 : decode cX5_take 1 = .ok (.iload_n 1, 1) := by decide +kernel
theorem dX5_take_2 : decode cX5_take 2 = .ok (.iload 4, 2) := by decide +kernel
theorem dX5_take_4 : decode cX5_take 4 = .ok (.invokevirtual 45, 3) := by decide +kernel
theorem dX5_take_7 : decode cX5_take 7 = .ok (.ifCond .eq 28, 3) := by decide +kernel
theorem dX5_take_10 : decode cX5_take 10 = .ok (.aload_n 2, 1) := by decide +kernel
theorem dX5_take_11 : decode cX5_take 11 = .ok (.iload_n 3, 1) := by decide +kernel
theorem dX5_take_12 : decode cX5_take 12 = .ok (.iload 4, 2) := by decide +kernel
theorem dX5_take_14 : decode cX5_take 14 = .ok (.invokevirtual 45, 3) := by decide +kernel
theorem dX5_take_17 : decode cX5_take 17 = .ok (.ifCond .eq 18, 3) := by decide +kernel
theorem dX5_take_20 : decode cX5_take 20 = .ok (.aload_n 2, 1) := by decide +kernel
theorem dX5_take_21 : decode cX5_take 21 = .ok (.getfield 9, 3) := by decide +kernel
theorem dX5_take_24 : decode cX5_take 24 = .ok (.iload_n 3, 1) := by decide +kernel
theorem dX5_take_25 : decode cX5_take 25 = .ok (.aload_n 0, 1) := by decide +kernel
theorem dX5_take_26 : decode cX5_take 26 = .ok (.getfield 9, 3) := by decide +kernel
theorem dX5_take_29 : decode cX5_take 29 = .ok (.iload_n 1, 1) := by decide +kernel
theorem dX5_take_30 : decode cX5_take 30 = .ok (.iload 4, 2) := by decide +kernel
theorem dX5_take_32 : decode cX5_take 32 = .ok (.invokestatic 49, 3) := by decide +kernel
theorem dX5_take_35 : decode cX5_take 35 = .ok (.return_, 1) := by decide +kernel
theorem dX5_fitted_0 : decode cX5_fitted 0 = .ok (.aload_n 0, 1) := by decide +kernel
theorem dX5_fitted_1 : decode cX5_fitted 1 = .ok (.getfield 15, 3) := by decide +kernel
theorem dX5_fitted_4 : decode cX5_fitted 4 = .ok (.ifCond .ne 6, 3) := by decide +kernel
theorem dX5_fitted_7 : decode cX5_fitted 7 = .ok (.iload_n 1, 1) := by decide +kernel
theorem dX5_fitted_8 : decode cX5_fitted 8 = .ok (.i2b, 1) := by decide +kernel
theorem dX5_fitted_9 : decode cX5_fitted 9 = .ok (.ireturn, 1) := by decide +kernel
theorem dX5_fitted_10 : decode cX5_fitted 10 = .ok (.aload_n 0, 1) := by decide +kernel
theorem dX5_fitted_11 : decode cX5_fitted 11 = .ok (.getfield 15, 3) := by decide +kernel
theorem dX5_fitted_14 : decode cX5_fitted 14 = .ok (.iconst 1, 1) := by decide +kernel
theorem dX5_fitted_15 : decode cX5_fitted 15 = .ok (.if_icmp .ne 8, 3) := by decide +kernel
theorem dX5_fitted_18 : decode cX5_fitted 18 = .ok (.iload_n 1, 1) := by decide +kernel
theorem dX5_fitted_19 : decode cX5_fitted 19 = .ok (.i2s, 1) := by decide +kernel
theorem dX5_fitted_20 : decode cX5_fitted 20 = .ok (.goto 4, 3) := by decide +kernel
theorem dX5_fitted_23 : decode cX5_fitted 23 = .ok (.iload_n 1, 1) := by decide +kernel
theorem dX5_fitted_24 : decode cX5_fitted 24 = .ok (.ireturn, 1) := by decide +kernel
theorem dX6_init_0 : decode cX6_init 0 = .ok (.aload_n 0, 1) := by decide +kernel
theorem dX6_init_1 : decode cX6_init 1 = .ok (.invokespecial 3, 3) := by decide +kernel
theorem dX6_init_4 : decode cX6_init 4 = .ok (.aload_n 0, 1) := by decide +kernel
theorem dX6_init_5 : decode cX6_init 5 = .ok (.bipush 52, 2) := by decide +kernel
theorem dX6_init_7 : decode cX6_init 7 = .ok (.newarray .int, 2) := by decide +kernel
theorem dX6_init_9 : decode cX6_init 9 = .ok (.putfield 9, 3) := by decide +kernel
theorem dX6_init_12 : decode cX6_init 12 = .ok (.return_, 1) := by decide +kernel
theorem dX6_cloudsIn_0 : decode cX6_cloudsIn 0 = .ok (.iload_n 1, 1) := by decide +kernel
theorem dX6_cloudsIn_1 : decode cX6_cloudsIn 1 = .ok (.iconst 0, 1) := by decide +kernel
theorem dX6_cloudsIn_2 : decode cX6_cloudsIn 2 = .ok (.bipush 51, 2) := by decide +kernel
theorem dX6_cloudsIn_4 : decode cX6_cloudsIn 4 = .ok (.invokestatic 15, 3) := by decide +kernel
theorem dX6_cloudsIn_7 : decode cX6_cloudsIn 7 = .ok (.ifCond .eq 12, 3) := by decide +kernel
theorem dX6_cloudsIn_10 : decode cX6_cloudsIn 10 = .ok (.aload_n 0, 1) := by decide +kernel
theorem dX6_cloudsIn_11 : decode cX6_cloudsIn 11 = .ok (.getfield 9, 3) := by decide +kernel
theorem dX6_cloudsIn_14 : decode cX6_cloudsIn 14 = .ok (.iload_n 1, 1) := by decide +kernel
theorem dX6_cloudsIn_15 : decode cX6_cloudsIn 15 = .ok (.iaload, 1) := by decide +kernel
theorem dX6_cloudsIn_16 : decode cX6_cloudsIn 16 = .ok (.goto 4, 3) := by decide +kernel
theorem dX6_cloudsIn_19 : decode cX6_cloudsIn 19 = .ok (.iconst 0, 1) := by decide +kernel
theorem dX6_cloudsIn_20 : decode cX6_cloudsIn 20 = .ok (.ireturn, 1) := by decide +kernel
theorem dX6_setClouds_0 : decode cX6_setClouds 0 = .ok (.iload_n 1, 1) := by decide +kernel
theorem dX6_setClouds_1 : decode cX6_setClouds 1 = .ok (.iconst 0, 1) := by decide +kernel
theorem dX6_setClouds_2 : decode cX6_setClouds 2 = .ok (.bipush 51, 2) := by decide +kernel
theorem dX6_setClouds_4 : decode cX6_setClouds 4 = .ok (.invokestatic 15, 3) := by decide +kernel
theorem dX6_setClouds_7 : decode cX6_setClouds 7 = .ok (.ifCond .eq 10, 3) := by decide +kernel
theorem dX6_setClouds_10 : decode cX6_setClouds 10 = .ok (.aload_n 0, 1) := by decide +kernel
theorem dX6_setClouds_11 : decode cX6_setClouds 11 = .ok (.getfield 9, 3) := by decide +kernel
theorem dX6_setClouds_14 : decode cX6_setClouds 14 = .ok (.iload_n 1, 1) := by decide +kernel
theorem dX6_setClouds_15 : decode cX6_setClouds 15 = .ok (.iload_n 2, 1) := by decide +kernel
theorem dX6_setClouds_16 : decode cX6_setClouds 16 = .ok (.iastore, 1) := by decide +kernel
theorem dX6_setClouds_17 : decode cX6_setClouds 17 = .ok (.return_, 1) := by decide +kernel
theorem dX6_cloudedWeeks_0 : decode cX6_cloudedWeeks 0 = .ok (.iconst 0, 1) := by decide +kernel
theorem dX6_cloudedWeeks_1 : decode cX6_cloudedWeeks 1 = .ok (.istore_n 1, 1) := by decide +kernel
theorem dX6_cloudedWeeks_2 : decode cX6_cloudedWeeks 2 = .ok (.aload_n 0, 1) := by decide +kernel
theorem dX6_cloudedWeeks_3 : decode cX6_cloudedWeeks 3 = .ok (.getfield 9, 3) := by decide +kernel
theorem dX6_cloudedWeeks_6 : decode cX6_cloudedWeeks 6 = .ok (.astore_n 2, 1) := by decide +kernel
theorem dX6_cloudedWeeks_7 : decode cX6_cloudedWeeks 7 = .ok (.aload_n 2, 1) := by decide +kernel
theorem dX6_cloudedWeeks_8 : decode cX6_cloudedWeeks 8 = .ok (.arraylength, 1) := by decide +kernel
theorem dX6_cloudedWeeks_9 : decode cX6_cloudedWeeks 9 = .ok (.istore_n 3, 1) := by decide +kernel
theorem dX6_cloudedWeeks_10 : decode cX6_cloudedWeeks 10 = .ok (.iconst 0, 1) := by decide +kernel
theorem dX6_cloudedWeeks_11 : decode cX6_cloudedWeeks 11 = .ok (.istore 4, 2) := by decide +kernel
theorem dX6_cloudedWeeks_13 : decode cX6_cloudedWeeks 13 = .ok (.iload 4, 2) := by decide +kernel
theorem dX6_cloudedWeeks_15 : decode cX6_cloudedWeeks 15 = .ok (.iload_n 3, 1) := by decide +kernel
theorem dX6_cloudedWeeks_16 : decode cX6_cloudedWeeks 16 = .ok (.if_icmp .ge 20, 3) := by decide +kernel
theorem dX6_cloudedWeeks_19 : decode cX6_cloudedWeeks 19 = .ok (.aload_n 2, 1) := by decide +kernel
theorem dX6_cloudedWeeks_20 : decode cX6_cloudedWeeks 20 = .ok (.iload 4, 2) := by decide +kernel
theorem dX6_cloudedWeeks_22 : decode cX6_cloudedWeeks 22 = .ok (.iaload, 1) := by decide +kernel
theorem dX6_cloudedWeeks_23 : decode cX6_cloudedWeeks 23 = .ok (.istore 5, 2) := by decide +kernel
theorem dX6_cloudedWeeks_25 : decode cX6_cloudedWeeks 25 = .ok (.iload_n 1, 1) := by decide +kernel
theorem dX6_cloudedWeeks_26 : decode cX6_cloudedWeeks 26 = .ok (.iload 5, 2) := by decide +kernel
theorem dX6_cloudedWeeks_28 : decode cX6_cloudedWeeks 28 = .ok (.iadd, 1) := by decide +kernel
theorem dX6_cloudedWeeks_29 : decode cX6_cloudedWeeks 29 = .ok (.istore_n 1, 1) := by decide +kernel
theorem dX6_cloudedWeeks_30 : decode cX6_cloudedWeeks 30 = .ok (.iinc 4 1, 3) := by decide +kernel
theorem dX6_cloudedWeeks_33 : decode cX6_cloudedWeeks 33 = .ok (.goto (-20), 3) := by decide +kernel
theorem dX6_cloudedWeeks_36 : decode cX6_cloudedWeeks 36 = .ok (.iload_n 1, 1) := by decide +kernel
theorem dX6_cloudedWeeks_37 : decode cX6_cloudedWeeks 37 = .ok (.ireturn, 1) := by decide +kernel
theorem dX7_init_0 : decode cX7_init 0 = .ok (.aload_n 0, 1) := by decide +kernel
theorem dX7_init_1 : decode cX7_init 1 = .ok (.invokespecial 3, 3) := by decide +kernel
theorem dX7_init_4 : decode cX7_init 4 = .ok (.aload_n 0, 1) := by decide +kernel
theorem dX7_init_5 : decode cX7_init 5 = .ok (.bipush 8, 2) := by decide +kernel
theorem dX7_init_7 : decode cX7_init 7 = .ok (.newarray .int, 2) := by decide +kernel
theorem dX7_init_9 : decode cX7_init 9 = .ok (.putfield 9, 3) := by decide +kernel
theorem dX7_init_12 : decode cX7_init 12 = .ok (.aload_n 0, 1) := by decide +kernel
theorem dX7_init_13 : decode cX7_init 13 = .ok (.bipush 8, 2) := by decide +kernel
theorem dX7_init_15 : decode cX7_init 15 = .ok (.newarray .int, 2) := by decide +kernel
theorem dX7_init_17 : decode cX7_init 17 = .ok (.putfield 15, 3) := by decide +kernel
theorem dX7_init_20 : decode cX7_init 20 = .ok (.aload_n 0, 1) := by decide +kernel
theorem dX7_init_21 : decode cX7_init 21 = .ok (.bipush 8, 2) := by decide +kernel
theorem dX7_init_23 : decode cX7_init 23 = .ok (.newarray .int, 2) := by decide +kernel
theorem dX7_init_25 : decode cX7_init 25 = .ok (.putfield 18, 3) := by decide +kernel
theorem dX7_init_28 : decode cX7_init 28 = .ok (.aload_n 0, 1) := by decide +kernel
theorem dX7_init_29 : decode cX7_init 29 = .ok (.iconst 0, 1) := by decide +kernel
theorem dX7_init_30 : decode cX7_init 30 = .ok (.putfield 21, 3) := by decide +kernel
theorem dX7_init_33 : decode cX7_init 33 = .ok (.return_, 1) := by decide +kernel
theorem dX7_number_0 : decode cX7_number 0 = .ok (.aload_n 0, 1) := by decide +kernel
theorem dX7_number_1 : decode cX7_number 1 = .ok (.getfield 21, 3) := by decide +kernel
theorem dX7_number_4 : decode cX7_number 4 = .ok (.ireturn, 1) := by decide +kernel
theorem dX7_isFull_0 : decode cX7_isFull 0 = .ok (.aload_n 0, 1) := by decide +kernel
theorem dX7_isFull_1 : decode cX7_isFull 1 = .ok (.getfield 21, 3) := by decide +kernel
theorem dX7_isFull_4 : decode cX7_isFull 4 = .ok (.bipush 8, 2) := by decide +kernel
theorem dX7_isFull_6 : decode cX7_isFull 6 = .ok (.if_icmp .lt 7, 3) := by decide +kernel
theorem dX7_isFull_9 : decode cX7_isFull 9 = .ok (.iconst 1, 1) := by decide +kernel
theorem dX7_isFull_10 : decode cX7_isFull 10 = .ok (.goto 4, 3) := by decide +kernel
theorem dX7_isFull_13 : decode cX7_isFull 13 = .ok (.iconst 0, 1) := by decide +kernel
theorem dX7_isFull_14 : decode cX7_isFull 14 = .ok (.ireturn, 1) := by decide +kernel
theorem dX7_add_0 : decode cX7_add 0 = .ok (.aload_n 0, 1) := by decide +kernel
theorem dX7_add_1 : decode cX7_add 1 = .ok (.invokevirtual 25, 3) := by decide +kernel
theorem dX7_add_4 : decode cX7_add 4 = .ok (.ifCond .eq 4, 3) := by decide +kernel
theorem dX7_add_7 : decode cX7_add 7 = .ok (.return_, 1) := by decide +kernel
theorem dX7_add_8 : decode cX7_add 8 = .ok (.aload_n 0, 1) := by decide +kernel
theorem dX7_add_9 : decode cX7_add 9 = .ok (.getfield 9, 3) := by decide +kernel
theorem dX7_add_12 : decode cX7_add 12 = .ok (.aload_n 0, 1) := by decide +kernel
theorem dX7_add_13 : decode cX7_add 13 = .ok (.getfield 21, 3) := by decide +kernel
theorem dX7_add_16 : decode cX7_add 16 = .ok (.iload_n 1, 1) := by decide +kernel
theorem dX7_add_17 : decode cX7_add 17 = .ok (.iastore, 1) := by decide +kernel
theorem dX7_add_18 : decode cX7_add 18 = .ok (.aload_n 0, 1) := by decide +kernel
theorem dX7_add_19 : decode cX7_add 19 = .ok (.getfield 15, 3) := by decide +kernel
theorem dX7_add_22 : decode cX7_add 22 = .ok (.aload_n 0, 1) := by decide +kernel
theorem dX7_add_23 : decode cX7_add 23 = .ok (.getfield 21, 3) := by decide +kernel
theorem dX7_add_26 : decode cX7_add 26 = .ok (.iload_n 2, 1) := by decide +kernel
theorem dX7_add_27 : decode cX7_add 27 = .ok (.iastore, 1) := by decide +kernel
theorem dX7_add_28 : decode cX7_add 28 = .ok (.aload_n 0, 1) := by decide +kernel
theorem dX7_add_29 : decode cX7_add 29 = .ok (.getfield 18, 3) := by decide +kernel
theorem dX7_add_32 : decode cX7_add 32 = .ok (.aload_n 0, 1) := by decide +kernel
theorem dX7_add_33 : decode cX7_add 33 = .ok (.getfield 21, 3) := by decide +kernel
theorem dX7_add_36 : decode cX7_add 36 = .ok (.iload_n 3, 1) := by decide +kernel
theorem dX7_add_37 : decode cX7_add 37 = .ok (.iastore, 1) := by decide +kernel
theorem dX7_add_38 : decode cX7_add 38 = .ok (.aload_n 0, 1) := by decide +kernel
theorem dX7_add_39 : decode cX7_add 39 = .ok (.dup, 1) := by decide +kernel
theorem dX7_add_40 : decode cX7_add 40 = .ok (.getfield 21, 3) := by decide +kernel
theorem dX7_add_43 : decode cX7_add 43 = .ok (.iconst 1, 1) := by decide +kernel
theorem dX7_add_44 : decode cX7_add 44 = .ok (.iadd, 1) := by decide +kernel
theorem dX7_add_45 : decode cX7_add 45 = .ok (.putfield 21, 3) := by decide +kernel
theorem dX7_add_48 : decode cX7_add 48 = .ok (.return_, 1) := by decide +kernel
theorem dX7_clear_0 : decode cX7_clear 0 = .ok (.aload_n 0, 1) := by decide +kernel
theorem dX7_clear_1 : decode cX7_clear 1 = .ok (.iconst 0, 1) := by decide +kernel
theorem dX7_clear_2 : decode cX7_clear 2 = .ok (.putfield 21, 3) := by decide +kernel
theorem dX7_clear_5 : decode cX7_clear 5 = .ok (.return_, 1) := by decide +kernel
theorem dX7_unaskable_0 : decode cX7_unaskable 0 = .ok (.iconst 0, 1) := by decide +kernel
theorem dX7_unaskable_1 : decode cX7_unaskable 1 = .ok (.istore_n 3, 1) := by decide +kernel
theorem dX7_unaskable_2 : decode cX7_unaskable 2 = .ok (.iconst 0, 1) := by decide +kernel
theorem dX7_unaskable_3 : decode cX7_unaskable 3 = .ok (.istore 4, 2) := by decide +kernel
theorem dX7_unaskable_5 : decode cX7_unaskable 5 = .ok (.iload 4, 2) := by decide +kernel
theorem dX7_unaskable_7 : decode cX7_unaskable 7 = .ok (.aload_n 0, 1) := by decide +kernel
theorem dX7_unaskable_8 : decode cX7_unaskable 8 = .ok (.getfield 21, 3) := by decide +kernel
theorem dX7_unaskable_11 : decode cX7_unaskable 11 = .ok (.if_icmp .ge 47, 3) := by decide +kernel
theorem dX7_unaskable_14 : decode cX7_unaskable 14 = .ok (.iload 4, 2) := by decide +kernel
theorem dX7_unaskable_16 : decode cX7_unaskable 16 = .ok (.bipush 8, 2) := by decide +kernel
theorem dX7_unaskable_18 : decode cX7_unaskable 18 = .ok (.if_icmp .ge 40, 3) := by decide +kernel
theorem dX7_unaskable_21 : decode cX7_unaskable 21 = .ok (.aload_n 1, 1) := by decide +kernel
theorem dX7_unaskable_22 : decode cX7_unaskable 22 = .ok (.aload_n 0, 1) := by decide +kernel
theorem dX7_unaskable_23 : decode cX7_unaskable 23 = .ok (.getfield 9, 3) := by decide +kernel
theorem dX7_unaskable_26 : decode cX7_unaskable 26 = .ok (.iload 4, 2) := by decide +kernel
theorem dX7_unaskable_28 : decode cX7_unaskable 28 = .ok (.iaload, 1) := by decide +kernel
theorem dX7_unaskable_29 : decode cX7_unaskable 29 = .ok (.invokevirtual 29, 3) := by decide +kernel
theorem dX7_unaskable_32 : decode cX7_unaskable 32 = .ok (.ifCond .eq 17, 3) := by decide +kernel
theorem dX7_unaskable_35 : decode cX7_unaskable 35 = .ok (.aload_n 0, 1) := by decide +kernel
theorem dX7_unaskable_36 : decode cX7_unaskable 36 = .ok (.getfield 15, 3) := by decide +kernel
theorem dX7_unaskable_39 : decode cX7_unaskable 39 = .ok (.iload 4, 2) := by decide +kernel
theorem dX7_unaskable_41 : decode cX7_unaskable 41 = .ok (.iaload, 1) := by decide +kernel
theorem dX7_unaskable_42 : decode cX7_unaskable 42 = .ok (.aload_n 2, 1) := by decide +kernel
theorem dX7_unaskable_43 : decode cX7_unaskable 43 = .ok (.invokevirtual 35, 3) := by decide +kernel
theorem dX7_unaskable_46 : decode cX7_unaskable 46 = .ok (.if_icmp .le 6, 3) := by decide +kernel
theorem dX7_unaskable_49 : decode cX7_unaskable 49 = .ok (.iinc 3 1, 3) := by decide +kernel
theorem dX7_unaskable_52 : decode cX7_unaskable 52 = .ok (.iinc 4 1, 3) := by decide +kernel
theorem dX7_unaskable_55 : decode cX7_unaskable 55 = .ok (.goto (-50), 3) := by decide +kernel
theorem dX7_unaskable_58 : decode cX7_unaskable 58 = .ok (.iload_n 3, 1) := by decide +kernel
theorem dX7_unaskable_59 : decode cX7_unaskable 59 = .ok (.ireturn, 1) := by decide +kernel
theorem dX7_otherwiseIn_0 : decode cX7_otherwiseIn 0 = .ok (.iconst 0, 1) := by decide +kernel
theorem dX7_otherwiseIn_1 : decode cX7_otherwiseIn 1 = .ok (.istore 4, 2) := by decide +kernel
theorem dX7_otherwiseIn_3 : decode cX7_otherwiseIn 3 = .ok (.aload_n 1, 1) := by decide +kernel
theorem dX7_otherwiseIn_4 : decode cX7_otherwiseIn 4 = .ok (.invokevirtual 40, 3) := by decide +kernel
theorem dX7_otherwiseIn_7 : decode cX7_otherwiseIn 7 = .ok (.iconst 0, 1) := by decide +kernel
theorem dX7_otherwiseIn_8 : decode cX7_otherwiseIn 8 = .ok (.istore 5, 2) := by decide +kernel
theorem dX7_otherwiseIn_10 : decode cX7_otherwiseIn 10 = .ok (.iload 5, 2) := by decide +kernel
theorem dX7_otherwiseIn_12 : decode cX7_otherwiseIn 12 = .ok (.aload_n 3, 1) := by decide +kernel
theorem dX7_otherwiseIn_13 : decode cX7_otherwiseIn 13 = .ok (.invokevirtual 35, 3) := by decide +kernel
theorem dX7_otherwiseIn_16 : decode cX7_otherwiseIn 16 = .ok (.if_icmp .gt 99, 3) := by decide +kernel
theorem dX7_otherwiseIn_19 : decode cX7_otherwiseIn 19 = .ok (.iconst 0, 1) := by decide +kernel
theorem dX7_otherwiseIn_20 : decode cX7_otherwiseIn 20 = .ok (.istore 6, 2) := by decide +kernel
theorem dX7_otherwiseIn_22 : decode cX7_otherwiseIn 22 = .ok (.iload 6, 2) := by decide +kernel
theorem dX7_otherwiseIn_24 : decode cX7_otherwiseIn 24 = .ok (.aload_n 0, 1) := by decide +kernel
theorem dX7_otherwiseIn_25 : decode cX7_otherwiseIn 25 = .ok (.getfield 21, 3) := by decide +kernel
theorem dX7_otherwiseIn_28 : decode cX7_otherwiseIn 28 = .ok (.if_icmp .ge 66, 3) := by decide +kernel
theorem dX7_otherwiseIn_31 : decode cX7_otherwiseIn 31 = .ok (.iload 6, 2) := by decide +kernel
theorem dX7_otherwiseIn_33 : decode cX7_otherwiseIn 33 = .ok (.bipush 8, 2) := by decide +kernel
theorem dX7_otherwiseIn_35 : decode cX7_otherwiseIn 35 = .ok (.if_icmp .ge 59, 3) := by decide +kernel
theorem dX7_otherwiseIn_38 : decode cX7_otherwiseIn 38 = .ok (.aload_n 0, 1) := by decide +kernel
theorem dX7_otherwiseIn_39 : decode cX7_otherwiseIn 39 = .ok (.getfield 15, 3) := by decide +kernel
theorem dX7_otherwiseIn_42 : decode cX7_otherwiseIn 42 = .ok (.iload 6, 2) := by decide +kernel
theorem dX7_otherwiseIn_44 : decode cX7_otherwiseIn 44 = .ok (.iaload, 1) := by decide +kernel
theorem dX7_otherwiseIn_45 : decode cX7_otherwiseIn 45 = .ok (.iload 5, 2) := by decide +kernel
theorem dX7_otherwiseIn_47 : decode cX7_otherwiseIn 47 = .ok (.if_icmp .ne 41, 3) := by decide +kernel
theorem dX7_otherwiseIn_50 : decode cX7_otherwiseIn 50 = .ok (.aload_n 2, 1) := by decide +kernel
theorem dX7_otherwiseIn_51 : decode cX7_otherwiseIn 51 = .ok (.aload_n 0, 1) := by decide +kernel
theorem dX7_otherwiseIn_52 : decode cX7_otherwiseIn 52 = .ok (.getfield 9, 3) := by decide +kernel
theorem dX7_otherwiseIn_55 : decode cX7_otherwiseIn 55 = .ok (.iload 6, 2) := by decide +kernel
theorem dX7_otherwiseIn_57 : decode cX7_otherwiseIn 57 = .ok (.iaload, 1) := by decide +kernel
theorem dX7_otherwiseIn_58 : decode cX7_otherwiseIn 58 = .ok (.invokevirtual 29, 3) := by decide +kernel
theorem dX7_otherwiseIn_61 : decode cX7_otherwiseIn 61 = .ok (.ifCond .eq 27, 3) := by decide +kernel
theorem dX7_otherwiseIn_64 : decode cX7_otherwiseIn 64 = .ok (.aload_n 1, 1) := by decide +kernel
theorem dX7_otherwiseIn_65 : decode cX7_otherwiseIn 65 = .ok (.aload_n 0, 1) := by decide +kernel
theorem dX7_otherwiseIn_66 : decode cX7_otherwiseIn 66 = .ok (.getfield 9, 3) := by decide +kernel
theorem dX7_otherwiseIn_69 : decode cX7_otherwiseIn 69 = .ok (.iload 6, 2) := by decide +kernel
theorem dX7_otherwiseIn_71 : decode cX7_otherwiseIn 71 = .ok (.iaload, 1) := by decide +kernel
theorem dX7_otherwiseIn_72 : decode cX7_otherwiseIn 72 = .ok (.invokevirtual 45, 3) := by decide +kernel
theorem dX7_otherwiseIn_75 : decode cX7_otherwiseIn 75 = .ok (.aload_n 0, 1) := by decide +kernel
theorem dX7_otherwiseIn_76 : decode cX7_otherwiseIn 76 = .ok (.getfield 18, 3) := by decide +kernel
theorem dX7_otherwiseIn_79 : decode cX7_otherwiseIn 79 = .ok (.iload 6, 2) := by decide +kernel
theorem dX7_otherwiseIn_81 : decode cX7_otherwiseIn 81 = .ok (.iaload, 1) := by decide +kernel
theorem dX7_otherwiseIn_82 : decode cX7_otherwiseIn 82 = .ok (.if_icmp .eq 6, 3) := by decide +kernel
theorem dX7_otherwiseIn_85 : decode cX7_otherwiseIn 85 = .ok (.iinc 4 1, 3) := by decide +kernel
theorem dX7_otherwiseIn_88 : decode cX7_otherwiseIn 88 = .ok (.iinc 6 1, 3) := by decide +kernel
theorem dX7_otherwiseIn_91 : decode cX7_otherwiseIn 91 = .ok (.goto (-69), 3) := by decide +kernel
theorem dX7_otherwiseIn_94 : decode cX7_otherwiseIn 94 = .ok (.aload_n 3, 1) := by decide +kernel
theorem dX7_otherwiseIn_95 : decode cX7_otherwiseIn 95 = .ok (.iload 5, 2) := by decide +kernel
theorem dX7_otherwiseIn_97 : decode cX7_otherwiseIn 97 = .ok (.invokevirtual 49, 3) := by decide +kernel
theorem dX7_otherwiseIn_100 : decode cX7_otherwiseIn 100 = .ok (.ifCond .eq 9, 3) := by decide +kernel
theorem dX7_otherwiseIn_103 : decode cX7_otherwiseIn 103 = .ok (.aload_n 1, 1) := by decide +kernel
theorem dX7_otherwiseIn_104 : decode cX7_otherwiseIn 104 = .ok (.iload 5, 2) := by decide +kernel
theorem dX7_otherwiseIn_106 : decode cX7_otherwiseIn 106 = .ok (.invokevirtual 50, 3) := by decide +kernel
theorem dX7_otherwiseIn_109 : decode cX7_otherwiseIn 109 = .ok (.iinc 5 1, 3) := by decide +kernel
theorem dX7_otherwiseIn_112 : decode cX7_otherwiseIn 112 = .ok (.goto (-102), 3) := by decide +kernel
theorem dX7_otherwiseIn_115 : decode cX7_otherwiseIn 115 = .ok (.iload 4, 2) := by decide +kernel
theorem dX7_otherwiseIn_117 : decode cX7_otherwiseIn 117 = .ok (.ireturn, 1) := by decide +kernel
theorem dX8_init_0 : decode cX8_init 0 = .ok (.aload_n 0, 1) := by decide +kernel
theorem dX8_init_1 : decode cX8_init 1 = .ok (.invokespecial 3, 3) := by decide +kernel
theorem dX8_init_4 : decode cX8_init 4 = .ok (.aload_n 0, 1) := by decide +kernel
theorem dX8_init_5 : decode cX8_init 5 = .ok (.iconst 0, 1) := by decide +kernel
theorem dX8_init_6 : decode cX8_init 6 = .ok (.putfield 9, 3) := by decide +kernel
theorem dX8_init_9 : decode cX8_init 9 = .ok (.aload_n 0, 1) := by decide +kernel
theorem dX8_init_10 : decode cX8_init 10 = .ok (.iload_n 1, 1) := by decide +kernel
theorem dX8_init_11 : decode cX8_init 11 = .ok (.iconst 0, 1) := by decide +kernel
theorem dX8_init_12 : decode cX8_init 12 = .ok (.invokestatic 15, 3) := by decide +kernel
theorem dX8_init_15 : decode cX8_init 15 = .ok (.newarray .int, 2) := by decide +kernel
theorem dX8_init_17 : decode cX8_init 17 = .ok (.putfield 21, 3) := by decide +kernel
theorem dX8_init_20 : decode cX8_init 20 = .ok (.return_, 1) := by decide +kernel
theorem dX8_length_0 : decode cX8_length 0 = .ok (.aload_n 0, 1) := by decide +kernel
theorem dX8_length_1 : decode cX8_length 1 = .ok (.getfield 9, 3) := by decide +kernel
theorem dX8_length_4 : decode cX8_length 4 = .ok (.ireturn, 1) := by decide +kernel
theorem dX8_isFull_0 : decode cX8_isFull 0 = .ok (.aload_n 0, 1) := by decide +kernel
theorem dX8_isFull_1 : decode cX8_isFull 1 = .ok (.getfield 9, 3) := by decide +kernel
theorem dX8_isFull_4 : decode cX8_isFull 4 = .ok (.aload_n 0, 1) := by decide +kernel
theorem dX8_isFull_5 : decode cX8_isFull 5 = .ok (.getfield 21, 3) := by decide +kernel
theorem dX8_isFull_8 : decode cX8_isFull 8 = .ok (.arraylength, 1) := by decide +kernel
theorem dX8_isFull_9 : decode cX8_isFull 9 = .ok (.if_icmp .lt 7, 3) := by decide +kernel
theorem dX8_isFull_12 : decode cX8_isFull 12 = .ok (.iconst 1, 1) := by decide +kernel
theorem dX8_isFull_13 : decode cX8_isFull 13 = .ok (.goto 4, 3) := by decide +kernel
theorem dX8_isFull_16 : decode cX8_isFull 16 = .ok (.iconst 0, 1) := by decide +kernel
theorem dX8_isFull_17 : decode cX8_isFull 17 = .ok (.ireturn, 1) := by decide +kernel
theorem dX8_append_0 : decode cX8_append 0 = .ok (.aload_n 0, 1) := by decide +kernel
theorem dX8_append_1 : decode cX8_append 1 = .ok (.invokevirtual 25, 3) := by decide +kernel
theorem dX8_append_4 : decode cX8_append 4 = .ok (.ifCond .ne 23, 3) := by decide +kernel
theorem dX8_append_7 : decode cX8_append 7 = .ok (.aload_n 0, 1) := by decide +kernel
theorem dX8_append_8 : decode cX8_append 8 = .ok (.getfield 21, 3) := by decide +kernel
theorem dX8_append_11 : decode cX8_append 11 = .ok (.aload_n 0, 1) := by decide +kernel
theorem dX8_append_12 : decode cX8_append 12 = .ok (.getfield 9, 3) := by decide +kernel
theorem dX8_append_15 : decode cX8_append 15 = .ok (.iload_n 1, 1) := by decide +kernel
theorem dX8_append_16 : decode cX8_append 16 = .ok (.iastore, 1) := by decide +kernel
theorem dX8_append_17 : decode cX8_append 17 = .ok (.aload_n 0, 1) := by decide +kernel
theorem dX8_append_18 : decode cX8_append 18 = .ok (.dup, 1) := by decide +kernel
theorem dX8_append_19 : decode cX8_append 19 = .ok (.getfield 9, 3) := by decide +kernel
theorem dX8_append_22 : decode cX8_append 22 = .ok (.iconst 1, 1) := by decide +kernel
theorem dX8_append_23 : decode cX8_append 23 = .ok (.iadd, 1) := by decide +kernel
theorem dX8_append_24 : decode cX8_append 24 = .ok (.putfield 9, 3) := by decide +kernel
theorem dX8_append_27 : decode cX8_append 27 = .ok (.return_, 1) := by decide +kernel
theorem dX8_clear_0 : decode cX8_clear 0 = .ok (.aload_n 0, 1) := by decide +kernel
theorem dX8_clear_1 : decode cX8_clear 1 = .ok (.iconst 0, 1) := by decide +kernel
theorem dX8_clear_2 : decode cX8_clear 2 = .ok (.putfield 9, 3) := by decide +kernel
theorem dX8_clear_5 : decode cX8_clear 5 = .ok (.return_, 1) := by decide +kernel
theorem dX8_at_0 : decode cX8_at 0 = .ok (.iload_n 1, 1) := by decide +kernel
theorem dX8_at_1 : decode cX8_at 1 = .ok (.ifCond .lt 20, 3) := by decide +kernel
theorem dX8_at_4 : decode cX8_at 4 = .ok (.iload_n 1, 1) := by decide +kernel
theorem dX8_at_5 : decode cX8_at 5 = .ok (.aload_n 0, 1) := by decide +kernel
theorem dX8_at_6 : decode cX8_at 6 = .ok (.getfield 9, 3) := by decide +kernel
theorem dX8_at_9 : decode cX8_at 9 = .ok (.if_icmp .ge 12, 3) := by decide +kernel
theorem dX8_at_12 : decode cX8_at 12 = .ok (.aload_n 0, 1) := by decide +kernel
theorem dX8_at_13 : decode cX8_at 13 = .ok (.getfield 21, 3) := by decide +kernel
theorem dX8_at_16 : decode cX8_at 16 = .ok (.iload_n 1, 1) := by decide +kernel
theorem dX8_at_17 : decode cX8_at 17 = .ok (.iaload, 1) := by decide +kernel
theorem dX8_at_18 : decode cX8_at 18 = .ok (.goto 4, 3) := by decide +kernel
theorem dX8_at_21 : decode cX8_at 21 = .ok (.iconst (-1), 1) := by decide +kernel
theorem dX8_at_22 : decode cX8_at 22 = .ok (.ireturn, 1) := by decide +kernel
theorem dX8_figureAt_0 : decode cX8_figureAt 0 = .ok (.aload_n 0, 1) := by decide +kernel
theorem dX8_figureAt_1 : decode cX8_figureAt 1 = .ok (.iload_n 1, 1) := by decide +kernel
theorem dX8_figureAt_2 : decode cX8_figureAt 2 = .ok (.invokevirtual 29, 3) := by decide +kernel
theorem dX8_figureAt_5 : decode cX8_figureAt 5 = .ok (.istore_n 2, 1) := by decide +kernel
theorem dX8_figureAt_6 : decode cX8_figureAt 6 = .ok (.iload_n 2, 1) := by decide +kernel
theorem dX8_figureAt_7 : decode cX8_figureAt 7 = .ok (.bipush 48, 2) := by decide +kernel
theorem dX8_figureAt_9 : decode cX8_figureAt 9 = .ok (.if_icmp .lt 16, 3) := by decide +kernel
theorem dX8_figureAt_12 : decode cX8_figureAt 12 = .ok (.iload_n 2, 1) := by decide +kernel
theorem dX8_figureAt_13 : decode cX8_figureAt 13 = .ok (.bipush 57, 2) := by decide +kernel
theorem dX8_figureAt_15 : decode cX8_figureAt 15 = .ok (.if_icmp .gt 10, 3) := by decide +kernel
theorem dX8_figureAt_18 : decode cX8_figureAt 18 = .ok (.iload_n 2, 1) := by decide +kernel
theorem dX8_figureAt_19 : decode cX8_figureAt 19 = .ok (.bipush 48, 2) := by decide +kernel
theorem dX8_figureAt_21 : decode cX8_figureAt 21 = .ok (.isub, 1) := by decide +kernel
theorem dX8_figureAt_22 : decode cX8_figureAt 22 = .ok (.goto 4, 3) := by decide +kernel
theorem dX8_figureAt_25 : decode cX8_figureAt 25 = .ok (.iconst (-1), 1) := by decide +kernel
theorem dX8_figureAt_26 : decode cX8_figureAt 26 = .ok (.ireturn, 1) := by decide +kernel
theorem dX9_init_0 : decode cX9_init 0 = .ok (.aload_n 0, 1) := by decide +kernel
theorem dX9_init_1 : decode cX9_init 1 = .ok (.invokespecial 3, 3) := by decide +kernel
theorem dX9_init_4 : decode cX9_init 4 = .ok (.aload_n 0, 1) := by decide +kernel
theorem dX9_init_5 : decode cX9_init 5 = .ok (.iconst (-1), 1) := by decide +kernel
theorem dX9_init_6 : decode cX9_init 6 = .ok (.putfield 9, 3) := by decide +kernel
theorem dX9_init_9 : decode cX9_init 9 = .ok (.aload_n 0, 1) := by decide +kernel
theorem dX9_init_10 : decode cX9_init 10 = .ok (.aload_n 1, 1) := by decide +kernel
theorem dX9_init_11 : decode cX9_init 11 = .ok (.putfield 15, 3) := by decide +kernel
theorem dX9_init_14 : decode cX9_init 14 = .ok (.aload_n 0, 1) := by decide +kernel
theorem dX9_init_15 : decode cX9_init 15 = .ok (.new 19, 3) := by decide +kernel
theorem dX9_init_18 : decode cX9_init 18 = .ok (.dup, 1) := by decide +kernel
theorem dX9_init_19 : decode cX9_init 19 = .ok (.aload_n 1, 1) := by decide +kernel
theorem dX9_init_20 : decode cX9_init 20 = .ok (.aload_n 2, 1) := by decide +kernel
theorem dX9_init_21 : decode cX9_init 21 = .ok (.invokespecial 21, 3) := by decide +kernel
theorem dX9_init_24 : decode cX9_init 24 = .ok (.putfield 24, 3) := by decide +kernel
theorem dX9_init_27 : decode cX9_init 27 = .ok (.return_, 1) := by decide +kernel
theorem dX9_playOut_0 : decode cX9_playOut 0 = .ok (.aload_n 0, 1) := by decide +kernel
theorem dX9_playOut_1 : decode cX9_playOut 1 = .ok (.getfield 24, 3) := by decide +kernel
theorem dX9_playOut_4 : decode cX9_playOut 4 = .ok (.invokevirtual 28, 3) := by decide +kernel
theorem dX9_playOut_7 : decode cX9_playOut 7 = .ok (.aload_n 0, 1) := by decide +kernel
theorem dX9_playOut_8 : decode cX9_playOut 8 = .ok (.getfield 24, 3) := by decide +kernel
theorem dX9_playOut_11 : decode cX9_playOut 11 = .ok (.iload_n 1, 1) := by decide +kernel
theorem dX9_playOut_12 : decode cX9_playOut 12 = .ok (.iload_n 2, 1) := by decide +kernel
theorem dX9_playOut_13 : decode cX9_playOut 13 = .ok (.invokevirtual 31, 3) := by decide +kernel
theorem dX9_playOut_16 : decode cX9_playOut 16 = .ok (.aload_n 0, 1) := by decide +kernel
theorem dX9_playOut_17 : decode cX9_playOut 17 = .ok (.iconst (-1), 1) := by decide +kernel
theorem dX9_playOut_18 : decode cX9_playOut 18 = .ok (.putfield 9, 3) := by decide +kernel
theorem dX9_playOut_21 : decode cX9_playOut 21 = .ok (.aload_n 0, 1) := by decide +kernel
theorem dX9_playOut_22 : decode cX9_playOut 22 = .ok (.iconst 0, 1) := by decide +kernel
theorem dX9_playOut_23 : decode cX9_playOut 23 = .ok (.iconst 0, 1) := by decide +kernel
theorem dX9_playOut_24 : decode cX9_playOut 24 = .ok (.aload_n 0, 1) := by decide +kernel
theorem dX9_playOut_25 : decode cX9_playOut 25 = .ok (.getfield 15, 3) := by decide +kernel
theorem dX9_playOut_28 : decode cX9_playOut 28 = .ok (.iload_n 1, 1) := by decide +kernel
theorem dX9_playOut_29 : decode cX9_playOut 29 = .ok (.invokevirtual 35, 3) := by decide +kernel
theorem dX9_playOut_32 : decode cX9_playOut 32 = .ok (.aload_n 0, 1) := by decide +kernel
theorem dX9_playOut_33 : decode cX9_playOut 33 = .ok (.getfield 15, 3) := by decide +kernel
theorem dX9_playOut_36 : decode cX9_playOut 36 = .ok (.iload_n 2, 1) := by decide +kernel
theorem dX9_playOut_37 : decode cX9_playOut 37 = .ok (.invokevirtual 35, 3) := by decide +kernel
theorem dX9_playOut_40 : decode cX9_playOut 40 = .ok (.invokestatic 41, 3) := by decide +kernel
theorem dX9_playOut_43 : decode cX9_playOut 43 = .ok (.ireturn, 1) := by decide +kernel
theorem dX9_firstWedding_0 : decode cX9_firstWedding 0 = .ok (.aload_n 0, 1) := by decide +kernel
theorem dX9_firstWedding_1 : decode cX9_firstWedding 1 = .ok (.getfield 9, 3) := by decide +kernel
theorem dX9_firstWedding_4 : decode cX9_firstWedding 4 = .ok (.ireturn, 1) := by decide +kernel
theorem dX9_takeTurn_0 : decode cX9_takeTurn 0 = .ok (.iload_n 3, 1) := by decide +kernel
theorem dX9_takeTurn_1 : decode cX9_takeTurn 1 = .ok (.iload 4, 2) := by decide +kernel
theorem dX9_takeTurn_3 : decode cX9_takeTurn 3 = .ok (.isub, 1) := by decide +kernel
theorem dX9_takeTurn_4 : decode cX9_takeTurn 4 = .ok (.istore 5, 2) := by decide +kernel
theorem dX9_takeTurn_6 : decode cX9_takeTurn 6 = .ok (.iload_n 1, 1) := by decide +kernel
theorem dX9_takeTurn_7 : decode cX9_takeTurn 7 = .ok (.iconst 4, 1) := by decide +kernel
theorem dX9_takeTurn_8 : decode cX9_takeTurn 8 = .ok (.if_icmp .lt 6, 3) := by decide +kernel
theorem dX9_takeTurn_11 : decode cX9_takeTurn 11 = .ok (.iload 5, 2) := by decide +kernel
theorem dX9_takeTurn_13 : decode cX9_takeTurn 13 = .ok (.ireturn, 1) := by decide +kernel
theorem dX9_takeTurn_14 : decode cX9_takeTurn 14 = .ok (.iload_n 1, 1) := by decide +kernel
theorem dX9_takeTurn_15 : decode cX9_takeTurn 15 = .ok (.iconst 2, 1) := by decide +kernel
theorem dX9_takeTurn_16 : decode cX9_takeTurn 16 = .ok (.irem, 1) := by decide +kernel
theorem dX9_takeTurn_17 : decode cX9_takeTurn 17 = .ok (.ifCond .ne 7, 3) := by decide +kernel
theorem dX9_takeTurn_20 : decode cX9_takeTurn 20 = .ok (.iconst 1, 1) := by decide +kernel
theorem dX9_takeTurn_21 : decode cX9_takeTurn 21 = .ok (.goto 4, 3) := by decide +kernel
theorem dX9_takeTurn_24 : decode cX9_takeTurn 24 = .ok (.iconst 0, 1) := by decide +kernel
theorem dX9_takeTurn_25 : decode cX9_takeTurn 25 = .ok (.istore 6, 2) := by decide +kernel
theorem dX9_takeTurn_27 : decode cX9_takeTurn 27 = .ok (.iconst 0, 1) := by decide +kernel
theorem dX9_takeTurn_28 : decode cX9_takeTurn 28 = .ok (.istore 7, 2) := by decide +kernel
theorem dX9_takeTurn_30 : decode cX9_takeTurn 30 = .ok (.iconst 0, 1) := by decide +kernel
theorem dX9_takeTurn_31 : decode cX9_takeTurn 31 = .ok (.istore 8, 2) := by decide +kernel
theorem dX9_takeTurn_33 : decode cX9_takeTurn 33 = .ok (.iload 8, 2) := by decide +kernel
theorem dX9_takeTurn_35 : decode cX9_takeTurn 35 = .ok (.aload_n 0, 1) := by decide +kernel
theorem dX9_takeTurn_36 : decode cX9_takeTurn 36 = .ok (.getfield 24, 3) := by decide +kernel
theorem dX9_takeTurn_39 : decode cX9_takeTurn 39 = .ok (.invokevirtual 45, 3) := by decide +kernel
theorem dX9_takeTurn_42 : decode cX9_takeTurn 42 = .ok (.if_icmp .ge 110, 3) := by decide +kernel
theorem dX9_takeTurn_45 : decode cX9_takeTurn 45 = .ok (.aload_n 0, 1) := by decide +kernel
theorem dX9_takeTurn_46 : decode cX9_takeTurn 46 = .ok (.getfield 24, 3) := by decide +kernel
theorem dX9_takeTurn_49 : decode cX9_takeTurn 49 = .ok (.iload 8, 2) := by decide +kernel
theorem dX9_takeTurn_51 : decode cX9_takeTurn 51 = .ok (.invokevirtual 49, 3) := by decide +kernel
theorem dX9_takeTurn_54 : decode cX9_takeTurn 54 = .ok (.istore 9, 2) := by decide +kernel
theorem dX9_takeTurn_56 : decode cX9_takeTurn 56 = .ok (.iload_n 2, 1) := by decide +kernel
theorem dX9_takeTurn_57 : decode cX9_takeTurn 57 = .ok (.iload 9, 2) := by decide +kernel
theorem dX9_takeTurn_59 : decode cX9_takeTurn 59 = .ok (.iand, 1) := by decide +kernel
theorem dX9_takeTurn_60 : decode cX9_takeTurn 60 = .ok (.ifCond .eq 6, 3) := by decide +kernel
theorem dX9_takeTurn_63 : decode cX9_takeTurn 63 = .ok (.goto 83, 3) := by decide +kernel
theorem dX9_takeTurn_66 : decode cX9_takeTurn 66 = .ok (.aload_n 0, 1) := by decide +kernel
theorem dX9_takeTurn_67 : decode cX9_takeTurn 67 = .ok (.getfield 24, 3) := by decide +kernel
theorem dX9_takeTurn_70 : decode cX9_takeTurn 70 = .ok (.iload 8, 2) := by decide +kernel
theorem dX9_takeTurn_72 : decode cX9_takeTurn 72 = .ok (.invokevirtual 52, 3) := by decide +kernel
theorem dX9_takeTurn_75 : decode cX9_takeTurn 75 = .ok (.iload_n 3, 1) := by decide +kernel
theorem dX9_takeTurn_76 : decode cX9_takeTurn 76 = .ok (.iload 4, 2) := by decide +kernel
theorem dX9_takeTurn_78 : decode cX9_takeTurn 78 = .ok (.invokestatic 55, 3) := by decide +kernel
theorem dX9_takeTurn_81 : decode cX9_takeTurn 81 = .ok (.istore 10, 2) := by decide +kernel
theorem dX9_takeTurn_83 : decode cX9_takeTurn 83 = .ok (.aload_n 0, 1) := by decide +kernel
theorem dX9_takeTurn_84 : decode cX9_takeTurn 84 = .ok (.iload_n 1, 1) := by decide +kernel
theorem dX9_takeTurn_85 : decode cX9_takeTurn 85 = .ok (.iconst 1, 1) := by decide +kernel
theorem dX9_takeTurn_86 : decode cX9_takeTurn 86 = .ok (.iadd, 1) := by decide +kernel
theorem dX9_takeTurn_87 : decode cX9_takeTurn 87 = .ok (.iload_n 2, 1) := by decide +kernel
theorem dX9_takeTurn_88 : decode cX9_takeTurn 88 = .ok (.iload 9, 2) := by decide +kernel
theorem dX9_takeTurn_90 : decode cX9_takeTurn 90 = .ok (.ior, 1) := by decide +kernel
theorem dX9_takeTurn_91 : decode cX9_takeTurn 91 = .ok (.iload_n 3, 1) := by decide +kernel
theorem dX9_takeTurn_92 : decode cX9_takeTurn 92 = .ok (.iload 10, 2) := by decide +kernel
theorem dX9_takeTurn_94 : decode cX9_takeTurn 94 = .ok (.iadd, 1) := by decide +kernel
theorem dX9_takeTurn_95 : decode cX9_takeTurn 95 = .ok (.iload 4, 2) := by decide +kernel
theorem dX9_takeTurn_97 : decode cX9_takeTurn 97 = .ok (.iload 10, 2) := by decide +kernel
theorem dX9_takeTurn_99 : decode cX9_takeTurn 99 = .ok (.isub, 1) := by decide +kernel
theorem dX9_takeTurn_100 : decode cX9_takeTurn 100 = .ok (.invokestatic 41, 3) := by decide +kernel
theorem dX9_takeTurn_103 : decode cX9_takeTurn 103 = .ok (.istore 11, 2) := by decide +kernel
theorem dX9_takeTurn_105 : decode cX9_takeTurn 105 = .ok (.iload 7, 2) := by decide +kernel
theorem dX9_takeTurn_107 : decode cX9_takeTurn 107 = .ok (.ifCond .eq 25, 3) := by decide +kernel
theorem dX9_takeTurn_110 : decode cX9_takeTurn 110 = .ok (.iload 6, 2) := by decide +kernel
theorem dX9_takeTurn_112 : decode cX9_takeTurn 112 = .ok (.ifCond .eq 13, 3) := by decide +kernel
theorem dX9_takeTurn_115 : decode cX9_takeTurn 115 = .ok (.iload 11, 2) := by decide +kernel
theorem dX9_takeTurn_117 : decode cX9_takeTurn 117 = .ok (.iload 5, 2) := by decide +kernel
theorem dX9_takeTurn_119 : decode cX9_takeTurn 119 = .ok (.if_icmp .le 27, 3) := by decide +kernel
theorem dX9_takeTurn_122 : decode cX9_takeTurn 122 = .ok (.goto 10, 3) := by decide +kernel
theorem dX9_takeTurn_125 : decode cX9_takeTurn 125 = .ok (.iload 11, 2) := by decide +kernel
theorem dX9_takeTurn_127 : decode cX9_takeTurn 127 = .ok (.iload 5, 2) := by decide +kernel
theorem dX9_takeTurn_129 : decode cX9_takeTurn 129 = .ok (.if_icmp .ge 17, 3) := by decide +kernel
theorem dX9_takeTurn_132 : decode cX9_takeTurn 132 = .ok (.iload 11, 2) := by decide +kernel
theorem dX9_takeTurn_134 : decode cX9_takeTurn 134 = .ok (.istore 5, 2) := by decide +kernel
theorem dX9_takeTurn_136 : decode cX9_takeTurn 136 = .ok (.iconst 1, 1) := by decide +kernel
theorem dX9_takeTurn_137 : decode cX9_takeTurn 137 = .ok (.istore 7, 2) := by decide +kernel
theorem dX9_takeTurn_139 : decode cX9_takeTurn 139 = .ok (.aload_n 0, 1) := by decide +kernel
theorem dX9_takeTurn_140 : decode cX9_takeTurn 140 = .ok (.iload_n 1, 1) := by decide +kernel
theorem dX9_takeTurn_141 : decode cX9_takeTurn 141 = .ok (.iload 8, 2) := by decide +kernel
theorem dX9_takeTurn_143 : decode cX9_takeTurn 143 = .ok (.invokevirtual 59, 3) := by decide +kernel
theorem dX9_takeTurn_146 : decode cX9_takeTurn 146 = .ok (.iinc 8 1, 3) := by decide +kernel
theorem dX9_takeTurn_149 : decode cX9_takeTurn 149 = .ok (.goto (-116), 3) := by decide +kernel
theorem dX9_takeTurn_152 : decode cX9_takeTurn 152 = .ok (.iload 5, 2) := by decide +kernel
theorem dX9_takeTurn_154 : decode cX9_takeTurn 154 = .ok (.ireturn, 1) := by decide +kernel
theorem dX9_noteFirst_0 : decode cX9_noteFirst 0 = .ok (.iload_n 1, 1) := by decide +kernel
theorem dX9_noteFirst_1 : decode cX9_noteFirst 1 = .ok (.ifCond .ne 27, 3) := by decide +kernel
theorem dX9_noteFirst_4 : decode cX9_noteFirst 4 = .ok (.aload_n 0, 1) := by decide +kernel
theorem dX9_noteFirst_5 : decode cX9_noteFirst 5 = .ok (.bipush 12, 2) := by decide +kernel
theorem dX9_noteFirst_7 : decode cX9_noteFirst 7 = .ok (.aload_n 0, 1) := by decide +kernel
theorem dX9_noteFirst_8 : decode cX9_noteFirst 8 = .ok (.getfield 24, 3) := by decide +kernel
theorem dX9_noteFirst_11 : decode cX9_noteFirst 11 = .ok (.iload_n 2, 1) := by decide +kernel
theorem dX9_noteFirst_12 : decode cX9_noteFirst 12 = .ok (.invokevirtual 62, 3) := by decide +kernel
theorem dX9_noteFirst_15 : decode cX9_noteFirst 15 = .ok (.imul, 1) := by decide +kernel
theorem dX9_noteFirst_16 : decode cX9_noteFirst 16 = .ok (.aload_n 0, 1) := by decide +kernel
theorem dX9_noteFirst_17 : decode cX9_noteFirst 17 = .ok (.getfield 24, 3) := by decide +kernel
theorem dX9_noteFirst_20 : decode cX9_noteFirst 20 = .ok (.iload_n 2, 1) := by decide +kernel
theorem dX9_noteFirst_21 : decode cX9_noteFirst 21 = .ok (.invokevirtual 65, 3) := by decide +kernel
theorem dX9_noteFirst_24 : decode cX9_noteFirst 24 = .ok (.iadd, 1) := by decide +kernel
theorem dX9_noteFirst_25 : decode cX9_noteFirst 25 = .ok (.putfield 9, 3) := by decide +kernel
theorem dX9_noteFirst_28 : decode cX9_noteFirst 28 = .ok (.return_, 1) := by decide +kernel
theorem dX10_init_0 : decode cX10_init 0 = .ok (.aload_n 0, 1) := by decide +kernel
theorem dX10_init_1 : decode cX10_init 1 = .ok (.invokespecial 3, 3) := by decide +kernel
theorem dX10_init_4 : decode cX10_init 4 = .ok (.aload_n 0, 1) := by decide +kernel
theorem dX10_init_5 : decode cX10_init 5 = .ok (.bipush 6, 2) := by decide +kernel
theorem dX10_init_7 : decode cX10_init 7 = .ok (.newarray .int, 2) := by decide +kernel
theorem dX10_init_9 : decode cX10_init 9 = .ok (.putfield 9, 3) := by decide +kernel
theorem dX10_init_12 : decode cX10_init 12 = .ok (.aload_n 0, 1) := by decide +kernel
theorem dX10_init_13 : decode cX10_init 13 = .ok (.bipush 12, 2) := by decide +kernel
theorem dX10_init_15 : decode cX10_init 15 = .ok (.newarray .int, 2) := by decide +kernel
theorem dX10_init_17 : decode cX10_init 17 = .ok (.putfield 15, 3) := by decide +kernel
theorem dX10_init_20 : decode cX10_init 20 = .ok (.aload_n 0, 1) := by decide +kernel
theorem dX10_init_21 : decode cX10_init 21 = .ok (.bipush 12, 2) := by decide +kernel
theorem dX10_init_23 : decode cX10_init 23 = .ok (.newarray .int, 2) := by decide +kernel
theorem dX10_init_25 : decode cX10_init 25 = .ok (.putfield 18, 3) := by decide +kernel
theorem dX10_init_28 : decode cX10_init 28 = .ok (.aload_n 0, 1) := by decide +kernel
theorem dX10_init_29 : decode cX10_init 29 = .ok (.bipush 12, 2) := by decide +kernel
theorem dX10_init_31 : decode cX10_init 31 = .ok (.newarray .boolean, 2) := by decide +kernel
theorem dX10_init_33 : decode cX10_init 33 = .ok (.putfield 21, 3) := by decide +kernel
theorem dX10_init_36 : decode cX10_init 36 = .ok (.aload_n 0, 1) := by decide +kernel
theorem dX10_init_37 : decode cX10_init 37 = .ok (.bipush 12, 2) := by decide +kernel
theorem dX10_init_39 : decode cX10_init 39 = .ok (.newarray .int, 2) := by decide +kernel
theorem dX10_init_41 : decode cX10_init 41 = .ok (.putfield 25, 3) := by decide +kernel
theorem dX10_init_44 : decode cX10_init 44 = .ok (.aload_n 0, 1) := by decide +kernel
theorem dX10_init_45 : decode cX10_init 45 = .ok (.bipush 12, 2) := by decide +kernel
theorem dX10_init_47 : decode cX10_init 47 = .ok (.newarray .int, 2) := by decide +kernel
theorem dX10_init_49 : decode cX10_init 49 = .ok (.putfield 28, 3) := by decide +kernel
theorem dX10_init_52 : decode cX10_init 52 = .ok (.aload_n 0, 1) := by decide +kernel
theorem dX10_init_53 : decode cX10_init 53 = .ok (.iconst 0, 1) := by decide +kernel
theorem dX10_init_54 : decode cX10_init 54 = .ok (.putfield 31, 3) := by decide +kernel
theorem dX10_init_57 : decode cX10_init 57 = .ok (.aload_n 0, 1) := by decide +kernel
theorem dX10_init_58 : decode cX10_init 58 = .ok (.iconst 0, 1) := by decide +kernel
theorem dX10_init_59 : decode cX10_init 59 = .ok (.putfield 35, 3) := by decide +kernel
theorem dX10_init_62 : decode cX10_init 62 = .ok (.aload_n 0, 1) := by decide +kernel
theorem dX10_init_63 : decode cX10_init 63 = .ok (.iconst 0, 1) := by decide +kernel
theorem dX10_init_64 : decode cX10_init 64 = .ok (.putfield 38, 3) := by decide +kernel
theorem dX10_init_67 : decode cX10_init 67 = .ok (.aload_n 0, 1) := by decide +kernel
theorem dX10_init_68 : decode cX10_init 68 = .ok (.iconst (-1), 1) := by decide +kernel
theorem dX10_init_69 : decode cX10_init 69 = .ok (.putfield 41, 3) := by decide +kernel
theorem dX10_init_72 : decode cX10_init 72 = .ok (.aload_n 0, 1) := by decide +kernel
theorem dX10_init_73 : decode cX10_init 73 = .ok (.aload_n 1, 1) := by decide +kernel
theorem dX10_init_74 : decode cX10_init 74 = .ok (.putfield 44, 3) := by decide +kernel
theorem dX10_init_77 : decode cX10_init 77 = .ok (.aload_n 0, 1) := by decide +kernel
theorem dX10_init_78 : decode cX10_init 78 = .ok (.aload_n 2, 1) := by decide +kernel
theorem dX10_init_79 : decode cX10_init 79 = .ok (.putfield 48, 3) := by decide +kernel
theorem dX10_init_82 : decode cX10_init 82 = .ok (.aload_n 0, 1) := by decide +kernel
theorem dX10_init_83 : decode cX10_init 83 = .ok (.aload_n 3, 1) := by decide +kernel
theorem dX10_init_84 : decode cX10_init 84 = .ok (.putfield 52, 3) := by decide +kernel
theorem dX10_init_87 : decode cX10_init 87 = .ok (.aload_n 0, 1) := by decide +kernel
theorem dX10_init_88 : decode cX10_init 88 = .ok (.aload 4, 2) := by decide +kernel
theorem dX10_init_90 : decode cX10_init 90 = .ok (.putfield 56, 3) := by decide +kernel
theorem dX10_init_93 : decode cX10_init 93 = .ok (.return_, 1) := by decide +kernel
theorem dX10_widthOf_0 : decode cX10_widthOf 0 = .ok (.aload_n 0, 1) := by decide +kernel
theorem dX10_widthOf_1 : decode cX10_widthOf 1 = .ok (.getfield 44, 3) := by decide +kernel
theorem dX10_widthOf_4 : decode cX10_widthOf 4 = .ok (.iload_n 1, 1) := by decide +kernel
theorem dX10_widthOf_5 : decode cX10_widthOf 5 = .ok (.invokevirtual 60, 3) := by decide +kernel
theorem dX10_widthOf_8 : decode cX10_widthOf 8 = .ok (.ifCond .eq 12, 3) := by decide +kernel
theorem dX10_widthOf_11 : decode cX10_widthOf 11 = .ok (.aload_n 0, 1) := by decide +kernel
theorem dX10_widthOf_12 : decode cX10_widthOf 12 = .ok (.getfield 9, 3) := by decide +kernel
theorem dX10_widthOf_15 : decode cX10_widthOf 15 = .ok (.iload_n 1, 1) := by decide +kernel
theorem dX10_widthOf_16 : decode cX10_widthOf 16 = .ok (.iaload, 1) := by decide +kernel
theorem dX10_widthOf_17 : decode cX10_widthOf 17 = .ok (.goto 4, 3) := by decide +kernel
theorem dX10_widthOf_20 : decode cX10_widthOf 20 = .ok (.iconst 0, 1) := by decide +kernel
theorem dX10_widthOf_21 : decode cX10_widthOf 21 = .ok (.ireturn, 1) := by decide +kernel
theorem dX10_partnerOf_0 : decode cX10_partnerOf 0 = .ok (.aload_n 0, 1) := by decide +kernel
theorem dX10_partnerOf_1 : decode cX10_partnerOf 1 = .ok (.getfield 48, 3) := by decide +kernel
theorem dX10_partnerOf_4 : decode cX10_partnerOf 4 = .ok (.iload_n 1, 1) := by decide +kernel
theorem dX10_partnerOf_5 : decode cX10_partnerOf 5 = .ok (.invokevirtual 66, 3) := by decide +kernel
theorem dX10_partnerOf_8 : decode cX10_partnerOf 8 = .ok (.ifCond .eq 12, 3) := by decide +kernel
theorem dX10_partnerOf_11 : decode cX10_partnerOf 11 = .ok (.aload_n 0, 1) := by decide +kernel
theorem dX10_partnerOf_12 : decode cX10_partnerOf 12 = .ok (.getfield 15, 3) := by decide +kernel
theorem dX10_partnerOf_15 : decode cX10_partnerOf 15 = .ok (.iload_n 1, 1) := by decide +kernel
theorem dX10_partnerOf_16 : decode cX10_partnerOf 16 = .ok (.iaload, 1) := by decide +kernel
theorem dX10_partnerOf_17 : decode cX10_partnerOf 17 = .ok (.goto 4, 3) := by decide +kernel
theorem dX10_partnerOf_20 : decode cX10_partnerOf 20 = .ok (.iconst (-1), 1) := by decide +kernel
theorem dX10_partnerOf_21 : decode cX10_partnerOf 21 = .ok (.ireturn, 1) := by decide +kernel
theorem dX10_provinceOf_0 : decode cX10_provinceOf 0 = .ok (.aload_n 0, 1) := by decide +kernel
theorem dX10_provinceOf_1 : decode cX10_provinceOf 1 = .ok (.getfield 48, 3) := by decide +kernel
theorem dX10_provinceOf_4 : decode cX10_provinceOf 4 = .ok (.iload_n 1, 1) := by decide +kernel
theorem dX10_provinceOf_5 : decode cX10_provinceOf 5 = .ok (.invokevirtual 66, 3) := by decide +kernel
theorem dX10_provinceOf_8 : decode cX10_provinceOf 8 = .ok (.ifCond .eq 12, 3) := by decide +kernel
theorem dX10_provinceOf_11 : decode cX10_provinceOf 11 = .ok (.aload_n 0, 1) := by decide +kernel
theorem dX10_provinceOf_12 : decode cX10_provinceOf 12 = .ok (.getfield 18, 3) := by decide +kernel
theorem dX10_provinceOf_15 : decode cX10_provinceOf 15 = .ok (.iload_n 1, 1) := by decide +kernel
theorem dX10_provinceOf_16 : decode cX10_provinceOf 16 = .ok (.iaload, 1) := by decide +kernel
theorem dX10_provinceOf_17 : decode cX10_provinceOf 17 = .ok (.goto 4, 3) := by decide +kernel
theorem dX10_provinceOf_20 : decode cX10_provinceOf 20 = .ok (.iconst 0, 1) := by decide +kernel
theorem dX10_provinceOf_21 : decode cX10_provinceOf 21 = .ok (.ireturn, 1) := by decide +kernel
theorem dX10_isAlive_0 : decode cX10_isAlive 0 = .ok (.aload_n 0, 1) := by decide +kernel
theorem dX10_isAlive_1 : decode cX10_isAlive 1 = .ok (.getfield 48, 3) := by decide +kernel
theorem dX10_isAlive_4 : decode cX10_isAlive 4 = .ok (.iload_n 1, 1) := by decide +kernel
theorem dX10_isAlive_5 : decode cX10_isAlive 5 = .ok (.invokevirtual 66, 3) := by decide +kernel
theorem dX10_isAlive_8 : decode cX10_isAlive 8 = .ok (.ifCond .eq 16, 3) := by decide +kernel
theorem dX10_isAlive_11 : decode cX10_isAlive 11 = .ok (.aload_n 0, 1) := by decide +kernel
theorem dX10_isAlive_12 : decode cX10_isAlive 12 = .ok (.getfield 21, 3) := by decide +kernel
theorem dX10_isAlive_15 : decode cX10_isAlive 15 = .ok (.iload_n 1, 1) := by decide +kernel
theorem dX10_isAlive_16 : decode cX10_isAlive 16 = .ok (.baload, 1) := by decide +kernel
theorem dX10_isAlive_17 : decode cX10_isAlive 17 = .ok (.ifCond .eq 7, 3) := by decide +kernel
theorem dX10_isAlive_20 : decode cX10_isAlive 20 = .ok (.iconst 1, 1) := by decide +kernel
theorem dX10_isAlive_21 : decode cX10_isAlive 21 = .ok (.goto 4, 3) := by decide +kernel
theorem dX10_isAlive_24 : decode cX10_isAlive 24 = .ok (.iconst 0, 1) := by decide +kernel
theorem dX10_isAlive_25 : decode cX10_isAlive 25 = .ok (.ireturn, 1) := by decide +kernel
theorem dX10_isFree_0 : decode cX10_isFree 0 = .ok (.aload_n 0, 1) := by decide +kernel
theorem dX10_isFree_1 : decode cX10_isFree 1 = .ok (.getfield 48, 3) := by decide +kernel
theorem dX10_isFree_4 : decode cX10_isFree 4 = .ok (.iload_n 1, 1) := by decide +kernel
theorem dX10_isFree_5 : decode cX10_isFree 5 = .ok (.invokevirtual 66, 3) := by decide +kernel
theorem dX10_isFree_8 : decode cX10_isFree 8 = .ok (.ifCond .eq 26, 3) := by decide +kernel
theorem dX10_isFree_11 : decode cX10_isFree 11 = .ok (.aload_n 0, 1) := by decide +kernel
theorem dX10_isFree_12 : decode cX10_isFree 12 = .ok (.getfield 21, 3) := by decide +kernel
theorem dX10_isFree_15 : decode cX10_isFree 15 = .ok (.iload_n 1, 1) := by decide +kernel
theorem dX10_isFree_16 : decode cX10_isFree 16 = .ok (.baload, 1) := by decide +kernel
theorem dX10_isFree_17 : decode cX10_isFree 17 = .ok (.ifCond .eq 17, 3) := by decide +kernel
theorem dX10_isFree_20 : decode cX10_isFree 20 = .ok (.aload_n 0, 1) := by decide +kernel
theorem dX10_isFree_21 : decode cX10_isFree 21 = .ok (.getfield 15, 3) := by decide +kernel
theorem dX10_isFree_24 : decode cX10_isFree 24 = .ok (.iload_n 1, 1) := by decide +kernel
theorem dX10_isFree_25 : decode cX10_isFree 25 = .ok (.iaload, 1) := by decide +kernel
theorem dX10_isFree_26 : decode cX10_isFree 26 = .ok (.iconst (-1), 1) := by decide +kernel
theorem dX10_isFree_27 : decode cX10_isFree 27 = .ok (.if_icmp .ne 7, 3) := by decide +kernel
theorem dX10_isFree_30 : decode cX10_isFree 30 = .ok (.iconst 1, 1) := by decide +kernel
theorem dX10_isFree_31 : decode cX10_isFree 31 = .ok (.goto 4, 3) := by decide +kernel
theorem dX10_isFree_34 : decode cX10_isFree 34 = .ok (.iconst 0, 1) := by decide +kernel
theorem dX10_isFree_35 : decode cX10_isFree 35 = .ok (.ireturn, 1) := by decide +kernel
theorem dX10_mayMarry_0 : decode cX10_mayMarry 0 = .ok (.aload_n 0, 1) := by decide +kernel
theorem dX10_mayMarry_1 : decode cX10_mayMarry 1 = .ok (.getfield 48, 3) := by decide +kernel
theorem dX10_mayMarry_4 : decode cX10_mayMarry 4 = .ok (.iload_n 1, 1) := by decide +kernel
theorem dX10_mayMarry_5 : decode cX10_mayMarry 5 = .ok (.iload_n 2, 1) := by decide +kernel
theorem dX10_mayMarry_6 : decode cX10_mayMarry 6 = .ok (.invokevirtual 69, 3) := by decide +kernel
theorem dX10_mayMarry_9 : decode cX10_mayMarry 9 = .ok (.ifCond .eq 45, 3) := by decide +kernel
theorem dX10_mayMarry_12 : decode cX10_mayMarry 12 = .ok (.aload_n 0, 1) := by decide +kernel
theorem dX10_mayMarry_13 : decode cX10_mayMarry 13 = .ok (.getfield 21, 3) := by decide +kernel
theorem dX10_mayMarry_16 : decode cX10_mayMarry 16 = .ok (.iload_n 1, 1) := by decide +kernel
theorem dX10_mayMarry_17 : decode cX10_mayMarry 17 = .ok (.baload, 1) := by decide +kernel
theorem dX10_mayMarry_18 : decode cX10_mayMarry 18 = .ok (.ifCond .eq 36, 3) := by decide +kernel
theorem dX10_mayMarry_21 : decode cX10_mayMarry 21 = .ok (.aload_n 0, 1) := by decide +kernel
theorem dX10_mayMarry_22 : decode cX10_mayMarry 22 = .ok (.getfield 21, 3) := by decide +kernel
theorem dX10_mayMarry_25 : decode cX10_mayMarry 25 = .ok (.iload_n 2, 1) := by decide +kernel
theorem dX10_mayMarry_26 : decode cX10_mayMarry 26 = .ok (.baload, 1) := by decide +kernel
theorem dX10_mayMarry_27 : decode cX10_mayMarry 27 = .ok (.ifCond .eq 27, 3) := by decide +kernel
theorem dX10_mayMarry_30 : decode cX10_mayMarry 30 = .ok (.aload_n 0, 1) := by decide +kernel
theorem dX10_mayMarry_31 : decode cX10_mayMarry 31 = .ok (.getfield 15, 3) := by decide +kernel
theorem dX10_mayMarry_34 : decode cX10_mayMarry 34 = .ok (.iload_n 1, 1) := by decide +kernel
theorem dX10_mayMarry_35 : decode cX10_mayMarry 35 = .ok (.iaload, 1) := by decide +kernel
theorem dX10_mayMarry_36 : decode cX10_mayMarry 36 = .ok (.iconst (-1), 1) := by decide +kernel
theorem dX10_mayMarry_37 : decode cX10_mayMarry 37 = .ok (.if_icmp .ne 17, 3) := by decide +kernel
theorem dX10_mayMarry_40 : decode cX10_mayMarry 40 = .ok (.aload_n 0, 1) := by decide +kernel
theorem dX10_mayMarry_41 : decode cX10_mayMarry 41 = .ok (.getfield 15, 3) := by decide +kernel
theorem dX10_mayMarry_44 : decode cX10_mayMarry 44 = .ok (.iload_n 2, 1) := by decide +kernel
theorem dX10_mayMarry_45 : decode cX10_mayMarry 45 = .ok (.iaload, 1) := by decide +kernel
theorem dX10_mayMarry_46 : decode cX10_mayMarry 46 = .ok (.iconst (-1), 1) := by decide +kernel
theorem dX10_mayMarry_47 : decode cX10_mayMarry 47 = .ok (.if_icmp .ne 7, 3) := by decide +kernel
theorem dX10_mayMarry_50 : decode cX10_mayMarry 50 = .ok (.iconst 1, 1) := by decide +kernel
theorem dX10_mayMarry_51 : decode cX10_mayMarry 51 = .ok (.goto 4, 3) := by decide +kernel
theorem dX10_mayMarry_54 : decode cX10_mayMarry 54 = .ok (.iconst 0, 1) := by decide +kernel
theorem dX10_mayMarry_55 : decode cX10_mayMarry 55 = .ok (.ireturn, 1) := by decide +kernel
theorem dX10_freeIn_0 : decode cX10_freeIn 0 = .ok (.iconst 0, 1) := by decide +kernel
theorem dX10_freeIn_1 : decode cX10_freeIn 1 = .ok (.istore_n 2, 1) := by decide +kernel
theorem dX10_freeIn_2 : decode cX10_freeIn 2 = .ok (.iconst 0, 1) := by decide +kernel
theorem dX10_freeIn_3 : decode cX10_freeIn 3 = .ok (.istore_n 3, 1) := by decide +kernel
theorem dX10_freeIn_4 : decode cX10_freeIn 4 = .ok (.iload_n 3, 1) := by decide +kernel
theorem dX10_freeIn_5 : decode cX10_freeIn 5 = .ok (.aload_n 0, 1) := by decide +kernel
theorem dX10_freeIn_6 : decode cX10_freeIn 6 = .ok (.getfield 48, 3) := by decide +kernel
theorem dX10_freeIn_9 : decode cX10_freeIn 9 = .ok (.invokevirtual 73, 3) := by decide +kernel
theorem dX10_freeIn_12 : decode cX10_freeIn 12 = .ok (.if_icmp .ge 32, 3) := by decide +kernel
theorem dX10_freeIn_15 : decode cX10_freeIn 15 = .ok (.aload_n 0, 1) := by decide +kernel
theorem dX10_freeIn_16 : decode cX10_freeIn 16 = .ok (.getfield 48, 3) := by decide +kernel
theorem dX10_freeIn_19 : decode cX10_freeIn 19 = .ok (.iload_n 3, 1) := by decide +kernel
theorem dX10_freeIn_20 : decode cX10_freeIn 20 = .ok (.invokevirtual 77, 3) := by decide +kernel
theorem dX10_freeIn_23 : decode cX10_freeIn 23 = .ok (.iload_n 1, 1) := by decide +kernel
theorem dX10_freeIn_24 : decode cX10_freeIn 24 = .ok (.if_icmp .ne 14, 3) := by decide +kernel
theorem dX10_freeIn_27 : decode cX10_freeIn 27 = .ok (.aload_n 0, 1) := by decide +kernel
theorem dX10_freeIn_28 : decode cX10_freeIn 28 = .ok (.iload_n 3, 1) := by decide +kernel
theorem dX10_freeIn_29 : decode cX10_freeIn 29 = .ok (.invokevirtual 81, 3) := by decide +kernel
theorem dX10_freeIn_32 : decode cX10_freeIn 32 = .ok (.ifCond .eq 6, 3) := by decide +kernel
theorem dX10_freeIn_35 : decode cX10_freeIn 35 = .ok (.iinc 2 1, 3) := by decide +kernel
theorem dX10_freeIn_38 : decode cX10_freeIn 38 = .ok (.iinc 3 1, 3) := by decide +kernel
theorem dX10_freeIn_41 : decode cX10_freeIn 41 = .ok (.goto (-37), 3) := by decide +kernel
theorem dX10_freeIn_44 : decode cX10_freeIn 44 = .ok (.iload_n 2, 1) := by decide +kernel
theorem dX10_freeIn_45 : decode cX10_freeIn 45 = .ok (.ireturn, 1) := by decide +kernel
theorem dX10_nobodys_0 : decode cX10_nobodys 0 = .ok (.aload_n 0, 1) := by decide +kernel
theorem dX10_nobodys_1 : decode cX10_nobodys 1 = .ok (.getfield 31, 3) := by decide +kernel
theorem dX10_nobodys_4 : decode cX10_nobodys 4 = .ok (.ireturn, 1) := by decide +kernel
theorem dX10_movedLast_0 : decode cX10_movedLast 0 = .ok (.aload_n 0, 1) := by decide +kernel
theorem dX10_movedLast_1 : decode cX10_movedLast 1 = .ok (.getfield 35, 3) := by decide +kernel
theorem dX10_movedLast_4 : decode cX10_movedLast 4 = .ok (.ireturn, 1) := by decide +kernel
theorem dX10_againstLaw_0 : decode cX10_againstLaw 0 = .ok (.aload_n 0, 1) := by decide +kernel
theorem dX10_againstLaw_1 : decode cX10_againstLaw 1 = .ok (.getfield 38, 3) := by decide +kernel
theorem dX10_againstLaw_4 : decode cX10_againstLaw 4 = .ok (.ireturn, 1) := by decide +kernel
theorem dX10_firstAgainstLaw_0 : decode cX10_firstAgainstLaw 0 = .ok (.aload_n 0, 1) := by decide +kernel
theorem dX10_firstAgainstLaw_1 : decode cX10_firstAgainstLaw 1 = .ok (.getfield 41, 3) := by decide +kernel
theorem dX10_firstAgainstLaw_4 : decode cX10_firstAgainstLaw 4 = .ok (.ireturn, 1) := by decide +kernel
theorem dX10_play_0 : decode cX10_play 0 = .ok (.aload_n 0, 1) := by decide +kernel
theorem dX10_play_1 : decode cX10_play 1 = .ok (.invokevirtual 84, 3) := by decide +kernel
theorem dX10_play_4 : decode cX10_play 4 = .ok (.iconst 0, 1) := by decide +kernel
theorem dX10_play_5 : decode cX10_play 5 = .ok (.istore_n 3, 1) := by decide +kernel
theorem dX10_play_6 : decode cX10_play 6 = .ok (.iload_n 3, 1) := by decide +kernel
theorem dX10_play_7 : decode cX10_play 7 = .ok (.iload_n 1, 1) := by decide +kernel
theorem dX10_play_8 : decode cX10_play 8 = .ok (.if_icmp .ge 30, 3) := by decide +kernel
theorem dX10_play_11 : decode cX10_play 11 = .ok (.iload_n 3, 1) := by decide +kernel
theorem dX10_play_12 : decode cX10_play 12 = .ok (.aload_n 0, 1) := by decide +kernel
theorem dX10_play_13 : decode cX10_play 13 = .ok (.getfield 56, 3) := by decide +kernel
theorem dX10_play_16 : decode cX10_play 16 = .ok (.invokevirtual 87, 3) := by decide +kernel
theorem dX10_play_19 : decode cX10_play 19 = .ok (.if_icmp .ge 19, 3) := by decide +kernel
theorem dX10_play_22 : decode cX10_play 22 = .ok (.iload_n 3, 1) := by decide +kernel
theorem dX10_play_23 : decode cX10_play 23 = .ok (.iload_n 2, 1) := by decide +kernel
theorem dX10_play_24 : decode cX10_play 24 = .ok (.if_icmp .eq 8, 3) := by decide +kernel
theorem dX10_play_27 : decode cX10_play 27 = .ok (.aload_n 0, 1) := by decide +kernel
theorem dX10_play_28 : decode cX10_play 28 = .ok (.iload_n 3, 1) := by decide +kernel
theorem dX10_play_29 : decode cX10_play 29 = .ok (.invokevirtual 90, 3) := by decide +kernel
theorem dX10_play_32 : decode cX10_play 32 = .ok (.iinc 3 1, 3) := by decide +kernel
theorem dX10_play_35 : decode cX10_play 35 = .ok (.goto (-29), 3) := by decide +kernel
theorem dX10_play_38 : decode cX10_play 38 = .ok (.return_, 1) := by decide +kernel
theorem dX10_begin_0 : decode cX10_begin 0 = .ok (.iconst 0, 1) := by decide +kernel
theorem dX10_begin_1 : decode cX10_begin 1 = .ok (.istore_n 1, 1) := by decide +kernel
theorem dX10_begin_2 : decode cX10_begin 2 = .ok (.iload_n 1, 1) := by decide +kernel
theorem dX10_begin_3 : decode cX10_begin 3 = .ok (.bipush 6, 2) := by decide +kernel
theorem dX10_begin_5 : decode cX10_begin 5 = .ok (.if_icmp .ge 23, 3) := by decide +kernel
theorem dX10_begin_8 : decode cX10_begin 8 = .ok (.aload_n 0, 1) := by decide +kernel
theorem dX10_begin_9 : decode cX10_begin 9 = .ok (.getfield 9, 3) := by decide +kernel
theorem dX10_begin_12 : decode cX10_begin 12 = .ok (.iload_n 1, 1) := by decide +kernel
theorem dX10_begin_13 : decode cX10_begin 13 = .ok (.aload_n 0, 1) := by decide +kernel
theorem dX10_begin_14 : decode cX10_begin 14 = .ok (.getfield 44, 3) := by decide +kernel
theorem dX10_begin_17 : decode cX10_begin 17 = .ok (.iload_n 1, 1) := by decide +kernel
theorem dX10_begin_18 : decode cX10_begin 18 = .ok (.invokevirtual 94, 3) := by decide +kernel
theorem dX10_begin_21 : decode cX10_begin 21 = .ok (.iastore, 1) := by decide +kernel
theorem dX10_begin_22 : decode cX10_begin 22 = .ok (.iinc 1 1, 3) := by decide +kernel
theorem dX10_begin_25 : decode cX10_begin 25 = .ok (.goto (-23), 3) := by decide +kernel
theorem dX10_begin_28 : decode cX10_begin 28 = .ok (.iconst 0, 1) := by decide +kernel
theorem dX10_begin_29 : decode cX10_begin 29 = .ok (.istore_n 1, 1) := by decide +kernel
theorem dX10_begin_30 : decode cX10_begin 30 = .ok (.iload_n 1, 1) := by decide +kernel
theorem dX10_begin_31 : decode cX10_begin 31 = .ok (.bipush 12, 2) := by decide +kernel
theorem dX10_begin_33 : decode cX10_begin 33 = .ok (.if_icmp .ge 30, 3) := by decide +kernel
theorem dX10_begin_36 : decode cX10_begin 36 = .ok (.aload_n 0, 1) := by decide +kernel
theorem dX10_begin_37 : decode cX10_begin 37 = .ok (.getfield 15, 3) := by decide +kernel
theorem dX10_begin_40 : decode cX10_begin 40 = .ok (.iload_n 1, 1) := by decide +kernel
theorem dX10_begin_41 : decode cX10_begin 41 = .ok (.iconst (-1), 1) := by decide +kernel
theorem dX10_begin_42 : decode cX10_begin 42 = .ok (.iastore, 1) := by decide +kernel
theorem dX10_begin_43 : decode cX10_begin 43 = .ok (.aload_n 0, 1) := by decide +kernel
theorem dX10_begin_44 : decode cX10_begin 44 = .ok (.getfield 18, 3) := by decide +kernel
theorem dX10_begin_47 : decode cX10_begin 47 = .ok (.iload_n 1, 1) := by decide +kernel
theorem dX10_begin_48 : decode cX10_begin 48 = .ok (.iconst 0, 1) := by decide +kernel
theorem dX10_begin_49 : decode cX10_begin 49 = .ok (.iastore, 1) := by decide +kernel
theorem dX10_begin_50 : decode cX10_begin 50 = .ok (.aload_n 0, 1) := by decide +kernel
theorem dX10_begin_51 : decode cX10_begin 51 = .ok (.getfield 21, 3) := by decide +kernel
theorem dX10_begin_54 : decode cX10_begin 54 = .ok (.iload_n 1, 1) := by decide +kernel
theorem dX10_begin_55 : decode cX10_begin 55 = .ok (.iconst 1, 1) := by decide +kernel
theorem dX10_begin_56 : decode cX10_begin 56 = .ok (.bastore, 1) := by decide +kernel
theorem dX10_begin_57 : decode cX10_begin 57 = .ok (.iinc 1 1, 3) := by decide +kernel
theorem dX10_begin_60 : decode cX10_begin 60 = .ok (.goto (-30), 3) := by decide +kernel
theorem dX10_begin_63 : decode cX10_begin 63 = .ok (.aload_n 0, 1) := by decide +kernel
theorem dX10_begin_64 : decode cX10_begin 64 = .ok (.iconst 0, 1) := by decide +kernel
theorem dX10_begin_65 : decode cX10_begin 65 = .ok (.putfield 31, 3) := by decide +kernel
theorem dX10_begin_68 : decode cX10_begin 68 = .ok (.aload_n 0, 1) := by decide +kernel
theorem dX10_begin_69 : decode cX10_begin 69 = .ok (.iconst 0, 1) := by decide +kernel
theorem dX10_begin_70 : decode cX10_begin 70 = .ok (.putfield 35, 3) := by decide +kernel
theorem dX10_begin_73 : decode cX10_begin 73 = .ok (.aload_n 0, 1) := by decide +kernel
theorem dX10_begin_74 : decode cX10_begin 74 = .ok (.iconst 0, 1) := by decide +kernel
theorem dX10_begin_75 : decode cX10_begin 75 = .ok (.putfield 38, 3) := by decide +kernel
theorem dX10_begin_78 : decode cX10_begin 78 = .ok (.aload_n 0, 1) := by decide +kernel
theorem dX10_begin_79 : decode cX10_begin 79 = .ok (.iconst (-1), 1) := by decide +kernel
theorem dX10_begin_80 : decode cX10_begin 80 = .ok (.putfield 41, 3) := by decide +kernel
theorem dX10_begin_83 : decode cX10_begin 83 = .ok (.return_, 1) := by decide +kernel
theorem dX10_playOne_0 : decode cX10_playOne 0 = .ok (.aload_n 0, 1) := by decide +kernel
theorem dX10_playOne_1 : decode cX10_playOne 1 = .ok (.iconst 0, 1) := by decide +kernel
theorem dX10_playOne_2 : decode cX10_playOne 2 = .ok (.putfield 35, 3) := by decide +kernel
theorem dX10_playOne_5 : decode cX10_playOne 5 = .ok (.iconst 0, 1) := by decide +kernel
theorem dX10_playOne_6 : decode cX10_playOne 6 = .ok (.istore_n 2, 1) := by decide +kernel
theorem dX10_playOne_7 : decode cX10_playOne 7 = .ok (.aload_n 0, 1) := by decide +kernel
theorem dX10_playOne_8 : decode cX10_playOne 8 = .ok (.getfield 56, 3) := by decide +kernel
theorem dX10_playOne_11 : decode cX10_playOne 11 = .ok (.iload_n 1, 1) := by decide +kernel
theorem dX10_playOne_12 : decode cX10_playOne 12 = .ok (.invokevirtual 97, 3) := by decide +kernel
theorem dX10_playOne_15 : decode cX10_playOne 15 = .ok (.lookupswitch 70 #[(0, 25), (1, 54)], 25) := by decide +kernel
theorem dX10_playOne_40 : decode cX10_playOne 40 = .ok (.aload_n 0, 1) := by decide +kernel
theorem dX10_playOne_41 : decode cX10_playOne 41 = .ok (.aload_n 0, 1) := by decide +kernel
theorem dX10_playOne_42 : decode cX10_playOne 42 = .ok (.getfield 56, 3) := by decide +kernel
theorem dX10_playOne_45 : decode cX10_playOne 45 = .ok (.iload_n 1, 1) := by decide +kernel
theorem dX10_playOne_46 : decode cX10_playOne 46 = .ok (.invokevirtual 100, 3) := by decide +kernel
theorem dX10_playOne_49 : decode cX10_playOne 49 = .ok (.aload_n 0, 1) := by decide +kernel
theorem dX10_playOne_50 : decode cX10_playOne 50 = .ok (.getfield 56, 3) := by decide +kernel
theorem dX10_playOne_53 : decode cX10_playOne 53 = .ok (.iload_n 1, 1) := by decide +kernel
theorem dX10_playOne_54 : decode cX10_playOne 54 = .ok (.invokevirtual 103, 3) := by decide +kernel
theorem dX10_playOne_57 : decode cX10_playOne 57 = .ok (.aload_n 0, 1) := by decide +kernel
theorem dX10_playOne_58 : decode cX10_playOne 58 = .ok (.iload_n 1, 1) := by decide +kernel
theorem dX10_playOne_59 : decode cX10_playOne 59 = .ok (.invokevirtual 106, 3) := by decide +kernel
theorem dX10_playOne_62 : decode cX10_playOne 62 = .ok (.invokevirtual 109, 3) := by decide +kernel
theorem dX10_playOne_65 : decode cX10_playOne 65 = .ok (.istore_n 2, 1) := by decide +kernel
theorem dX10_playOne_66 : decode cX10_playOne 66 = .ok (.goto 32, 3) := by decide +kernel
theorem dX10_playOne_69 : decode cX10_playOne 69 = .ok (.aload_n 0, 1) := by decide +kernel
theorem dX10_playOne_70 : decode cX10_playOne 70 = .ok (.aload_n 0, 1) := by decide +kernel
theorem dX10_playOne_71 : decode cX10_playOne 71 = .ok (.getfield 56, 3) := by decide +kernel
theorem dX10_playOne_74 : decode cX10_playOne 74 = .ok (.iload_n 1, 1) := by decide +kernel
theorem dX10_playOne_75 : decode cX10_playOne 75 = .ok (.invokevirtual 100, 3) := by decide +kernel
theorem dX10_playOne_78 : decode cX10_playOne 78 = .ok (.invokevirtual 113, 3) := by decide +kernel
theorem dX10_playOne_81 : decode cX10_playOne 81 = .ok (.istore_n 2, 1) := by decide +kernel
theorem dX10_playOne_82 : decode cX10_playOne 82 = .ok (.goto 16, 3) := by decide +kernel
theorem dX10_playOne_85 : decode cX10_playOne 85 = .ok (.aload_n 0, 1) := by decide +kernel
theorem dX10_playOne_86 : decode cX10_playOne 86 = .ok (.aload_n 0, 1) := by decide +kernel
theorem dX10_playOne_87 : decode cX10_playOne 87 = .ok (.getfield 56, 3) := by decide +kernel
theorem dX10_playOne_90 : decode cX10_playOne 90 = .ok (.iload_n 1, 1) := by decide +kernel
theorem dX10_playOne_91 : decode cX10_playOne 91 = .ok (.invokevirtual 100, 3) := by decide +kernel
theorem dX10_playOne_94 : decode cX10_playOne 94 = .ok (.invokevirtual 116, 3) := by decide +kernel
theorem dX10_playOne_97 : decode cX10_playOne 97 = .ok (.istore_n 2, 1) := by decide +kernel
theorem dX10_playOne_98 : decode cX10_playOne 98 = .ok (.iload_n 2, 1) := by decide +kernel
theorem dX10_playOne_99 : decode cX10_playOne 99 = .ok (.ifCond .ne 13, 3) := by decide +kernel
theorem dX10_playOne_102 : decode cX10_playOne 102 = .ok (.aload_n 0, 1) := by decide +kernel
theorem dX10_playOne_103 : decode cX10_playOne 103 = .ok (.dup, 1) := by decide +kernel
theorem dX10_playOne_104 : decode cX10_playOne 104 = .ok (.getfield 38, 3) := by decide +kernel
theorem dX10_playOne_107 : decode cX10_playOne 107 = .ok (.iconst 1, 1) := by decide +kernel
theorem dX10_playOne_108 : decode cX10_playOne 108 = .ok (.iadd, 1) := by decide +kernel
theorem dX10_playOne_109 : decode cX10_playOne 109 = .ok (.putfield 38, 3) := by decide +kernel
theorem dX10_playOne_112 : decode cX10_playOne 112 = .ok (.iload_n 2, 1) := by decide +kernel
theorem dX10_playOne_113 : decode cX10_playOne 113 = .ok (.ifCond .ne 16, 3) := by decide +kernel
theorem dX10_playOne_116 : decode cX10_playOne 116 = .ok (.aload_n 0, 1) := by decide +kernel
theorem dX10_playOne_117 : decode cX10_playOne 117 = .ok (.getfield 41, 3) := by decide +kernel
theorem dX10_playOne_120 : decode cX10_playOne 120 = .ok (.iconst (-1), 1) := by decide +kernel
theorem dX10_playOne_121 : decode cX10_playOne 121 = .ok (.if_icmp .ne 8, 3) := by decide +kernel
theorem dX10_playOne_124 : decode cX10_playOne 124 = .ok (.aload_n 0, 1) := by decide +kernel
theorem dX10_playOne_125 : decode cX10_playOne 125 = .ok (.iload_n 1, 1) := by decide +kernel
theorem dX10_playOne_126 : decode cX10_playOne 126 = .ok (.putfield 41, 3) := by decide +kernel
theorem dX10_playOne_129 : decode cX10_playOne 129 = .ok (.return_, 1) := by decide +kernel
theorem dX10_gain_0 : decode cX10_gain 0 = .ok (.iload_n 0, 1) := by decide +kernel
theorem dX10_gain_1 : decode cX10_gain 1 = .ok (.ifCond .lt 11, 3) := by decide +kernel
theorem dX10_gain_4 : decode cX10_gain 4 = .ok (.iload_n 0, 1) := by decide +kernel
theorem dX10_gain_5 : decode cX10_gain 5 = .ok (.iload_n 2, 1) := by decide +kernel
theorem dX10_gain_6 : decode cX10_gain 6 = .ok (.invokestatic 119, 3) := by decide +kernel
theorem dX10_gain_9 : decode cX10_gain 9 = .ok (.goto 10, 3) := by decide +kernel
theorem dX10_gain_12 : decode cX10_gain 12 = .ok (.iload_n 0, 1) := by decide +kernel
theorem dX10_gain_13 : decode cX10_gain 13 = .ok (.ineg, 1) := by decide +kernel
theorem dX10_gain_14 : decode cX10_gain 14 = .ok (.iload_n 1, 1) := by decide +kernel
theorem dX10_gain_15 : decode cX10_gain 15 = .ok (.invokestatic 119, 3) := by decide +kernel
theorem dX10_gain_18 : decode cX10_gain 18 = .ok (.ineg, 1) := by decide +kernel
theorem dX10_gain_19 : decode cX10_gain 19 = .ok (.ireturn, 1) := by decide +kernel
theorem dX10_marry_0 : decode cX10_marry 0 = .ok (.aload_n 0, 1) := by decide +kernel
theorem dX10_marry_1 : decode cX10_marry 1 = .ok (.getfield 48, 3) := by decide +kernel
theorem dX10_marry_4 : decode cX10_marry 4 = .ok (.iload_n 1, 1) := by decide +kernel
theorem dX10_marry_5 : decode cX10_marry 5 = .ok (.invokevirtual 77, 3) := by decide +kernel
theorem dX10_marry_8 : decode cX10_marry 8 = .ok (.istore 4, 2) := by decide +kernel
theorem dX10_marry_10 : decode cX10_marry 10 = .ok (.aload_n 0, 1) := by decide +kernel
theorem dX10_marry_11 : decode cX10_marry 11 = .ok (.getfield 48, 3) := by decide +kernel
theorem dX10_marry_14 : decode cX10_marry 14 = .ok (.iload_n 2, 1) := by decide +kernel
theorem dX10_marry_15 : decode cX10_marry 15 = .ok (.invokevirtual 77, 3) := by decide +kernel
theorem dX10_marry_18 : decode cX10_marry 18 = .ok (.istore 5, 2) := by decide +kernel
theorem dX10_marry_20 : decode cX10_marry 20 = .ok (.aload_n 0, 1) := by decide +kernel
theorem dX10_marry_21 : decode cX10_marry 21 = .ok (.iload_n 1, 1) := by decide +kernel
theorem dX10_marry_22 : decode cX10_marry 22 = .ok (.iload_n 2, 1) := by decide +kernel
theorem dX10_marry_23 : decode cX10_marry 23 = .ok (.invokevirtual 125, 3) := by decide +kernel
theorem dX10_marry_26 : decode cX10_marry 26 = .ok (.ifCond .eq 27, 3) := by decide +kernel
theorem dX10_marry_29 : decode cX10_marry 29 = .ok (.aload_n 0, 1) := by decide +kernel
theorem dX10_marry_30 : decode cX10_marry 30 = .ok (.getfield 44, 3) := by decide +kernel
theorem dX10_marry_33 : decode cX10_marry 33 = .ok (.iload 4, 2) := by decide +kernel
theorem dX10_marry_35 : decode cX10_marry 35 = .ok (.invokevirtual 60, 3) := by decide +kernel
theorem dX10_marry_38 : decode cX10_marry 38 = .ok (.ifCond .eq 15, 3) := by decide +kernel
theorem dX10_marry_41 : decode cX10_marry 41 = .ok (.aload_n 0, 1) := by decide +kernel
theorem dX10_marry_42 : decode cX10_marry 42 = .ok (.getfield 44, 3) := by decide +kernel
theorem dX10_marry_45 : decode cX10_marry 45 = .ok (.iload 5, 2) := by decide +kernel
theorem dX10_marry_47 : decode cX10_marry 47 = .ok (.invokevirtual 60, 3) := by decide +kernel
theorem dX10_marry_50 : decode cX10_marry 50 = .ok (.ifCond .ne 5, 3) := by decide +kernel
theorem dX10_marry_53 : decode cX10_marry 53 = .ok (.iconst 0, 1) := by decide +kernel
theorem dX10_marry_54 : decode cX10_marry 54 = .ok (.ireturn, 1) := by decide +kernel
theorem dX10_marry_55 : decode cX10_marry 55 = .ok (.iload_n 3, 1) := by decide +kernel
theorem dX10_marry_56 : decode cX10_marry 56 = .ok (.aload_n 0, 1) := by decide +kernel
theorem dX10_marry_57 : decode cX10_marry 57 = .ok (.getfield 9, 3) := by decide +kernel
theorem dX10_marry_60 : decode cX10_marry 60 = .ok (.iload 4, 2) := by decide +kernel
theorem dX10_marry_62 : decode cX10_marry 62 = .ok (.iaload, 1) := by decide +kernel
theorem dX10_marry_63 : decode cX10_marry 63 = .ok (.aload_n 0, 1) := by decide +kernel
theorem dX10_marry_64 : decode cX10_marry 64 = .ok (.getfield 9, 3) := by decide +kernel
theorem dX10_marry_67 : decode cX10_marry 67 = .ok (.iload 5, 2) := by decide +kernel
theorem dX10_marry_69 : decode cX10_marry 69 = .ok (.iaload, 1) := by decide +kernel
theorem dX10_marry_70 : decode cX10_marry 70 = .ok (.invokestatic 128, 3) := by decide +kernel
theorem dX10_marry_73 : decode cX10_marry 73 = .ok (.istore 6, 2) := by decide +kernel
theorem dX10_marry_75 : decode cX10_marry 75 = .ok (.aload_n 0, 1) := by decide +kernel
theorem dX10_marry_76 : decode cX10_marry 76 = .ok (.getfield 9, 3) := by decide +kernel
theorem dX10_marry_79 : decode cX10_marry 79 = .ok (.iload 4, 2) := by decide +kernel
theorem dX10_marry_81 : decode cX10_marry 81 = .ok (.dup2, 1) := by decide +kernel
theorem dX10_marry_82 : decode cX10_marry 82 = .ok (.iaload, 1) := by decide +kernel
theorem dX10_marry_83 : decode cX10_marry 83 = .ok (.iload 6, 2) := by decide +kernel
theorem dX10_marry_85 : decode cX10_marry 85 = .ok (.iadd, 1) := by decide +kernel
theorem dX10_marry_86 : decode cX10_marry 86 = .ok (.iastore, 1) := by decide +kernel
theorem dX10_marry_87 : decode cX10_marry 87 = .ok (.aload_n 0, 1) := by decide +kernel
theorem dX10_marry_88 : decode cX10_marry 88 = .ok (.getfield 9, 3) := by decide +kernel
theorem dX10_marry_91 : decode cX10_marry 91 = .ok (.iload 5, 2) := by decide +kernel
theorem dX10_marry_93 : decode cX10_marry 93 = .ok (.dup2, 1) := by decide +kernel
theorem dX10_marry_94 : decode cX10_marry 94 = .ok (.iaload, 1) := by decide +kernel
theorem dX10_marry_95 : decode cX10_marry 95 = .ok (.iload 6, 2) := by decide +kernel
theorem dX10_marry_97 : decode cX10_marry 97 = .ok (.isub, 1) := by decide +kernel
theorem dX10_marry_98 : decode cX10_marry 98 = .ok (.iastore, 1) := by decide +kernel
theorem dX10_marry_99 : decode cX10_marry 99 = .ok (.aload_n 0, 1) := by decide +kernel
theorem dX10_marry_100 : decode cX10_marry 100 = .ok (.iload 4, 2) := by decide +kernel
theorem dX10_marry_102 : decode cX10_marry 102 = .ok (.iload 5, 2) := by decide +kernel
theorem dX10_marry_104 : decode cX10_marry 104 = .ok (.if_icmp .ge 8, 3) := by decide +kernel
theorem dX10_marry_107 : decode cX10_marry 107 = .ok (.iload 6, 2) := by decide +kernel
theorem dX10_marry_109 : decode cX10_marry 109 = .ok (.goto 6, 3) := by decide +kernel
theorem dX10_marry_112 : decode cX10_marry 112 = .ok (.iload 6, 2) := by decide +kernel
theorem dX10_marry_114 : decode cX10_marry 114 = .ok (.ineg, 1) := by decide +kernel
theorem dX10_marry_115 : decode cX10_marry 115 = .ok (.putfield 35, 3) := by decide +kernel
theorem dX10_marry_118 : decode cX10_marry 118 = .ok (.iload 6, 2) := by decide +kernel
theorem dX10_marry_120 : decode cX10_marry 120 = .ok (.ifCond .le 8, 3) := by decide +kernel
theorem dX10_marry_123 : decode cX10_marry 123 = .ok (.iload 4, 2) := by decide +kernel
theorem dX10_marry_125 : decode cX10_marry 125 = .ok (.goto 5, 3) := by decide +kernel
theorem dX10_marry_128 : decode cX10_marry 128 = .ok (.iload 5, 2) := by decide +kernel
theorem dX10_marry_130 : decode cX10_marry 130 = .ok (.istore 7, 2) := by decide +kernel
theorem dX10_marry_132 : decode cX10_marry 132 = .ok (.aload_n 0, 1) := by decide +kernel
theorem dX10_marry_133 : decode cX10_marry 133 = .ok (.iload_n 1, 1) := by decide +kernel
theorem dX10_marry_134 : decode cX10_marry 134 = .ok (.iload_n 2, 1) := by decide +kernel
theorem dX10_marry_135 : decode cX10_marry 135 = .ok (.iload 6, 2) := by decide +kernel
theorem dX10_marry_137 : decode cX10_marry 137 = .ok (.invokestatic 132, 3) := by decide +kernel
theorem dX10_marry_140 : decode cX10_marry 140 = .ok (.iload 7, 2) := by decide +kernel
theorem dX10_marry_142 : decode cX10_marry 142 = .ok (.invokevirtual 135, 3) := by decide +kernel
theorem dX10_marry_145 : decode cX10_marry 145 = .ok (.aload_n 0, 1) := by decide +kernel
theorem dX10_marry_146 : decode cX10_marry 146 = .ok (.iload_n 2, 1) := by decide +kernel
theorem dX10_marry_147 : decode cX10_marry 147 = .ok (.iload_n 1, 1) := by decide +kernel
theorem dX10_marry_148 : decode cX10_marry 148 = .ok (.iload 6, 2) := by decide +kernel
theorem dX10_marry_150 : decode cX10_marry 150 = .ok (.invokestatic 132, 3) := by decide +kernel
theorem dX10_marry_153 : decode cX10_marry 153 = .ok (.iload 7, 2) := by decide +kernel
theorem dX10_marry_155 : decode cX10_marry 155 = .ok (.invokevirtual 135, 3) := by decide +kernel
theorem dX10_marry_158 : decode cX10_marry 158 = .ok (.iconst 1, 1) := by decide +kernel
theorem dX10_marry_159 : decode cX10_marry 159 = .ok (.ireturn, 1) := by decide +kernel
theorem dX10_part_0 : decode cX10_part 0 = .ok (.aload_n 0, 1) := by decide +kernel
theorem dX10_part_1 : decode cX10_part 1 = .ok (.iload_n 1, 1) := by decide +kernel
theorem dX10_part_2 : decode cX10_part 2 = .ok (.invokevirtual 139, 3) := by decide +kernel
theorem dX10_part_5 : decode cX10_part 5 = .ok (.iconst (-1), 1) := by decide +kernel
theorem dX10_part_6 : decode cX10_part 6 = .ok (.if_icmp .ne 5, 3) := by decide +kernel
theorem dX10_part_9 : decode cX10_part 9 = .ok (.iconst 0, 1) := by decide +kernel
theorem dX10_part_10 : decode cX10_part 10 = .ok (.ireturn, 1) := by decide +kernel
theorem dX10_part_11 : decode cX10_part 11 = .ok (.aload_n 0, 1) := by decide +kernel
theorem dX10_part_12 : decode cX10_part 12 = .ok (.aload_n 0, 1) := by decide +kernel
theorem dX10_part_13 : decode cX10_part 13 = .ok (.iload_n 1, 1) := by decide +kernel
theorem dX10_part_14 : decode cX10_part 14 = .ok (.invokevirtual 142, 3) := by decide +kernel
theorem dX10_part_17 : decode cX10_part 17 = .ok (.putfield 35, 3) := by decide +kernel
theorem dX10_part_20 : decode cX10_part 20 = .ok (.aload_n 0, 1) := by decide +kernel
theorem dX10_part_21 : decode cX10_part 21 = .ok (.dup, 1) := by decide +kernel
theorem dX10_part_22 : decode cX10_part 22 = .ok (.getfield 31, 3) := by decide +kernel
theorem dX10_part_25 : decode cX10_part 25 = .ok (.aload_n 0, 1) := by decide +kernel
theorem dX10_part_26 : decode cX10_part 26 = .ok (.getfield 35, 3) := by decide +kernel
theorem dX10_part_29 : decode cX10_part 29 = .ok (.iadd, 1) := by decide +kernel
theorem dX10_part_30 : decode cX10_part 30 = .ok (.putfield 31, 3) := by decide +kernel
theorem dX10_part_33 : decode cX10_part 33 = .ok (.iconst 1, 1) := by decide +kernel
theorem dX10_part_34 : decode cX10_part 34 = .ok (.ireturn, 1) := by decide +kernel
theorem dX10_die_0 : decode cX10_die 0 = .ok (.aload_n 0, 1) := by decide +kernel
theorem dX10_die_1 : decode cX10_die 1 = .ok (.iload_n 1, 1) := by decide +kernel
theorem dX10_die_2 : decode cX10_die 2 = .ok (.invokevirtual 145, 3) := by decide +kernel
theorem dX10_die_5 : decode cX10_die 5 = .ok (.ifCond .ne 5, 3) := by decide +kernel
theorem dX10_die_8 : decode cX10_die 8 = .ok (.iconst 0, 1) := by decide +kernel
theorem dX10_die_9 : decode cX10_die 9 = .ok (.ireturn, 1) := by decide +kernel
theorem dX10_die_10 : decode cX10_die 10 = .ok (.aload_n 0, 1) := by decide +kernel
theorem dX10_die_11 : decode cX10_die 11 = .ok (.getfield 15, 3) := by decide +kernel
theorem dX10_die_14 : decode cX10_die 14 = .ok (.iload_n 1, 1) := by decide +kernel
theorem dX10_die_15 : decode cX10_die 15 = .ok (.iaload, 1) := by decide +kernel
theorem dX10_die_16 : decode cX10_die 16 = .ok (.istore_n 2, 1) := by decide +kernel
theorem dX10_die_17 : decode cX10_die 17 = .ok (.aload_n 0, 1) := by decide +kernel
theorem dX10_die_18 : decode cX10_die 18 = .ok (.getfield 21, 3) := by decide +kernel
theorem dX10_die_21 : decode cX10_die 21 = .ok (.iload_n 1, 1) := by decide +kernel
theorem dX10_die_22 : decode cX10_die 22 = .ok (.iconst 0, 1) := by decide +kernel
theorem dX10_die_23 : decode cX10_die 23 = .ok (.bastore, 1) := by decide +kernel
theorem dX10_die_24 : decode cX10_die 24 = .ok (.aload_n 0, 1) := by decide +kernel
theorem dX10_die_25 : decode cX10_die 25 = .ok (.getfield 48, 3) := by decide +kernel
theorem dX10_die_28 : decode cX10_die 28 = .ok (.iload_n 2, 1) := by decide +kernel
theorem dX10_die_29 : decode cX10_die 29 = .ok (.invokevirtual 66, 3) := by decide +kernel
theorem dX10_die_32 : decode cX10_die 32 = .ok (.ifCond .eq 25, 3) := by decide +kernel
theorem dX10_die_35 : decode cX10_die 35 = .ok (.aload_n 0, 1) := by decide +kernel
theorem dX10_die_36 : decode cX10_die 36 = .ok (.aload_n 0, 1) := by decide +kernel
theorem dX10_die_37 : decode cX10_die 37 = .ok (.iload_n 1, 1) := by decide +kernel
theorem dX10_die_38 : decode cX10_die 38 = .ok (.invokevirtual 142, 3) := by decide +kernel
theorem dX10_die_41 : decode cX10_die 41 = .ok (.putfield 35, 3) := by decide +kernel
theorem dX10_die_44 : decode cX10_die 44 = .ok (.aload_n 0, 1) := by decide +kernel
theorem dX10_die_45 : decode cX10_die 45 = .ok (.getfield 18, 3) := by decide +kernel
theorem dX10_die_48 : decode cX10_die 48 = .ok (.iload_n 2, 1) := by decide +kernel
theorem dX10_die_49 : decode cX10_die 49 = .ok (.dup2, 1) := by decide +kernel
theorem dX10_die_50 : decode cX10_die 50 = .ok (.iaload, 1) := by decide +kernel
theorem dX10_die_51 : decode cX10_die 51 = .ok (.aload_n 0, 1) := by decide +kernel
theorem dX10_die_52 : decode cX10_die 52 = .ok (.getfield 35, 3) := by decide +kernel
theorem dX10_die_55 : decode cX10_die 55 = .ok (.iadd, 1) := by decide +kernel
theorem dX10_die_56 : decode cX10_die 56 = .ok (.iastore, 1) := by decide +kernel
theorem dX10_die_57 : decode cX10_die 57 = .ok (.iconst 1, 1) := by decide +kernel
theorem dX10_die_58 : decode cX10_die 58 = .ok (.ireturn, 1) := by decide +kernel
theorem dX10_differenceAt_0 : decode cX10_differenceAt 0 = .ok (.aload_n 0, 1) := by decide +kernel
theorem dX10_differenceAt_1 : decode cX10_differenceAt 1 = .ok (.getfield 52, 3) := by decide +kernel
theorem dX10_differenceAt_4 : decode cX10_differenceAt 4 = .ok (.aload_n 0, 1) := by decide +kernel
theorem dX10_differenceAt_5 : decode cX10_differenceAt 5 = .ok (.getfield 56, 3) := by decide +kernel
theorem dX10_differenceAt_8 : decode cX10_differenceAt 8 = .ok (.iload_n 1, 1) := by decide +kernel
theorem dX10_differenceAt_9 : decode cX10_differenceAt 9 = .ok (.invokevirtual 148, 3) := by decide +kernel
theorem dX10_differenceAt_12 : decode cX10_differenceAt 12 = .ok (.invokevirtual 151, 3) := by decide +kernel
theorem dX10_differenceAt_15 : decode cX10_differenceAt 15 = .ok (.iconst 1, 1) := by decide +kernel
theorem dX10_differenceAt_16 : decode cX10_differenceAt 16 = .ok (.if_icmp .ne 5, 3) := by decide +kernel
theorem dX10_differenceAt_19 : decode cX10_differenceAt 19 = .ok (.iconst 0, 1) := by decide +kernel
theorem dX10_differenceAt_20 : decode cX10_differenceAt 20 = .ok (.ireturn, 1) := by decide +kernel
theorem dX10_differenceAt_21 : decode cX10_differenceAt 21 = .ok (.aload_n 0, 1) := by decide +kernel
theorem dX10_differenceAt_22 : decode cX10_differenceAt 22 = .ok (.getfield 56, 3) := by decide +kernel
theorem dX10_differenceAt_25 : decode cX10_differenceAt 25 = .ok (.iload_n 1, 1) := by decide +kernel
theorem dX10_differenceAt_26 : decode cX10_differenceAt 26 = .ok (.invokevirtual 156, 3) := by decide +kernel
theorem dX10_differenceAt_29 : decode cX10_differenceAt 29 = .ok (.istore_n 2, 1) := by decide +kernel
theorem dX10_differenceAt_30 : decode cX10_differenceAt 30 = .ok (.aload_n 0, 1) := by decide +kernel
theorem dX10_differenceAt_31 : decode cX10_differenceAt 31 = .ok (.getfield 48, 3) := by decide +kernel
theorem dX10_differenceAt_34 : decode cX10_differenceAt 34 = .ok (.aload_n 0, 1) := by decide +kernel
theorem dX10_differenceAt_35 : decode cX10_differenceAt 35 = .ok (.getfield 56, 3) := by decide +kernel
theorem dX10_differenceAt_38 : decode cX10_differenceAt 38 = .ok (.iload_n 1, 1) := by decide +kernel
theorem dX10_differenceAt_39 : decode cX10_differenceAt 39 = .ok (.invokevirtual 100, 3) := by decide +kernel
theorem dX10_differenceAt_42 : decode cX10_differenceAt 42 = .ok (.iload_n 2, 1) := by decide +kernel
theorem dX10_differenceAt_43 : decode cX10_differenceAt 43 = .ok (.invokevirtual 159, 3) := by decide +kernel
theorem dX10_differenceAt_46 : decode cX10_differenceAt 46 = .ok (.aload_n 0, 1) := by decide +kernel
theorem dX10_differenceAt_47 : decode cX10_differenceAt 47 = .ok (.getfield 48, 3) := by decide +kernel
theorem dX10_differenceAt_50 : decode cX10_differenceAt 50 = .ok (.aload_n 0, 1) := by decide +kernel
theorem dX10_differenceAt_51 : decode cX10_differenceAt 51 = .ok (.getfield 56, 3) := by decide +kernel
theorem dX10_differenceAt_54 : decode cX10_differenceAt 54 = .ok (.iload_n 1, 1) := by decide +kernel
theorem dX10_differenceAt_55 : decode cX10_differenceAt 55 = .ok (.invokevirtual 103, 3) := by decide +kernel
theorem dX10_differenceAt_58 : decode cX10_differenceAt 58 = .ok (.iload_n 2, 1) := by decide +kernel
theorem dX10_differenceAt_59 : decode cX10_differenceAt 59 = .ok (.invokevirtual 159, 3) := by decide +kernel
theorem dX10_differenceAt_62 : decode cX10_differenceAt 62 = .ok (.isub, 1) := by decide +kernel
theorem dX10_differenceAt_63 : decode cX10_differenceAt 63 = .ok (.ireturn, 1) := by decide +kernel
theorem dX10_bind_0 : decode cX10_bind 0 = .ok (.aload_n 0, 1) := by decide +kernel
theorem dX10_bind_1 : decode cX10_bind 1 = .ok (.getfield 48, 3) := by decide +kernel
theorem dX10_bind_4 : decode cX10_bind 4 = .ok (.iload_n 1, 1) := by decide +kernel
theorem dX10_bind_5 : decode cX10_bind 5 = .ok (.invokevirtual 66, 3) := by decide +kernel
theorem dX10_bind_8 : decode cX10_bind 8 = .ok (.ifCond .eq 25, 3) := by decide +kernel
theorem dX10_bind_11 : decode cX10_bind 11 = .ok (.aload_n 0, 1) := by decide +kernel
theorem dX10_bind_12 : decode cX10_bind 12 = .ok (.getfield 15, 3) := by decide +kernel
theorem dX10_bind_15 : decode cX10_bind 15 = .ok (.iload_n 1, 1) := by decide +kernel
theorem dX10_bind_16 : decode cX10_bind 16 = .ok (.iload_n 2, 1) := by decide +kernel
theorem dX10_bind_17 : decode cX10_bind 17 = .ok (.iastore, 1) := by decide +kernel
theorem dX10_bind_18 : decode cX10_bind 18 = .ok (.aload_n 0, 1) := by decide +kernel
theorem dX10_bind_19 : decode cX10_bind 19 = .ok (.getfield 25, 3) := by decide +kernel
theorem dX10_bind_22 : decode cX10_bind 22 = .ok (.iload_n 1, 1) := by decide +kernel
theorem dX10_bind_23 : decode cX10_bind 23 = .ok (.iload_n 3, 1) := by decide +kernel
theorem dX10_bind_24 : decode cX10_bind 24 = .ok (.iastore, 1) := by decide +kernel
theorem dX10_bind_25 : decode cX10_bind 25 = .ok (.aload_n 0, 1) := by decide +kernel
theorem dX10_bind_26 : decode cX10_bind 26 = .ok (.getfield 28, 3) := by decide +kernel
theorem dX10_bind_29 : decode cX10_bind 29 = .ok (.iload_n 1, 1) := by decide +kernel
theorem dX10_bind_30 : decode cX10_bind 30 = .ok (.iload 4, 2) := by decide +kernel
theorem dX10_bind_32 : decode cX10_bind 32 = .ok (.iastore, 1) := by decide +kernel
theorem dX10_bind_33 : decode cX10_bind 33 = .ok (.return_, 1) := by decide +kernel
theorem dX10_dissolve_0 : decode cX10_dissolve 0 = .ok (.aload_n 0, 1) := by decide +kernel
theorem dX10_dissolve_1 : decode cX10_dissolve 1 = .ok (.getfield 48, 3) := by decide +kernel
theorem dX10_dissolve_4 : decode cX10_dissolve 4 = .ok (.iload_n 1, 1) := by decide +kernel
theorem dX10_dissolve_5 : decode cX10_dissolve 5 = .ok (.invokevirtual 66, 3) := by decide +kernel
theorem dX10_dissolve_8 : decode cX10_dissolve 8 = .ok (.ifCond .eq 35, 3) := by decide +kernel
theorem dX10_dissolve_11 : decode cX10_dissolve 11 = .ok (.aload_n 0, 1) := by decide +kernel
theorem dX10_dissolve_12 : decode cX10_dissolve 12 = .ok (.getfield 48, 3) := by decide +kernel
theorem dX10_dissolve_15 : decode cX10_dissolve 15 = .ok (.aload_n 0, 1) := by decide +kernel
theorem dX10_dissolve_16 : decode cX10_dissolve 16 = .ok (.getfield 15, 3) := by decide +kernel
theorem dX10_dissolve_19 : decode cX10_dissolve 19 = .ok (.iload_n 1, 1) := by decide +kernel
theorem dX10_dissolve_20 : decode cX10_dissolve 20 = .ok (.iaload, 1) := by decide +kernel
theorem dX10_dissolve_21 : decode cX10_dissolve 21 = .ok (.invokevirtual 66, 3) := by decide +kernel
theorem dX10_dissolve_24 : decode cX10_dissolve 24 = .ok (.ifCond .eq 19, 3) := by decide +kernel
theorem dX10_dissolve_27 : decode cX10_dissolve 27 = .ok (.aload_n 0, 1) := by decide +kernel
theorem dX10_dissolve_28 : decode cX10_dissolve 28 = .ok (.getfield 44, 3) := by decide +kernel
theorem dX10_dissolve_31 : decode cX10_dissolve 31 = .ok (.aload_n 0, 1) := by decide +kernel
theorem dX10_dissolve_32 : decode cX10_dissolve 32 = .ok (.getfield 28, 3) := by decide +kernel
theorem dX10_dissolve_35 : decode cX10_dissolve 35 = .ok (.iload_n 1, 1) := by decide +kernel
theorem dX10_dissolve_36 : decode cX10_dissolve 36 = .ok (.iaload, 1) := by decide +kernel
theorem dX10_dissolve_37 : decode cX10_dissolve 37 = .ok (.invokevirtual 60, 3) := by decide +kernel
theorem dX10_dissolve_40 : decode cX10_dissolve 40 = .ok (.ifCond .ne 5, 3) := by decide +kernel
theorem dX10_dissolve_43 : decode cX10_dissolve 43 = .ok (.iconst 0, 1) := by decide +kernel
theorem dX10_dissolve_44 : decode cX10_dissolve 44 = .ok (.ireturn, 1) := by decide +kernel
theorem dX10_dissolve_45 : decode cX10_dissolve 45 = .ok (.aload_n 0, 1) := by decide +kernel
theorem dX10_dissolve_46 : decode cX10_dissolve 46 = .ok (.getfield 28, 3) := by decide +kernel
theorem dX10_dissolve_49 : decode cX10_dissolve 49 = .ok (.iload_n 1, 1) := by decide +kernel
theorem dX10_dissolve_50 : decode cX10_dissolve 50 = .ok (.iaload, 1) := by decide +kernel
theorem dX10_dissolve_51 : decode cX10_dissolve 51 = .ok (.istore_n 2, 1) := by decide +kernel
theorem dX10_dissolve_52 : decode cX10_dissolve 52 = .ok (.aload_n 0, 1) := by decide +kernel
theorem dX10_dissolve_53 : decode cX10_dissolve 53 = .ok (.getfield 25, 3) := by decide +kernel
theorem dX10_dissolve_56 : decode cX10_dissolve 56 = .ok (.iload_n 1, 1) := by decide +kernel
theorem dX10_dissolve_57 : decode cX10_dissolve 57 = .ok (.iaload, 1) := by decide +kernel
theorem dX10_dissolve_58 : decode cX10_dissolve 58 = .ok (.aload_n 0, 1) := by decide +kernel
theorem dX10_dissolve_59 : decode cX10_dissolve 59 = .ok (.getfield 9, 3) := by decide +kernel
theorem dX10_dissolve_62 : decode cX10_dissolve 62 = .ok (.iload_n 2, 1) := by decide +kernel
theorem dX10_dissolve_63 : decode cX10_dissolve 63 = .ok (.iaload, 1) := by decide +kernel
theorem dX10_dissolve_64 : decode cX10_dissolve 64 = .ok (.invokestatic 119, 3) := by decide +kernel
theorem dX10_dissolve_67 : decode cX10_dissolve 67 = .ok (.istore_n 3, 1) := by decide +kernel
theorem dX10_dissolve_68 : decode cX10_dissolve 68 = .ok (.aload_n 0, 1) := by decide +kernel
theorem dX10_dissolve_69 : decode cX10_dissolve 69 = .ok (.getfield 9, 3) := by decide +kernel
theorem dX10_dissolve_72 : decode cX10_dissolve 72 = .ok (.iload_n 2, 1) := by decide +kernel
theorem dX10_dissolve_73 : decode cX10_dissolve 73 = .ok (.dup2, 1) := by decide +kernel
theorem dX10_dissolve_74 : decode cX10_dissolve 74 = .ok (.iaload, 1) := by decide +kernel
theorem dX10_dissolve_75 : decode cX10_dissolve 75 = .ok (.iload_n 3, 1) := by decide +kernel
theorem dX10_dissolve_76 : decode cX10_dissolve 76 = .ok (.isub, 1) := by decide +kernel
theorem dX10_dissolve_77 : decode cX10_dissolve 77 = .ok (.iastore, 1) := by decide +kernel
theorem dX10_dissolve_78 : decode cX10_dissolve 78 = .ok (.aload_n 0, 1) := by decide +kernel
theorem dX10_dissolve_79 : decode cX10_dissolve 79 = .ok (.getfield 15, 3) := by decide +kernel
theorem dX10_dissolve_82 : decode cX10_dissolve 82 = .ok (.aload_n 0, 1) := by decide +kernel
theorem dX10_dissolve_83 : decode cX10_dissolve 83 = .ok (.getfield 15, 3) := by decide +kernel
theorem dX10_dissolve_86 : decode cX10_dissolve 86 = .ok (.iload_n 1, 1) := by decide +kernel
theorem dX10_dissolve_87 : decode cX10_dissolve 87 = .ok (.iaload, 1) := by decide +kernel
theorem dX10_dissolve_88 : decode cX10_dissolve 88 = .ok (.iconst (-1), 1) := by decide +kernel
theorem dX10_dissolve_89 : decode cX10_dissolve 89 = .ok (.iastore, 1) := by decide +kernel
theorem dX10_dissolve_90 : decode cX10_dissolve 90 = .ok (.aload_n 0, 1) := by decide +kernel
theorem dX10_dissolve_91 : decode cX10_dissolve 91 = .ok (.getfield 15, 3) := by decide +kernel
theorem dX10_dissolve_94 : decode cX10_dissolve 94 = .ok (.iload_n 1, 1) := by decide +kernel
theorem dX10_dissolve_95 : decode cX10_dissolve 95 = .ok (.iconst (-1), 1) := by decide +kernel
theorem dX10_dissolve_96 : decode cX10_dissolve 96 = .ok (.iastore, 1) := by decide +kernel
theorem dX10_dissolve_97 : decode cX10_dissolve 97 = .ok (.iload_n 3, 1) := by decide +kernel
theorem dX10_dissolve_98 : decode cX10_dissolve 98 = .ok (.ireturn, 1) := by decide +kernel
end
section
theorem dX11_init_0 : decode cX11_init 0 = .ok (.aload_n 0, 1) := by decide +kernel
theorem dX11_init_1 : decode cX11_init 1 = .ok (.invokespecial 3, 3) := by decide +kernel
theorem dX11_init_4 : decode cX11_init 4 = .ok (.aload_n 0, 1) := by decide +kernel
theorem dX11_init_5 : decode cX11_init 5 = .ok (.new 9, 3) := by decide +kernel
theorem dX11_init_8 : decode cX11_init 8 = .ok (.dup, 1) := by decide +kernel
theorem dX11_init_9 : decode cX11_init 9 = .ok (.bipush 20, 2) := by decide +kernel
theorem dX11_init_11 : decode cX11_init 11 = .ok (.invokespecial 13, 3) := by decide +kernel
theorem dX11_init_14 : decode cX11_init 14 = .ok (.putfield 16, 3) := by decide +kernel
theorem dX11_init_17 : decode cX11_init 17 = .ok (.aload_n 0, 1) := by decide +kernel
theorem dX11_init_18 : decode cX11_init 18 = .ok (.new 9, 3) := by decide +kernel
theorem dX11_init_21 : decode cX11_init 21 = .ok (.dup, 1) := by decide +kernel
theorem dX11_init_22 : decode cX11_init 22 = .ok (.bipush 60, 2) := by decide +kernel
theorem dX11_init_24 : decode cX11_init 24 = .ok (.invokespecial 13, 3) := by decide +kernel
theorem dX11_init_27 : decode cX11_init 27 = .ok (.putfield 20, 3) := by decide +kernel
theorem dX11_init_30 : decode cX11_init 30 = .ok (.aload_n 0, 1) := by decide +kernel
theorem dX11_init_31 : decode cX11_init 31 = .ok (.new 23, 3) := by decide +kernel
theorem dX11_init_34 : decode cX11_init 34 = .ok (.dup, 1) := by decide +kernel
theorem dX11_init_35 : decode cX11_init 35 = .ok (.invokespecial 25, 3) := by decide +kernel
theorem dX11_init_38 : decode cX11_init 38 = .ok (.putfield 26, 3) := by decide +kernel
theorem dX11_init_41 : decode cX11_init 41 = .ok (.aload_n 0, 1) := by decide +kernel
theorem dX11_init_42 : decode cX11_init 42 = .ok (.new 30, 3) := by decide +kernel
theorem dX11_init_45 : decode cX11_init 45 = .ok (.dup, 1) := by decide +kernel
theorem dX11_init_46 : decode cX11_init 46 = .ok (.invokespecial 32, 3) := by decide +kernel
theorem dX11_init_49 : decode cX11_init 49 = .ok (.putfield 33, 3) := by decide +kernel
theorem dX11_init_52 : decode cX11_init 52 = .ok (.aload_n 0, 1) := by decide +kernel
theorem dX11_init_53 : decode cX11_init 53 = .ok (.new 37, 3) := by decide +kernel
theorem dX11_init_56 : decode cX11_init 56 = .ok (.dup, 1) := by decide +kernel
theorem dX11_init_57 : decode cX11_init 57 = .ok (.invokespecial 39, 3) := by decide +kernel
theorem dX11_init_60 : decode cX11_init 60 = .ok (.putfield 40, 3) := by decide +kernel
theorem dX11_init_63 : decode cX11_init 63 = .ok (.aload_n 0, 1) := by decide +kernel
theorem dX11_init_64 : decode cX11_init 64 = .ok (.new 44, 3) := by decide +kernel
theorem dX11_init_67 : decode cX11_init 67 = .ok (.dup, 1) := by decide +kernel
theorem dX11_init_68 : decode cX11_init 68 = .ok (.invokespecial 46, 3) := by decide +kernel
theorem dX11_init_71 : decode cX11_init 71 = .ok (.putfield 47, 3) := by decide +kernel
theorem dX11_init_74 : decode cX11_init 74 = .ok (.aload_n 0, 1) := by decide +kernel
theorem dX11_init_75 : decode cX11_init 75 = .ok (.new 51, 3) := by decide +kernel
theorem dX11_init_78 : decode cX11_init 78 = .ok (.dup, 1) := by decide +kernel
theorem dX11_init_79 : decode cX11_init 79 = .ok (.aload_n 0, 1) := by decide +kernel
theorem dX11_init_80 : decode cX11_init 80 = .ok (.getfield 26, 3) := by decide +kernel
theorem dX11_init_83 : decode cX11_init 83 = .ok (.aload_n 0, 1) := by decide +kernel
theorem dX11_init_84 : decode cX11_init 84 = .ok (.getfield 33, 3) := by decide +kernel
theorem dX11_init_87 : decode cX11_init 87 = .ok (.aload_n 0, 1) := by decide +kernel
theorem dX11_init_88 : decode cX11_init 88 = .ok (.getfield 40, 3) := by decide +kernel
theorem dX11_init_91 : decode cX11_init 91 = .ok (.aload_n 0, 1) := by decide +kernel
theorem dX11_init_92 : decode cX11_init 92 = .ok (.getfield 47, 3) := by decide +kernel
theorem dX11_init_95 : decode cX11_init 95 = .ok (.invokespecial 53, 3) := by decide +kernel
theorem dX11_init_98 : decode cX11_init 98 = .ok (.putfield 56, 3) := by decide +kernel
theorem dX11_init_101 : decode cX11_init 101 = .ok (.aload_n 0, 1) := by decide +kernel
theorem dX11_init_102 : decode cX11_init 102 = .ok (.new 60, 3) := by decide +kernel
theorem dX11_init_105 : decode cX11_init 105 = .ok (.dup, 1) := by decide +kernel
theorem dX11_init_106 : decode cX11_init 106 = .ok (.aload_n 0, 1) := by decide +kernel
theorem dX11_init_107 : decode cX11_init 107 = .ok (.getfield 56, 3) := by decide +kernel
theorem dX11_init_110 : decode cX11_init 110 = .ok (.aload_n 0, 1) := by decide +kernel
theorem dX11_init_111 : decode cX11_init 111 = .ok (.getfield 33, 3) := by decide +kernel
theorem dX11_init_114 : decode cX11_init 114 = .ok (.invokespecial 62, 3) := by decide +kernel
theorem dX11_init_117 : decode cX11_init 117 = .ok (.putfield 65, 3) := by decide +kernel
theorem dX11_init_120 : decode cX11_init 120 = .ok (.aload_n 0, 1) := by decide +kernel
theorem dX11_init_121 : decode cX11_init 121 = .ok (.new 69, 3) := by decide +kernel
theorem dX11_init_124 : decode cX11_init 124 = .ok (.dup, 1) := by decide +kernel
theorem dX11_init_125 : decode cX11_init 125 = .ok (.aload_n 0, 1) := by decide +kernel
theorem dX11_init_126 : decode cX11_init 126 = .ok (.getfield 56, 3) := by decide +kernel
theorem dX11_init_129 : decode cX11_init 129 = .ok (.aload_n 0, 1) := by decide +kernel
theorem dX11_init_130 : decode cX11_init 130 = .ok (.getfield 33, 3) := by decide +kernel
theorem dX11_init_133 : decode cX11_init 133 = .ok (.invokespecial 71, 3) := by decide +kernel
theorem dX11_init_136 : decode cX11_init 136 = .ok (.putfield 72, 3) := by decide +kernel
theorem dX11_init_139 : decode cX11_init 139 = .ok (.aload_n 0, 1) := by decide +kernel
theorem dX11_init_140 : decode cX11_init 140 = .ok (.new 76, 3) := by decide +kernel
theorem dX11_init_143 : decode cX11_init 143 = .ok (.dup, 1) := by decide +kernel
theorem dX11_init_144 : decode cX11_init 144 = .ok (.invokespecial 78, 3) := by decide +kernel
theorem dX11_init_147 : decode cX11_init 147 = .ok (.putfield 79, 3) := by decide +kernel
theorem dX11_init_150 : decode cX11_init 150 = .ok (.aload_n 0, 1) := by decide +kernel
theorem dX11_init_151 : decode cX11_init 151 = .ok (.iconst 4, 1) := by decide +kernel
theorem dX11_init_152 : decode cX11_init 152 = .ok (.anewarray 83, 3) := by decide +kernel
theorem dX11_init_155 : decode cX11_init 155 = .ok (.putfield 85, 3) := by decide +kernel
theorem dX11_init_158 : decode cX11_init 158 = .ok (.aload_n 0, 1) := by decide +kernel
theorem dX11_init_159 : decode cX11_init 159 = .ok (.iconst 0, 1) := by decide +kernel
theorem dX11_init_160 : decode cX11_init 160 = .ok (.putfield 89, 3) := by decide +kernel
theorem dX11_init_163 : decode cX11_init 163 = .ok (.iconst 0, 1) := by decide +kernel
theorem dX11_init_164 : decode cX11_init 164 = .ok (.istore_n 1, 1) := by decide +kernel
theorem dX11_init_165 : decode cX11_init 165 = .ok (.iload_n 1, 1) := by decide +kernel
theorem dX11_init_166 : decode cX11_init 166 = .ok (.iconst 4, 1) := by decide +kernel
theorem dX11_init_167 : decode cX11_init 167 = .ok (.if_icmp .ge 22, 3) := by decide +kernel
theorem dX11_init_170 : decode cX11_init 170 = .ok (.aload_n 0, 1) := by decide +kernel
theorem dX11_init_171 : decode cX11_init 171 = .ok (.getfield 85, 3) := by decide +kernel
theorem dX11_init_174 : decode cX11_init 174 = .ok (.iload_n 1, 1) := by decide +kernel
theorem dX11_init_175 : decode cX11_init 175 = .ok (.new 83, 3) := by decide +kernel
theorem dX11_init_178 : decode cX11_init 178 = .ok (.dup, 1) := by decide +kernel
theorem dX11_init_179 : decode cX11_init 179 = .ok (.invokespecial 93, 3) := by decide +kernel
theorem dX11_init_182 : decode cX11_init 182 = .ok (.aastore, 1) := by decide +kernel
theorem dX11_init_183 : decode cX11_init 183 = .ok (.iinc 1 1, 3) := by decide +kernel
theorem dX11_init_186 : decode cX11_init 186 = .ok (.goto (-21), 3) := by decide +kernel
theorem dX11_init_189 : decode cX11_init 189 = .ok (.return_, 1) := by decide +kernel
theorem dX11_type_0 : decode cX11_type 0 = .ok (.aload_n 0, 1) := by decide +kernel
theorem dX11_type_1 : decode cX11_type 1 = .ok (.iload_n 1, 1) := by decide +kernel
theorem dX11_type_2 : decode cX11_type 2 = .ok (.invokevirtual 94, 3) := by decide +kernel
theorem dX11_type_5 : decode cX11_type 5 = .ok (.astore_n 3, 1) := by decide +kernel
theorem dX11_type_6 : decode cX11_type 6 = .ok (.aload_n 3, 1) := by decide +kernel
theorem dX11_type_7 : decode cX11_type 7 = .ok (.ifnull 14, 3) := by decide +kernel
theorem dX11_type_10 : decode cX11_type 10 = .ok (.iload_n 2, 1) := by decide +kernel
theorem dX11_type_11 : decode cX11_type 11 = .ok (.iconst 0, 1) := by decide +kernel
theorem dX11_type_12 : decode cX11_type 12 = .ok (.sipush 255, 3) := by decide +kernel
theorem dX11_type_15 : decode cX11_type 15 = .ok (.invokestatic 98, 3) := by decide +kernel
theorem dX11_type_18 : decode cX11_type 18 = .ok (.ifCond .ne 6, 3) := by decide +kernel
theorem dX11_type_21 : decode cX11_type 21 = .ok (.bipush (-2), 2) := by decide +kernel
theorem dX11_type_23 : decode cX11_type 23 = .ok (.ireturn, 1) := by decide +kernel
theorem dX11_type_24 : decode cX11_type 24 = .ok (.aload_n 3, 1) := by decide +kernel
theorem dX11_type_25 : decode cX11_type 25 = .ok (.invokevirtual 102, 3) := by decide +kernel
theorem dX11_type_28 : decode cX11_type 28 = .ok (.ifCond .eq 6, 3) := by decide +kernel
theorem dX11_type_31 : decode cX11_type 31 = .ok (.bipush (-4), 2) := by decide +kernel
theorem dX11_type_33 : decode cX11_type 33 = .ok (.ireturn, 1) := by decide +kernel
theorem dX11_type_34 : decode cX11_type 34 = .ok (.aload_n 3, 1) := by decide +kernel
theorem dX11_type_35 : decode cX11_type 35 = .ok (.iload_n 2, 1) := by decide +kernel
theorem dX11_type_36 : decode cX11_type 36 = .ok (.invokevirtual 106, 3) := by decide +kernel
theorem dX11_type_39 : decode cX11_type 39 = .ok (.aload_n 0, 1) := by decide +kernel
theorem dX11_type_40 : decode cX11_type 40 = .ok (.invokevirtual 109, 3) := by decide +kernel
theorem dX11_type_43 : decode cX11_type 43 = .ok (.aload_n 3, 1) := by decide +kernel
theorem dX11_type_44 : decode cX11_type 44 = .ok (.invokevirtual 112, 3) := by decide +kernel
theorem dX11_type_47 : decode cX11_type 47 = .ok (.ireturn, 1) := by decide +kernel
theorem dX11_wipe_0 : decode cX11_wipe 0 = .ok (.aload_n 0, 1) := by decide +kernel
theorem dX11_wipe_1 : decode cX11_wipe 1 = .ok (.iload_n 1, 1) := by decide +kernel
theorem dX11_wipe_2 : decode cX11_wipe 2 = .ok (.invokevirtual 94, 3) := by decide +kernel
theorem dX11_wipe_5 : decode cX11_wipe 5 = .ok (.astore_n 2, 1) := by decide +kernel
theorem dX11_wipe_6 : decode cX11_wipe 6 = .ok (.aload_n 2, 1) := by decide +kernel
theorem dX11_wipe_7 : decode cX11_wipe 7 = .ok (.ifnonnull 6, 3) := by decide +kernel
theorem dX11_wipe_10 : decode cX11_wipe 10 = .ok (.bipush (-2), 2) := by decide +kernel
theorem dX11_wipe_12 : decode cX11_wipe 12 = .ok (.ireturn, 1) := by decide +kernel
theorem dX11_wipe_13 : decode cX11_wipe 13 = .ok (.aload_n 2, 1) := by decide +kernel
theorem dX11_wipe_14 : decode cX11_wipe 14 = .ok (.invokevirtual 112, 3) := by decide +kernel
theorem dX11_wipe_17 : decode cX11_wipe 17 = .ok (.istore_n 3, 1) := by decide +kernel
theorem dX11_wipe_18 : decode cX11_wipe 18 = .ok (.aload_n 2, 1) := by decide +kernel
theorem dX11_wipe_19 : decode cX11_wipe 19 = .ok (.invokevirtual 116, 3) := by decide +kernel
theorem dX11_wipe_22 : decode cX11_wipe 22 = .ok (.aload_n 0, 1) := by decide +kernel
theorem dX11_wipe_23 : decode cX11_wipe 23 = .ok (.invokevirtual 109, 3) := by decide +kernel
theorem dX11_wipe_26 : decode cX11_wipe 26 = .ok (.iload_n 3, 1) := by decide +kernel
theorem dX11_wipe_27 : decode cX11_wipe 27 = .ok (.ireturn, 1) := by decide +kernel
theorem dX11_fault_0 : decode cX11_fault 0 = .ok (.iload_n 1, 1) := by decide +kernel
theorem dX11_fault_1 : decode cX11_fault 1 = .ok (.ifCond .ne 11, 3) := by decide +kernel
theorem dX11_fault_4 : decode cX11_fault 4 = .ok (.aload_n 0, 1) := by decide +kernel
theorem dX11_fault_5 : decode cX11_fault 5 = .ok (.getfield 26, 3) := by decide +kernel
theorem dX11_fault_8 : decode cX11_fault 8 = .ok (.invokevirtual 119, 3) := by decide +kernel
theorem dX11_fault_11 : decode cX11_fault 11 = .ok (.ireturn, 1) := by decide +kernel
theorem dX11_fault_12 : decode cX11_fault 12 = .ok (.iload_n 1, 1) := by decide +kernel
theorem dX11_fault_13 : decode cX11_fault 13 = .ok (.iconst 1, 1) := by decide +kernel
theorem dX11_fault_14 : decode cX11_fault 14 = .ok (.if_icmp .ne 13, 3) := by decide +kernel
theorem dX11_fault_17 : decode cX11_fault 17 = .ok (.aload_n 0, 1) := by decide +kernel
theorem dX11_fault_18 : decode cX11_fault 18 = .ok (.getfield 33, 3) := by decide +kernel
theorem dX11_fault_21 : decode cX11_fault 21 = .ok (.invokevirtual 122, 3) := by decide +kernel
theorem dX11_fault_24 : decode cX11_fault 24 = .ok (.goto 5, 3) := by decide +kernel
theorem dX11_fault_27 : decode cX11_fault 27 = .ok (.bipush (-2), 2) := by decide +kernel
theorem dX11_fault_29 : decode cX11_fault 29 = .ok (.ireturn, 1) := by decide +kernel
theorem dX11_person_0 : decode cX11_person 0 = .ok (.aload_n 0, 1) := by decide +kernel
theorem dX11_person_1 : decode cX11_person 1 = .ok (.getfield 33, 3) := by decide +kernel
theorem dX11_person_4 : decode cX11_person 4 = .ok (.iload_n 1, 1) := by decide +kernel
theorem dX11_person_5 : decode cX11_person 5 = .ok (.invokevirtual 123, 3) := by decide +kernel
theorem dX11_person_8 : decode cX11_person 8 = .ok (.ifCond .ne 6, 3) := by decide +kernel
theorem dX11_person_11 : decode cX11_person 11 = .ok (.bipush (-2), 2) := by decide +kernel
theorem dX11_person_13 : decode cX11_person 13 = .ok (.ireturn, 1) := by decide +kernel
theorem dX11_person_14 : decode cX11_person 14 = .ok (.iload_n 2, 1) := by decide +kernel
theorem dX11_person_15 : decode cX11_person 15 = .ok (.tableswitch 65 0 3 #[29, 38, 47, 56], 29) := by decide +kernel
theorem dX11_person_44 : decode cX11_person 44 = .ok (.aload_n 0, 1) := by decide +kernel
theorem dX11_person_45 : decode cX11_person 45 = .ok (.getfield 33, 3) := by decide +kernel
theorem dX11_person_48 : decode cX11_person 48 = .ok (.iload_n 1, 1) := by decide +kernel
theorem dX11_person_49 : decode cX11_person 49 = .ok (.invokevirtual 127, 3) := by decide +kernel
theorem dX11_person_52 : decode cX11_person 52 = .ok (.ireturn, 1) := by decide +kernel
theorem dX11_person_53 : decode cX11_person 53 = .ok (.aload_n 0, 1) := by decide +kernel
theorem dX11_person_54 : decode cX11_person 54 = .ok (.getfield 33, 3) := by decide +kernel
theorem dX11_person_57 : decode cX11_person 57 = .ok (.iload_n 1, 1) := by decide +kernel
theorem dX11_person_58 : decode cX11_person 58 = .ok (.invokevirtual 131, 3) := by decide +kernel
theorem dX11_person_61 : decode cX11_person 61 = .ok (.ireturn, 1) := by decide +kernel
theorem dX11_person_62 : decode cX11_person 62 = .ok (.aload_n 0, 1) := by decide +kernel
theorem dX11_person_63 : decode cX11_person 63 = .ok (.getfield 33, 3) := by decide +kernel
theorem dX11_person_66 : decode cX11_person 66 = .ok (.iload_n 1, 1) := by decide +kernel
theorem dX11_person_67 : decode cX11_person 67 = .ok (.invokevirtual 134, 3) := by decide +kernel
theorem dX11_person_70 : decode cX11_person 70 = .ok (.ireturn, 1) := by decide +kernel
theorem dX11_person_71 : decode cX11_person 71 = .ok (.aload_n 0, 1) := by decide +kernel
theorem dX11_person_72 : decode cX11_person 72 = .ok (.getfield 33, 3) := by decide +kernel
theorem dX11_person_75 : decode cX11_person 75 = .ok (.iload_n 1, 1) := by decide +kernel
theorem dX11_person_76 : decode cX11_person 76 = .ok (.invokevirtual 137, 3) := by decide +kernel
theorem dX11_person_79 : decode cX11_person 79 = .ok (.ireturn, 1) := by decide +kernel
theorem dX11_person_80 : decode cX11_person 80 = .ok (.bipush (-2), 2) := by decide +kernel
theorem dX11_person_82 : decode cX11_person 82 = .ok (.ireturn, 1) := by decide +kernel
theorem dX11_shadow_0 : decode cX11_shadow 0 = .ok (.aload_n 0, 1) := by decide +kernel
theorem dX11_shadow_1 : decode cX11_shadow 1 = .ok (.getfield 33, 3) := by decide +kernel
theorem dX11_shadow_4 : decode cX11_shadow 4 = .ok (.iload_n 1, 1) := by decide +kernel
theorem dX11_shadow_5 : decode cX11_shadow 5 = .ok (.invokevirtual 123, 3) := by decide +kernel
theorem dX11_shadow_8 : decode cX11_shadow 8 = .ok (.ifCond .eq 22, 3) := by decide +kernel
theorem dX11_shadow_11 : decode cX11_shadow 11 = .ok (.iload_n 2, 1) := by decide +kernel
theorem dX11_shadow_12 : decode cX11_shadow 12 = .ok (.invokestatic 140, 3) := by decide +kernel
theorem dX11_shadow_15 : decode cX11_shadow 15 = .ok (.ifCond .eq 15, 3) := by decide +kernel
theorem dX11_shadow_18 : decode cX11_shadow 18 = .ok (.aload_n 0, 1) := by decide +kernel
theorem dX11_shadow_19 : decode cX11_shadow 19 = .ok (.getfield 33, 3) := by decide +kernel
theorem dX11_shadow_22 : decode cX11_shadow 22 = .ok (.iload_n 1, 1) := by decide +kernel
theorem dX11_shadow_23 : decode cX11_shadow 23 = .ok (.iload_n 2, 1) := by decide +kernel
theorem dX11_shadow_24 : decode cX11_shadow 24 = .ok (.invokevirtual 143, 3) := by decide +kernel
theorem dX11_shadow_27 : decode cX11_shadow 27 = .ok (.goto 5, 3) := by decide +kernel
theorem dX11_shadow_30 : decode cX11_shadow 30 = .ok (.bipush (-2), 2) := by decide +kernel
theorem dX11_shadow_32 : decode cX11_shadow 32 = .ok (.ireturn, 1) := by decide +kernel
theorem dX11_cloud_0 : decode cX11_cloud 0 = .ok (.iload_n 1, 1) := by decide +kernel
theorem dX11_cloud_1 : decode cX11_cloud 1 = .ok (.iconst 0, 1) := by decide +kernel
theorem dX11_cloud_2 : decode cX11_cloud 2 = .ok (.bipush 51, 2) := by decide +kernel
theorem dX11_cloud_4 : decode cX11_cloud 4 = .ok (.invokestatic 98, 3) := by decide +kernel
theorem dX11_cloud_7 : decode cX11_cloud 7 = .ok (.ifCond .eq 12, 3) := by decide +kernel
theorem dX11_cloud_10 : decode cX11_cloud 10 = .ok (.iload_n 2, 1) := by decide +kernel
theorem dX11_cloud_11 : decode cX11_cloud 11 = .ok (.iconst 0, 1) := by decide +kernel
theorem dX11_cloud_12 : decode cX11_cloud 12 = .ok (.iconst 1, 1) := by decide +kernel
theorem dX11_cloud_13 : decode cX11_cloud 13 = .ok (.invokestatic 98, 3) := by decide +kernel
theorem dX11_cloud_16 : decode cX11_cloud 16 = .ok (.ifCond .ne 6, 3) := by decide +kernel
theorem dX11_cloud_19 : decode cX11_cloud 19 = .ok (.bipush (-2), 2) := by decide +kernel
theorem dX11_cloud_21 : decode cX11_cloud 21 = .ok (.ireturn, 1) := by decide +kernel
theorem dX11_cloud_22 : decode cX11_cloud 22 = .ok (.aload_n 0, 1) := by decide +kernel
theorem dX11_cloud_23 : decode cX11_cloud 23 = .ok (.getfield 40, 3) := by decide +kernel
theorem dX11_cloud_26 : decode cX11_cloud 26 = .ok (.iload_n 1, 1) := by decide +kernel
theorem dX11_cloud_27 : decode cX11_cloud 27 = .ok (.invokevirtual 147, 3) := by decide +kernel
theorem dX11_cloud_30 : decode cX11_cloud 30 = .ok (.istore_n 3, 1) := by decide +kernel
theorem dX11_cloud_31 : decode cX11_cloud 31 = .ok (.aload_n 0, 1) := by decide +kernel
theorem dX11_cloud_32 : decode cX11_cloud 32 = .ok (.getfield 40, 3) := by decide +kernel
theorem dX11_cloud_35 : decode cX11_cloud 35 = .ok (.iload_n 1, 1) := by decide +kernel
theorem dX11_cloud_36 : decode cX11_cloud 36 = .ok (.iload_n 2, 1) := by decide +kernel
theorem dX11_cloud_37 : decode cX11_cloud 37 = .ok (.invokevirtual 150, 3) := by decide +kernel
theorem dX11_cloud_40 : decode cX11_cloud 40 = .ok (.iload_n 3, 1) := by decide +kernel
theorem dX11_cloud_41 : decode cX11_cloud 41 = .ok (.ireturn, 1) := by decide +kernel
theorem dX11_wed_0 : decode cX11_wed 0 = .ok (.aload_n 0, 1) := by decide +kernel
theorem dX11_wed_1 : decode cX11_wed 1 = .ok (.getfield 47, 3) := by decide +kernel
theorem dX11_wed_4 : decode cX11_wed 4 = .ok (.iload_n 1, 1) := by decide +kernel
theorem dX11_wed_5 : decode cX11_wed 5 = .ok (.invokevirtual 154, 3) := by decide +kernel
theorem dX11_wed_8 : decode cX11_wed 8 = .ok (.ifCond .eq 13, 3) := by decide +kernel
theorem dX11_wed_11 : decode cX11_wed 11 = .ok (.iload_n 2, 1) := by decide +kernel
theorem dX11_wed_12 : decode cX11_wed 12 = .ok (.iload_n 3, 1) := by decide +kernel
theorem dX11_wed_13 : decode cX11_wed 13 = .ok (.iload 4, 2) := by decide +kernel
theorem dX11_wed_15 : decode cX11_wed 15 = .ok (.invokestatic 157, 3) := by decide +kernel
theorem dX11_wed_18 : decode cX11_wed 18 = .ok (.ifCond .ne 6, 3) := by decide +kernel
theorem dX11_wed_21 : decode cX11_wed 21 = .ok (.bipush (-2), 2) := by decide +kernel
theorem dX11_wed_23 : decode cX11_wed 23 = .ok (.ireturn, 1) := by decide +kernel
theorem dX11_wed_24 : decode cX11_wed 24 = .ok (.aload_n 0, 1) := by decide +kernel
theorem dX11_wed_25 : decode cX11_wed 25 = .ok (.getfield 47, 3) := by decide +kernel
theorem dX11_wed_28 : decode cX11_wed 28 = .ok (.invokevirtual 160, 3) := by decide +kernel
theorem dX11_wed_31 : decode cX11_wed 31 = .ok (.ifCond .eq 6, 3) := by decide +kernel
theorem dX11_wed_34 : decode cX11_wed 34 = .ok (.bipush (-4), 2) := by decide +kernel
theorem dX11_wed_36 : decode cX11_wed 36 = .ok (.ireturn, 1) := by decide +kernel
theorem dX11_wed_37 : decode cX11_wed 37 = .ok (.aload_n 0, 1) := by decide +kernel
theorem dX11_wed_38 : decode cX11_wed 38 = .ok (.getfield 47, 3) := by decide +kernel
theorem dX11_wed_41 : decode cX11_wed 41 = .ok (.iload_n 1, 1) := by decide +kernel
theorem dX11_wed_42 : decode cX11_wed 42 = .ok (.iconst 0, 1) := by decide +kernel
theorem dX11_wed_43 : decode cX11_wed 43 = .ok (.iload_n 2, 1) := by decide +kernel
theorem dX11_wed_44 : decode cX11_wed 44 = .ok (.iload_n 3, 1) := by decide +kernel
theorem dX11_wed_45 : decode cX11_wed 45 = .ok (.iload 4, 2) := by decide +kernel
theorem dX11_wed_47 : decode cX11_wed 47 = .ok (.invokevirtual 161, 3) := by decide +kernel
theorem dX11_wed_50 : decode cX11_wed 50 = .ok (.aload_n 0, 1) := by decide +kernel
theorem dX11_wed_51 : decode cX11_wed 51 = .ok (.getfield 47, 3) := by decide +kernel
theorem dX11_wed_54 : decode cX11_wed 54 = .ok (.invokevirtual 165, 3) := by decide +kernel
theorem dX11_wed_57 : decode cX11_wed 57 = .ok (.ireturn, 1) := by decide +kernel
theorem dX11_ends_0 : decode cX11_ends 0 = .ok (.aload_n 0, 1) := by decide +kernel
theorem dX11_ends_1 : decode cX11_ends 1 = .ok (.getfield 47, 3) := by decide +kernel
theorem dX11_ends_4 : decode cX11_ends 4 = .ok (.iload_n 1, 1) := by decide +kernel
theorem dX11_ends_5 : decode cX11_ends 5 = .ok (.invokevirtual 154, 3) := by decide +kernel
theorem dX11_ends_8 : decode cX11_ends 8 = .ok (.ifCond .eq 19, 3) := by decide +kernel
theorem dX11_ends_11 : decode cX11_ends 11 = .ok (.iload_n 2, 1) := by decide +kernel
theorem dX11_ends_12 : decode cX11_ends 12 = .ok (.iconst 0, 1) := by decide +kernel
theorem dX11_ends_13 : decode cX11_ends 13 = .ok (.iconst 1, 1) := by decide +kernel
theorem dX11_ends_14 : decode cX11_ends 14 = .ok (.invokestatic 98, 3) := by decide +kernel
theorem dX11_ends_17 : decode cX11_ends 17 = .ok (.ifCond .eq 10, 3) := by decide +kernel
theorem dX11_ends_20 : decode cX11_ends 20 = .ok (.iload_n 3, 1) := by decide +kernel
theorem dX11_ends_21 : decode cX11_ends 21 = .ok (.invokestatic 168, 3) := by decide +kernel
theorem dX11_ends_24 : decode cX11_ends 24 = .ok (.ifCond .ne 6, 3) := by decide +kernel
theorem dX11_ends_27 : decode cX11_ends 27 = .ok (.bipush (-2), 2) := by decide +kernel
theorem dX11_ends_29 : decode cX11_ends 29 = .ok (.ireturn, 1) := by decide +kernel
theorem dX11_ends_30 : decode cX11_ends 30 = .ok (.aload_n 0, 1) := by decide +kernel
theorem dX11_ends_31 : decode cX11_ends 31 = .ok (.getfield 47, 3) := by decide +kernel
theorem dX11_ends_34 : decode cX11_ends 34 = .ok (.invokevirtual 160, 3) := by decide +kernel
theorem dX11_ends_37 : decode cX11_ends 37 = .ok (.ifCond .eq 6, 3) := by decide +kernel
theorem dX11_ends_40 : decode cX11_ends 40 = .ok (.bipush (-4), 2) := by decide +kernel
theorem dX11_ends_42 : decode cX11_ends 42 = .ok (.ireturn, 1) := by decide +kernel
theorem dX11_ends_43 : decode cX11_ends 43 = .ok (.aload_n 0, 1) := by decide +kernel
theorem dX11_ends_44 : decode cX11_ends 44 = .ok (.getfield 47, 3) := by decide +kernel
theorem dX11_ends_47 : decode cX11_ends 47 = .ok (.iload_n 1, 1) := by decide +kernel
theorem dX11_ends_48 : decode cX11_ends 48 = .ok (.iload_n 2, 1) := by decide +kernel
theorem dX11_ends_49 : decode cX11_ends 49 = .ok (.ifCond .ne 7, 3) := by decide +kernel
theorem dX11_ends_52 : decode cX11_ends 52 = .ok (.iconst 1, 1) := by decide +kernel
theorem dX11_ends_53 : decode cX11_ends 53 = .ok (.goto 4, 3) := by decide +kernel
theorem dX11_ends_56 : decode cX11_ends 56 = .ok (.iconst 2, 1) := by decide +kernel
theorem dX11_ends_57 : decode cX11_ends 57 = .ok (.iload_n 3, 1) := by decide +kernel
theorem dX11_ends_58 : decode cX11_ends 58 = .ok (.iconst (-1), 1) := by decide +kernel
theorem dX11_ends_59 : decode cX11_ends 59 = .ok (.bipush 12, 2) := by decide +kernel
theorem dX11_ends_61 : decode cX11_ends 61 = .ok (.invokevirtual 161, 3) := by decide +kernel
theorem dX11_ends_64 : decode cX11_ends 64 = .ok (.aload_n 0, 1) := by decide +kernel
theorem dX11_ends_65 : decode cX11_ends 65 = .ok (.getfield 47, 3) := by decide +kernel
theorem dX11_ends_68 : decode cX11_ends 68 = .ok (.invokevirtual 165, 3) := by decide +kernel
theorem dX11_ends_71 : decode cX11_ends 71 = .ok (.ireturn, 1) := by decide +kernel
theorem dX11_read_0 : decode cX11_read 0 = .ok (.aload_n 0, 1) := by decide +kernel
theorem dX11_read_1 : decode cX11_read 1 = .ok (.iload_n 1, 1) := by decide +kernel
theorem dX11_read_2 : decode cX11_read 2 = .ok (.invokevirtual 171, 3) := by decide +kernel
theorem dX11_read_5 : decode cX11_read 5 = .ok (.astore_n 3, 1) := by decide +kernel
theorem dX11_read_6 : decode cX11_read 6 = .ok (.aload_n 3, 1) := by decide +kernel
theorem dX11_read_7 : decode cX11_read 7 = .ok (.ifnull 14, 3) := by decide +kernel
theorem dX11_read_10 : decode cX11_read 10 = .ok (.aload_n 0, 1) := by decide +kernel
theorem dX11_read_11 : decode cX11_read 11 = .ok (.getfield 47, 3) := by decide +kernel
theorem dX11_read_14 : decode cX11_read 14 = .ok (.iload_n 2, 1) := by decide +kernel
theorem dX11_read_15 : decode cX11_read 15 = .ok (.invokevirtual 154, 3) := by decide +kernel
theorem dX11_read_18 : decode cX11_read 18 = .ok (.ifCond .ne 6, 3) := by decide +kernel
theorem dX11_read_21 : decode cX11_read 21 = .ok (.bipush (-2), 2) := by decide +kernel
theorem dX11_read_23 : decode cX11_read 23 = .ok (.ireturn, 1) := by decide +kernel
theorem dX11_read_24 : decode cX11_read 24 = .ok (.aload_n 3, 1) := by decide +kernel
theorem dX11_read_25 : decode cX11_read 25 = .ok (.invokevirtual 175, 3) := by decide +kernel
theorem dX11_read_28 : decode cX11_read 28 = .ok (.ifCond .eq 9, 3) := by decide +kernel
theorem dX11_read_31 : decode cX11_read 31 = .ok (.aload_n 0, 1) := by decide +kernel
theorem dX11_read_32 : decode cX11_read 32 = .ok (.iconst 1, 1) := by decide +kernel
theorem dX11_read_33 : decode cX11_read 33 = .ok (.invokevirtual 178, 3) := by decide +kernel
theorem dX11_read_36 : decode cX11_read 36 = .ok (.ireturn, 1) := by decide +kernel
theorem dX11_read_37 : decode cX11_read 37 = .ok (.iconst 0, 1) := by decide +kernel
theorem dX11_read_38 : decode cX11_read 38 = .ok (.istore 4, 2) := by decide +kernel
theorem dX11_read_40 : decode cX11_read 40 = .ok (.iconst 0, 1) := by decide +kernel
theorem dX11_read_41 : decode cX11_read 41 = .ok (.istore 5, 2) := by decide +kernel
theorem dX11_read_43 : decode cX11_read 43 = .ok (.iload 5, 2) := by decide +kernel
theorem dX11_read_45 : decode cX11_read 45 = .ok (.iconst 2, 1) := by decide +kernel
theorem dX11_read_46 : decode cX11_read 46 = .ok (.iadd, 1) := by decide +kernel
theorem dX11_read_47 : decode cX11_read 47 = .ok (.aload_n 3, 1) := by decide +kernel
theorem dX11_read_48 : decode cX11_read 48 = .ok (.invokevirtual 181, 3) := by decide +kernel
theorem dX11_read_51 : decode cX11_read 51 = .ok (.if_icmp .ge 80, 3) := by decide +kernel
theorem dX11_read_54 : decode cX11_read 54 = .ok (.aload_n 3, 1) := by decide +kernel
theorem dX11_read_55 : decode cX11_read 55 = .ok (.iload 5, 2) := by decide +kernel
theorem dX11_read_57 : decode cX11_read 57 = .ok (.invokevirtual 184, 3) := by decide +kernel
theorem dX11_read_60 : decode cX11_read 60 = .ok (.istore 6, 2) := by decide +kernel
theorem dX11_read_62 : decode cX11_read 62 = .ok (.aload_n 3, 1) := by decide +kernel
theorem dX11_read_63 : decode cX11_read 63 = .ok (.iload 5, 2) := by decide +kernel
theorem dX11_read_65 : decode cX11_read 65 = .ok (.iconst 1, 1) := by decide +kernel
theorem dX11_read_66 : decode cX11_read 66 = .ok (.iadd, 1) := by decide +kernel
theorem dX11_read_67 : decode cX11_read 67 = .ok (.invokevirtual 184, 3) := by decide +kernel
theorem dX11_read_70 : decode cX11_read 70 = .ok (.istore 7, 2) := by decide +kernel
theorem dX11_read_72 : decode cX11_read 72 = .ok (.aload_n 3, 1) := by decide +kernel
theorem dX11_read_73 : decode cX11_read 73 = .ok (.iload 5, 2) := by decide +kernel
theorem dX11_read_75 : decode cX11_read 75 = .ok (.iconst 2, 1) := by decide +kernel
theorem dX11_read_76 : decode cX11_read 76 = .ok (.iadd, 1) := by decide +kernel
theorem dX11_read_77 : decode cX11_read 77 = .ok (.invokevirtual 184, 3) := by decide +kernel
theorem dX11_read_80 : decode cX11_read 80 = .ok (.istore 8, 2) := by decide +kernel
theorem dX11_read_82 : decode cX11_read 82 = .ok (.aload_n 0, 1) := by decide +kernel
theorem dX11_read_83 : decode cX11_read 83 = .ok (.getfield 47, 3) := by decide +kernel
theorem dX11_read_86 : decode cX11_read 86 = .ok (.invokevirtual 160, 3) := by decide +kernel
theorem dX11_read_89 : decode cX11_read 89 = .ok (.ifCond .ne 42, 3) := by decide +kernel
theorem dX11_read_92 : decode cX11_read 92 = .ok (.iload 6, 2) := by decide +kernel
theorem dX11_read_94 : decode cX11_read 94 = .ok (.iload 7, 2) := by decide +kernel
theorem dX11_read_96 : decode cX11_read 96 = .ok (.iload 8, 2) := by decide +kernel
theorem dX11_read_98 : decode cX11_read 98 = .ok (.invokestatic 157, 3) := by decide +kernel
theorem dX11_read_101 : decode cX11_read 101 = .ok (.ifCond .ne 6, 3) := by decide +kernel
theorem dX11_read_104 : decode cX11_read 104 = .ok (.goto 27, 3) := by decide +kernel
theorem dX11_read_107 : decode cX11_read 107 = .ok (.aload_n 0, 1) := by decide +kernel
theorem dX11_read_108 : decode cX11_read 108 = .ok (.getfield 47, 3) := by decide +kernel
theorem dX11_read_111 : decode cX11_read 111 = .ok (.iload_n 2, 1) := by decide +kernel
theorem dX11_read_112 : decode cX11_read 112 = .ok (.iconst 0, 1) := by decide +kernel
theorem dX11_read_113 : decode cX11_read 113 = .ok (.iload 6, 2) := by decide +kernel
theorem dX11_read_115 : decode cX11_read 115 = .ok (.iload 7, 2) := by decide +kernel
theorem dX11_read_117 : decode cX11_read 117 = .ok (.iload 8, 2) := by decide +kernel
theorem dX11_read_119 : decode cX11_read 119 = .ok (.invokevirtual 161, 3) := by decide +kernel
theorem dX11_read_122 : decode cX11_read 122 = .ok (.iinc 4 1, 3) := by decide +kernel
theorem dX11_read_125 : decode cX11_read 125 = .ok (.iinc 5 3, 3) := by decide +kernel
theorem dX11_read_128 : decode cX11_read 128 = .ok (.goto (-85), 3) := by decide +kernel
theorem dX11_read_131 : decode cX11_read 131 = .ok (.iload 4, 2) := by decide +kernel
theorem dX11_read_133 : decode cX11_read 133 = .ok (.ireturn, 1) := by decide +kernel
theorem dX11_undo_0 : decode cX11_undo 0 = .ok (.aload_n 0, 1) := by decide +kernel
theorem dX11_undo_1 : decode cX11_undo 1 = .ok (.getfield 47, 3) := by decide +kernel
theorem dX11_undo_4 : decode cX11_undo 4 = .ok (.invokevirtual 165, 3) := by decide +kernel
theorem dX11_undo_7 : decode cX11_undo 7 = .ok (.ifCond .ne 6, 3) := by decide +kernel
theorem dX11_undo_10 : decode cX11_undo 10 = .ok (.bipush (-3), 2) := by decide +kernel
theorem dX11_undo_12 : decode cX11_undo 12 = .ok (.ireturn, 1) := by decide +kernel
theorem dX11_undo_13 : decode cX11_undo 13 = .ok (.aload_n 0, 1) := by decide +kernel
theorem dX11_undo_14 : decode cX11_undo 14 = .ok (.getfield 47, 3) := by decide +kernel
theorem dX11_undo_17 : decode cX11_undo 17 = .ok (.invokevirtual 187, 3) := by decide +kernel
theorem dX11_undo_20 : decode cX11_undo 20 = .ok (.aload_n 0, 1) := by decide +kernel
theorem dX11_undo_21 : decode cX11_undo 21 = .ok (.getfield 47, 3) := by decide +kernel
theorem dX11_undo_24 : decode cX11_undo 24 = .ok (.invokevirtual 165, 3) := by decide +kernel
theorem dX11_undo_27 : decode cX11_undo 27 = .ok (.ireturn, 1) := by decide +kernel
theorem dX11_judged_0 : decode cX11_judged 0 = .ok (.aload_n 0, 1) := by decide +kernel
theorem dX11_judged_1 : decode cX11_judged 1 = .ok (.getfield 56, 3) := by decide +kernel
theorem dX11_judged_4 : decode cX11_judged 4 = .ok (.aload_n 0, 1) := by decide +kernel
theorem dX11_judged_5 : decode cX11_judged 5 = .ok (.getfield 47, 3) := by decide +kernel
theorem dX11_judged_8 : decode cX11_judged 8 = .ok (.invokevirtual 165, 3) := by decide +kernel
theorem dX11_judged_11 : decode cX11_judged 11 = .ok (.iconst (-1), 1) := by decide +kernel
theorem dX11_judged_12 : decode cX11_judged 12 = .ok (.invokevirtual 190, 3) := by decide +kernel
theorem dX11_judged_15 : decode cX11_judged 15 = .ok (.aload_n 0, 1) := by decide +kernel
theorem dX11_judged_16 : decode cX11_judged 16 = .ok (.getfield 56, 3) := by decide +kernel
theorem dX11_judged_19 : decode cX11_judged 19 = .ok (.invokevirtual 193, 3) := by decide +kernel
theorem dX11_judged_22 : decode cX11_judged 22 = .ok (.ireturn, 1) := by decide +kernel
theorem dX11_moved_0 : decode cX11_moved 0 = .ok (.aload_n 0, 1) := by decide +kernel
theorem dX11_moved_1 : decode cX11_moved 1 = .ok (.getfield 47, 3) := by decide +kernel
theorem dX11_moved_4 : decode cX11_moved 4 = .ok (.iload_n 1, 1) := by decide +kernel
theorem dX11_moved_5 : decode cX11_moved 5 = .ok (.invokevirtual 196, 3) := by decide +kernel
theorem dX11_moved_8 : decode cX11_moved 8 = .ok (.ifCond .ne 7, 3) := by decide +kernel
theorem dX11_moved_11 : decode cX11_moved 11 = .ok (.sipush (-10002), 3) := by decide +kernel
theorem dX11_moved_14 : decode cX11_moved 14 = .ok (.ireturn, 1) := by decide +kernel
theorem dX11_moved_15 : decode cX11_moved 15 = .ok (.aload_n 0, 1) := by decide +kernel
theorem dX11_moved_16 : decode cX11_moved 16 = .ok (.getfield 56, 3) := by decide +kernel
theorem dX11_moved_19 : decode cX11_moved 19 = .ok (.iload_n 1, 1) := by decide +kernel
theorem dX11_moved_20 : decode cX11_moved 20 = .ok (.iconst 1, 1) := by decide +kernel
theorem dX11_moved_21 : decode cX11_moved 21 = .ok (.iadd, 1) := by decide +kernel
theorem dX11_moved_22 : decode cX11_moved 22 = .ok (.iconst (-1), 1) := by decide +kernel
theorem dX11_moved_23 : decode cX11_moved 23 = .ok (.invokevirtual 190, 3) := by decide +kernel
theorem dX11_moved_26 : decode cX11_moved 26 = .ok (.aload_n 0, 1) := by decide +kernel
theorem dX11_moved_27 : decode cX11_moved 27 = .ok (.getfield 56, 3) := by decide +kernel
theorem dX11_moved_30 : decode cX11_moved 30 = .ok (.invokevirtual 197, 3) := by decide +kernel
theorem dX11_moved_33 : decode cX11_moved 33 = .ok (.ireturn, 1) := by decide +kernel
theorem dX11_width_0 : decode cX11_width 0 = .ok (.aload_n 0, 1) := by decide +kernel
theorem dX11_width_1 : decode cX11_width 1 = .ok (.getfield 26, 3) := by decide +kernel
theorem dX11_width_4 : decode cX11_width 4 = .ok (.iload_n 1, 1) := by decide +kernel
theorem dX11_width_5 : decode cX11_width 5 = .ok (.invokevirtual 200, 3) := by decide +kernel
theorem dX11_width_8 : decode cX11_width 8 = .ok (.ifCond .eq 11, 3) := by decide +kernel
theorem dX11_width_11 : decode cX11_width 11 = .ok (.aload_n 0, 1) := by decide +kernel
theorem dX11_width_12 : decode cX11_width 12 = .ok (.iload_n 2, 1) := by decide +kernel
theorem dX11_width_13 : decode cX11_width 13 = .ok (.invokevirtual 201, 3) := by decide +kernel
theorem dX11_width_16 : decode cX11_width 16 = .ok (.ifCond .ne 6, 3) := by decide +kernel
theorem dX11_width_19 : decode cX11_width 19 = .ok (.bipush (-2), 2) := by decide +kernel
theorem dX11_width_21 : decode cX11_width 21 = .ok (.ireturn, 1) := by decide +kernel
theorem dX11_width_22 : decode cX11_width 22 = .ok (.aload_n 0, 1) := by decide +kernel
theorem dX11_width_23 : decode cX11_width 23 = .ok (.getfield 56, 3) := by decide +kernel
theorem dX11_width_26 : decode cX11_width 26 = .ok (.iload_n 2, 1) := by decide +kernel
theorem dX11_width_27 : decode cX11_width 27 = .ok (.iconst (-1), 1) := by decide +kernel
theorem dX11_width_28 : decode cX11_width 28 = .ok (.invokevirtual 190, 3) := by decide +kernel
theorem dX11_width_31 : decode cX11_width 31 = .ok (.aload_n 0, 1) := by decide +kernel
theorem dX11_width_32 : decode cX11_width 32 = .ok (.getfield 56, 3) := by decide +kernel
theorem dX11_width_35 : decode cX11_width 35 = .ok (.iload_n 1, 1) := by decide +kernel
theorem dX11_width_36 : decode cX11_width 36 = .ok (.invokevirtual 204, 3) := by decide +kernel
theorem dX11_width_39 : decode cX11_width 39 = .ok (.ireturn, 1) := by decide +kernel
theorem dX11_state_0 : decode cX11_state 0 = .ok (.aload_n 0, 1) := by decide +kernel
theorem dX11_state_1 : decode cX11_state 1 = .ok (.getfield 33, 3) := by decide +kernel
theorem dX11_state_4 : decode cX11_state 4 = .ok (.iload_n 1, 1) := by decide +kernel
theorem dX11_state_5 : decode cX11_state 5 = .ok (.invokevirtual 123, 3) := by decide +kernel
theorem dX11_state_8 : decode cX11_state 8 = .ok (.ifCond .eq 11, 3) := by decide +kernel
theorem dX11_state_11 : decode cX11_state 11 = .ok (.aload_n 0, 1) := by decide +kernel
theorem dX11_state_12 : decode cX11_state 12 = .ok (.iload_n 2, 1) := by decide +kernel
theorem dX11_state_13 : decode cX11_state 13 = .ok (.invokevirtual 201, 3) := by decide +kernel
theorem dX11_state_16 : decode cX11_state 16 = .ok (.ifCond .ne 6, 3) := by decide +kernel
theorem dX11_state_19 : decode cX11_state 19 = .ok (.bipush (-2), 2) := by decide +kernel
theorem dX11_state_21 : decode cX11_state 21 = .ok (.ireturn, 1) := by decide +kernel
theorem dX11_state_22 : decode cX11_state 22 = .ok (.aload_n 0, 1) := by decide +kernel
theorem dX11_state_23 : decode cX11_state 23 = .ok (.getfield 56, 3) := by decide +kernel
theorem dX11_state_26 : decode cX11_state 26 = .ok (.iload_n 2, 1) := by decide +kernel
theorem dX11_state_27 : decode cX11_state 27 = .ok (.iconst (-1), 1) := by decide +kernel
theorem dX11_state_28 : decode cX11_state 28 = .ok (.invokevirtual 190, 3) := by decide +kernel
theorem dX11_state_31 : decode cX11_state 31 = .ok (.iload_n 3, 1) := by decide +kernel
theorem dX11_state_32 : decode cX11_state 32 = .ok (.tableswitch 63 0 2 #[28, 37, 46], 28) := by decide +kernel
theorem dX11_state_60 : decode cX11_state 60 = .ok (.aload_n 0, 1) := by decide +kernel
theorem dX11_state_61 : decode cX11_state 61 = .ok (.getfield 56, 3) := by decide +kernel
theorem dX11_state_64 : decode cX11_state 64 = .ok (.iload_n 1, 1) := by decide +kernel
theorem dX11_state_65 : decode cX11_state 65 = .ok (.invokevirtual 207, 3) := by decide +kernel
theorem dX11_state_68 : decode cX11_state 68 = .ok (.ireturn, 1) := by decide +kernel
theorem dX11_state_69 : decode cX11_state 69 = .ok (.aload_n 0, 1) := by decide +kernel
theorem dX11_state_70 : decode cX11_state 70 = .ok (.getfield 56, 3) := by decide +kernel
theorem dX11_state_73 : decode cX11_state 73 = .ok (.iload_n 1, 1) := by decide +kernel
theorem dX11_state_74 : decode cX11_state 74 = .ok (.invokevirtual 210, 3) := by decide +kernel
theorem dX11_state_77 : decode cX11_state 77 = .ok (.ireturn, 1) := by decide +kernel
theorem dX11_state_78 : decode cX11_state 78 = .ok (.aload_n 0, 1) := by decide +kernel
theorem dX11_state_79 : decode cX11_state 79 = .ok (.getfield 56, 3) := by decide +kernel
theorem dX11_state_82 : decode cX11_state 82 = .ok (.iload_n 1, 1) := by decide +kernel
theorem dX11_state_83 : decode cX11_state 83 = .ok (.invokevirtual 213, 3) := by decide +kernel
theorem dX11_state_86 : decode cX11_state 86 = .ok (.ifCond .eq 7, 3) := by decide +kernel
theorem dX11_state_89 : decode cX11_state 89 = .ok (.iconst 1, 1) := by decide +kernel
theorem dX11_state_90 : decode cX11_state 90 = .ok (.goto 4, 3) := by decide +kernel
theorem dX11_state_93 : decode cX11_state 93 = .ok (.iconst 0, 1) := by decide +kernel
theorem dX11_state_94 : decode cX11_state 94 = .ok (.ireturn, 1) := by decide +kernel
theorem dX11_state_95 : decode cX11_state 95 = .ok (.bipush (-2), 2) := by decide +kernel
theorem dX11_state_97 : decode cX11_state 97 = .ok (.ireturn, 1) := by decide +kernel
theorem dX11_nobody_0 : decode cX11_nobody 0 = .ok (.aload_n 0, 1) := by decide +kernel
theorem dX11_nobody_1 : decode cX11_nobody 1 = .ok (.iload_n 1, 1) := by decide +kernel
theorem dX11_nobody_2 : decode cX11_nobody 2 = .ok (.invokevirtual 201, 3) := by decide +kernel
theorem dX11_nobody_5 : decode cX11_nobody 5 = .ok (.ifCond .ne 6, 3) := by decide +kernel
theorem dX11_nobody_8 : decode cX11_nobody 8 = .ok (.bipush (-2), 2) := by decide +kernel
theorem dX11_nobody_10 : decode cX11_nobody 10 = .ok (.ireturn, 1) := by decide +kernel
theorem dX11_nobody_11 : decode cX11_nobody 11 = .ok (.aload_n 0, 1) := by decide +kernel
theorem dX11_nobody_12 : decode cX11_nobody 12 = .ok (.getfield 56, 3) := by decide +kernel
theorem dX11_nobody_15 : decode cX11_nobody 15 = .ok (.iload_n 1, 1) := by decide +kernel
theorem dX11_nobody_16 : decode cX11_nobody 16 = .ok (.iconst (-1), 1) := by decide +kernel
theorem dX11_nobody_17 : decode cX11_nobody 17 = .ok (.invokevirtual 190, 3) := by decide +kernel
theorem dX11_nobody_20 : decode cX11_nobody 20 = .ok (.aload_n 0, 1) := by decide +kernel
theorem dX11_nobody_21 : decode cX11_nobody 21 = .ok (.getfield 56, 3) := by decide +kernel
theorem dX11_nobody_24 : decode cX11_nobody 24 = .ok (.invokevirtual 216, 3) := by decide +kernel
theorem dX11_nobody_27 : decode cX11_nobody 27 = .ok (.ireturn, 1) := by decide +kernel
theorem dX11_reach_0 : decode cX11_reach 0 = .ok (.aload_n 0, 1) := by decide +kernel
theorem dX11_reach_1 : decode cX11_reach 1 = .ok (.getfield 26, 3) := by decide +kernel
theorem dX11_reach_4 : decode cX11_reach 4 = .ok (.iload_n 1, 1) := by decide +kernel
theorem dX11_reach_5 : decode cX11_reach 5 = .ok (.invokevirtual 200, 3) := by decide +kernel
theorem dX11_reach_8 : decode cX11_reach 8 = .ok (.ifCond .eq 14, 3) := by decide +kernel
theorem dX11_reach_11 : decode cX11_reach 11 = .ok (.iload_n 2, 1) := by decide +kernel
theorem dX11_reach_12 : decode cX11_reach 12 = .ok (.iconst 0, 1) := by decide +kernel
theorem dX11_reach_13 : decode cX11_reach 13 = .ok (.sipush 999, 3) := by decide +kernel
theorem dX11_reach_16 : decode cX11_reach 16 = .ok (.invokestatic 98, 3) := by decide +kernel
theorem dX11_reach_19 : decode cX11_reach 19 = .ok (.ifCond .ne 6, 3) := by decide +kernel
theorem dX11_reach_22 : decode cX11_reach 22 = .ok (.bipush (-2), 2) := by decide +kernel
theorem dX11_reach_24 : decode cX11_reach 24 = .ok (.ireturn, 1) := by decide +kernel
theorem dX11_reach_25 : decode cX11_reach 25 = .ok (.aload_n 0, 1) := by decide +kernel
theorem dX11_reach_26 : decode cX11_reach 26 = .ok (.getfield 56, 3) := by decide +kernel
theorem dX11_reach_29 : decode cX11_reach 29 = .ok (.aload_n 0, 1) := by decide +kernel
theorem dX11_reach_30 : decode cX11_reach 30 = .ok (.getfield 47, 3) := by decide +kernel
theorem dX11_reach_33 : decode cX11_reach 33 = .ok (.invokevirtual 165, 3) := by decide +kernel
theorem dX11_reach_36 : decode cX11_reach 36 = .ok (.iconst (-1), 1) := by decide +kernel
theorem dX11_reach_37 : decode cX11_reach 37 = .ok (.invokevirtual 190, 3) := by decide +kernel
theorem dX11_reach_40 : decode cX11_reach 40 = .ok (.aload_n 0, 1) := by decide +kernel
theorem dX11_reach_41 : decode cX11_reach 41 = .ok (.getfield 65, 3) := by decide +kernel
theorem dX11_reach_44 : decode cX11_reach 44 = .ok (.iload_n 1, 1) := by decide +kernel
theorem dX11_reach_45 : decode cX11_reach 45 = .ok (.iload_n 2, 1) := by decide +kernel
theorem dX11_reach_46 : decode cX11_reach 46 = .ok (.invokevirtual 219, 3) := by decide +kernel
theorem dX11_reach_49 : decode cX11_reach 49 = .ok (.ireturn, 1) := by decide +kernel
theorem dX11_grows_0 : decode cX11_grows 0 = .ok (.aload_n 0, 1) := by decide +kernel
theorem dX11_grows_1 : decode cX11_grows 1 = .ok (.getfield 26, 3) := by decide +kernel
theorem dX11_grows_4 : decode cX11_grows 4 = .ok (.iload_n 1, 1) := by decide +kernel
theorem dX11_grows_5 : decode cX11_grows 5 = .ok (.invokevirtual 200, 3) := by decide +kernel
theorem dX11_grows_8 : decode cX11_grows 8 = .ok (.ifCond .eq 12, 3) := by decide +kernel
theorem dX11_grows_11 : decode cX11_grows 11 = .ok (.iload_n 2, 1) := by decide +kernel
theorem dX11_grows_12 : decode cX11_grows 12 = .ok (.iconst 0, 1) := by decide +kernel
theorem dX11_grows_13 : decode cX11_grows 13 = .ok (.iconst 4, 1) := by decide +kernel
theorem dX11_grows_14 : decode cX11_grows 14 = .ok (.invokestatic 98, 3) := by decide +kernel
theorem dX11_grows_17 : decode cX11_grows 17 = .ok (.ifCond .ne 6, 3) := by decide +kernel
theorem dX11_grows_20 : decode cX11_grows 20 = .ok (.bipush (-2), 2) := by decide +kernel
theorem dX11_grows_22 : decode cX11_grows 22 = .ok (.ireturn, 1) := by decide +kernel
theorem dX11_grows_23 : decode cX11_grows 23 = .ok (.aload_n 0, 1) := by decide +kernel
theorem dX11_grows_24 : decode cX11_grows 24 = .ok (.getfield 56, 3) := by decide +kernel
theorem dX11_grows_27 : decode cX11_grows 27 = .ok (.aload_n 0, 1) := by decide +kernel
theorem dX11_grows_28 : decode cX11_grows 28 = .ok (.getfield 47, 3) := by decide +kernel
theorem dX11_grows_31 : decode cX11_grows 31 = .ok (.invokevirtual 165, 3) := by decide +kernel
theorem dX11_grows_34 : decode cX11_grows 34 = .ok (.iconst (-1), 1) := by decide +kernel
theorem dX11_grows_35 : decode cX11_grows 35 = .ok (.invokevirtual 190, 3) := by decide +kernel
theorem dX11_grows_38 : decode cX11_grows 38 = .ok (.aload_n 0, 1) := by decide +kernel
theorem dX11_grows_39 : decode cX11_grows 39 = .ok (.getfield 65, 3) := by decide +kernel
theorem dX11_grows_42 : decode cX11_grows 42 = .ok (.iload_n 1, 1) := by decide +kernel
theorem dX11_grows_43 : decode cX11_grows 43 = .ok (.iload_n 2, 1) := by decide +kernel
theorem dX11_grows_44 : decode cX11_grows 44 = .ok (.invokevirtual 222, 3) := by decide +kernel
theorem dX11_grows_47 : decode cX11_grows 47 = .ok (.ireturn, 1) := by decide +kernel
theorem dX11_leave_0 : decode cX11_leave 0 = .ok (.aload_n 0, 1) := by decide +kernel
theorem dX11_leave_1 : decode cX11_leave 1 = .ok (.getfield 56, 3) := by decide +kernel
theorem dX11_leave_4 : decode cX11_leave 4 = .ok (.aload_n 0, 1) := by decide +kernel
theorem dX11_leave_5 : decode cX11_leave 5 = .ok (.getfield 47, 3) := by decide +kernel
theorem dX11_leave_8 : decode cX11_leave 8 = .ok (.invokevirtual 165, 3) := by decide +kernel
theorem dX11_leave_11 : decode cX11_leave 11 = .ok (.iconst (-1), 1) := by decide +kernel
theorem dX11_leave_12 : decode cX11_leave 12 = .ok (.invokevirtual 190, 3) := by decide +kernel
theorem dX11_leave_15 : decode cX11_leave 15 = .ok (.iconst 0, 1) := by decide +kernel
theorem dX11_leave_16 : decode cX11_leave 16 = .ok (.istore_n 1, 1) := by decide +kernel
theorem dX11_leave_17 : decode cX11_leave 17 = .ok (.iconst 0, 1) := by decide +kernel
theorem dX11_leave_18 : decode cX11_leave 18 = .ok (.istore_n 2, 1) := by decide +kernel
theorem dX11_leave_19 : decode cX11_leave 19 = .ok (.iload_n 2, 1) := by decide +kernel
theorem dX11_leave_20 : decode cX11_leave 20 = .ok (.aload_n 0, 1) := by decide +kernel
theorem dX11_leave_21 : decode cX11_leave 21 = .ok (.getfield 33, 3) := by decide +kernel
theorem dX11_leave_24 : decode cX11_leave 24 = .ok (.invokevirtual 225, 3) := by decide +kernel
theorem dX11_leave_27 : decode cX11_leave 27 = .ok (.if_icmp .ge 51, 3) := by decide +kernel
theorem dX11_leave_30 : decode cX11_leave 30 = .ok (.iconst 0, 1) := by decide +kernel
theorem dX11_leave_31 : decode cX11_leave 31 = .ok (.istore_n 3, 1) := by decide +kernel
theorem dX11_leave_32 : decode cX11_leave 32 = .ok (.iload_n 3, 1) := by decide +kernel
theorem dX11_leave_33 : decode cX11_leave 33 = .ok (.aload_n 0, 1) := by decide +kernel
theorem dX11_leave_34 : decode cX11_leave 34 = .ok (.getfield 33, 3) := by decide +kernel
theorem dX11_leave_37 : decode cX11_leave 37 = .ok (.invokevirtual 225, 3) := by decide +kernel
theorem dX11_leave_40 : decode cX11_leave 40 = .ok (.if_icmp .ge 32, 3) := by decide +kernel
theorem dX11_leave_43 : decode cX11_leave 43 = .ok (.aload_n 0, 1) := by decide +kernel
theorem dX11_leave_44 : decode cX11_leave 44 = .ok (.getfield 33, 3) := by decide +kernel
theorem dX11_leave_47 : decode cX11_leave 47 = .ok (.iload_n 2, 1) := by decide +kernel
theorem dX11_leave_48 : decode cX11_leave 48 = .ok (.invokevirtual 127, 3) := by decide +kernel
theorem dX11_leave_51 : decode cX11_leave 51 = .ok (.ifCond .ne 15, 3) := by decide +kernel
theorem dX11_leave_54 : decode cX11_leave 54 = .ok (.aload_n 0, 1) := by decide +kernel
theorem dX11_leave_55 : decode cX11_leave 55 = .ok (.iload_n 2, 1) := by decide +kernel
theorem dX11_leave_56 : decode cX11_leave 56 = .ok (.iload_n 3, 1) := by decide +kernel
theorem dX11_leave_57 : decode cX11_leave 57 = .ok (.invokevirtual 226, 3) := by decide +kernel
theorem dX11_leave_60 : decode cX11_leave 60 = .ok (.ifCond .eq 6, 3) := by decide +kernel
theorem dX11_leave_63 : decode cX11_leave 63 = .ok (.iinc 1 1, 3) := by decide +kernel
theorem dX11_leave_66 : decode cX11_leave 66 = .ok (.iinc 3 1, 3) := by decide +kernel
theorem dX11_leave_69 : decode cX11_leave 69 = .ok (.goto (-37), 3) := by decide +kernel
theorem dX11_leave_72 : decode cX11_leave 72 = .ok (.iinc 2 1, 3) := by decide +kernel
theorem dX11_leave_75 : decode cX11_leave 75 = .ok (.goto (-56), 3) := by decide +kernel
theorem dX11_leave_78 : decode cX11_leave 78 = .ok (.iload_n 1, 1) := by decide +kernel
theorem dX11_leave_79 : decode cX11_leave 79 = .ok (.ireturn, 1) := by decide +kernel
theorem dX11_survey_0 : decode cX11_survey 0 = .ok (.iload_n 1, 1) := by decide +kernel
theorem dX11_survey_1 : decode cX11_survey 1 = .ok (.iconst 0, 1) := by decide +kernel
theorem dX11_survey_2 : decode cX11_survey 2 = .ok (.iconst 5, 1) := by decide +kernel
theorem dX11_survey_3 : decode cX11_survey 3 = .ok (.invokestatic 98, 3) := by decide +kernel
theorem dX11_survey_6 : decode cX11_survey 6 = .ok (.ifCond .eq 24, 3) := by decide +kernel
theorem dX11_survey_9 : decode cX11_survey 9 = .ok (.iload_n 2, 1) := by decide +kernel
theorem dX11_survey_10 : decode cX11_survey 10 = .ok (.iconst 0, 1) := by decide +kernel
theorem dX11_survey_11 : decode cX11_survey 11 = .ok (.bipush 24, 2) := by decide +kernel
theorem dX11_survey_13 : decode cX11_survey 13 = .ok (.invokestatic 98, 3) := by decide +kernel
theorem dX11_survey_16 : decode cX11_survey 16 = .ok (.ifCond .eq 14, 3) := by decide +kernel
theorem dX11_survey_19 : decode cX11_survey 19 = .ok (.iload_n 3, 1) := by decide +kernel
theorem dX11_survey_20 : decode cX11_survey 20 = .ok (.iconst 0, 1) := by decide +kernel
theorem dX11_survey_21 : decode cX11_survey 21 = .ok (.sipush 999, 3) := by decide +kernel
theorem dX11_survey_24 : decode cX11_survey 24 = .ok (.invokestatic 98, 3) := by decide +kernel
theorem dX11_survey_27 : decode cX11_survey 27 = .ok (.ifCond .ne 6, 3) := by decide +kernel
theorem dX11_survey_30 : decode cX11_survey 30 = .ok (.bipush (-2), 2) := by decide +kernel
theorem dX11_survey_32 : decode cX11_survey 32 = .ok (.ireturn, 1) := by decide +kernel
theorem dX11_survey_33 : decode cX11_survey 33 = .ok (.aload_n 0, 1) := by decide +kernel
theorem dX11_survey_34 : decode cX11_survey 34 = .ok (.getfield 79, 3) := by decide +kernel
theorem dX11_survey_37 : decode cX11_survey 37 = .ok (.invokevirtual 230, 3) := by decide +kernel
theorem dX11_survey_40 : decode cX11_survey 40 = .ok (.ifCond .eq 6, 3) := by decide +kernel
theorem dX11_survey_43 : decode cX11_survey 43 = .ok (.bipush (-4), 2) := by decide +kernel
theorem dX11_survey_45 : decode cX11_survey 45 = .ok (.ireturn, 1) := by decide +kernel
theorem dX11_survey_46 : decode cX11_survey 46 = .ok (.aload_n 0, 1) := by decide +kernel
theorem dX11_survey_47 : decode cX11_survey 47 = .ok (.getfield 79, 3) := by decide +kernel
theorem dX11_survey_50 : decode cX11_survey 50 = .ok (.iload_n 1, 1) := by decide +kernel
theorem dX11_survey_51 : decode cX11_survey 51 = .ok (.iload_n 2, 1) := by decide +kernel
theorem dX11_survey_52 : decode cX11_survey 52 = .ok (.iload_n 3, 1) := by decide +kernel
theorem dX11_survey_53 : decode cX11_survey 53 = .ok (.invokevirtual 231, 3) := by decide +kernel
theorem dX11_survey_56 : decode cX11_survey 56 = .ok (.aload_n 0, 1) := by decide +kernel
theorem dX11_survey_57 : decode cX11_survey 57 = .ok (.getfield 79, 3) := by decide +kernel
theorem dX11_survey_60 : decode cX11_survey 60 = .ok (.invokevirtual 234, 3) := by decide +kernel
theorem dX11_survey_63 : decode cX11_survey 63 = .ok (.ireturn, 1) := by decide +kernel
theorem dX11_forget_0 : decode cX11_forget 0 = .ok (.aload_n 0, 1) := by decide +kernel
theorem dX11_forget_1 : decode cX11_forget 1 = .ok (.getfield 79, 3) := by decide +kernel
theorem dX11_forget_4 : decode cX11_forget 4 = .ok (.invokevirtual 234, 3) := by decide +kernel
theorem dX11_forget_7 : decode cX11_forget 7 = .ok (.istore_n 1, 1) := by decide +kernel
theorem dX11_forget_8 : decode cX11_forget 8 = .ok (.aload_n 0, 1) := by decide +kernel
theorem dX11_forget_9 : decode cX11_forget 9 = .ok (.getfield 79, 3) := by decide +kernel
theorem dX11_forget_12 : decode cX11_forget 12 = .ok (.invokevirtual 235, 3) := by decide +kernel
theorem dX11_forget_15 : decode cX11_forget 15 = .ok (.iload_n 1, 1) := by decide +kernel
theorem dX11_forget_16 : decode cX11_forget 16 = .ok (.ireturn, 1) := by decide +kernel
theorem dX11_forged_0 : decode cX11_forged 0 = .ok (.aload_n 0, 1) := by decide +kernel
theorem dX11_forged_1 : decode cX11_forged 1 = .ok (.getfield 33, 3) := by decide +kernel
theorem dX11_forged_4 : decode cX11_forged 4 = .ok (.iload_n 1, 1) := by decide +kernel
theorem dX11_forged_5 : decode cX11_forged 5 = .ok (.invokevirtual 123, 3) := by decide +kernel
theorem dX11_forged_8 : decode cX11_forged 8 = .ok (.ifCond .ne 6, 3) := by decide +kernel
theorem dX11_forged_11 : decode cX11_forged 11 = .ok (.bipush (-2), 2) := by decide +kernel
theorem dX11_forged_13 : decode cX11_forged 13 = .ok (.ireturn, 1) := by decide +kernel
theorem dX11_forged_14 : decode cX11_forged 14 = .ok (.aload_n 0, 1) := by decide +kernel
theorem dX11_forged_15 : decode cX11_forged 15 = .ok (.getfield 33, 3) := by decide +kernel
theorem dX11_forged_18 : decode cX11_forged 18 = .ok (.iload_n 1, 1) := by decide +kernel
theorem dX11_forged_19 : decode cX11_forged 19 = .ok (.invokevirtual 134, 3) := by decide +kernel
theorem dX11_forged_22 : decode cX11_forged 22 = .ok (.istore_n 2, 1) := by decide +kernel
theorem dX11_forged_23 : decode cX11_forged 23 = .ok (.iconst 0, 1) := by decide +kernel
theorem dX11_forged_24 : decode cX11_forged 24 = .ok (.istore_n 3, 1) := by decide +kernel
theorem dX11_forged_25 : decode cX11_forged 25 = .ok (.iconst 1, 1) := by decide +kernel
theorem dX11_forged_26 : decode cX11_forged 26 = .ok (.istore 4, 2) := by decide +kernel
theorem dX11_forged_28 : decode cX11_forged 28 = .ok (.iload 4, 2) := by decide +kernel
theorem dX11_forged_30 : decode cX11_forged 30 = .ok (.bipush 9, 2) := by decide +kernel
theorem dX11_forged_32 : decode cX11_forged 32 = .ok (.if_icmp .gt 50, 3) := by decide +kernel
theorem dX11_forged_35 : decode cX11_forged 35 = .ok (.aload_n 0, 1) := by decide +kernel
theorem dX11_forged_36 : decode cX11_forged 36 = .ok (.getfield 33, 3) := by decide +kernel
theorem dX11_forged_39 : decode cX11_forged 39 = .ok (.iload_n 1, 1) := by decide +kernel
theorem dX11_forged_40 : decode cX11_forged 40 = .ok (.iload 4, 2) := by decide +kernel
theorem dX11_forged_42 : decode cX11_forged 42 = .ok (.invokevirtual 236, 3) := by decide +kernel
theorem dX11_forged_45 : decode cX11_forged 45 = .ok (.aload_n 0, 1) := by decide +kernel
theorem dX11_forged_46 : decode cX11_forged 46 = .ok (.getfield 79, 3) := by decide +kernel
theorem dX11_forged_49 : decode cX11_forged 49 = .ok (.aload_n 0, 1) := by decide +kernel
theorem dX11_forged_50 : decode cX11_forged 50 = .ok (.getfield 56, 3) := by decide +kernel
theorem dX11_forged_53 : decode cX11_forged 53 = .ok (.aload_n 0, 1) := by decide +kernel
theorem dX11_forged_54 : decode cX11_forged 54 = .ok (.getfield 26, 3) := by decide +kernel
theorem dX11_forged_57 : decode cX11_forged 57 = .ok (.aload_n 0, 1) := by decide +kernel
theorem dX11_forged_58 : decode cX11_forged 58 = .ok (.getfield 47, 3) := by decide +kernel
theorem dX11_forged_61 : decode cX11_forged 61 = .ok (.invokevirtual 239, 3) := by decide +kernel
theorem dX11_forged_64 : decode cX11_forged 64 = .ok (.ifCond .ne 12, 3) := by decide +kernel
theorem dX11_forged_67 : decode cX11_forged 67 = .ok (.iload_n 3, 1) := by decide +kernel
theorem dX11_forged_68 : decode cX11_forged 68 = .ok (.iconst 1, 1) := by decide +kernel
theorem dX11_forged_69 : decode cX11_forged 69 = .ok (.iload 4, 2) := by decide +kernel
theorem dX11_forged_71 : decode cX11_forged 71 = .ok (.iconst 1, 1) := by decide +kernel
theorem dX11_forged_72 : decode cX11_forged 72 = .ok (.isub, 1) := by decide +kernel
theorem dX11_forged_73 : decode cX11_forged 73 = .ok (.ishl, 1) := by decide +kernel
theorem dX11_forged_74 : decode cX11_forged 74 = .ok (.ior, 1) := by decide +kernel
theorem dX11_forged_75 : decode cX11_forged 75 = .ok (.istore_n 3, 1) := by decide +kernel
theorem dX11_forged_76 : decode cX11_forged 76 = .ok (.iinc 4 1, 3) := by decide +kernel
theorem dX11_forged_79 : decode cX11_forged 79 = .ok (.goto (-51), 3) := by decide +kernel
theorem dX11_forged_82 : decode cX11_forged 82 = .ok (.aload_n 0, 1) := by decide +kernel
theorem dX11_forged_83 : decode cX11_forged 83 = .ok (.getfield 33, 3) := by decide +kernel
theorem dX11_forged_86 : decode cX11_forged 86 = .ok (.iload_n 1, 1) := by decide +kernel
theorem dX11_forged_87 : decode cX11_forged 87 = .ok (.iload_n 2, 1) := by decide +kernel
theorem dX11_forged_88 : decode cX11_forged 88 = .ok (.invokevirtual 236, 3) := by decide +kernel
theorem dX11_forged_91 : decode cX11_forged 91 = .ok (.iload_n 3, 1) := by decide +kernel
theorem dX11_forged_92 : decode cX11_forged 92 = .ok (.ireturn, 1) := by decide +kernel
theorem dX11_unlike_0 : decode cX11_unlike 0 = .ok (.aload_n 0, 1) := by decide +kernel
theorem dX11_unlike_1 : decode cX11_unlike 1 = .ok (.getfield 79, 3) := by decide +kernel
theorem dX11_unlike_4 : decode cX11_unlike 4 = .ok (.aload_n 0, 1) := by decide +kernel
theorem dX11_unlike_5 : decode cX11_unlike 5 = .ok (.getfield 26, 3) := by decide +kernel
theorem dX11_unlike_8 : decode cX11_unlike 8 = .ok (.aload_n 0, 1) := by decide +kernel
theorem dX11_unlike_9 : decode cX11_unlike 9 = .ok (.getfield 47, 3) := by decide +kernel
theorem dX11_unlike_12 : decode cX11_unlike 12 = .ok (.invokevirtual 243, 3) := by decide +kernel
theorem dX11_unlike_15 : decode cX11_unlike 15 = .ok (.aload_n 0, 1) := by decide +kernel
theorem dX11_unlike_16 : decode cX11_unlike 16 = .ok (.getfield 79, 3) := by decide +kernel
theorem dX11_unlike_19 : decode cX11_unlike 19 = .ok (.aload_n 0, 1) := by decide +kernel
theorem dX11_unlike_20 : decode cX11_unlike 20 = .ok (.getfield 56, 3) := by decide +kernel
theorem dX11_unlike_23 : decode cX11_unlike 23 = .ok (.aload_n 0, 1) := by decide +kernel
theorem dX11_unlike_24 : decode cX11_unlike 24 = .ok (.getfield 26, 3) := by decide +kernel
theorem dX11_unlike_27 : decode cX11_unlike 27 = .ok (.aload_n 0, 1) := by decide +kernel
theorem dX11_unlike_28 : decode cX11_unlike 28 = .ok (.getfield 47, 3) := by decide +kernel
theorem dX11_unlike_31 : decode cX11_unlike 31 = .ok (.invokevirtual 239, 3) := by decide +kernel
theorem dX11_unlike_34 : decode cX11_unlike 34 = .ok (.iadd, 1) := by decide +kernel
theorem dX11_unlike_35 : decode cX11_unlike 35 = .ok (.ireturn, 1) := by decide +kernel
theorem dX11_without_0 : decode cX11_without 0 = .ok (.aload_n 0, 1) := by decide +kernel
theorem dX11_without_1 : decode cX11_without 1 = .ok (.getfield 47, 3) := by decide +kernel
theorem dX11_without_4 : decode cX11_without 4 = .ok (.iload_n 1, 1) := by decide +kernel
theorem dX11_without_5 : decode cX11_without 5 = .ok (.invokevirtual 196, 3) := by decide +kernel
theorem dX11_without_8 : decode cX11_without 8 = .ok (.ifCond .eq 14, 3) := by decide +kernel
theorem dX11_without_11 : decode cX11_without 11 = .ok (.aload_n 0, 1) := by decide +kernel
theorem dX11_without_12 : decode cX11_without 12 = .ok (.getfield 26, 3) := by decide +kernel
theorem dX11_without_15 : decode cX11_without 15 = .ok (.iload_n 2, 1) := by decide +kernel
theorem dX11_without_16 : decode cX11_without 16 = .ok (.invokevirtual 200, 3) := by decide +kernel
theorem dX11_without_19 : decode cX11_without 19 = .ok (.ifCond .ne 6, 3) := by decide +kernel
theorem dX11_without_22 : decode cX11_without 22 = .ok (.bipush (-2), 2) := by decide +kernel
theorem dX11_without_24 : decode cX11_without 24 = .ok (.ireturn, 1) := by decide +kernel
theorem dX11_without_25 : decode cX11_without 25 = .ok (.aload_n 0, 1) := by decide +kernel
theorem dX11_without_26 : decode cX11_without 26 = .ok (.getfield 56, 3) := by decide +kernel
theorem dX11_without_29 : decode cX11_without 29 = .ok (.aload_n 0, 1) := by decide +kernel
theorem dX11_without_30 : decode cX11_without 30 = .ok (.getfield 47, 3) := by decide +kernel
theorem dX11_without_33 : decode cX11_without 33 = .ok (.invokevirtual 165, 3) := by decide +kernel
theorem dX11_without_36 : decode cX11_without 36 = .ok (.iload_n 1, 1) := by decide +kernel
theorem dX11_without_37 : decode cX11_without 37 = .ok (.invokevirtual 190, 3) := by decide +kernel
theorem dX11_without_40 : decode cX11_without 40 = .ok (.aload_n 0, 1) := by decide +kernel
theorem dX11_without_41 : decode cX11_without 41 = .ok (.getfield 56, 3) := by decide +kernel
theorem dX11_without_44 : decode cX11_without 44 = .ok (.iload_n 2, 1) := by decide +kernel
theorem dX11_without_45 : decode cX11_without 45 = .ok (.invokevirtual 204, 3) := by decide +kernel
theorem dX11_without_48 : decode cX11_without 48 = .ok (.ireturn, 1) := by decide +kernel
theorem dX11_blame_0 : decode cX11_blame 0 = .ok (.aload_n 0, 1) := by decide +kernel
theorem dX11_blame_1 : decode cX11_blame 1 = .ok (.getfield 26, 3) := by decide +kernel
theorem dX11_blame_4 : decode cX11_blame 4 = .ok (.iload_n 1, 1) := by decide +kernel
theorem dX11_blame_5 : decode cX11_blame 5 = .ok (.invokevirtual 200, 3) := by decide +kernel
theorem dX11_blame_8 : decode cX11_blame 8 = .ok (.ifCond .ne 6, 3) := by decide +kernel
theorem dX11_blame_11 : decode cX11_blame 11 = .ok (.bipush (-2), 2) := by decide +kernel
theorem dX11_blame_13 : decode cX11_blame 13 = .ok (.ireturn, 1) := by decide +kernel
theorem dX11_blame_14 : decode cX11_blame 14 = .ok (.aload_n 0, 1) := by decide +kernel
theorem dX11_blame_15 : decode cX11_blame 15 = .ok (.getfield 56, 3) := by decide +kernel
theorem dX11_blame_18 : decode cX11_blame 18 = .ok (.aload_n 0, 1) := by decide +kernel
theorem dX11_blame_19 : decode cX11_blame 19 = .ok (.getfield 47, 3) := by decide +kernel
theorem dX11_blame_22 : decode cX11_blame 22 = .ok (.invokevirtual 165, 3) := by decide +kernel
theorem dX11_blame_25 : decode cX11_blame 25 = .ok (.iconst (-1), 1) := by decide +kernel
theorem dX11_blame_26 : decode cX11_blame 26 = .ok (.invokevirtual 190, 3) := by decide +kernel
theorem dX11_blame_29 : decode cX11_blame 29 = .ok (.aload_n 0, 1) := by decide +kernel
theorem dX11_blame_30 : decode cX11_blame 30 = .ok (.getfield 56, 3) := by decide +kernel
theorem dX11_blame_33 : decode cX11_blame 33 = .ok (.iload_n 1, 1) := by decide +kernel
theorem dX11_blame_34 : decode cX11_blame 34 = .ok (.invokevirtual 204, 3) := by decide +kernel
theorem dX11_blame_37 : decode cX11_blame 37 = .ok (.istore_n 2, 1) := by decide +kernel
theorem dX11_blame_38 : decode cX11_blame 38 = .ok (.iconst (-1), 1) := by decide +kernel
theorem dX11_blame_39 : decode cX11_blame 39 = .ok (.istore_n 3, 1) := by decide +kernel
theorem dX11_blame_40 : decode cX11_blame 40 = .ok (.iconst 0, 1) := by decide +kernel
theorem dX11_blame_41 : decode cX11_blame 41 = .ok (.istore 4, 2) := by decide +kernel
theorem dX11_blame_43 : decode cX11_blame 43 = .ok (.iload 4, 2) := by decide +kernel
theorem dX11_blame_45 : decode cX11_blame 45 = .ok (.aload_n 0, 1) := by decide +kernel
theorem dX11_blame_46 : decode cX11_blame 46 = .ok (.getfield 47, 3) := by decide +kernel
theorem dX11_blame_49 : decode cX11_blame 49 = .ok (.invokevirtual 165, 3) := by decide +kernel
theorem dX11_blame_52 : decode cX11_blame 52 = .ok (.if_icmp .ge 49, 3) := by decide +kernel
theorem dX11_blame_55 : decode cX11_blame 55 = .ok (.aload_n 0, 1) := by decide +kernel
theorem dX11_blame_56 : decode cX11_blame 56 = .ok (.getfield 56, 3) := by decide +kernel
theorem dX11_blame_59 : decode cX11_blame 59 = .ok (.aload_n 0, 1) := by decide +kernel
theorem dX11_blame_60 : decode cX11_blame 60 = .ok (.getfield 47, 3) := by decide +kernel
theorem dX11_blame_63 : decode cX11_blame 63 = .ok (.invokevirtual 165, 3) := by decide +kernel
theorem dX11_blame_66 : decode cX11_blame 66 = .ok (.iload 4, 2) := by decide +kernel
theorem dX11_blame_68 : decode cX11_blame 68 = .ok (.invokevirtual 190, 3) := by decide +kernel
theorem dX11_blame_71 : decode cX11_blame 71 = .ok (.aload_n 0, 1) := by decide +kernel
theorem dX11_blame_72 : decode cX11_blame 72 = .ok (.getfield 56, 3) := by decide +kernel
theorem dX11_blame_75 : decode cX11_blame 75 = .ok (.iload_n 1, 1) := by decide +kernel
theorem dX11_blame_76 : decode cX11_blame 76 = .ok (.invokevirtual 204, 3) := by decide +kernel
theorem dX11_blame_79 : decode cX11_blame 79 = .ok (.iload_n 2, 1) := by decide +kernel
theorem dX11_blame_80 : decode cX11_blame 80 = .ok (.if_icmp .le 15, 3) := by decide +kernel
theorem dX11_blame_83 : decode cX11_blame 83 = .ok (.aload_n 0, 1) := by decide +kernel
theorem dX11_blame_84 : decode cX11_blame 84 = .ok (.getfield 56, 3) := by decide +kernel
theorem dX11_blame_87 : decode cX11_blame 87 = .ok (.iload_n 1, 1) := by decide +kernel
theorem dX11_blame_88 : decode cX11_blame 88 = .ok (.invokevirtual 204, 3) := by decide +kernel
theorem dX11_blame_91 : decode cX11_blame 91 = .ok (.istore_n 2, 1) := by decide +kernel
theorem dX11_blame_92 : decode cX11_blame 92 = .ok (.iload 4, 2) := by decide +kernel
theorem dX11_blame_94 : decode cX11_blame 94 = .ok (.istore_n 3, 1) := by decide +kernel
theorem dX11_blame_95 : decode cX11_blame 95 = .ok (.iinc 4 1, 3) := by decide +kernel
theorem dX11_blame_98 : decode cX11_blame 98 = .ok (.goto (-55), 3) := by decide +kernel
theorem dX11_blame_101 : decode cX11_blame 101 = .ok (.iload_n 3, 1) := by decide +kernel
theorem dX11_blame_102 : decode cX11_blame 102 = .ok (.ireturn, 1) := by decide +kernel
theorem dX11_lords_0 : decode cX11_lords 0 = .ok (.aload_n 0, 1) := by decide +kernel
theorem dX11_lords_1 : decode cX11_lords 1 = .ok (.getfield 26, 3) := by decide +kernel
theorem dX11_lords_4 : decode cX11_lords 4 = .ok (.iload_n 1, 1) := by decide +kernel
theorem dX11_lords_5 : decode cX11_lords 5 = .ok (.invokevirtual 200, 3) := by decide +kernel
theorem dX11_lords_8 : decode cX11_lords 8 = .ok (.ifCond .eq 33, 3) := by decide +kernel
theorem dX11_lords_11 : decode cX11_lords 11 = .ok (.aload_n 0, 1) := by decide +kernel
theorem dX11_lords_12 : decode cX11_lords 12 = .ok (.getfield 26, 3) := by decide +kernel
theorem dX11_lords_15 : decode cX11_lords 15 = .ok (.iload_n 2, 1) := by decide +kernel
theorem dX11_lords_16 : decode cX11_lords 16 = .ok (.invokevirtual 200, 3) := by decide +kernel
theorem dX11_lords_19 : decode cX11_lords 19 = .ok (.ifCond .eq 22, 3) := by decide +kernel
theorem dX11_lords_22 : decode cX11_lords 22 = .ok (.iload_n 1, 1) := by decide +kernel
theorem dX11_lords_23 : decode cX11_lords 23 = .ok (.iload_n 2, 1) := by decide +kernel
theorem dX11_lords_24 : decode cX11_lords 24 = .ok (.isub, 1) := by decide +kernel
theorem dX11_lords_25 : decode cX11_lords 25 = .ok (.invokestatic 247, 3) := by decide +kernel
theorem dX11_lords_28 : decode cX11_lords 28 = .ok (.iconst 1, 1) := by decide +kernel
theorem dX11_lords_29 : decode cX11_lords 29 = .ok (.if_icmp .ne 12, 3) := by decide +kernel
theorem dX11_lords_32 : decode cX11_lords 32 = .ok (.iload_n 3, 1) := by decide +kernel
theorem dX11_lords_33 : decode cX11_lords 33 = .ok (.iconst 0, 1) := by decide +kernel
theorem dX11_lords_34 : decode cX11_lords 34 = .ok (.iconst 1, 1) := by decide +kernel
theorem dX11_lords_35 : decode cX11_lords 35 = .ok (.invokestatic 98, 3) := by decide +kernel
theorem dX11_lords_38 : decode cX11_lords 38 = .ok (.ifCond .ne 7, 3) := by decide +kernel
theorem dX11_lords_41 : decode cX11_lords 41 = .ok (.sipush (-10002), 3) := by decide +kernel
theorem dX11_lords_44 : decode cX11_lords 44 = .ok (.ireturn, 1) := by decide +kernel
theorem dX11_lords_45 : decode cX11_lords 45 = .ok (.aload_n 0, 1) := by decide +kernel
theorem dX11_lords_46 : decode cX11_lords 46 = .ok (.getfield 56, 3) := by decide +kernel
theorem dX11_lords_49 : decode cX11_lords 49 = .ok (.aload_n 0, 1) := by decide +kernel
theorem dX11_lords_50 : decode cX11_lords 50 = .ok (.getfield 47, 3) := by decide +kernel
theorem dX11_lords_53 : decode cX11_lords 53 = .ok (.invokevirtual 165, 3) := by decide +kernel
theorem dX11_lords_56 : decode cX11_lords 56 = .ok (.iconst (-1), 1) := by decide +kernel
theorem dX11_lords_57 : decode cX11_lords 57 = .ok (.invokevirtual 190, 3) := by decide +kernel
theorem dX11_lords_60 : decode cX11_lords 60 = .ok (.aload_n 0, 1) := by decide +kernel
theorem dX11_lords_61 : decode cX11_lords 61 = .ok (.getfield 56, 3) := by decide +kernel
theorem dX11_lords_64 : decode cX11_lords 64 = .ok (.iload_n 1, 1) := by decide +kernel
theorem dX11_lords_65 : decode cX11_lords 65 = .ok (.invokevirtual 252, 3) := by decide +kernel
theorem dX11_lords_68 : decode cX11_lords 68 = .ok (.iconst 4, 1) := by decide +kernel
theorem dX11_lords_69 : decode cX11_lords 69 = .ok (.if_icmp .gt 15, 3) := by decide +kernel
theorem dX11_lords_72 : decode cX11_lords 72 = .ok (.aload_n 0, 1) := by decide +kernel
theorem dX11_lords_73 : decode cX11_lords 73 = .ok (.getfield 56, 3) := by decide +kernel
theorem dX11_lords_76 : decode cX11_lords 76 = .ok (.iload_n 2, 1) := by decide +kernel
theorem dX11_lords_77 : decode cX11_lords 77 = .ok (.invokevirtual 252, 3) := by decide +kernel
theorem dX11_lords_80 : decode cX11_lords 80 = .ok (.iconst 4, 1) := by decide +kernel
theorem dX11_lords_81 : decode cX11_lords 81 = .ok (.if_icmp .le 7, 3) := by decide +kernel
theorem dX11_lords_84 : decode cX11_lords 84 = .ok (.sipush (-10004), 3) := by decide +kernel
theorem dX11_lords_87 : decode cX11_lords 87 = .ok (.ireturn, 1) := by decide +kernel
theorem dX11_lords_88 : decode cX11_lords 88 = .ok (.aload_n 0, 1) := by decide +kernel
theorem dX11_lords_89 : decode cX11_lords 89 = .ok (.getfield 72, 3) := by decide +kernel
theorem dX11_lords_92 : decode cX11_lords 92 = .ok (.iload_n 1, 1) := by decide +kernel
theorem dX11_lords_93 : decode cX11_lords 93 = .ok (.iload_n 2, 1) := by decide +kernel
theorem dX11_lords_94 : decode cX11_lords 94 = .ok (.invokevirtual 255, 3) := by decide +kernel
theorem dX11_lords_97 : decode cX11_lords 97 = .ok (.istore 4, 2) := by decide +kernel
theorem dX11_lords_99 : decode cX11_lords 99 = .ok (.iload_n 3, 1) := by decide +kernel
theorem dX11_lords_100 : decode cX11_lords 100 = .ok (.ifCond .ne 8, 3) := by decide +kernel
theorem dX11_lords_103 : decode cX11_lords 103 = .ok (.iload 4, 2) := by decide +kernel
theorem dX11_lords_105 : decode cX11_lords 105 = .ok (.goto 10, 3) := by decide +kernel
theorem dX11_lords_108 : decode cX11_lords 108 = .ok (.aload_n 0, 1) := by decide +kernel
theorem dX11_lords_109 : decode cX11_lords 109 = .ok (.getfield 72, 3) := by decide +kernel
theorem dX11_lords_112 : decode cX11_lords 112 = .ok (.invokevirtual 258, 3) := by decide +kernel
theorem dX11_lords_115 : decode cX11_lords 115 = .ok (.ireturn, 1) := by decide +kernel
theorem dX11_sheet_0 : decode cX11_sheet 0 = .ok (.aload_n 0, 1) := by decide +kernel
theorem dX11_sheet_1 : decode cX11_sheet 1 = .ok (.iload_n 1, 1) := by decide +kernel
theorem dX11_sheet_2 : decode cX11_sheet 2 = .ok (.invokevirtual 171, 3) := by decide +kernel
theorem dX11_sheet_5 : decode cX11_sheet 5 = .ok (.astore 4, 2) := by decide +kernel
theorem dX11_sheet_7 : decode cX11_sheet 7 = .ok (.aload 4, 2) := by decide +kernel
theorem dX11_sheet_9 : decode cX11_sheet 9 = .ok (.ifnull 16, 3) := by decide +kernel
theorem dX11_sheet_12 : decode cX11_sheet 12 = .ok (.iload_n 2, 1) := by decide +kernel
theorem dX11_sheet_13 : decode cX11_sheet 13 = .ok (.invokestatic 261, 3) := by decide +kernel
theorem dX11_sheet_16 : decode cX11_sheet 16 = .ok (.ifCond .eq 9, 3) := by decide +kernel
theorem dX11_sheet_19 : decode cX11_sheet 19 = .ok (.iload_n 3, 1) := by decide +kernel
theorem dX11_sheet_20 : decode cX11_sheet 20 = .ok (.bipush 60, 2) := by decide +kernel
theorem dX11_sheet_22 : decode cX11_sheet 22 = .ok (.if_icmp .le 6, 3) := by decide +kernel
theorem dX11_sheet_25 : decode cX11_sheet 25 = .ok (.bipush (-2), 2) := by decide +kernel
theorem dX11_sheet_27 : decode cX11_sheet 27 = .ok (.ireturn, 1) := by decide +kernel
theorem dX11_sheet_28 : decode cX11_sheet 28 = .ok (.iload_n 3, 1) := by decide +kernel
theorem dX11_sheet_29 : decode cX11_sheet 29 = .ok (.ifCond .ge 9, 3) := by decide +kernel
theorem dX11_sheet_32 : decode cX11_sheet 32 = .ok (.aload_n 0, 1) := by decide +kernel
theorem dX11_sheet_33 : decode cX11_sheet 33 = .ok (.iconst 5, 1) := by decide +kernel
theorem dX11_sheet_34 : decode cX11_sheet 34 = .ok (.invokevirtual 178, 3) := by decide +kernel
theorem dX11_sheet_37 : decode cX11_sheet 37 = .ok (.ireturn, 1) := by decide +kernel
theorem dX11_sheet_38 : decode cX11_sheet 38 = .ok (.aload 4, 2) := by decide +kernel
theorem dX11_sheet_40 : decode cX11_sheet 40 = .ok (.iload_n 2, 1) := by decide +kernel
theorem dX11_sheet_41 : decode cX11_sheet 41 = .ok (.iload_n 3, 1) := by decide +kernel
theorem dX11_sheet_42 : decode cX11_sheet 42 = .ok (.invokevirtual 264, 3) := by decide +kernel
theorem dX11_sheet_45 : decode cX11_sheet 45 = .ok (.iload_n 3, 1) := by decide +kernel
theorem dX11_sheet_46 : decode cX11_sheet 46 = .ok (.ireturn, 1) := by decide +kernel
theorem dX11_lose_0 : decode cX11_lose 0 = .ok (.aload_n 0, 1) := by decide +kernel
theorem dX11_lose_1 : decode cX11_lose 1 = .ok (.iload_n 1, 1) := by decide +kernel
theorem dX11_lose_2 : decode cX11_lose 2 = .ok (.invokevirtual 171, 3) := by decide +kernel
theorem dX11_lose_5 : decode cX11_lose 5 = .ok (.astore_n 2, 1) := by decide +kernel
theorem dX11_lose_6 : decode cX11_lose 6 = .ok (.aload_n 2, 1) := by decide +kernel
theorem dX11_lose_7 : decode cX11_lose 7 = .ok (.ifnonnull 6, 3) := by decide +kernel
theorem dX11_lose_10 : decode cX11_lose 10 = .ok (.bipush (-2), 2) := by decide +kernel
theorem dX11_lose_12 : decode cX11_lose 12 = .ok (.ireturn, 1) := by decide +kernel
theorem dX11_lose_13 : decode cX11_lose 13 = .ok (.aload_n 2, 1) := by decide +kernel
theorem dX11_lose_14 : decode cX11_lose 14 = .ok (.invokevirtual 175, 3) := by decide +kernel
theorem dX11_lose_17 : decode cX11_lose 17 = .ok (.ifCond .eq 9, 3) := by decide +kernel
theorem dX11_lose_20 : decode cX11_lose 20 = .ok (.aload_n 0, 1) := by decide +kernel
theorem dX11_lose_21 : decode cX11_lose 21 = .ok (.iconst 1, 1) := by decide +kernel
theorem dX11_lose_22 : decode cX11_lose 22 = .ok (.invokevirtual 178, 3) := by decide +kernel
theorem dX11_lose_25 : decode cX11_lose 25 = .ok (.ireturn, 1) := by decide +kernel
theorem dX11_lose_26 : decode cX11_lose 26 = .ok (.aload_n 2, 1) := by decide +kernel
theorem dX11_lose_27 : decode cX11_lose 27 = .ok (.invokevirtual 181, 3) := by decide +kernel
theorem dX11_lose_30 : decode cX11_lose 30 = .ok (.istore_n 3, 1) := by decide +kernel
theorem dX11_lose_31 : decode cX11_lose 31 = .ok (.aload_n 2, 1) := by decide +kernel
theorem dX11_lose_32 : decode cX11_lose 32 = .ok (.invokevirtual 267, 3) := by decide +kernel
theorem dX11_lose_35 : decode cX11_lose 35 = .ok (.iload_n 3, 1) := by decide +kernel
theorem dX11_lose_36 : decode cX11_lose 36 = .ok (.ireturn, 1) := by decide +kernel
theorem dX11_lay_0 : decode cX11_lay 0 = .ok (.aload_n 0, 1) := by decide +kernel
theorem dX11_lay_1 : decode cX11_lay 1 = .ok (.iload_n 1, 1) := by decide +kernel
theorem dX11_lay_2 : decode cX11_lay 2 = .ok (.invokevirtual 171, 3) := by decide +kernel
theorem dX11_lay_5 : decode cX11_lay 5 = .ok (.astore 5, 2) := by decide +kernel
theorem dX11_lay_7 : decode cX11_lay 7 = .ok (.aload 5, 2) := by decide +kernel
theorem dX11_lay_9 : decode cX11_lay 9 = .ok (.ifnull 10, 3) := by decide +kernel
theorem dX11_lay_12 : decode cX11_lay 12 = .ok (.iload_n 2, 1) := by decide +kernel
theorem dX11_lay_13 : decode cX11_lay 13 = .ok (.invokestatic 261, 3) := by decide +kernel
theorem dX11_lay_16 : decode cX11_lay 16 = .ok (.ifCond .ne 6, 3) := by decide +kernel
theorem dX11_lay_19 : decode cX11_lay 19 = .ok (.bipush (-2), 2) := by decide +kernel
theorem dX11_lay_21 : decode cX11_lay 21 = .ok (.ireturn, 1) := by decide +kernel
theorem dX11_lay_22 : decode cX11_lay 22 = .ok (.aload_n 0, 1) := by decide +kernel
theorem dX11_lay_23 : decode cX11_lay 23 = .ok (.aload 5, 2) := by decide +kernel
theorem dX11_lay_25 : decode cX11_lay 25 = .ok (.iload_n 2, 1) := by decide +kernel
theorem dX11_lay_26 : decode cX11_lay 26 = .ok (.iload_n 3, 1) := by decide +kernel
theorem dX11_lay_27 : decode cX11_lay 27 = .ok (.invokevirtual 270, 3) := by decide +kernel
theorem dX11_lay_30 : decode cX11_lay 30 = .ok (.istore 6, 2) := by decide +kernel
theorem dX11_lay_32 : decode cX11_lay 32 = .ok (.iload 6, 2) := by decide +kernel
theorem dX11_lay_34 : decode cX11_lay 34 = .ok (.ifCond .eq 6, 3) := by decide +kernel
theorem dX11_lay_37 : decode cX11_lay 37 = .ok (.iload 6, 2) := by decide +kernel
theorem dX11_lay_39 : decode cX11_lay 39 = .ok (.ireturn, 1) := by decide +kernel
theorem dX11_lay_40 : decode cX11_lay 40 = .ok (.aload 5, 2) := by decide +kernel
theorem dX11_lay_42 : decode cX11_lay 42 = .ok (.iload_n 3, 1) := by decide +kernel
theorem dX11_lay_43 : decode cX11_lay 43 = .ok (.iload 4, 2) := by decide +kernel
theorem dX11_lay_45 : decode cX11_lay 45 = .ok (.invokevirtual 274, 3) := by decide +kernel
theorem dX11_lay_48 : decode cX11_lay 48 = .ok (.iconst 1, 1) := by decide +kernel
theorem dX11_lay_49 : decode cX11_lay 49 = .ok (.ireturn, 1) := by decide +kernel
theorem dX11_get_0 : decode cX11_get 0 = .ok (.aload_n 0, 1) := by decide +kernel
theorem dX11_get_1 : decode cX11_get 1 = .ok (.iload_n 1, 1) := by decide +kernel
theorem dX11_get_2 : decode cX11_get 2 = .ok (.invokevirtual 171, 3) := by decide +kernel
theorem dX11_get_5 : decode cX11_get 5 = .ok (.astore 4, 2) := by decide +kernel
theorem dX11_get_7 : decode cX11_get 7 = .ok (.aload 4, 2) := by decide +kernel
theorem dX11_get_9 : decode cX11_get 9 = .ok (.ifnull 21, 3) := by decide +kernel
theorem dX11_get_12 : decode cX11_get 12 = .ok (.iload_n 2, 1) := by decide +kernel
theorem dX11_get_13 : decode cX11_get 13 = .ok (.invokestatic 261, 3) := by decide +kernel
theorem dX11_get_16 : decode cX11_get 16 = .ok (.ifCond .eq 14, 3) := by decide +kernel
theorem dX11_get_19 : decode cX11_get 19 = .ok (.aload_n 0, 1) := by decide +kernel
theorem dX11_get_20 : decode cX11_get 20 = .ok (.aload 4, 2) := by decide +kernel
theorem dX11_get_22 : decode cX11_get 22 = .ok (.iload_n 2, 1) := by decide +kernel
theorem dX11_get_23 : decode cX11_get 23 = .ok (.iload_n 3, 1) := by decide +kernel
theorem dX11_get_24 : decode cX11_get 24 = .ok (.invokevirtual 270, 3) := by decide +kernel
theorem dX11_get_27 : decode cX11_get 27 = .ok (.ifCond .eq 7, 3) := by decide +kernel
theorem dX11_get_30 : decode cX11_get 30 = .ok (.ldc_w 277, 3) := by decide +kernel
theorem dX11_get_33 : decode cX11_get 33 = .ok (.ireturn, 1) := by decide +kernel
theorem dX11_get_34 : decode cX11_get 34 = .ok (.aload 4, 2) := by decide +kernel
theorem dX11_get_36 : decode cX11_get 36 = .ok (.iload_n 3, 1) := by decide +kernel
theorem dX11_get_37 : decode cX11_get 37 = .ok (.invokevirtual 184, 3) := by decide +kernel
theorem dX11_get_40 : decode cX11_get 40 = .ok (.ireturn, 1) := by decide +kernel
theorem dX11_copy_0 : decode cX11_copy 0 = .ok (.aload_n 0, 1) := by decide +kernel
theorem dX11_copy_1 : decode cX11_copy 1 = .ok (.iload_n 1, 1) := by decide +kernel
theorem dX11_copy_2 : decode cX11_copy 2 = .ok (.invokevirtual 171, 3) := by decide +kernel
theorem dX11_copy_5 : decode cX11_copy 5 = .ok (.astore 6, 2) := by decide +kernel
theorem dX11_copy_7 : decode cX11_copy 7 = .ok (.aload_n 0, 1) := by decide +kernel
theorem dX11_copy_8 : decode cX11_copy 8 = .ok (.iload_n 3, 1) := by decide +kernel
theorem dX11_copy_9 : decode cX11_copy 9 = .ok (.invokevirtual 171, 3) := by decide +kernel
theorem dX11_copy_12 : decode cX11_copy 12 = .ok (.astore 7, 2) := by decide +kernel
theorem dX11_copy_14 : decode cX11_copy 14 = .ok (.aload 6, 2) := by decide +kernel
theorem dX11_copy_16 : decode cX11_copy 16 = .ok (.ifnull 8, 3) := by decide +kernel
theorem dX11_copy_19 : decode cX11_copy 19 = .ok (.aload 7, 2) := by decide +kernel
theorem dX11_copy_21 : decode cX11_copy 21 = .ok (.ifnonnull 6, 3) := by decide +kernel
theorem dX11_copy_24 : decode cX11_copy 24 = .ok (.bipush (-2), 2) := by decide +kernel
theorem dX11_copy_26 : decode cX11_copy 26 = .ok (.ireturn, 1) := by decide +kernel
theorem dX11_copy_27 : decode cX11_copy 27 = .ok (.aload 6, 2) := by decide +kernel
theorem dX11_copy_29 : decode cX11_copy 29 = .ok (.invokevirtual 175, 3) := by decide +kernel
theorem dX11_copy_32 : decode cX11_copy 32 = .ok (.ifCond .ne 11, 3) := by decide +kernel
theorem dX11_copy_35 : decode cX11_copy 35 = .ok (.aload 7, 2) := by decide +kernel
theorem dX11_copy_37 : decode cX11_copy 37 = .ok (.invokevirtual 175, 3) := by decide +kernel
theorem dX11_copy_40 : decode cX11_copy 40 = .ok (.ifCond .eq 9, 3) := by decide +kernel
theorem dX11_copy_43 : decode cX11_copy 43 = .ok (.aload_n 0, 1) := by decide +kernel
theorem dX11_copy_44 : decode cX11_copy 44 = .ok (.iconst 1, 1) := by decide +kernel
theorem dX11_copy_45 : decode cX11_copy 45 = .ok (.invokevirtual 178, 3) := by decide +kernel
theorem dX11_copy_48 : decode cX11_copy 48 = .ok (.ireturn, 1) := by decide +kernel
theorem dX11_copy_49 : decode cX11_copy 49 = .ok (.aload 6, 2) := by decide +kernel
theorem dX11_copy_51 : decode cX11_copy 51 = .ok (.invokevirtual 278, 3) := by decide +kernel
theorem dX11_copy_54 : decode cX11_copy 54 = .ok (.aload 7, 2) := by decide +kernel
theorem dX11_copy_56 : decode cX11_copy 56 = .ok (.invokevirtual 278, 3) := by decide +kernel
theorem dX11_copy_59 : decode cX11_copy 59 = .ok (.if_icmp .eq 9, 3) := by decide +kernel
theorem dX11_copy_62 : decode cX11_copy 62 = .ok (.aload_n 0, 1) := by decide +kernel
theorem dX11_copy_63 : decode cX11_copy 63 = .ok (.iconst 4, 1) := by decide +kernel
theorem dX11_copy_64 : decode cX11_copy 64 = .ok (.invokevirtual 178, 3) := by decide +kernel
theorem dX11_copy_67 : decode cX11_copy 67 = .ok (.ireturn, 1) := by decide +kernel
theorem dX11_copy_68 : decode cX11_copy 68 = .ok (.aload 6, 2) := by decide +kernel
theorem dX11_copy_70 : decode cX11_copy 70 = .ok (.iload_n 2, 1) := by decide +kernel
theorem dX11_copy_71 : decode cX11_copy 71 = .ok (.iload 5, 2) := by decide +kernel
theorem dX11_copy_73 : decode cX11_copy 73 = .ok (.invokevirtual 281, 3) := by decide +kernel
theorem dX11_copy_76 : decode cX11_copy 76 = .ok (.ifCond .eq 15, 3) := by decide +kernel
theorem dX11_copy_79 : decode cX11_copy 79 = .ok (.aload 7, 2) := by decide +kernel
theorem dX11_copy_81 : decode cX11_copy 81 = .ok (.iload 4, 2) := by decide +kernel
theorem dX11_copy_83 : decode cX11_copy 83 = .ok (.iload 5, 2) := by decide +kernel
theorem dX11_copy_85 : decode cX11_copy 85 = .ok (.invokevirtual 281, 3) := by decide +kernel
theorem dX11_copy_88 : decode cX11_copy 88 = .ok (.ifCond .ne 9, 3) := by decide +kernel
theorem dX11_copy_91 : decode cX11_copy 91 = .ok (.aload_n 0, 1) := by decide +kernel
theorem dX11_copy_92 : decode cX11_copy 92 = .ok (.iconst 2, 1) := by decide +kernel
theorem dX11_copy_93 : decode cX11_copy 93 = .ok (.invokevirtual 178, 3) := by decide +kernel
theorem dX11_copy_96 : decode cX11_copy 96 = .ok (.ireturn, 1) := by decide +kernel
theorem dX11_copy_97 : decode cX11_copy 97 = .ok (.aload 7, 2) := by decide +kernel
theorem dX11_copy_99 : decode cX11_copy 99 = .ok (.iload 4, 2) := by decide +kernel
theorem dX11_copy_101 : decode cX11_copy 101 = .ok (.aload 6, 2) := by decide +kernel
theorem dX11_copy_103 : decode cX11_copy 103 = .ok (.iload_n 2, 1) := by decide +kernel
theorem dX11_copy_104 : decode cX11_copy 104 = .ok (.iload 5, 2) := by decide +kernel
theorem dX11_copy_106 : decode cX11_copy 106 = .ok (.invokevirtual 284, 3) := by decide +kernel
theorem dX11_copy_109 : decode cX11_copy 109 = .ok (.iconst 1, 1) := by decide +kernel
theorem dX11_copy_110 : decode cX11_copy 110 = .ok (.ireturn, 1) := by decide +kernel
theorem dX11_write_0 : decode cX11_write 0 = .ok (.aload_n 0, 1) := by decide +kernel
theorem dX11_write_1 : decode cX11_write 1 = .ok (.iload_n 2, 1) := by decide +kernel
theorem dX11_write_2 : decode cX11_write 2 = .ok (.invokevirtual 171, 3) := by decide +kernel
theorem dX11_write_5 : decode cX11_write 5 = .ok (.astore_n 3, 1) := by decide +kernel
theorem dX11_write_6 : decode cX11_write 6 = .ok (.aload_n 3, 1) := by decide +kernel
theorem dX11_write_7 : decode cX11_write 7 = .ok (.ifnull 11, 3) := by decide +kernel
theorem dX11_write_10 : decode cX11_write 10 = .ok (.aload_n 0, 1) := by decide +kernel
theorem dX11_write_11 : decode cX11_write 11 = .ok (.iload_n 1, 1) := by decide +kernel
theorem dX11_write_12 : decode cX11_write 12 = .ok (.invokevirtual 201, 3) := by decide +kernel
theorem dX11_write_15 : decode cX11_write 15 = .ok (.ifCond .ne 6, 3) := by decide +kernel
theorem dX11_write_18 : decode cX11_write 18 = .ok (.bipush (-2), 2) := by decide +kernel
theorem dX11_write_20 : decode cX11_write 20 = .ok (.ireturn, 1) := by decide +kernel
theorem dX11_write_21 : decode cX11_write 21 = .ok (.aload_n 3, 1) := by decide +kernel
theorem dX11_write_22 : decode cX11_write 22 = .ok (.invokevirtual 175, 3) := by decide +kernel
theorem dX11_write_25 : decode cX11_write 25 = .ok (.ifCond .eq 9, 3) := by decide +kernel
theorem dX11_write_28 : decode cX11_write 28 = .ok (.aload_n 0, 1) := by decide +kernel
theorem dX11_write_29 : decode cX11_write 29 = .ok (.iconst 1, 1) := by decide +kernel
theorem dX11_write_30 : decode cX11_write 30 = .ok (.invokevirtual 178, 3) := by decide +kernel
theorem dX11_write_33 : decode cX11_write 33 = .ok (.ireturn, 1) := by decide +kernel
theorem dX11_write_34 : decode cX11_write 34 = .ok (.aload_n 0, 1) := by decide +kernel
theorem dX11_write_35 : decode cX11_write 35 = .ok (.getfield 56, 3) := by decide +kernel
theorem dX11_write_38 : decode cX11_write 38 = .ok (.iload_n 1, 1) := by decide +kernel
theorem dX11_write_39 : decode cX11_write 39 = .ok (.iconst (-1), 1) := by decide +kernel
theorem dX11_write_40 : decode cX11_write 40 = .ok (.invokevirtual 190, 3) := by decide +kernel
theorem dX11_write_43 : decode cX11_write 43 = .ok (.aload_n 3, 1) := by decide +kernel
theorem dX11_write_44 : decode cX11_write 44 = .ok (.invokevirtual 181, 3) := by decide +kernel
theorem dX11_write_47 : decode cX11_write 47 = .ok (.aload_n 0, 1) := by decide +kernel
theorem dX11_write_48 : decode cX11_write 48 = .ok (.getfield 26, 3) := by decide +kernel
theorem dX11_write_51 : decode cX11_write 51 = .ok (.invokevirtual 288, 3) := by decide +kernel
theorem dX11_write_54 : decode cX11_write 54 = .ok (.invokestatic 289, 3) := by decide +kernel
theorem dX11_write_57 : decode cX11_write 57 = .ok (.istore 4, 2) := by decide +kernel
theorem dX11_write_59 : decode cX11_write 59 = .ok (.iconst 0, 1) := by decide +kernel
theorem dX11_write_60 : decode cX11_write 60 = .ok (.istore 5, 2) := by decide +kernel
theorem dX11_write_62 : decode cX11_write 62 = .ok (.iload 5, 2) := by decide +kernel
theorem dX11_write_64 : decode cX11_write 64 = .ok (.iload 4, 2) := by decide +kernel
theorem dX11_write_66 : decode cX11_write 66 = .ok (.if_icmp .ge 24, 3) := by decide +kernel
theorem dX11_write_69 : decode cX11_write 69 = .ok (.aload_n 3, 1) := by decide +kernel
theorem dX11_write_70 : decode cX11_write 70 = .ok (.iload 5, 2) := by decide +kernel
theorem dX11_write_72 : decode cX11_write 72 = .ok (.aload_n 0, 1) := by decide +kernel
theorem dX11_write_73 : decode cX11_write 73 = .ok (.getfield 56, 3) := by decide +kernel
theorem dX11_write_76 : decode cX11_write 76 = .ok (.iload 5, 2) := by decide +kernel
theorem dX11_write_78 : decode cX11_write 78 = .ok (.invokevirtual 204, 3) := by decide +kernel
theorem dX11_write_81 : decode cX11_write 81 = .ok (.invokevirtual 274, 3) := by decide +kernel
theorem dX11_write_84 : decode cX11_write 84 = .ok (.iinc 5 1, 3) := by decide +kernel
theorem dX11_write_87 : decode cX11_write 87 = .ok (.goto (-25), 3) := by decide +kernel
theorem dX11_write_90 : decode cX11_write 90 = .ok (.iload 4, 2) := by decide +kernel
theorem dX11_write_92 : decode cX11_write 92 = .ok (.ireturn, 1) := by decide +kernel
theorem dX11_count_0 : decode cX11_count 0 = .ok (.iload_n 1, 1) := by decide +kernel
theorem dX11_count_1 : decode cX11_count 1 = .ok (.tableswitch 135 0 8 #[51, 59, 67, 75, 83, 91, 114, 122, 130], 51) := by decide +kernel
theorem dX11_count_52 : decode cX11_count 52 = .ok (.aload_n 0, 1) := by decide +kernel
theorem dX11_count_53 : decode cX11_count 53 = .ok (.getfield 26, 3) := by decide +kernel
theorem dX11_count_56 : decode cX11_count 56 = .ok (.invokevirtual 288, 3) := by decide +kernel
theorem dX11_count_59 : decode cX11_count 59 = .ok (.ireturn, 1) := by decide +kernel
theorem dX11_count_60 : decode cX11_count 60 = .ok (.aload_n 0, 1) := by decide +kernel
theorem dX11_count_61 : decode cX11_count 61 = .ok (.getfield 33, 3) := by decide +kernel
theorem dX11_count_64 : decode cX11_count 64 = .ok (.invokevirtual 225, 3) := by decide +kernel
theorem dX11_count_67 : decode cX11_count 67 = .ok (.ireturn, 1) := by decide +kernel
theorem dX11_count_68 : decode cX11_count 68 = .ok (.aload_n 0, 1) := by decide +kernel
theorem dX11_count_69 : decode cX11_count 69 = .ok (.getfield 16, 3) := by decide +kernel
theorem dX11_count_72 : decode cX11_count 72 = .ok (.invokevirtual 112, 3) := by decide +kernel
theorem dX11_count_75 : decode cX11_count 75 = .ok (.ireturn, 1) := by decide +kernel
theorem dX11_count_76 : decode cX11_count 76 = .ok (.aload_n 0, 1) := by decide +kernel
theorem dX11_count_77 : decode cX11_count 77 = .ok (.getfield 20, 3) := by decide +kernel
theorem dX11_count_80 : decode cX11_count 80 = .ok (.invokevirtual 112, 3) := by decide +kernel
theorem dX11_count_83 : decode cX11_count 83 = .ok (.ireturn, 1) := by decide +kernel
theorem dX11_count_84 : decode cX11_count 84 = .ok (.aload_n 0, 1) := by decide +kernel
theorem dX11_count_85 : decode cX11_count 85 = .ok (.getfield 47, 3) := by decide +kernel
theorem dX11_count_88 : decode cX11_count 88 = .ok (.invokevirtual 165, 3) := by decide +kernel
theorem dX11_count_91 : decode cX11_count 91 = .ok (.ireturn, 1) := by decide +kernel
theorem dX11_count_92 : decode cX11_count 92 = .ok (.aload_n 0, 1) := by decide +kernel
theorem dX11_count_93 : decode cX11_count 93 = .ok (.getfield 56, 3) := by decide +kernel
theorem dX11_count_96 : decode cX11_count 96 = .ok (.aload_n 0, 1) := by decide +kernel
theorem dX11_count_97 : decode cX11_count 97 = .ok (.getfield 47, 3) := by decide +kernel
theorem dX11_count_100 : decode cX11_count 100 = .ok (.invokevirtual 165, 3) := by decide +kernel
theorem dX11_count_103 : decode cX11_count 103 = .ok (.iconst (-1), 1) := by decide +kernel
theorem dX11_count_104 : decode cX11_count 104 = .ok (.invokevirtual 190, 3) := by decide +kernel
theorem dX11_count_107 : decode cX11_count 107 = .ok (.aload_n 0, 1) := by decide +kernel
theorem dX11_count_108 : decode cX11_count 108 = .ok (.getfield 56, 3) := by decide +kernel
theorem dX11_count_111 : decode cX11_count 111 = .ok (.invokevirtual 292, 3) := by decide +kernel
theorem dX11_count_114 : decode cX11_count 114 = .ok (.ireturn, 1) := by decide +kernel
theorem dX11_count_115 : decode cX11_count 115 = .ok (.aload_n 0, 1) := by decide +kernel
theorem dX11_count_116 : decode cX11_count 116 = .ok (.getfield 40, 3) := by decide +kernel
theorem dX11_count_119 : decode cX11_count 119 = .ok (.invokevirtual 295, 3) := by decide +kernel
theorem dX11_count_122 : decode cX11_count 122 = .ok (.ireturn, 1) := by decide +kernel
theorem dX11_count_123 : decode cX11_count 123 = .ok (.aload_n 0, 1) := by decide +kernel
theorem dX11_count_124 : decode cX11_count 124 = .ok (.getfield 79, 3) := by decide +kernel
theorem dX11_count_127 : decode cX11_count 127 = .ok (.invokevirtual 234, 3) := by decide +kernel
theorem dX11_count_130 : decode cX11_count 130 = .ok (.ireturn, 1) := by decide +kernel
theorem dX11_count_131 : decode cX11_count 131 = .ok (.aload_n 0, 1) := by decide +kernel
theorem dX11_count_132 : decode cX11_count 132 = .ok (.getfield 89, 3) := by decide +kernel
theorem dX11_count_135 : decode cX11_count 135 = .ok (.ireturn, 1) := by decide +kernel
theorem dX11_count_136 : decode cX11_count 136 = .ok (.bipush (-2), 2) := by decide +kernel
theorem dX11_count_138 : decode cX11_count 138 = .ok (.ireturn, 1) := by decide +kernel
theorem dX11_digest_0 : decode cX11_digest 0 = .ok (.ldc2_w 298, 3) := by decide +kernel
theorem dX11_digest_3 : decode cX11_digest 3 = .ok (.lstore_n 1, 1) := by decide +kernel
theorem dX11_digest_4 : decode cX11_digest 4 = .ok (.iconst 0, 1) := by decide +kernel
theorem dX11_digest_5 : decode cX11_digest 5 = .ok (.istore_n 3, 1) := by decide +kernel
theorem dX11_digest_6 : decode cX11_digest 6 = .ok (.iload_n 3, 1) := by decide +kernel
theorem dX11_digest_7 : decode cX11_digest 7 = .ok (.bipush 7, 2) := by decide +kernel
theorem dX11_digest_9 : decode cX11_digest 9 = .ok (.if_icmp .gt 22, 3) := by decide +kernel
theorem dX11_digest_12 : decode cX11_digest 12 = .ok (.ldc2_w 300, 3) := by decide +kernel
theorem dX11_digest_15 : decode cX11_digest 15 = .ok (.lload_n 1, 1) := by decide +kernel
theorem dX11_digest_16 : decode cX11_digest 16 = .ok (.lmul, 1) := by decide +kernel
theorem dX11_digest_17 : decode cX11_digest 17 = .ok (.aload_n 0, 1) := by decide +kernel
theorem dX11_digest_18 : decode cX11_digest 18 = .ok (.iload_n 3, 1) := by decide +kernel
theorem dX11_digest_19 : decode cX11_digest 19 = .ok (.invokevirtual 302, 3) := by decide +kernel
theorem dX11_digest_22 : decode cX11_digest 22 = .ok (.i2l, 1) := by decide +kernel
theorem dX11_digest_23 : decode cX11_digest 23 = .ok (.ladd, 1) := by decide +kernel
theorem dX11_digest_24 : decode cX11_digest 24 = .ok (.lstore_n 1, 1) := by decide +kernel
theorem dX11_digest_25 : decode cX11_digest 25 = .ok (.iinc 3 1, 3) := by decide +kernel
theorem dX11_digest_28 : decode cX11_digest 28 = .ok (.goto (-22), 3) := by decide +kernel
theorem dX11_digest_31 : decode cX11_digest 31 = .ok (.ldc2_w 300, 3) := by decide +kernel
theorem dX11_digest_34 : decode cX11_digest 34 = .ok (.lload_n 1, 1) := by decide +kernel
theorem dX11_digest_35 : decode cX11_digest 35 = .ok (.lmul, 1) := by decide +kernel
theorem dX11_digest_36 : decode cX11_digest 36 = .ok (.aload_n 0, 1) := by decide +kernel
theorem dX11_digest_37 : decode cX11_digest 37 = .ok (.iconst 0, 1) := by decide +kernel
theorem dX11_digest_38 : decode cX11_digest 38 = .ok (.invokevirtual 305, 3) := by decide +kernel
theorem dX11_digest_41 : decode cX11_digest 41 = .ok (.i2l, 1) := by decide +kernel
theorem dX11_digest_42 : decode cX11_digest 42 = .ok (.ladd, 1) := by decide +kernel
theorem dX11_digest_43 : decode cX11_digest 43 = .ok (.lstore_n 1, 1) := by decide +kernel
theorem dX11_digest_44 : decode cX11_digest 44 = .ok (.ldc2_w 300, 3) := by decide +kernel
theorem dX11_digest_47 : decode cX11_digest 47 = .ok (.lload_n 1, 1) := by decide +kernel
theorem dX11_digest_48 : decode cX11_digest 48 = .ok (.lmul, 1) := by decide +kernel
theorem dX11_digest_49 : decode cX11_digest 49 = .ok (.aload_n 0, 1) := by decide +kernel
theorem dX11_digest_50 : decode cX11_digest 50 = .ok (.iconst 1, 1) := by decide +kernel
theorem dX11_digest_51 : decode cX11_digest 51 = .ok (.invokevirtual 305, 3) := by decide +kernel
theorem dX11_digest_54 : decode cX11_digest 54 = .ok (.i2l, 1) := by decide +kernel
theorem dX11_digest_55 : decode cX11_digest 55 = .ok (.ladd, 1) := by decide +kernel
theorem dX11_digest_56 : decode cX11_digest 56 = .ok (.lstore_n 1, 1) := by decide +kernel
theorem dX11_digest_57 : decode cX11_digest 57 = .ok (.ldc2_w 300, 3) := by decide +kernel
theorem dX11_digest_60 : decode cX11_digest 60 = .ok (.lload_n 1, 1) := by decide +kernel
theorem dX11_digest_61 : decode cX11_digest 61 = .ok (.lmul, 1) := by decide +kernel
theorem dX11_digest_62 : decode cX11_digest 62 = .ok (.aload_n 0, 1) := by decide +kernel
theorem dX11_digest_63 : decode cX11_digest 63 = .ok (.invokevirtual 308, 3) := by decide +kernel
theorem dX11_digest_66 : decode cX11_digest 66 = .ok (.i2l, 1) := by decide +kernel
theorem dX11_digest_67 : decode cX11_digest 67 = .ok (.ladd, 1) := by decide +kernel
theorem dX11_digest_68 : decode cX11_digest 68 = .ok (.lstore_n 1, 1) := by decide +kernel
theorem dX11_digest_69 : decode cX11_digest 69 = .ok (.iconst 0, 1) := by decide +kernel
theorem dX11_digest_70 : decode cX11_digest 70 = .ok (.istore_n 3, 1) := by decide +kernel
theorem dX11_digest_71 : decode cX11_digest 71 = .ok (.iload_n 3, 1) := by decide +kernel
theorem dX11_digest_72 : decode cX11_digest 72 = .ok (.aload_n 0, 1) := by decide +kernel
theorem dX11_digest_73 : decode cX11_digest 73 = .ok (.getfield 47, 3) := by decide +kernel
theorem dX11_digest_76 : decode cX11_digest 76 = .ok (.invokevirtual 165, 3) := by decide +kernel
theorem dX11_digest_79 : decode cX11_digest 79 = .ok (.if_icmp .ge 36, 3) := by decide +kernel
theorem dX11_digest_82 : decode cX11_digest 82 = .ok (.ldc2_w 300, 3) := by decide +kernel
theorem dX11_digest_85 : decode cX11_digest 85 = .ok (.lload_n 1, 1) := by decide +kernel
theorem dX11_digest_86 : decode cX11_digest 86 = .ok (.lmul, 1) := by decide +kernel
theorem dX11_digest_87 : decode cX11_digest 87 = .ok (.aload_n 0, 1) := by decide +kernel
theorem dX11_digest_88 : decode cX11_digest 88 = .ok (.iload_n 3, 1) := by decide +kernel
theorem dX11_digest_89 : decode cX11_digest 89 = .ok (.invokevirtual 311, 3) := by decide +kernel
theorem dX11_digest_92 : decode cX11_digest 92 = .ok (.i2l, 1) := by decide +kernel
theorem dX11_digest_93 : decode cX11_digest 93 = .ok (.ladd, 1) := by decide +kernel
theorem dX11_digest_94 : decode cX11_digest 94 = .ok (.lstore_n 1, 1) := by decide +kernel
theorem dX11_digest_95 : decode cX11_digest 95 = .ok (.ldc2_w 300, 3) := by decide +kernel
theorem dX11_digest_98 : decode cX11_digest 98 = .ok (.lload_n 1, 1) := by decide +kernel
theorem dX11_digest_99 : decode cX11_digest 99 = .ok (.lmul, 1) := by decide +kernel
theorem dX11_digest_100 : decode cX11_digest 100 = .ok (.aload_n 0, 1) := by decide +kernel
theorem dX11_digest_101 : decode cX11_digest 101 = .ok (.iload_n 3, 1) := by decide +kernel
theorem dX11_digest_102 : decode cX11_digest 102 = .ok (.iconst 0, 1) := by decide +kernel
theorem dX11_digest_103 : decode cX11_digest 103 = .ok (.invokevirtual 314, 3) := by decide +kernel
theorem dX11_digest_106 : decode cX11_digest 106 = .ok (.i2l, 1) := by decide +kernel
theorem dX11_digest_107 : decode cX11_digest 107 = .ok (.ladd, 1) := by decide +kernel
theorem dX11_digest_108 : decode cX11_digest 108 = .ok (.lstore_n 1, 1) := by decide +kernel
theorem dX11_digest_109 : decode cX11_digest 109 = .ok (.iinc 3 1, 3) := by decide +kernel
theorem dX11_digest_112 : decode cX11_digest 112 = .ok (.goto (-41), 3) := by decide +kernel
theorem dX11_digest_115 : decode cX11_digest 115 = .ok (.iconst 0, 1) := by decide +kernel
theorem dX11_digest_116 : decode cX11_digest 116 = .ok (.istore_n 3, 1) := by decide +kernel
theorem dX11_digest_117 : decode cX11_digest 117 = .ok (.iload_n 3, 1) := by decide +kernel
theorem dX11_digest_118 : decode cX11_digest 118 = .ok (.aload_n 0, 1) := by decide +kernel
theorem dX11_digest_119 : decode cX11_digest 119 = .ok (.getfield 26, 3) := by decide +kernel
theorem dX11_digest_122 : decode cX11_digest 122 = .ok (.invokevirtual 288, 3) := by decide +kernel
theorem dX11_digest_125 : decode cX11_digest 125 = .ok (.if_icmp .ge 106, 3) := by decide +kernel
theorem dX11_digest_128 : decode cX11_digest 128 = .ok (.ldc2_w 300, 3) := by decide +kernel
theorem dX11_digest_131 : decode cX11_digest 131 = .ok (.lload_n 1, 1) := by decide +kernel
theorem dX11_digest_132 : decode cX11_digest 132 = .ok (.lmul, 1) := by decide +kernel
theorem dX11_digest_133 : decode cX11_digest 133 = .ok (.aload_n 0, 1) := by decide +kernel
theorem dX11_digest_134 : decode cX11_digest 134 = .ok (.iload_n 3, 1) := by decide +kernel
theorem dX11_digest_135 : decode cX11_digest 135 = .ok (.aload_n 0, 1) := by decide +kernel
theorem dX11_digest_136 : decode cX11_digest 136 = .ok (.getfield 47, 3) := by decide +kernel
theorem dX11_digest_139 : decode cX11_digest 139 = .ok (.invokevirtual 165, 3) := by decide +kernel
theorem dX11_digest_142 : decode cX11_digest 142 = .ok (.invokevirtual 317, 3) := by decide +kernel
theorem dX11_digest_145 : decode cX11_digest 145 = .ok (.i2l, 1) := by decide +kernel
theorem dX11_digest_146 : decode cX11_digest 146 = .ok (.ladd, 1) := by decide +kernel
theorem dX11_digest_147 : decode cX11_digest 147 = .ok (.lstore_n 1, 1) := by decide +kernel
theorem dX11_digest_148 : decode cX11_digest 148 = .ok (.ldc2_w 300, 3) := by decide +kernel
theorem dX11_digest_151 : decode cX11_digest 151 = .ok (.lload_n 1, 1) := by decide +kernel
theorem dX11_digest_152 : decode cX11_digest 152 = .ok (.lmul, 1) := by decide +kernel
theorem dX11_digest_153 : decode cX11_digest 153 = .ok (.aload_n 0, 1) := by decide +kernel
theorem dX11_digest_154 : decode cX11_digest 154 = .ok (.iload_n 3, 1) := by decide +kernel
theorem dX11_digest_155 : decode cX11_digest 155 = .ok (.sipush 150, 3) := by decide +kernel
theorem dX11_digest_158 : decode cX11_digest 158 = .ok (.invokevirtual 320, 3) := by decide +kernel
theorem dX11_digest_161 : decode cX11_digest 161 = .ok (.i2l, 1) := by decide +kernel
theorem dX11_digest_162 : decode cX11_digest 162 = .ok (.ladd, 1) := by decide +kernel
theorem dX11_digest_163 : decode cX11_digest 163 = .ok (.lstore_n 1, 1) := by decide +kernel
theorem dX11_digest_164 : decode cX11_digest 164 = .ok (.ldc2_w 300, 3) := by decide +kernel
theorem dX11_digest_167 : decode cX11_digest 167 = .ok (.lload_n 1, 1) := by decide +kernel
theorem dX11_digest_168 : decode cX11_digest 168 = .ok (.lmul, 1) := by decide +kernel
theorem dX11_digest_169 : decode cX11_digest 169 = .ok (.aload_n 0, 1) := by decide +kernel
theorem dX11_digest_170 : decode cX11_digest 170 = .ok (.iload_n 3, 1) := by decide +kernel
theorem dX11_digest_171 : decode cX11_digest 171 = .ok (.iconst 2, 1) := by decide +kernel
theorem dX11_digest_172 : decode cX11_digest 172 = .ok (.invokevirtual 323, 3) := by decide +kernel
theorem dX11_digest_175 : decode cX11_digest 175 = .ok (.i2l, 1) := by decide +kernel
theorem dX11_digest_176 : decode cX11_digest 176 = .ok (.ladd, 1) := by decide +kernel
theorem dX11_digest_177 : decode cX11_digest 177 = .ok (.lstore_n 1, 1) := by decide +kernel
theorem dX11_digest_178 : decode cX11_digest 178 = .ok (.ldc2_w 300, 3) := by decide +kernel
theorem dX11_digest_181 : decode cX11_digest 181 = .ok (.lload_n 1, 1) := by decide +kernel
theorem dX11_digest_182 : decode cX11_digest 182 = .ok (.lmul, 1) := by decide +kernel
theorem dX11_digest_183 : decode cX11_digest 183 = .ok (.aload_n 0, 1) := by decide +kernel
theorem dX11_digest_184 : decode cX11_digest 184 = .ok (.iload_n 3, 1) := by decide +kernel
theorem dX11_digest_185 : decode cX11_digest 185 = .ok (.invokevirtual 326, 3) := by decide +kernel
theorem dX11_digest_188 : decode cX11_digest 188 = .ok (.i2l, 1) := by decide +kernel
theorem dX11_digest_189 : decode cX11_digest 189 = .ok (.ladd, 1) := by decide +kernel
theorem dX11_digest_190 : decode cX11_digest 190 = .ok (.lstore_n 1, 1) := by decide +kernel
theorem dX11_digest_191 : decode cX11_digest 191 = .ok (.ldc2_w 300, 3) := by decide +kernel
theorem dX11_digest_194 : decode cX11_digest 194 = .ok (.lload_n 1, 1) := by decide +kernel
theorem dX11_digest_195 : decode cX11_digest 195 = .ok (.lmul, 1) := by decide +kernel
theorem dX11_digest_196 : decode cX11_digest 196 = .ok (.aload_n 0, 1) := by decide +kernel
theorem dX11_digest_197 : decode cX11_digest 197 = .ok (.iload_n 3, 1) := by decide +kernel
theorem dX11_digest_198 : decode cX11_digest 198 = .ok (.iload_n 3, 1) := by decide +kernel
theorem dX11_digest_199 : decode cX11_digest 199 = .ok (.iconst 1, 1) := by decide +kernel
theorem dX11_digest_200 : decode cX11_digest 200 = .ok (.iadd, 1) := by decide +kernel
theorem dX11_digest_201 : decode cX11_digest 201 = .ok (.iconst 0, 1) := by decide +kernel
theorem dX11_digest_202 : decode cX11_digest 202 = .ok (.invokevirtual 329, 3) := by decide +kernel
theorem dX11_digest_205 : decode cX11_digest 205 = .ok (.i2l, 1) := by decide +kernel
theorem dX11_digest_206 : decode cX11_digest 206 = .ok (.ladd, 1) := by decide +kernel
theorem dX11_digest_207 : decode cX11_digest 207 = .ok (.lstore_n 1, 1) := by decide +kernel
theorem dX11_digest_208 : decode cX11_digest 208 = .ok (.ldc2_w 300, 3) := by decide +kernel
theorem dX11_digest_211 : decode cX11_digest 211 = .ok (.lload_n 1, 1) := by decide +kernel
theorem dX11_digest_212 : decode cX11_digest 212 = .ok (.lmul, 1) := by decide +kernel
theorem dX11_digest_213 : decode cX11_digest 213 = .ok (.aload_n 0, 1) := by decide +kernel
theorem dX11_digest_214 : decode cX11_digest 214 = .ok (.iload_n 3, 1) := by decide +kernel
theorem dX11_digest_215 : decode cX11_digest 215 = .ok (.iload_n 3, 1) := by decide +kernel
theorem dX11_digest_216 : decode cX11_digest 216 = .ok (.iconst 1, 1) := by decide +kernel
theorem dX11_digest_217 : decode cX11_digest 217 = .ok (.iadd, 1) := by decide +kernel
theorem dX11_digest_218 : decode cX11_digest 218 = .ok (.iconst 1, 1) := by decide +kernel
theorem dX11_digest_219 : decode cX11_digest 219 = .ok (.invokevirtual 329, 3) := by decide +kernel
theorem dX11_digest_222 : decode cX11_digest 222 = .ok (.i2l, 1) := by decide +kernel
theorem dX11_digest_223 : decode cX11_digest 223 = .ok (.ladd, 1) := by decide +kernel
theorem dX11_digest_224 : decode cX11_digest 224 = .ok (.lstore_n 1, 1) := by decide +kernel
theorem dX11_digest_225 : decode cX11_digest 225 = .ok (.iinc 3 1, 3) := by decide +kernel
theorem dX11_digest_228 : decode cX11_digest 228 = .ok (.goto (-111), 3) := by decide +kernel
theorem dX11_digest_231 : decode cX11_digest 231 = .ok (.iconst 0, 1) := by decide +kernel
theorem dX11_digest_232 : decode cX11_digest 232 = .ok (.istore_n 3, 1) := by decide +kernel
theorem dX11_digest_233 : decode cX11_digest 233 = .ok (.iload_n 3, 1) := by decide +kernel
theorem dX11_digest_234 : decode cX11_digest 234 = .ok (.aload_n 0, 1) := by decide +kernel
theorem dX11_digest_235 : decode cX11_digest 235 = .ok (.getfield 33, 3) := by decide +kernel
theorem dX11_digest_238 : decode cX11_digest 238 = .ok (.invokevirtual 225, 3) := by decide +kernel
theorem dX11_digest_241 : decode cX11_digest 241 = .ok (.if_icmp .ge 104, 3) := by decide +kernel
theorem dX11_digest_244 : decode cX11_digest 244 = .ok (.iconst 0, 1) := by decide +kernel
theorem dX11_digest_245 : decode cX11_digest 245 = .ok (.istore 4, 2) := by decide +kernel
theorem dX11_digest_247 : decode cX11_digest 247 = .ok (.iload 4, 2) := by decide +kernel
theorem dX11_digest_249 : decode cX11_digest 249 = .ok (.iconst 3, 1) := by decide +kernel
theorem dX11_digest_250 : decode cX11_digest 250 = .ok (.if_icmp .gt 24, 3) := by decide +kernel
theorem dX11_digest_253 : decode cX11_digest 253 = .ok (.ldc2_w 300, 3) := by decide +kernel
theorem dX11_digest_256 : decode cX11_digest 256 = .ok (.lload_n 1, 1) := by decide +kernel
theorem dX11_digest_257 : decode cX11_digest 257 = .ok (.lmul, 1) := by decide +kernel
theorem dX11_digest_258 : decode cX11_digest 258 = .ok (.aload_n 0, 1) := by decide +kernel
theorem dX11_digest_259 : decode cX11_digest 259 = .ok (.iload_n 3, 1) := by decide +kernel
theorem dX11_digest_260 : decode cX11_digest 260 = .ok (.iload 4, 2) := by decide +kernel
theorem dX11_digest_262 : decode cX11_digest 262 = .ok (.invokevirtual 333, 3) := by decide +kernel
theorem dX11_digest_265 : decode cX11_digest 265 = .ok (.i2l, 1) := by decide +kernel
theorem dX11_digest_266 : decode cX11_digest 266 = .ok (.ladd, 1) := by decide +kernel
theorem dX11_digest_267 : decode cX11_digest 267 = .ok (.lstore_n 1, 1) := by decide +kernel
theorem dX11_digest_268 : decode cX11_digest 268 = .ok (.iinc 4 1, 3) := by decide +kernel
theorem dX11_digest_271 : decode cX11_digest 271 = .ok (.goto (-24), 3) := by decide +kernel
theorem dX11_digest_274 : decode cX11_digest 274 = .ok (.ldc2_w 300, 3) := by decide +kernel
theorem dX11_digest_277 : decode cX11_digest 277 = .ok (.lload_n 1, 1) := by decide +kernel
theorem dX11_digest_278 : decode cX11_digest 278 = .ok (.lmul, 1) := by decide +kernel
theorem dX11_digest_279 : decode cX11_digest 279 = .ok (.aload_n 0, 1) := by decide +kernel
theorem dX11_digest_280 : decode cX11_digest 280 = .ok (.iload_n 3, 1) := by decide +kernel
theorem dX11_digest_281 : decode cX11_digest 281 = .ok (.bipush 6, 2) := by decide +kernel
theorem dX11_digest_283 : decode cX11_digest 283 = .ok (.invokevirtual 336, 3) := by decide +kernel
theorem dX11_digest_286 : decode cX11_digest 286 = .ok (.i2l, 1) := by decide +kernel
theorem dX11_digest_287 : decode cX11_digest 287 = .ok (.ladd, 1) := by decide +kernel
theorem dX11_digest_288 : decode cX11_digest 288 = .ok (.lstore_n 1, 1) := by decide +kernel
theorem dX11_digest_289 : decode cX11_digest 289 = .ok (.iconst 0, 1) := by decide +kernel
theorem dX11_digest_290 : decode cX11_digest 290 = .ok (.istore 4, 2) := by decide +kernel
theorem dX11_digest_292 : decode cX11_digest 292 = .ok (.iload 4, 2) := by decide +kernel
theorem dX11_digest_294 : decode cX11_digest 294 = .ok (.iconst 2, 1) := by decide +kernel
theorem dX11_digest_295 : decode cX11_digest 295 = .ok (.if_icmp .gt 31, 3) := by decide +kernel
theorem dX11_digest_298 : decode cX11_digest 298 = .ok (.ldc2_w 300, 3) := by decide +kernel
theorem dX11_digest_301 : decode cX11_digest 301 = .ok (.lload_n 1, 1) := by decide +kernel
theorem dX11_digest_302 : decode cX11_digest 302 = .ok (.lmul, 1) := by decide +kernel
theorem dX11_digest_303 : decode cX11_digest 303 = .ok (.aload_n 0, 1) := by decide +kernel
theorem dX11_digest_304 : decode cX11_digest 304 = .ok (.iload_n 3, 1) := by decide +kernel
theorem dX11_digest_305 : decode cX11_digest 305 = .ok (.aload_n 0, 1) := by decide +kernel
theorem dX11_digest_306 : decode cX11_digest 306 = .ok (.getfield 47, 3) := by decide +kernel
theorem dX11_digest_309 : decode cX11_digest 309 = .ok (.invokevirtual 165, 3) := by decide +kernel
theorem dX11_digest_312 : decode cX11_digest 312 = .ok (.iload 4, 2) := by decide +kernel
theorem dX11_digest_314 : decode cX11_digest 314 = .ok (.invokevirtual 339, 3) := by decide +kernel
theorem dX11_digest_317 : decode cX11_digest 317 = .ok (.i2l, 1) := by decide +kernel
theorem dX11_digest_318 : decode cX11_digest 318 = .ok (.ladd, 1) := by decide +kernel
theorem dX11_digest_319 : decode cX11_digest 319 = .ok (.lstore_n 1, 1) := by decide +kernel
theorem dX11_digest_320 : decode cX11_digest 320 = .ok (.iinc 4 1, 3) := by decide +kernel
theorem dX11_digest_323 : decode cX11_digest 323 = .ok (.goto (-31), 3) := by decide +kernel
theorem dX11_digest_326 : decode cX11_digest 326 = .ok (.ldc2_w 300, 3) := by decide +kernel
theorem dX11_digest_329 : decode cX11_digest 329 = .ok (.lload_n 1, 1) := by decide +kernel
theorem dX11_digest_330 : decode cX11_digest 330 = .ok (.lmul, 1) := by decide +kernel
theorem dX11_digest_331 : decode cX11_digest 331 = .ok (.aload_n 0, 1) := by decide +kernel
theorem dX11_digest_332 : decode cX11_digest 332 = .ok (.iload_n 3, 1) := by decide +kernel
theorem dX11_digest_333 : decode cX11_digest 333 = .ok (.invokevirtual 342, 3) := by decide +kernel
theorem dX11_digest_336 : decode cX11_digest 336 = .ok (.i2l, 1) := by decide +kernel
theorem dX11_digest_337 : decode cX11_digest 337 = .ok (.ladd, 1) := by decide +kernel
theorem dX11_digest_338 : decode cX11_digest 338 = .ok (.lstore_n 1, 1) := by decide +kernel
theorem dX11_digest_339 : decode cX11_digest 339 = .ok (.iinc 3 1, 3) := by decide +kernel
theorem dX11_digest_342 : decode cX11_digest 342 = .ok (.goto (-109), 3) := by decide +kernel
theorem dX11_digest_345 : decode cX11_digest 345 = .ok (.ldc2_w 300, 3) := by decide +kernel
theorem dX11_digest_348 : decode cX11_digest 348 = .ok (.lload_n 1, 1) := by decide +kernel
theorem dX11_digest_349 : decode cX11_digest 349 = .ok (.lmul, 1) := by decide +kernel
theorem dX11_digest_350 : decode cX11_digest 350 = .ok (.aload_n 0, 1) := by decide +kernel
theorem dX11_digest_351 : decode cX11_digest 351 = .ok (.aload_n 0, 1) := by decide +kernel
theorem dX11_digest_352 : decode cX11_digest 352 = .ok (.getfield 47, 3) := by decide +kernel
theorem dX11_digest_355 : decode cX11_digest 355 = .ok (.invokevirtual 165, 3) := by decide +kernel
theorem dX11_digest_358 : decode cX11_digest 358 = .ok (.invokevirtual 345, 3) := by decide +kernel
theorem dX11_digest_361 : decode cX11_digest 361 = .ok (.i2l, 1) := by decide +kernel
theorem dX11_digest_362 : decode cX11_digest 362 = .ok (.ladd, 1) := by decide +kernel
theorem dX11_digest_363 : decode cX11_digest 363 = .ok (.lstore_n 1, 1) := by decide +kernel
theorem dX11_digest_364 : decode cX11_digest 364 = .ok (.ldc2_w 300, 3) := by decide +kernel
theorem dX11_digest_367 : decode cX11_digest 367 = .ok (.lload_n 1, 1) := by decide +kernel
theorem dX11_digest_368 : decode cX11_digest 368 = .ok (.lmul, 1) := by decide +kernel
theorem dX11_digest_369 : decode cX11_digest 369 = .ok (.aload_n 0, 1) := by decide +kernel
theorem dX11_digest_370 : decode cX11_digest 370 = .ok (.invokevirtual 348, 3) := by decide +kernel
theorem dX11_digest_373 : decode cX11_digest 373 = .ok (.i2l, 1) := by decide +kernel
theorem dX11_digest_374 : decode cX11_digest 374 = .ok (.ladd, 1) := by decide +kernel
theorem dX11_digest_375 : decode cX11_digest 375 = .ok (.lstore_n 1, 1) := by decide +kernel
theorem dX11_digest_376 : decode cX11_digest 376 = .ok (.ldc2_w 300, 3) := by decide +kernel
theorem dX11_digest_379 : decode cX11_digest 379 = .ok (.lload_n 1, 1) := by decide +kernel
theorem dX11_digest_380 : decode cX11_digest 380 = .ok (.lmul, 1) := by decide +kernel
theorem dX11_digest_381 : decode cX11_digest 381 = .ok (.aload_n 0, 1) := by decide +kernel
theorem dX11_digest_382 : decode cX11_digest 382 = .ok (.invokevirtual 351, 3) := by decide +kernel
theorem dX11_digest_385 : decode cX11_digest 385 = .ok (.i2l, 1) := by decide +kernel
theorem dX11_digest_386 : decode cX11_digest 386 = .ok (.ladd, 1) := by decide +kernel
theorem dX11_digest_387 : decode cX11_digest 387 = .ok (.lreturn, 1) := by decide +kernel
theorem dX11_isWithin_0 : decode cX11_isWithin 0 = .ok (.iload_n 0, 1) := by decide +kernel
theorem dX11_isWithin_1 : decode cX11_isWithin 1 = .ok (.iload_n 1, 1) := by decide +kernel
theorem dX11_isWithin_2 : decode cX11_isWithin 2 = .ok (.if_icmp .lt 12, 3) := by decide +kernel
theorem dX11_isWithin_5 : decode cX11_isWithin 5 = .ok (.iload_n 0, 1) := by decide +kernel
theorem dX11_isWithin_6 : decode cX11_isWithin 6 = .ok (.iload_n 2, 1) := by decide +kernel
theorem dX11_isWithin_7 : decode cX11_isWithin 7 = .ok (.if_icmp .gt 7, 3) := by decide +kernel
theorem dX11_isWithin_10 : decode cX11_isWithin 10 = .ok (.iconst 1, 1) := by decide +kernel
theorem dX11_isWithin_11 : decode cX11_isWithin 11 = .ok (.goto 4, 3) := by decide +kernel
theorem dX11_isWithin_14 : decode cX11_isWithin 14 = .ok (.iconst 0, 1) := by decide +kernel
theorem dX11_isWithin_15 : decode cX11_isWithin 15 = .ok (.ireturn, 1) := by decide +kernel
theorem dX11_isHour_0 : decode cX11_isHour 0 = .ok (.iload_n 0, 1) := by decide +kernel
theorem dX11_isHour_1 : decode cX11_isHour 1 = .ok (.bipush 6, 2) := by decide +kernel
theorem dX11_isHour_3 : decode cX11_isHour 3 = .ok (.bipush 18, 2) := by decide +kernel
theorem dX11_isHour_5 : decode cX11_isHour 5 = .ok (.invokestatic 98, 3) := by decide +kernel
theorem dX11_isHour_8 : decode cX11_isHour 8 = .ok (.ireturn, 1) := by decide +kernel
theorem dX11_isPersonNumber_0 : decode cX11_isPersonNumber 0 = .ok (.iload_n 0, 1) := by decide +kernel
theorem dX11_isPersonNumber_1 : decode cX11_isPersonNumber 1 = .ok (.iconst 0, 1) := by decide +kernel
theorem dX11_isPersonNumber_2 : decode cX11_isPersonNumber 2 = .ok (.bipush 11, 2) := by decide +kernel
theorem dX11_isPersonNumber_4 : decode cX11_isPersonNumber 4 = .ok (.invokestatic 98, 3) := by decide +kernel
theorem dX11_isPersonNumber_7 : decode cX11_isPersonNumber 7 = .ok (.ireturn, 1) := by decide +kernel
theorem dX11_isForm_0 : decode cX11_isForm 0 = .ok (.iload_n 0, 1) := by decide +kernel
theorem dX11_isForm_1 : decode cX11_isForm 1 = .ok (.iconst 0, 1) := by decide +kernel
theorem dX11_isForm_2 : decode cX11_isForm 2 = .ok (.iconst 2, 1) := by decide +kernel
theorem dX11_isForm_3 : decode cX11_isForm 3 = .ok (.invokestatic 98, 3) := by decide +kernel
theorem dX11_isForm_6 : decode cX11_isForm 6 = .ok (.ireturn, 1) := by decide +kernel
theorem dX11_mayBeWedding_0 : decode cX11_mayBeWedding 0 = .ok (.iload_n 0, 1) := by decide +kernel
theorem dX11_mayBeWedding_1 : decode cX11_mayBeWedding 1 = .ok (.invokestatic 168, 3) := by decide +kernel
theorem dX11_mayBeWedding_4 : decode cX11_mayBeWedding 4 = .ok (.ifCond .eq 21, 3) := by decide +kernel
theorem dX11_mayBeWedding_7 : decode cX11_mayBeWedding 7 = .ok (.iload_n 1, 1) := by decide +kernel
theorem dX11_mayBeWedding_8 : decode cX11_mayBeWedding 8 = .ok (.invokestatic 168, 3) := by decide +kernel
theorem dX11_mayBeWedding_11 : decode cX11_mayBeWedding 11 = .ok (.ifCond .eq 14, 3) := by decide +kernel
theorem dX11_mayBeWedding_14 : decode cX11_mayBeWedding 14 = .ok (.iload_n 2, 1) := by decide +kernel
theorem dX11_mayBeWedding_15 : decode cX11_mayBeWedding 15 = .ok (.invokestatic 140, 3) := by decide +kernel
theorem dX11_mayBeWedding_18 : decode cX11_mayBeWedding 18 = .ok (.ifCond .eq 7, 3) := by decide +kernel
theorem dX11_mayBeWedding_21 : decode cX11_mayBeWedding 21 = .ok (.iconst 1, 1) := by decide +kernel
theorem dX11_mayBeWedding_22 : decode cX11_mayBeWedding 22 = .ok (.goto 4, 3) := by decide +kernel
theorem dX11_mayBeWedding_25 : decode cX11_mayBeWedding 25 = .ok (.iconst 0, 1) := by decide +kernel
theorem dX11_mayBeWedding_26 : decode cX11_mayBeWedding 26 = .ok (.ireturn, 1) := by decide +kernel
theorem dX11_mayBeBehind_0 : decode cX11_mayBeBehind 0 = .ok (.iload_n 1, 1) := by decide +kernel
theorem dX11_mayBeBehind_1 : decode cX11_mayBeBehind 1 = .ok (.iconst 0, 1) := by decide +kernel
theorem dX11_mayBeBehind_2 : decode cX11_mayBeBehind 2 = .ok (.aload_n 0, 1) := by decide +kernel
theorem dX11_mayBeBehind_3 : decode cX11_mayBeBehind 3 = .ok (.getfield 47, 3) := by decide +kernel
theorem dX11_mayBeBehind_6 : decode cX11_mayBeBehind 6 = .ok (.invokevirtual 165, 3) := by decide +kernel
theorem dX11_mayBeBehind_9 : decode cX11_mayBeBehind 9 = .ok (.invokestatic 98, 3) := by decide +kernel
theorem dX11_mayBeBehind_12 : decode cX11_mayBeBehind 12 = .ok (.ireturn, 1) := by decide +kernel
theorem dX11_textAt_0 : decode cX11_textAt 0 = .ok (.iload_n 1, 1) := by decide +kernel
theorem dX11_textAt_1 : decode cX11_textAt 1 = .ok (.ifCond .ne 8, 3) := by decide +kernel
theorem dX11_textAt_4 : decode cX11_textAt 4 = .ok (.aload_n 0, 1) := by decide +kernel
theorem dX11_textAt_5 : decode cX11_textAt 5 = .ok (.getfield 16, 3) := by decide +kernel
theorem dX11_textAt_8 : decode cX11_textAt 8 = .ok (.areturn, 1) := by decide +kernel
theorem dX11_textAt_9 : decode cX11_textAt 9 = .ok (.iload_n 1, 1) := by decide +kernel
theorem dX11_textAt_10 : decode cX11_textAt 10 = .ok (.iconst 1, 1) := by decide +kernel
theorem dX11_textAt_11 : decode cX11_textAt 11 = .ok (.if_icmp .ne 10, 3) := by decide +kernel
theorem dX11_textAt_14 : decode cX11_textAt 14 = .ok (.aload_n 0, 1) := by decide +kernel
theorem dX11_textAt_15 : decode cX11_textAt 15 = .ok (.getfield 20, 3) := by decide +kernel
theorem dX11_textAt_18 : decode cX11_textAt 18 = .ok (.goto 4, 3) := by decide +kernel
theorem dX11_textAt_21 : decode cX11_textAt 21 = .ok (.aconst_null, 1) := by decide +kernel
theorem dX11_textAt_22 : decode cX11_textAt 22 = .ok (.areturn, 1) := by decide +kernel
theorem dX11_sheetAt_0 : decode cX11_sheetAt 0 = .ok (.iload_n 1, 1) := by decide +kernel
theorem dX11_sheetAt_1 : decode cX11_sheetAt 1 = .ok (.iconst 0, 1) := by decide +kernel
theorem dX11_sheetAt_2 : decode cX11_sheetAt 2 = .ok (.iconst 3, 1) := by decide +kernel
theorem dX11_sheetAt_3 : decode cX11_sheetAt 3 = .ok (.invokestatic 98, 3) := by decide +kernel
theorem dX11_sheetAt_6 : decode cX11_sheetAt 6 = .ok (.ifCond .eq 12, 3) := by decide +kernel
theorem dX11_sheetAt_9 : decode cX11_sheetAt 9 = .ok (.aload_n 0, 1) := by decide +kernel
theorem dX11_sheetAt_10 : decode cX11_sheetAt 10 = .ok (.getfield 85, 3) := by decide +kernel
theorem dX11_sheetAt_13 : decode cX11_sheetAt 13 = .ok (.iload_n 1, 1) := by decide +kernel
theorem dX11_sheetAt_14 : decode cX11_sheetAt 14 = .ok (.aaload, 1) := by decide +kernel
theorem dX11_sheetAt_15 : decode cX11_sheetAt 15 = .ok (.goto 4, 3) := by decide +kernel
theorem dX11_sheetAt_18 : decode cX11_sheetAt 18 = .ok (.aconst_null, 1) := by decide +kernel
theorem dX11_sheetAt_19 : decode cX11_sheetAt 19 = .ok (.areturn, 1) := by decide +kernel
theorem dX11_parseTexts_0 : decode cX11_parseTexts 0 = .ok (.aload_n 0, 1) := by decide +kernel
theorem dX11_parseTexts_1 : decode cX11_parseTexts 1 = .ok (.getfield 26, 3) := by decide +kernel
theorem dX11_parseTexts_4 : decode cX11_parseTexts 4 = .ok (.aload_n 0, 1) := by decide +kernel
theorem dX11_parseTexts_5 : decode cX11_parseTexts 5 = .ok (.getfield 16, 3) := by decide +kernel
theorem dX11_parseTexts_8 : decode cX11_parseTexts 8 = .ok (.invokevirtual 354, 3) := by decide +kernel
theorem dX11_parseTexts_11 : decode cX11_parseTexts 11 = .ok (.aload_n 0, 1) := by decide +kernel
theorem dX11_parseTexts_12 : decode cX11_parseTexts 12 = .ok (.getfield 33, 3) := by decide +kernel
theorem dX11_parseTexts_15 : decode cX11_parseTexts 15 = .ok (.aload_n 0, 1) := by decide +kernel
theorem dX11_parseTexts_16 : decode cX11_parseTexts 16 = .ok (.getfield 20, 3) := by decide +kernel
theorem dX11_parseTexts_19 : decode cX11_parseTexts 19 = .ok (.aload_n 0, 1) := by decide +kernel
theorem dX11_parseTexts_20 : decode cX11_parseTexts 20 = .ok (.getfield 26, 3) := by decide +kernel
theorem dX11_parseTexts_23 : decode cX11_parseTexts 23 = .ok (.invokevirtual 288, 3) := by decide +kernel
theorem dX11_parseTexts_26 : decode cX11_parseTexts 26 = .ok (.invokevirtual 358, 3) := by decide +kernel
theorem dX11_parseTexts_29 : decode cX11_parseTexts 29 = .ok (.return_, 1) := by decide +kernel
theorem dX11_wouldLeave_0 : decode cX11_wouldLeave 0 = .ok (.aload_n 0, 1) := by decide +kernel
theorem dX11_wouldLeave_1 : decode cX11_wouldLeave 1 = .ok (.getfield 56, 3) := by decide +kernel
theorem dX11_wouldLeave_4 : decode cX11_wouldLeave 4 = .ok (.iload_n 1, 1) := by decide +kernel
theorem dX11_wouldLeave_5 : decode cX11_wouldLeave 5 = .ok (.invokevirtual 207, 3) := by decide +kernel
theorem dX11_wouldLeave_8 : decode cX11_wouldLeave 8 = .ok (.istore_n 3, 1) := by decide +kernel
theorem dX11_wouldLeave_9 : decode cX11_wouldLeave 9 = .ok (.aload_n 0, 1) := by decide +kernel
theorem dX11_wouldLeave_10 : decode cX11_wouldLeave 10 = .ok (.getfield 56, 3) := by decide +kernel
theorem dX11_wouldLeave_13 : decode cX11_wouldLeave 13 = .ok (.iload_n 2, 1) := by decide +kernel
theorem dX11_wouldLeave_14 : decode cX11_wouldLeave 14 = .ok (.invokevirtual 207, 3) := by decide +kernel
theorem dX11_wouldLeave_17 : decode cX11_wouldLeave 17 = .ok (.istore 4, 2) := by decide +kernel
theorem dX11_wouldLeave_19 : decode cX11_wouldLeave 19 = .ok (.iload_n 3, 1) := by decide +kernel
theorem dX11_wouldLeave_20 : decode cX11_wouldLeave 20 = .ok (.iconst (-1), 1) := by decide +kernel
theorem dX11_wouldLeave_21 : decode cX11_wouldLeave 21 = .ok (.if_icmp .eq 69, 3) := by decide +kernel
theorem dX11_wouldLeave_24 : decode cX11_wouldLeave 24 = .ok (.iload 4, 2) := by decide +kernel
theorem dX11_wouldLeave_26 : decode cX11_wouldLeave 26 = .ok (.iconst (-1), 1) := by decide +kernel
theorem dX11_wouldLeave_27 : decode cX11_wouldLeave 27 = .ok (.if_icmp .eq 63, 3) := by decide +kernel
theorem dX11_wouldLeave_30 : decode cX11_wouldLeave 30 = .ok (.iload_n 3, 1) := by decide +kernel
theorem dX11_wouldLeave_31 : decode cX11_wouldLeave 31 = .ok (.iload_n 2, 1) := by decide +kernel
theorem dX11_wouldLeave_32 : decode cX11_wouldLeave 32 = .ok (.if_icmp .eq 58, 3) := by decide +kernel
theorem dX11_wouldLeave_35 : decode cX11_wouldLeave 35 = .ok (.aload_n 0, 1) := by decide +kernel
theorem dX11_wouldLeave_36 : decode cX11_wouldLeave 36 = .ok (.getfield 33, 3) := by decide +kernel
theorem dX11_wouldLeave_39 : decode cX11_wouldLeave 39 = .ok (.iload_n 1, 1) := by decide +kernel
theorem dX11_wouldLeave_40 : decode cX11_wouldLeave 40 = .ok (.iload_n 2, 1) := by decide +kernel
theorem dX11_wouldLeave_41 : decode cX11_wouldLeave 41 = .ok (.invokevirtual 361, 3) := by decide +kernel
theorem dX11_wouldLeave_44 : decode cX11_wouldLeave 44 = .ok (.ifCond .eq 46, 3) := by decide +kernel
theorem dX11_wouldLeave_47 : decode cX11_wouldLeave 47 = .ok (.aload_n 0, 1) := by decide +kernel
theorem dX11_wouldLeave_48 : decode cX11_wouldLeave 48 = .ok (.getfield 33, 3) := by decide +kernel
theorem dX11_wouldLeave_51 : decode cX11_wouldLeave 51 = .ok (.iload_n 1, 1) := by decide +kernel
theorem dX11_wouldLeave_52 : decode cX11_wouldLeave 52 = .ok (.invokevirtual 134, 3) := by decide +kernel
theorem dX11_wouldLeave_55 : decode cX11_wouldLeave 55 = .ok (.aload_n 0, 1) := by decide +kernel
theorem dX11_wouldLeave_56 : decode cX11_wouldLeave 56 = .ok (.getfield 33, 3) := by decide +kernel
theorem dX11_wouldLeave_59 : decode cX11_wouldLeave 59 = .ok (.iload 4, 2) := by decide +kernel
theorem dX11_wouldLeave_61 : decode cX11_wouldLeave 61 = .ok (.invokevirtual 134, 3) := by decide +kernel
theorem dX11_wouldLeave_64 : decode cX11_wouldLeave 64 = .ok (.if_icmp .ge 26, 3) := by decide +kernel
theorem dX11_wouldLeave_67 : decode cX11_wouldLeave 67 = .ok (.aload_n 0, 1) := by decide +kernel
theorem dX11_wouldLeave_68 : decode cX11_wouldLeave 68 = .ok (.getfield 33, 3) := by decide +kernel
theorem dX11_wouldLeave_71 : decode cX11_wouldLeave 71 = .ok (.iload_n 2, 1) := by decide +kernel
theorem dX11_wouldLeave_72 : decode cX11_wouldLeave 72 = .ok (.invokevirtual 134, 3) := by decide +kernel
theorem dX11_wouldLeave_75 : decode cX11_wouldLeave 75 = .ok (.aload_n 0, 1) := by decide +kernel
theorem dX11_wouldLeave_76 : decode cX11_wouldLeave 76 = .ok (.getfield 33, 3) := by decide +kernel
theorem dX11_wouldLeave_79 : decode cX11_wouldLeave 79 = .ok (.iload_n 3, 1) := by decide +kernel
theorem dX11_wouldLeave_80 : decode cX11_wouldLeave 80 = .ok (.invokevirtual 134, 3) := by decide +kernel
theorem dX11_wouldLeave_83 : decode cX11_wouldLeave 83 = .ok (.if_icmp .ge 7, 3) := by decide +kernel
theorem dX11_wouldLeave_86 : decode cX11_wouldLeave 86 = .ok (.iconst 1, 1) := by decide +kernel
theorem dX11_wouldLeave_87 : decode cX11_wouldLeave 87 = .ok (.goto 4, 3) := by decide +kernel
theorem dX11_wouldLeave_90 : decode cX11_wouldLeave 90 = .ok (.iconst 0, 1) := by decide +kernel
theorem dX11_wouldLeave_91 : decode cX11_wouldLeave 91 = .ok (.ireturn, 1) := by decide +kernel
theorem dX11_itemRefusal_0 : decode cX11_itemRefusal 0 = .ok (.aload_n 1, 1) := by decide +kernel
theorem dX11_itemRefusal_1 : decode cX11_itemRefusal 1 = .ok (.invokevirtual 175, 3) := by decide +kernel
theorem dX11_itemRefusal_4 : decode cX11_itemRefusal 4 = .ok (.ifCond .eq 9, 3) := by decide +kernel
theorem dX11_itemRefusal_7 : decode cX11_itemRefusal 7 = .ok (.aload_n 0, 1) := by decide +kernel
theorem dX11_itemRefusal_8 : decode cX11_itemRefusal 8 = .ok (.iconst 1, 1) := by decide +kernel
theorem dX11_itemRefusal_9 : decode cX11_itemRefusal 9 = .ok (.invokevirtual 178, 3) := by decide +kernel
theorem dX11_itemRefusal_12 : decode cX11_itemRefusal 12 = .ok (.ireturn, 1) := by decide +kernel
theorem dX11_itemRefusal_13 : decode cX11_itemRefusal 13 = .ok (.aload_n 1, 1) := by decide +kernel
theorem dX11_itemRefusal_14 : decode cX11_itemRefusal 14 = .ok (.invokevirtual 278, 3) := by decide +kernel
theorem dX11_itemRefusal_17 : decode cX11_itemRefusal 17 = .ok (.iload_n 2, 1) := by decide +kernel
theorem dX11_itemRefusal_18 : decode cX11_itemRefusal 18 = .ok (.if_icmp .eq 9, 3) := by decide +kernel
theorem dX11_itemRefusal_21 : decode cX11_itemRefusal 21 = .ok (.aload_n 0, 1) := by decide +kernel
theorem dX11_itemRefusal_22 : decode cX11_itemRefusal 22 = .ok (.iconst 3, 1) := by decide +kernel
theorem dX11_itemRefusal_23 : decode cX11_itemRefusal 23 = .ok (.invokevirtual 178, 3) := by decide +kernel
theorem dX11_itemRefusal_26 : decode cX11_itemRefusal 26 = .ok (.ireturn, 1) := by decide +kernel
theorem dX11_itemRefusal_27 : decode cX11_itemRefusal 27 = .ok (.aload_n 1, 1) := by decide +kernel
theorem dX11_itemRefusal_28 : decode cX11_itemRefusal 28 = .ok (.iload_n 3, 1) := by decide +kernel
theorem dX11_itemRefusal_29 : decode cX11_itemRefusal 29 = .ok (.invokevirtual 364, 3) := by decide +kernel
theorem dX11_itemRefusal_32 : decode cX11_itemRefusal 32 = .ok (.ifCond .eq 7, 3) := by decide +kernel
theorem dX11_itemRefusal_35 : decode cX11_itemRefusal 35 = .ok (.iconst 0, 1) := by decide +kernel
theorem dX11_itemRefusal_36 : decode cX11_itemRefusal 36 = .ok (.goto 8, 3) := by decide +kernel
theorem dX11_itemRefusal_39 : decode cX11_itemRefusal 39 = .ok (.aload_n 0, 1) := by decide +kernel
theorem dX11_itemRefusal_40 : decode cX11_itemRefusal 40 = .ok (.iconst 2, 1) := by decide +kernel
theorem dX11_itemRefusal_41 : decode cX11_itemRefusal 41 = .ok (.invokevirtual 178, 3) := by decide +kernel
theorem dX11_itemRefusal_44 : decode cX11_itemRefusal 44 = .ok (.ireturn, 1) := by decide +kernel
theorem dX11_finding_0 : decode cX11_finding 0 = .ok (.aload_n 0, 1) := by decide +kernel
theorem dX11_finding_1 : decode cX11_finding 1 = .ok (.iload_n 1, 1) := by decide +kernel
theorem dX11_finding_2 : decode cX11_finding 2 = .ok (.putfield 89, 3) := by decide +kernel
theorem dX11_finding_5 : decode cX11_finding 5 = .ok (.bipush (-10), 2) := by decide +kernel
theorem dX11_finding_7 : decode cX11_finding 7 = .ok (.iload_n 1, 1) := by decide +kernel
theorem dX11_finding_8 : decode cX11_finding 8 = .ok (.isub, 1) := by decide +kernel
theorem dX11_finding_9 : decode cX11_finding 9 = .ok (.ireturn, 1) := by decide +kernel
end
section
theorem dX12_init_0 : decode cX12_init 0 = .ok (.aload_n 0, 1) := by decide +kernel
theorem dX12_init_1 : decode cX12_init 1 = .ok (.invokespecial 1, 3) := by decide +kernel
theorem dX12_init_4 : decode cX12_init 4 = .ok (.aload_n 0, 1) := by decide +kernel
theorem dX12_init_5 : decode cX12_init 5 = .ok (.iconst 4, 1) := by decide +kernel
theorem dX12_init_6 : decode cX12_init 6 = .ok (.newarray .int, 2) := by decide +kernel
theorem dX12_init_8 : decode cX12_init 8 = .ok (.putfield 7, 3) := by decide +kernel
theorem dX12_init_11 : decode cX12_init 11 = .ok (.aload_n 0, 1) := by decide +kernel
theorem dX12_init_12 : decode cX12_init 12 = .ok (.iconst 4, 1) := by decide +kernel
theorem dX12_init_13 : decode cX12_init 13 = .ok (.newarray .int, 2) := by decide +kernel
theorem dX12_init_15 : decode cX12_init 15 = .ok (.putfield 13, 3) := by decide +kernel
theorem dX12_init_18 : decode cX12_init 18 = .ok (.aload_n 0, 1) := by decide +kernel
theorem dX12_init_19 : decode cX12_init 19 = .ok (.sipush 240, 3) := by decide +kernel
theorem dX12_init_22 : decode cX12_init 22 = .ok (.newarray .int, 2) := by decide +kernel
theorem dX12_init_24 : decode cX12_init 24 = .ok (.putfield 16, 3) := by decide +kernel
theorem dX12_init_27 : decode cX12_init 27 = .ok (.aload_n 0, 1) := by decide +kernel
theorem dX12_init_28 : decode cX12_init 28 = .ok (.bipush 60, 2) := by decide +kernel
theorem dX12_init_30 : decode cX12_init 30 = .ok (.newarray .int, 2) := by decide +kernel
theorem dX12_init_32 : decode cX12_init 32 = .ok (.putfield 19, 3) := by decide +kernel
theorem dX12_init_35 : decode cX12_init 35 = .ok (.aload_n 0, 1) := by decide +kernel
theorem dX12_init_36 : decode cX12_init 36 = .ok (.bipush 80, 2) := by decide +kernel
theorem dX12_init_38 : decode cX12_init 38 = .ok (.newarray .int, 2) := by decide +kernel
theorem dX12_init_40 : decode cX12_init 40 = .ok (.putfield 22, 3) := by decide +kernel
theorem dX12_init_43 : decode cX12_init 43 = .ok (.aload_n 0, 1) := by decide +kernel
theorem dX12_init_44 : decode cX12_init 44 = .ok (.iconst 2, 1) := by decide +kernel
theorem dX12_init_45 : decode cX12_init 45 = .ok (.newarray .int, 2) := by decide +kernel
theorem dX12_init_47 : decode cX12_init 47 = .ok (.putfield 25, 3) := by decide +kernel
theorem dX12_init_50 : decode cX12_init 50 = .ok (.aload_n 0, 1) := by decide +kernel
theorem dX12_init_51 : decode cX12_init 51 = .ok (.bipush 6, 2) := by decide +kernel
theorem dX12_init_53 : decode cX12_init 53 = .ok (.newarray .int, 2) := by decide +kernel
theorem dX12_init_55 : decode cX12_init 55 = .ok (.putfield 28, 3) := by decide +kernel
theorem dX12_init_58 : decode cX12_init 58 = .ok (.aload_n 0, 1) := by decide +kernel
theorem dX12_init_59 : decode cX12_init 59 = .ok (.bipush 48, 2) := by decide +kernel
theorem dX12_init_61 : decode cX12_init 61 = .ok (.newarray .int, 2) := by decide +kernel
theorem dX12_init_63 : decode cX12_init 63 = .ok (.putfield 31, 3) := by decide +kernel
theorem dX12_init_66 : decode cX12_init 66 = .ok (.aload_n 0, 1) := by decide +kernel
theorem dX12_init_67 : decode cX12_init 67 = .ok (.bipush 52, 2) := by decide +kernel
theorem dX12_init_69 : decode cX12_init 69 = .ok (.newarray .int, 2) := by decide +kernel
theorem dX12_init_71 : decode cX12_init 71 = .ok (.putfield 34, 3) := by decide +kernel
theorem dX12_init_74 : decode cX12_init 74 = .ok (.aload_n 0, 1) := by decide +kernel
theorem dX12_init_75 : decode cX12_init 75 = .ok (.bipush 120, 2) := by decide +kernel
theorem dX12_init_77 : decode cX12_init 77 = .ok (.newarray .int, 2) := by decide +kernel
theorem dX12_init_79 : decode cX12_init 79 = .ok (.putfield 37, 3) := by decide +kernel
theorem dX12_init_82 : decode cX12_init 82 = .ok (.aload_n 0, 1) := by decide +kernel
theorem dX12_init_83 : decode cX12_init 83 = .ok (.bipush 6, 2) := by decide +kernel
theorem dX12_init_85 : decode cX12_init 85 = .ok (.newarray .int, 2) := by decide +kernel
theorem dX12_init_87 : decode cX12_init 87 = .ok (.putfield 40, 3) := by decide +kernel
theorem dX12_init_90 : decode cX12_init 90 = .ok (.aload_n 0, 1) := by decide +kernel
theorem dX12_init_91 : decode cX12_init 91 = .ok (.bipush 12, 2) := by decide +kernel
theorem dX12_init_93 : decode cX12_init 93 = .ok (.newarray .int, 2) := by decide +kernel
theorem dX12_init_95 : decode cX12_init 95 = .ok (.putfield 43, 3) := by decide +kernel
theorem dX12_init_98 : decode cX12_init 98 = .ok (.aload_n 0, 1) := by decide +kernel
theorem dX12_init_99 : decode cX12_init 99 = .ok (.bipush 12, 2) := by decide +kernel
theorem dX12_init_101 : decode cX12_init 101 = .ok (.newarray .int, 2) := by decide +kernel
theorem dX12_init_103 : decode cX12_init 103 = .ok (.putfield 46, 3) := by decide +kernel
theorem dX12_init_106 : decode cX12_init 106 = .ok (.aload_n 0, 1) := by decide +kernel
theorem dX12_init_107 : decode cX12_init 107 = .ok (.bipush 12, 2) := by decide +kernel
theorem dX12_init_109 : decode cX12_init 109 = .ok (.newarray .int, 2) := by decide +kernel
theorem dX12_init_111 : decode cX12_init 111 = .ok (.putfield 49, 3) := by decide +kernel
theorem dX12_init_114 : decode cX12_init 114 = .ok (.aload_n 0, 1) := by decide +kernel
theorem dX12_init_115 : decode cX12_init 115 = .ok (.bipush 12, 2) := by decide +kernel
theorem dX12_init_117 : decode cX12_init 117 = .ok (.newarray .int, 2) := by decide +kernel
theorem dX12_init_119 : decode cX12_init 119 = .ok (.putfield 52, 3) := by decide +kernel
theorem dX12_init_122 : decode cX12_init 122 = .ok (.aload_n 0, 1) := by decide +kernel
theorem dX12_init_123 : decode cX12_init 123 = .ok (.bipush 12, 2) := by decide +kernel
theorem dX12_init_125 : decode cX12_init 125 = .ok (.newarray .int, 2) := by decide +kernel
theorem dX12_init_127 : decode cX12_init 127 = .ok (.putfield 55, 3) := by decide +kernel
theorem dX12_init_130 : decode cX12_init 130 = .ok (.aload_n 0, 1) := by decide +kernel
theorem dX12_init_131 : decode cX12_init 131 = .ok (.bipush 24, 2) := by decide +kernel
theorem dX12_init_133 : decode cX12_init 133 = .ok (.newarray .int, 2) := by decide +kernel
theorem dX12_init_135 : decode cX12_init 135 = .ok (.putfield 58, 3) := by decide +kernel
theorem dX12_init_138 : decode cX12_init 138 = .ok (.aload_n 0, 1) := by decide +kernel
theorem dX12_init_139 : decode cX12_init 139 = .ok (.bipush 12, 2) := by decide +kernel
theorem dX12_init_141 : decode cX12_init 141 = .ok (.newarray .int, 2) := by decide +kernel
theorem dX12_init_143 : decode cX12_init 143 = .ok (.putfield 61, 3) := by decide +kernel
theorem dX12_init_146 : decode cX12_init 146 = .ok (.aload_n 0, 1) := by decide +kernel
theorem dX12_init_147 : decode cX12_init 147 = .ok (.bipush 13, 2) := by decide +kernel
theorem dX12_init_149 : decode cX12_init 149 = .ok (.newarray .int, 2) := by decide +kernel
theorem dX12_init_151 : decode cX12_init 151 = .ok (.putfield 64, 3) := by decide +kernel
theorem dX12_init_154 : decode cX12_init 154 = .ok (.aload_n 0, 1) := by decide +kernel
theorem dX12_init_155 : decode cX12_init 155 = .ok (.bipush 13, 2) := by decide +kernel
theorem dX12_init_157 : decode cX12_init 157 = .ok (.newarray .int, 2) := by decide +kernel
theorem dX12_init_159 : decode cX12_init 159 = .ok (.putfield 67, 3) := by decide +kernel
theorem dX12_init_162 : decode cX12_init 162 = .ok (.aload_n 0, 1) := by decide +kernel
theorem dX12_init_163 : decode cX12_init 163 = .ok (.bipush 24, 2) := by decide +kernel
theorem dX12_init_165 : decode cX12_init 165 = .ok (.newarray .int, 2) := by decide +kernel
theorem dX12_init_167 : decode cX12_init 167 = .ok (.putfield 70, 3) := by decide +kernel
theorem dX12_init_170 : decode cX12_init 170 = .ok (.aload_n 0, 1) := by decide +kernel
theorem dX12_init_171 : decode cX12_init 171 = .ok (.iconst 4, 1) := by decide +kernel
theorem dX12_init_172 : decode cX12_init 172 = .ok (.newarray .int, 2) := by decide +kernel
theorem dX12_init_174 : decode cX12_init 174 = .ok (.putfield 73, 3) := by decide +kernel
theorem dX12_init_177 : decode cX12_init 177 = .ok (.aload_n 0, 1) := by decide +kernel
theorem dX12_init_178 : decode cX12_init 178 = .ok (.iconst 4, 1) := by decide +kernel
theorem dX12_init_179 : decode cX12_init 179 = .ok (.newarray .int, 2) := by decide +kernel
theorem dX12_init_181 : decode cX12_init 181 = .ok (.putfield 76, 3) := by decide +kernel
theorem dX12_init_184 : decode cX12_init 184 = .ok (.aload_n 0, 1) := by decide +kernel
theorem dX12_init_185 : decode cX12_init 185 = .ok (.bipush 6, 2) := by decide +kernel
theorem dX12_init_187 : decode cX12_init 187 = .ok (.newarray .int, 2) := by decide +kernel
theorem dX12_init_189 : decode cX12_init 189 = .ok (.putfield 79, 3) := by decide +kernel
theorem dX12_init_192 : decode cX12_init 192 = .ok (.aload_n 0, 1) := by decide +kernel
theorem dX12_init_193 : decode cX12_init 193 = .ok (.bipush 6, 2) := by decide +kernel
theorem dX12_init_195 : decode cX12_init 195 = .ok (.newarray .int, 2) := by decide +kernel
theorem dX12_init_197 : decode cX12_init 197 = .ok (.putfield 82, 3) := by decide +kernel
theorem dX12_init_200 : decode cX12_init 200 = .ok (.aload_n 0, 1) := by decide +kernel
theorem dX12_init_201 : decode cX12_init 201 = .ok (.bipush 6, 2) := by decide +kernel
theorem dX12_init_203 : decode cX12_init 203 = .ok (.newarray .boolean, 2) := by decide +kernel
theorem dX12_init_205 : decode cX12_init 205 = .ok (.putfield 85, 3) := by decide +kernel
theorem dX12_init_208 : decode cX12_init 208 = .ok (.aload_n 0, 1) := by decide +kernel
theorem dX12_init_209 : decode cX12_init 209 = .ok (.bipush 6, 2) := by decide +kernel
theorem dX12_init_211 : decode cX12_init 211 = .ok (.newarray .int, 2) := by decide +kernel
theorem dX12_init_213 : decode cX12_init 213 = .ok (.putfield 89, 3) := by decide +kernel
theorem dX12_init_216 : decode cX12_init 216 = .ok (.aload_n 0, 1) := by decide +kernel
theorem dX12_init_217 : decode cX12_init 217 = .ok (.bipush 6, 2) := by decide +kernel
theorem dX12_init_219 : decode cX12_init 219 = .ok (.newarray .int, 2) := by decide +kernel
theorem dX12_init_221 : decode cX12_init 221 = .ok (.putfield 92, 3) := by decide +kernel
theorem dX12_init_224 : decode cX12_init 224 = .ok (.iconst 0, 1) := by decide +kernel
theorem dX12_init_225 : decode cX12_init 225 = .ok (.istore_n 1, 1) := by decide +kernel
theorem dX12_init_226 : decode cX12_init 226 = .ok (.iload_n 1, 1) := by decide +kernel
theorem dX12_init_227 : decode cX12_init 227 = .ok (.iconst 4, 1) := by decide +kernel
theorem dX12_init_228 : decode cX12_init 228 = .ok (.if_icmp .ge 16, 3) := by decide +kernel
theorem dX12_init_231 : decode cX12_init 231 = .ok (.aload_n 0, 1) := by decide +kernel
theorem dX12_init_232 : decode cX12_init 232 = .ok (.getfield 7, 3) := by decide +kernel
theorem dX12_init_235 : decode cX12_init 235 = .ok (.iload_n 1, 1) := by decide +kernel
theorem dX12_init_236 : decode cX12_init 236 = .ok (.iconst (-1), 1) := by decide +kernel
theorem dX12_init_237 : decode cX12_init 237 = .ok (.iastore, 1) := by decide +kernel
theorem dX12_init_238 : decode cX12_init 238 = .ok (.iinc 1 1, 3) := by decide +kernel
theorem dX12_init_241 : decode cX12_init 241 = .ok (.goto (-15), 3) := by decide +kernel
theorem dX12_init_244 : decode cX12_init 244 = .ok (.return_, 1) := by decide +kernel
theorem dX12_in_0 : decode cX12_in 0 = .ok (.lload_n 0, 1) := by decide +kernel
theorem dX12_in_1 : decode cX12_in 1 = .ok (.lload_n 2, 1) := by decide +kernel
theorem dX12_in_2 : decode cX12_in 2 = .ok (.lcmp, 1) := by decide +kernel
theorem dX12_in_3 : decode cX12_in 3 = .ok (.ifCond .lt 14, 3) := by decide +kernel
theorem dX12_in_6 : decode cX12_in 6 = .ok (.lload_n 0, 1) := by decide +kernel
theorem dX12_in_7 : decode cX12_in 7 = .ok (.lload 4, 2) := by decide +kernel
theorem dX12_in_9 : decode cX12_in 9 = .ok (.lcmp, 1) := by decide +kernel
theorem dX12_in_10 : decode cX12_in 10 = .ok (.ifCond .gt 7, 3) := by decide +kernel
theorem dX12_in_13 : decode cX12_in 13 = .ok (.iconst 1, 1) := by decide +kernel
theorem dX12_in_14 : decode cX12_in 14 = .ok (.goto 4, 3) := by decide +kernel
theorem dX12_in_17 : decode cX12_in 17 = .ok (.iconst 0, 1) := by decide +kernel
theorem dX12_in_18 : decode cX12_in 18 = .ok (.ireturn, 1) := by decide +kernel
theorem dX12_isTwo_0 : decode cX12_isTwo 0 = .ok (.iload_n 0, 1) := by decide +kernel
theorem dX12_isTwo_1 : decode cX12_isTwo 1 = .ok (.i2l, 1) := by decide +kernel
theorem dX12_isTwo_2 : decode cX12_isTwo 2 = .ok (.lconst 0, 1) := by decide +kernel
theorem dX12_isTwo_3 : decode cX12_isTwo 3 = .ok (.lconst 1, 1) := by decide +kernel
theorem dX12_isTwo_4 : decode cX12_isTwo 4 = .ok (.invokestatic 95, 3) := by decide +kernel
theorem dX12_isTwo_7 : decode cX12_isTwo 7 = .ok (.ireturn, 1) := by decide +kernel
theorem dX12_met_0 : decode cX12_met 0 = .ok (.aload_n 0, 1) := by decide +kernel
theorem dX12_met_1 : decode cX12_met 1 = .ok (.iload_n 1, 1) := by decide +kernel
theorem dX12_met_2 : decode cX12_met 2 = .ok (.putfield 99, 3) := by decide +kernel
theorem dX12_met_5 : decode cX12_met 5 = .ok (.bipush (-10), 2) := by decide +kernel
theorem dX12_met_7 : decode cX12_met 7 = .ok (.iload_n 1, 1) := by decide +kernel
theorem dX12_met_8 : decode cX12_met 8 = .ok (.isub, 1) := by decide +kernel
theorem dX12_met_9 : decode cX12_met 9 = .ok (.ireturn, 1) := by decide +kernel
theorem dX12_isSheet_0 : decode cX12_isSheet 0 = .ok (.iload_n 0, 1) := by decide +kernel
theorem dX12_isSheet_1 : decode cX12_isSheet 1 = .ok (.i2l, 1) := by decide +kernel
theorem dX12_isSheet_2 : decode cX12_isSheet 2 = .ok (.lconst 0, 1) := by decide +kernel
theorem dX12_isSheet_3 : decode cX12_isSheet 3 = .ok (.ldc2_w 103, 3) := by decide +kernel
theorem dX12_isSheet_6 : decode cX12_isSheet 6 = .ok (.invokestatic 95, 3) := by decide +kernel
theorem dX12_isSheet_9 : decode cX12_isSheet 9 = .ok (.ireturn, 1) := by decide +kernel
theorem dX12_sheet_0 : decode cX12_sheet 0 = .ok (.iload_n 1, 1) := by decide +kernel
theorem dX12_sheet_1 : decode cX12_sheet 1 = .ok (.invokestatic 105, 3) := by decide +kernel
theorem dX12_sheet_4 : decode cX12_sheet 4 = .ok (.ifCond .eq 21, 3) := by decide +kernel
theorem dX12_sheet_7 : decode cX12_sheet 7 = .ok (.iload_n 2, 1) := by decide +kernel
theorem dX12_sheet_8 : decode cX12_sheet 8 = .ok (.i2l, 1) := by decide +kernel
theorem dX12_sheet_9 : decode cX12_sheet 9 = .ok (.lconst 0, 1) := by decide +kernel
theorem dX12_sheet_10 : decode cX12_sheet 10 = .ok (.ldc2_w 109, 3) := by decide +kernel
theorem dX12_sheet_13 : decode cX12_sheet 13 = .ok (.invokestatic 95, 3) := by decide +kernel
theorem dX12_sheet_16 : decode cX12_sheet 16 = .ok (.ifCond .eq 9, 3) := by decide +kernel
theorem dX12_sheet_19 : decode cX12_sheet 19 = .ok (.iload_n 3, 1) := by decide +kernel
theorem dX12_sheet_20 : decode cX12_sheet 20 = .ok (.bipush 60, 2) := by decide +kernel
theorem dX12_sheet_22 : decode cX12_sheet 22 = .ok (.if_icmp .le 6, 3) := by decide +kernel
theorem dX12_sheet_25 : decode cX12_sheet 25 = .ok (.bipush (-2), 2) := by decide +kernel
theorem dX12_sheet_27 : decode cX12_sheet 27 = .ok (.ireturn, 1) := by decide +kernel
theorem dX12_sheet_28 : decode cX12_sheet 28 = .ok (.iload_n 3, 1) := by decide +kernel
theorem dX12_sheet_29 : decode cX12_sheet 29 = .ok (.ifCond .ge 9, 3) := by decide +kernel
theorem dX12_sheet_32 : decode cX12_sheet 32 = .ok (.aload_n 0, 1) := by decide +kernel
theorem dX12_sheet_33 : decode cX12_sheet 33 = .ok (.iconst 5, 1) := by decide +kernel
theorem dX12_sheet_34 : decode cX12_sheet 34 = .ok (.invokevirtual 111, 3) := by decide +kernel
theorem dX12_sheet_37 : decode cX12_sheet 37 = .ok (.ireturn, 1) := by decide +kernel
theorem dX12_sheet_38 : decode cX12_sheet 38 = .ok (.aload_n 0, 1) := by decide +kernel
theorem dX12_sheet_39 : decode cX12_sheet 39 = .ok (.getfield 7, 3) := by decide +kernel
theorem dX12_sheet_42 : decode cX12_sheet 42 = .ok (.iload_n 1, 1) := by decide +kernel
theorem dX12_sheet_43 : decode cX12_sheet 43 = .ok (.iload_n 2, 1) := by decide +kernel
theorem dX12_sheet_44 : decode cX12_sheet 44 = .ok (.iastore, 1) := by decide +kernel
theorem dX12_sheet_45 : decode cX12_sheet 45 = .ok (.aload_n 0, 1) := by decide +kernel
theorem dX12_sheet_46 : decode cX12_sheet 46 = .ok (.getfield 13, 3) := by decide +kernel
theorem dX12_sheet_49 : decode cX12_sheet 49 = .ok (.iload_n 1, 1) := by decide +kernel
theorem dX12_sheet_50 : decode cX12_sheet 50 = .ok (.iload_n 3, 1) := by decide +kernel
theorem dX12_sheet_51 : decode cX12_sheet 51 = .ok (.iastore, 1) := by decide +kernel
theorem dX12_sheet_52 : decode cX12_sheet 52 = .ok (.iconst 0, 1) := by decide +kernel
theorem dX12_sheet_53 : decode cX12_sheet 53 = .ok (.istore 4, 2) := by decide +kernel
theorem dX12_sheet_55 : decode cX12_sheet 55 = .ok (.iload 4, 2) := by decide +kernel
theorem dX12_sheet_57 : decode cX12_sheet 57 = .ok (.iload_n 3, 1) := by decide +kernel
theorem dX12_sheet_58 : decode cX12_sheet 58 = .ok (.if_icmp .ge 22, 3) := by decide +kernel
theorem dX12_sheet_61 : decode cX12_sheet 61 = .ok (.aload_n 0, 1) := by decide +kernel
theorem dX12_sheet_62 : decode cX12_sheet 62 = .ok (.getfield 16, 3) := by decide +kernel
theorem dX12_sheet_65 : decode cX12_sheet 65 = .ok (.bipush 60, 2) := by decide +kernel
theorem dX12_sheet_67 : decode cX12_sheet 67 = .ok (.iload_n 1, 1) := by decide +kernel
theorem dX12_sheet_68 : decode cX12_sheet 68 = .ok (.imul, 1) := by decide +kernel
theorem dX12_sheet_69 : decode cX12_sheet 69 = .ok (.iload 4, 2) := by decide +kernel
theorem dX12_sheet_71 : decode cX12_sheet 71 = .ok (.iadd, 1) := by decide +kernel
theorem dX12_sheet_72 : decode cX12_sheet 72 = .ok (.iconst 0, 1) := by decide +kernel
theorem dX12_sheet_73 : decode cX12_sheet 73 = .ok (.iastore, 1) := by decide +kernel
theorem dX12_sheet_74 : decode cX12_sheet 74 = .ok (.iinc 4 1, 3) := by decide +kernel
theorem dX12_sheet_77 : decode cX12_sheet 77 = .ok (.goto (-22), 3) := by decide +kernel
theorem dX12_sheet_80 : decode cX12_sheet 80 = .ok (.iload_n 3, 1) := by decide +kernel
theorem dX12_sheet_81 : decode cX12_sheet 81 = .ok (.ireturn, 1) := by decide +kernel
theorem dX12_lose_0 : decode cX12_lose 0 = .ok (.iload_n 1, 1) := by decide +kernel
theorem dX12_lose_1 : decode cX12_lose 1 = .ok (.invokestatic 105, 3) := by decide +kernel
theorem dX12_lose_4 : decode cX12_lose 4 = .ok (.ifCond .ne 6, 3) := by decide +kernel
theorem dX12_lose_7 : decode cX12_lose 7 = .ok (.bipush (-2), 2) := by decide +kernel
theorem dX12_lose_9 : decode cX12_lose 9 = .ok (.ireturn, 1) := by decide +kernel
theorem dX12_lose_10 : decode cX12_lose 10 = .ok (.aload_n 0, 1) := by decide +kernel
theorem dX12_lose_11 : decode cX12_lose 11 = .ok (.getfield 7, 3) := by decide +kernel
theorem dX12_lose_14 : decode cX12_lose 14 = .ok (.iload_n 1, 1) := by decide +kernel
theorem dX12_lose_15 : decode cX12_lose 15 = .ok (.iaload, 1) := by decide +kernel
theorem dX12_lose_16 : decode cX12_lose 16 = .ok (.ifCond .ge 9, 3) := by decide +kernel
theorem dX12_lose_19 : decode cX12_lose 19 = .ok (.aload_n 0, 1) := by decide +kernel
theorem dX12_lose_20 : decode cX12_lose 20 = .ok (.iconst 1, 1) := by decide +kernel
theorem dX12_lose_21 : decode cX12_lose 21 = .ok (.invokevirtual 111, 3) := by decide +kernel
theorem dX12_lose_24 : decode cX12_lose 24 = .ok (.ireturn, 1) := by decide +kernel
theorem dX12_lose_25 : decode cX12_lose 25 = .ok (.aload_n 0, 1) := by decide +kernel
theorem dX12_lose_26 : decode cX12_lose 26 = .ok (.getfield 7, 3) := by decide +kernel
theorem dX12_lose_29 : decode cX12_lose 29 = .ok (.iload_n 1, 1) := by decide +kernel
theorem dX12_lose_30 : decode cX12_lose 30 = .ok (.iconst (-1), 1) := by decide +kernel
theorem dX12_lose_31 : decode cX12_lose 31 = .ok (.iastore, 1) := by decide +kernel
theorem dX12_lose_32 : decode cX12_lose 32 = .ok (.aload_n 0, 1) := by decide +kernel
theorem dX12_lose_33 : decode cX12_lose 33 = .ok (.getfield 13, 3) := by decide +kernel
theorem dX12_lose_36 : decode cX12_lose 36 = .ok (.iload_n 1, 1) := by decide +kernel
theorem dX12_lose_37 : decode cX12_lose 37 = .ok (.iaload, 1) := by decide +kernel
theorem dX12_lose_38 : decode cX12_lose 38 = .ok (.ireturn, 1) := by decide +kernel
theorem dX12_lacks_0 : decode cX12_lacks 0 = .ok (.aload_n 0, 1) := by decide +kernel
theorem dX12_lacks_1 : decode cX12_lacks 1 = .ok (.getfield 7, 3) := by decide +kernel
theorem dX12_lacks_4 : decode cX12_lacks 4 = .ok (.iload_n 1, 1) := by decide +kernel
theorem dX12_lacks_5 : decode cX12_lacks 5 = .ok (.iaload, 1) := by decide +kernel
theorem dX12_lacks_6 : decode cX12_lacks 6 = .ok (.ifCond .ge 9, 3) := by decide +kernel
theorem dX12_lacks_9 : decode cX12_lacks 9 = .ok (.aload_n 0, 1) := by decide +kernel
theorem dX12_lacks_10 : decode cX12_lacks 10 = .ok (.iconst 1, 1) := by decide +kernel
theorem dX12_lacks_11 : decode cX12_lacks 11 = .ok (.invokevirtual 111, 3) := by decide +kernel
theorem dX12_lacks_14 : decode cX12_lacks 14 = .ok (.ireturn, 1) := by decide +kernel
theorem dX12_lacks_15 : decode cX12_lacks 15 = .ok (.aload_n 0, 1) := by decide +kernel
theorem dX12_lacks_16 : decode cX12_lacks 16 = .ok (.getfield 7, 3) := by decide +kernel
theorem dX12_lacks_19 : decode cX12_lacks 19 = .ok (.iload_n 1, 1) := by decide +kernel
theorem dX12_lacks_20 : decode cX12_lacks 20 = .ok (.iaload, 1) := by decide +kernel
theorem dX12_lacks_21 : decode cX12_lacks 21 = .ok (.iload_n 2, 1) := by decide +kernel
theorem dX12_lacks_22 : decode cX12_lacks 22 = .ok (.if_icmp .eq 9, 3) := by decide +kernel
theorem dX12_lacks_25 : decode cX12_lacks 25 = .ok (.aload_n 0, 1) := by decide +kernel
theorem dX12_lacks_26 : decode cX12_lacks 26 = .ok (.iconst 3, 1) := by decide +kernel
theorem dX12_lacks_27 : decode cX12_lacks 27 = .ok (.invokevirtual 111, 3) := by decide +kernel
theorem dX12_lacks_30 : decode cX12_lacks 30 = .ok (.ireturn, 1) := by decide +kernel
theorem dX12_lacks_31 : decode cX12_lacks 31 = .ok (.iload_n 3, 1) := by decide +kernel
theorem dX12_lacks_32 : decode cX12_lacks 32 = .ok (.i2l, 1) := by decide +kernel
theorem dX12_lacks_33 : decode cX12_lacks 33 = .ok (.lconst 0, 1) := by decide +kernel
theorem dX12_lacks_34 : decode cX12_lacks 34 = .ok (.aload_n 0, 1) := by decide +kernel
theorem dX12_lacks_35 : decode cX12_lacks 35 = .ok (.getfield 13, 3) := by decide +kernel
theorem dX12_lacks_38 : decode cX12_lacks 38 = .ok (.iload_n 1, 1) := by decide +kernel
theorem dX12_lacks_39 : decode cX12_lacks 39 = .ok (.iaload, 1) := by decide +kernel
theorem dX12_lacks_40 : decode cX12_lacks 40 = .ok (.iconst 1, 1) := by decide +kernel
theorem dX12_lacks_41 : decode cX12_lacks 41 = .ok (.isub, 1) := by decide +kernel
theorem dX12_lacks_42 : decode cX12_lacks 42 = .ok (.i2l, 1) := by decide +kernel
theorem dX12_lacks_43 : decode cX12_lacks 43 = .ok (.invokestatic 95, 3) := by decide +kernel
theorem dX12_lacks_46 : decode cX12_lacks 46 = .ok (.ifCond .eq 7, 3) := by decide +kernel
theorem dX12_lacks_49 : decode cX12_lacks 49 = .ok (.iconst 0, 1) := by decide +kernel
theorem dX12_lacks_50 : decode cX12_lacks 50 = .ok (.goto 8, 3) := by decide +kernel
theorem dX12_lacks_53 : decode cX12_lacks 53 = .ok (.aload_n 0, 1) := by decide +kernel
theorem dX12_lacks_54 : decode cX12_lacks 54 = .ok (.iconst 2, 1) := by decide +kernel
theorem dX12_lacks_55 : decode cX12_lacks 55 = .ok (.invokevirtual 111, 3) := by decide +kernel
theorem dX12_lacks_58 : decode cX12_lacks 58 = .ok (.ireturn, 1) := by decide +kernel
theorem dX12_cut_0 : decode cX12_cut 0 = .ok (.iload_n 0, 1) := by decide +kernel
theorem dX12_cut_1 : decode cX12_cut 1 = .ok (.ifCond .ne 8, 3) := by decide +kernel
theorem dX12_cut_4 : decode cX12_cut 4 = .ok (.iload_n 1, 1) := by decide +kernel
theorem dX12_cut_5 : decode cX12_cut 5 = .ok (.i2b, 1) := by decide +kernel
theorem dX12_cut_6 : decode cX12_cut 6 = .ok (.goto 14, 3) := by decide +kernel
theorem dX12_cut_9 : decode cX12_cut 9 = .ok (.iload_n 0, 1) := by decide +kernel
theorem dX12_cut_10 : decode cX12_cut 10 = .ok (.iconst 1, 1) := by decide +kernel
theorem dX12_cut_11 : decode cX12_cut 11 = .ok (.if_icmp .ne 8, 3) := by decide +kernel
theorem dX12_cut_14 : decode cX12_cut 14 = .ok (.iload_n 1, 1) := by decide +kernel
theorem dX12_cut_15 : decode cX12_cut 15 = .ok (.i2s, 1) := by decide +kernel
theorem dX12_cut_16 : decode cX12_cut 16 = .ok (.goto 4, 3) := by decide +kernel
theorem dX12_cut_19 : decode cX12_cut 19 = .ok (.iload_n 1, 1) := by decide +kernel
theorem dX12_cut_20 : decode cX12_cut 20 = .ok (.ireturn, 1) := by decide +kernel
theorem dX12_lay_0 : decode cX12_lay 0 = .ok (.iload_n 1, 1) := by decide +kernel
theorem dX12_lay_1 : decode cX12_lay 1 = .ok (.invokestatic 105, 3) := by decide +kernel
theorem dX12_lay_4 : decode cX12_lay 4 = .ok (.ifCond .eq 15, 3) := by decide +kernel
theorem dX12_lay_7 : decode cX12_lay 7 = .ok (.iload_n 2, 1) := by decide +kernel
theorem dX12_lay_8 : decode cX12_lay 8 = .ok (.i2l, 1) := by decide +kernel
theorem dX12_lay_9 : decode cX12_lay 9 = .ok (.lconst 0, 1) := by decide +kernel
theorem dX12_lay_10 : decode cX12_lay 10 = .ok (.ldc2_w 109, 3) := by decide +kernel
theorem dX12_lay_13 : decode cX12_lay 13 = .ok (.invokestatic 95, 3) := by decide +kernel
theorem dX12_lay_16 : decode cX12_lay 16 = .ok (.ifCond .ne 6, 3) := by decide +kernel
theorem dX12_lay_19 : decode cX12_lay 19 = .ok (.bipush (-2), 2) := by decide +kernel
theorem dX12_lay_21 : decode cX12_lay 21 = .ok (.ireturn, 1) := by decide +kernel
theorem dX12_lay_22 : decode cX12_lay 22 = .ok (.aload_n 0, 1) := by decide +kernel
theorem dX12_lay_23 : decode cX12_lay 23 = .ok (.iload_n 1, 1) := by decide +kernel
theorem dX12_lay_24 : decode cX12_lay 24 = .ok (.iload_n 2, 1) := by decide +kernel
theorem dX12_lay_25 : decode cX12_lay 25 = .ok (.iload_n 3, 1) := by decide +kernel
theorem dX12_lay_26 : decode cX12_lay 26 = .ok (.invokevirtual 115, 3) := by decide +kernel
theorem dX12_lay_29 : decode cX12_lay 29 = .ok (.istore 5, 2) := by decide +kernel
theorem dX12_lay_31 : decode cX12_lay 31 = .ok (.iload 5, 2) := by decide +kernel
theorem dX12_lay_33 : decode cX12_lay 33 = .ok (.ifCond .eq 6, 3) := by decide +kernel
theorem dX12_lay_36 : decode cX12_lay 36 = .ok (.iload 5, 2) := by decide +kernel
theorem dX12_lay_38 : decode cX12_lay 38 = .ok (.ireturn, 1) := by decide +kernel
theorem dX12_lay_39 : decode cX12_lay 39 = .ok (.aload_n 0, 1) := by decide +kernel
theorem dX12_lay_40 : decode cX12_lay 40 = .ok (.getfield 16, 3) := by decide +kernel
theorem dX12_lay_43 : decode cX12_lay 43 = .ok (.bipush 60, 2) := by decide +kernel
theorem dX12_lay_45 : decode cX12_lay 45 = .ok (.iload_n 1, 1) := by decide +kernel
theorem dX12_lay_46 : decode cX12_lay 46 = .ok (.imul, 1) := by decide +kernel
theorem dX12_lay_47 : decode cX12_lay 47 = .ok (.iload_n 3, 1) := by decide +kernel
theorem dX12_lay_48 : decode cX12_lay 48 = .ok (.iadd, 1) := by decide +kernel
theorem dX12_lay_49 : decode cX12_lay 49 = .ok (.iload_n 2, 1) := by decide +kernel
theorem dX12_lay_50 : decode cX12_lay 50 = .ok (.iload 4, 2) := by decide +kernel
theorem dX12_lay_52 : decode cX12_lay 52 = .ok (.invokestatic 119, 3) := by decide +kernel
theorem dX12_lay_55 : decode cX12_lay 55 = .ok (.iastore, 1) := by decide +kernel
theorem dX12_lay_56 : decode cX12_lay 56 = .ok (.iconst 1, 1) := by decide +kernel
theorem dX12_lay_57 : decode cX12_lay 57 = .ok (.ireturn, 1) := by decide +kernel
theorem dX12_get_0 : decode cX12_get 0 = .ok (.iload_n 1, 1) := by decide +kernel
theorem dX12_get_1 : decode cX12_get 1 = .ok (.invokestatic 105, 3) := by decide +kernel
theorem dX12_get_4 : decode cX12_get 4 = .ok (.ifCond .eq 25, 3) := by decide +kernel
theorem dX12_get_7 : decode cX12_get 7 = .ok (.iload_n 2, 1) := by decide +kernel
theorem dX12_get_8 : decode cX12_get 8 = .ok (.i2l, 1) := by decide +kernel
theorem dX12_get_9 : decode cX12_get 9 = .ok (.lconst 0, 1) := by decide +kernel
theorem dX12_get_10 : decode cX12_get 10 = .ok (.ldc2_w 109, 3) := by decide +kernel
theorem dX12_get_13 : decode cX12_get 13 = .ok (.invokestatic 95, 3) := by decide +kernel
theorem dX12_get_16 : decode cX12_get 16 = .ok (.ifCond .eq 13, 3) := by decide +kernel
theorem dX12_get_19 : decode cX12_get 19 = .ok (.aload_n 0, 1) := by decide +kernel
theorem dX12_get_20 : decode cX12_get 20 = .ok (.iload_n 1, 1) := by decide +kernel
theorem dX12_get_21 : decode cX12_get 21 = .ok (.iload_n 2, 1) := by decide +kernel
theorem dX12_get_22 : decode cX12_get 22 = .ok (.iload_n 3, 1) := by decide +kernel
theorem dX12_get_23 : decode cX12_get 23 = .ok (.invokevirtual 115, 3) := by decide +kernel
theorem dX12_get_26 : decode cX12_get 26 = .ok (.ifCond .eq 6, 3) := by decide +kernel
theorem dX12_get_29 : decode cX12_get 29 = .ok (.ldc 123, 2) := by decide +kernel
theorem dX12_get_31 : decode cX12_get 31 = .ok (.ireturn, 1) := by decide +kernel
theorem dX12_get_32 : decode cX12_get 32 = .ok (.aload_n 0, 1) := by decide +kernel
theorem dX12_get_33 : decode cX12_get 33 = .ok (.getfield 16, 3) := by decide +kernel
theorem dX12_get_36 : decode cX12_get 36 = .ok (.bipush 60, 2) := by decide +kernel
theorem dX12_get_38 : decode cX12_get 38 = .ok (.iload_n 1, 1) := by decide +kernel
theorem dX12_get_39 : decode cX12_get 39 = .ok (.imul, 1) := by decide +kernel
theorem dX12_get_40 : decode cX12_get 40 = .ok (.iload_n 3, 1) := by decide +kernel
theorem dX12_get_41 : decode cX12_get 41 = .ok (.iadd, 1) := by decide +kernel
theorem dX12_get_42 : decode cX12_get 42 = .ok (.iaload, 1) := by decide +kernel
theorem dX12_get_43 : decode cX12_get 43 = .ok (.ireturn, 1) := by decide +kernel
theorem dX12_copy_0 : decode cX12_copy 0 = .ok (.iload_n 1, 1) := by decide +kernel
theorem dX12_copy_1 : decode cX12_copy 1 = .ok (.invokestatic 105, 3) := by decide +kernel
theorem dX12_copy_4 : decode cX12_copy 4 = .ok (.ifCond .eq 10, 3) := by decide +kernel
theorem dX12_copy_7 : decode cX12_copy 7 = .ok (.iload_n 3, 1) := by decide +kernel
theorem dX12_copy_8 : decode cX12_copy 8 = .ok (.invokestatic 105, 3) := by decide +kernel
theorem dX12_copy_11 : decode cX12_copy 11 = .ok (.ifCond .ne 6, 3) := by decide +kernel
theorem dX12_copy_14 : decode cX12_copy 14 = .ok (.bipush (-2), 2) := by decide +kernel
theorem dX12_copy_16 : decode cX12_copy 16 = .ok (.ireturn, 1) := by decide +kernel
theorem dX12_copy_17 : decode cX12_copy 17 = .ok (.aload_n 0, 1) := by decide +kernel
theorem dX12_copy_18 : decode cX12_copy 18 = .ok (.getfield 7, 3) := by decide +kernel
theorem dX12_copy_21 : decode cX12_copy 21 = .ok (.iload_n 1, 1) := by decide +kernel
theorem dX12_copy_22 : decode cX12_copy 22 = .ok (.iaload, 1) := by decide +kernel
theorem dX12_copy_23 : decode cX12_copy 23 = .ok (.ifCond .lt 12, 3) := by decide +kernel
theorem dX12_copy_26 : decode cX12_copy 26 = .ok (.aload_n 0, 1) := by decide +kernel
theorem dX12_copy_27 : decode cX12_copy 27 = .ok (.getfield 7, 3) := by decide +kernel
theorem dX12_copy_30 : decode cX12_copy 30 = .ok (.iload_n 3, 1) := by decide +kernel
theorem dX12_copy_31 : decode cX12_copy 31 = .ok (.iaload, 1) := by decide +kernel
theorem dX12_copy_32 : decode cX12_copy 32 = .ok (.ifCond .ge 9, 3) := by decide +kernel
theorem dX12_copy_35 : decode cX12_copy 35 = .ok (.aload_n 0, 1) := by decide +kernel
theorem dX12_copy_36 : decode cX12_copy 36 = .ok (.iconst 1, 1) := by decide +kernel
theorem dX12_copy_37 : decode cX12_copy 37 = .ok (.invokevirtual 111, 3) := by decide +kernel
theorem dX12_copy_40 : decode cX12_copy 40 = .ok (.ireturn, 1) := by decide +kernel
theorem dX12_copy_41 : decode cX12_copy 41 = .ok (.aload_n 0, 1) := by decide +kernel
theorem dX12_copy_42 : decode cX12_copy 42 = .ok (.getfield 7, 3) := by decide +kernel
theorem dX12_copy_45 : decode cX12_copy 45 = .ok (.iload_n 1, 1) := by decide +kernel
theorem dX12_copy_46 : decode cX12_copy 46 = .ok (.iaload, 1) := by decide +kernel
theorem dX12_copy_47 : decode cX12_copy 47 = .ok (.aload_n 0, 1) := by decide +kernel
theorem dX12_copy_48 : decode cX12_copy 48 = .ok (.getfield 7, 3) := by decide +kernel
theorem dX12_copy_51 : decode cX12_copy 51 = .ok (.iload_n 3, 1) := by decide +kernel
theorem dX12_copy_52 : decode cX12_copy 52 = .ok (.iaload, 1) := by decide +kernel
theorem dX12_copy_53 : decode cX12_copy 53 = .ok (.if_icmp .eq 9, 3) := by decide +kernel
theorem dX12_copy_56 : decode cX12_copy 56 = .ok (.aload_n 0, 1) := by decide +kernel
theorem dX12_copy_57 : decode cX12_copy 57 = .ok (.iconst 4, 1) := by decide +kernel
theorem dX12_copy_58 : decode cX12_copy 58 = .ok (.invokevirtual 111, 3) := by decide +kernel
theorem dX12_copy_61 : decode cX12_copy 61 = .ok (.ireturn, 1) := by decide +kernel
theorem dX12_copy_62 : decode cX12_copy 62 = .ok (.iload_n 2, 1) := by decide +kernel
theorem dX12_copy_63 : decode cX12_copy 63 = .ok (.ifCond .lt 48, 3) := by decide +kernel
theorem dX12_copy_66 : decode cX12_copy 66 = .ok (.iload 4, 2) := by decide +kernel
theorem dX12_copy_68 : decode cX12_copy 68 = .ok (.ifCond .lt 43, 3) := by decide +kernel
theorem dX12_copy_71 : decode cX12_copy 71 = .ok (.iload 5, 2) := by decide +kernel
theorem dX12_copy_73 : decode cX12_copy 73 = .ok (.ifCond .lt 38, 3) := by decide +kernel
theorem dX12_copy_76 : decode cX12_copy 76 = .ok (.iload_n 2, 1) := by decide +kernel
theorem dX12_copy_77 : decode cX12_copy 77 = .ok (.i2l, 1) := by decide +kernel
theorem dX12_copy_78 : decode cX12_copy 78 = .ok (.iload 5, 2) := by decide +kernel
theorem dX12_copy_80 : decode cX12_copy 80 = .ok (.i2l, 1) := by decide +kernel
theorem dX12_copy_81 : decode cX12_copy 81 = .ok (.ladd, 1) := by decide +kernel
theorem dX12_copy_82 : decode cX12_copy 82 = .ok (.aload_n 0, 1) := by decide +kernel
theorem dX12_copy_83 : decode cX12_copy 83 = .ok (.getfield 13, 3) := by decide +kernel
theorem dX12_copy_86 : decode cX12_copy 86 = .ok (.iload_n 1, 1) := by decide +kernel
theorem dX12_copy_87 : decode cX12_copy 87 = .ok (.iaload, 1) := by decide +kernel
theorem dX12_copy_88 : decode cX12_copy 88 = .ok (.i2l, 1) := by decide +kernel
theorem dX12_copy_89 : decode cX12_copy 89 = .ok (.lcmp, 1) := by decide +kernel
theorem dX12_copy_90 : decode cX12_copy 90 = .ok (.ifCond .gt 21, 3) := by decide +kernel
theorem dX12_copy_93 : decode cX12_copy 93 = .ok (.iload 4, 2) := by decide +kernel
theorem dX12_copy_95 : decode cX12_copy 95 = .ok (.i2l, 1) := by decide +kernel
theorem dX12_copy_96 : decode cX12_copy 96 = .ok (.iload 5, 2) := by decide +kernel
theorem dX12_copy_98 : decode cX12_copy 98 = .ok (.i2l, 1) := by decide +kernel
theorem dX12_copy_99 : decode cX12_copy 99 = .ok (.ladd, 1) := by decide +kernel
theorem dX12_copy_100 : decode cX12_copy 100 = .ok (.aload_n 0, 1) := by decide +kernel
theorem dX12_copy_101 : decode cX12_copy 101 = .ok (.getfield 13, 3) := by decide +kernel
theorem dX12_copy_104 : decode cX12_copy 104 = .ok (.iload_n 3, 1) := by decide +kernel
theorem dX12_copy_105 : decode cX12_copy 105 = .ok (.iaload, 1) := by decide +kernel
theorem dX12_copy_106 : decode cX12_copy 106 = .ok (.i2l, 1) := by decide +kernel
theorem dX12_copy_107 : decode cX12_copy 107 = .ok (.lcmp, 1) := by decide +kernel
theorem dX12_copy_108 : decode cX12_copy 108 = .ok (.ifCond .le 9, 3) := by decide +kernel
theorem dX12_copy_111 : decode cX12_copy 111 = .ok (.aload_n 0, 1) := by decide +kernel
theorem dX12_copy_112 : decode cX12_copy 112 = .ok (.iconst 2, 1) := by decide +kernel
theorem dX12_copy_113 : decode cX12_copy 113 = .ok (.invokevirtual 111, 3) := by decide +kernel
theorem dX12_copy_116 : decode cX12_copy 116 = .ok (.ireturn, 1) := by decide +kernel
theorem dX12_copy_117 : decode cX12_copy 117 = .ok (.iconst 0, 1) := by decide +kernel
theorem dX12_copy_118 : decode cX12_copy 118 = .ok (.istore 6, 2) := by decide +kernel
theorem dX12_copy_120 : decode cX12_copy 120 = .ok (.iload 6, 2) := by decide +kernel
theorem dX12_copy_122 : decode cX12_copy 122 = .ok (.iload 5, 2) := by decide +kernel
theorem dX12_copy_124 : decode cX12_copy 124 = .ok (.if_icmp .ge 30, 3) := by decide +kernel
theorem dX12_copy_127 : decode cX12_copy 127 = .ok (.aload_n 0, 1) := by decide +kernel
theorem dX12_copy_128 : decode cX12_copy 128 = .ok (.getfield 19, 3) := by decide +kernel
theorem dX12_copy_131 : decode cX12_copy 131 = .ok (.iload 6, 2) := by decide +kernel
theorem dX12_copy_133 : decode cX12_copy 133 = .ok (.aload_n 0, 1) := by decide +kernel
theorem dX12_copy_134 : decode cX12_copy 134 = .ok (.getfield 16, 3) := by decide +kernel
theorem dX12_copy_137 : decode cX12_copy 137 = .ok (.bipush 60, 2) := by decide +kernel
theorem dX12_copy_139 : decode cX12_copy 139 = .ok (.iload_n 1, 1) := by decide +kernel
theorem dX12_copy_140 : decode cX12_copy 140 = .ok (.imul, 1) := by decide +kernel
theorem dX12_copy_141 : decode cX12_copy 141 = .ok (.iload_n 2, 1) := by decide +kernel
theorem dX12_copy_142 : decode cX12_copy 142 = .ok (.iadd, 1) := by decide +kernel
theorem dX12_copy_143 : decode cX12_copy 143 = .ok (.iload 6, 2) := by decide +kernel
theorem dX12_copy_145 : decode cX12_copy 145 = .ok (.iadd, 1) := by decide +kernel
theorem dX12_copy_146 : decode cX12_copy 146 = .ok (.iaload, 1) := by decide +kernel
theorem dX12_copy_147 : decode cX12_copy 147 = .ok (.iastore, 1) := by decide +kernel
theorem dX12_copy_148 : decode cX12_copy 148 = .ok (.iinc 6 1, 3) := by decide +kernel
theorem dX12_copy_151 : decode cX12_copy 151 = .ok (.goto (-31), 3) := by decide +kernel
theorem dX12_copy_154 : decode cX12_copy 154 = .ok (.iconst 0, 1) := by decide +kernel
theorem dX12_copy_155 : decode cX12_copy 155 = .ok (.istore 6, 2) := by decide +kernel
theorem dX12_copy_157 : decode cX12_copy 157 = .ok (.iload 6, 2) := by decide +kernel
theorem dX12_copy_159 : decode cX12_copy 159 = .ok (.iload 5, 2) := by decide +kernel
theorem dX12_copy_161 : decode cX12_copy 161 = .ok (.if_icmp .ge 31, 3) := by decide +kernel
theorem dX12_copy_164 : decode cX12_copy 164 = .ok (.aload_n 0, 1) := by decide +kernel
theorem dX12_copy_165 : decode cX12_copy 165 = .ok (.getfield 16, 3) := by decide +kernel
theorem dX12_copy_168 : decode cX12_copy 168 = .ok (.bipush 60, 2) := by decide +kernel
theorem dX12_copy_170 : decode cX12_copy 170 = .ok (.iload_n 3, 1) := by decide +kernel
theorem dX12_copy_171 : decode cX12_copy 171 = .ok (.imul, 1) := by decide +kernel
theorem dX12_copy_172 : decode cX12_copy 172 = .ok (.iload 4, 2) := by decide +kernel
theorem dX12_copy_174 : decode cX12_copy 174 = .ok (.iadd, 1) := by decide +kernel
theorem dX12_copy_175 : decode cX12_copy 175 = .ok (.iload 6, 2) := by decide +kernel
theorem dX12_copy_177 : decode cX12_copy 177 = .ok (.iadd, 1) := by decide +kernel
theorem dX12_copy_178 : decode cX12_copy 178 = .ok (.aload_n 0, 1) := by decide +kernel
theorem dX12_copy_179 : decode cX12_copy 179 = .ok (.getfield 19, 3) := by decide +kernel
theorem dX12_copy_182 : decode cX12_copy 182 = .ok (.iload 6, 2) := by decide +kernel
theorem dX12_copy_184 : decode cX12_copy 184 = .ok (.iaload, 1) := by decide +kernel
theorem dX12_copy_185 : decode cX12_copy 185 = .ok (.iastore, 1) := by decide +kernel
theorem dX12_copy_186 : decode cX12_copy 186 = .ok (.iinc 6 1, 3) := by decide +kernel
theorem dX12_copy_189 : decode cX12_copy 189 = .ok (.goto (-32), 3) := by decide +kernel
theorem dX12_copy_192 : decode cX12_copy 192 = .ok (.iconst 1, 1) := by decide +kernel
theorem dX12_copy_193 : decode cX12_copy 193 = .ok (.ireturn, 1) := by decide +kernel
theorem dX12_room_0 : decode cX12_room 0 = .ok (.iload_n 0, 1) := by decide +kernel
theorem dX12_room_1 : decode cX12_room 1 = .ok (.ifCond .ne 8, 3) := by decide +kernel
theorem dX12_room_4 : decode cX12_room 4 = .ok (.bipush 20, 2) := by decide +kernel
theorem dX12_room_6 : decode cX12_room 6 = .ok (.goto 5, 3) := by decide +kernel
theorem dX12_room_9 : decode cX12_room 9 = .ok (.bipush 60, 2) := by decide +kernel
theorem dX12_room_11 : decode cX12_room 11 = .ok (.ireturn, 1) := by decide +kernel
theorem dX12_type_0 : decode cX12_type 0 = .ok (.iload_n 1, 1) := by decide +kernel
theorem dX12_type_1 : decode cX12_type 1 = .ok (.invokestatic 124, 3) := by decide +kernel
theorem dX12_type_4 : decode cX12_type 4 = .ok (.ifCond .eq 15, 3) := by decide +kernel
theorem dX12_type_7 : decode cX12_type 7 = .ok (.iload_n 2, 1) := by decide +kernel
theorem dX12_type_8 : decode cX12_type 8 = .ok (.i2l, 1) := by decide +kernel
theorem dX12_type_9 : decode cX12_type 9 = .ok (.lconst 0, 1) := by decide +kernel
theorem dX12_type_10 : decode cX12_type 10 = .ok (.ldc2_w 127, 3) := by decide +kernel
theorem dX12_type_13 : decode cX12_type 13 = .ok (.invokestatic 95, 3) := by decide +kernel
theorem dX12_type_16 : decode cX12_type 16 = .ok (.ifCond .ne 6, 3) := by decide +kernel
theorem dX12_type_19 : decode cX12_type 19 = .ok (.bipush (-2), 2) := by decide +kernel
theorem dX12_type_21 : decode cX12_type 21 = .ok (.ireturn, 1) := by decide +kernel
theorem dX12_type_22 : decode cX12_type 22 = .ok (.aload_n 0, 1) := by decide +kernel
theorem dX12_type_23 : decode cX12_type 23 = .ok (.getfield 25, 3) := by decide +kernel
theorem dX12_type_26 : decode cX12_type 26 = .ok (.iload_n 1, 1) := by decide +kernel
theorem dX12_type_27 : decode cX12_type 27 = .ok (.iaload, 1) := by decide +kernel
theorem dX12_type_28 : decode cX12_type 28 = .ok (.iload_n 1, 1) := by decide +kernel
theorem dX12_type_29 : decode cX12_type 29 = .ok (.invokestatic 129, 3) := by decide +kernel
theorem dX12_type_32 : decode cX12_type 32 = .ok (.if_icmp .ne 6, 3) := by decide +kernel
theorem dX12_type_35 : decode cX12_type 35 = .ok (.bipush (-4), 2) := by decide +kernel
theorem dX12_type_37 : decode cX12_type 37 = .ok (.ireturn, 1) := by decide +kernel
theorem dX12_type_38 : decode cX12_type 38 = .ok (.aload_n 0, 1) := by decide +kernel
theorem dX12_type_39 : decode cX12_type 39 = .ok (.getfield 22, 3) := by decide +kernel
theorem dX12_type_42 : decode cX12_type 42 = .ok (.bipush 20, 2) := by decide +kernel
theorem dX12_type_44 : decode cX12_type 44 = .ok (.iload_n 1, 1) := by decide +kernel
theorem dX12_type_45 : decode cX12_type 45 = .ok (.imul, 1) := by decide +kernel
theorem dX12_type_46 : decode cX12_type 46 = .ok (.aload_n 0, 1) := by decide +kernel
theorem dX12_type_47 : decode cX12_type 47 = .ok (.getfield 25, 3) := by decide +kernel
theorem dX12_type_50 : decode cX12_type 50 = .ok (.iload_n 1, 1) := by decide +kernel
theorem dX12_type_51 : decode cX12_type 51 = .ok (.iaload, 1) := by decide +kernel
theorem dX12_type_52 : decode cX12_type 52 = .ok (.iadd, 1) := by decide +kernel
theorem dX12_type_53 : decode cX12_type 53 = .ok (.iload_n 2, 1) := by decide +kernel
theorem dX12_type_54 : decode cX12_type 54 = .ok (.iastore, 1) := by decide +kernel
theorem dX12_type_55 : decode cX12_type 55 = .ok (.aload_n 0, 1) := by decide +kernel
theorem dX12_type_56 : decode cX12_type 56 = .ok (.getfield 25, 3) := by decide +kernel
theorem dX12_type_59 : decode cX12_type 59 = .ok (.iload_n 1, 1) := by decide +kernel
theorem dX12_type_60 : decode cX12_type 60 = .ok (.dup2, 1) := by decide +kernel
theorem dX12_type_61 : decode cX12_type 61 = .ok (.iaload, 1) := by decide +kernel
theorem dX12_type_62 : decode cX12_type 62 = .ok (.iconst 1, 1) := by decide +kernel
theorem dX12_type_63 : decode cX12_type 63 = .ok (.iadd, 1) := by decide +kernel
theorem dX12_type_64 : decode cX12_type 64 = .ok (.iastore, 1) := by decide +kernel
theorem dX12_type_65 : decode cX12_type 65 = .ok (.aload_n 0, 1) := by decide +kernel
theorem dX12_type_66 : decode cX12_type 66 = .ok (.getfield 25, 3) := by decide +kernel
theorem dX12_type_69 : decode cX12_type 69 = .ok (.iload_n 1, 1) := by decide +kernel
theorem dX12_type_70 : decode cX12_type 70 = .ok (.iaload, 1) := by decide +kernel
theorem dX12_type_71 : decode cX12_type 71 = .ok (.ireturn, 1) := by decide +kernel
theorem dX12_wipe_0 : decode cX12_wipe 0 = .ok (.iload_n 1, 1) := by decide +kernel
theorem dX12_wipe_1 : decode cX12_wipe 1 = .ok (.invokestatic 124, 3) := by decide +kernel
theorem dX12_wipe_4 : decode cX12_wipe 4 = .ok (.ifCond .ne 6, 3) := by decide +kernel
theorem dX12_wipe_7 : decode cX12_wipe 7 = .ok (.bipush (-2), 2) := by decide +kernel
theorem dX12_wipe_9 : decode cX12_wipe 9 = .ok (.ireturn, 1) := by decide +kernel
theorem dX12_wipe_10 : decode cX12_wipe 10 = .ok (.aload_n 0, 1) := by decide +kernel
theorem dX12_wipe_11 : decode cX12_wipe 11 = .ok (.getfield 25, 3) := by decide +kernel
theorem dX12_wipe_14 : decode cX12_wipe 14 = .ok (.iload_n 1, 1) := by decide +kernel
theorem dX12_wipe_15 : decode cX12_wipe 15 = .ok (.iaload, 1) := by decide +kernel
theorem dX12_wipe_16 : decode cX12_wipe 16 = .ok (.istore_n 2, 1) := by decide +kernel
theorem dX12_wipe_17 : decode cX12_wipe 17 = .ok (.aload_n 0, 1) := by decide +kernel
theorem dX12_wipe_18 : decode cX12_wipe 18 = .ok (.getfield 25, 3) := by decide +kernel
theorem dX12_wipe_21 : decode cX12_wipe 21 = .ok (.iload_n 1, 1) := by decide +kernel
theorem dX12_wipe_22 : decode cX12_wipe 22 = .ok (.iconst 0, 1) := by decide +kernel
theorem dX12_wipe_23 : decode cX12_wipe 23 = .ok (.iastore, 1) := by decide +kernel
theorem dX12_wipe_24 : decode cX12_wipe 24 = .ok (.iload_n 2, 1) := by decide +kernel
theorem dX12_wipe_25 : decode cX12_wipe 25 = .ok (.ireturn, 1) := by decide +kernel
theorem dX12_here_0 : decode cX12_here 0 = .ok (.aload_n 0, 1) := by decide +kernel
theorem dX12_here_1 : decode cX12_here 1 = .ok (.getfield 132, 3) := by decide +kernel
theorem dX12_here_4 : decode cX12_here 4 = .ok (.aload_n 0, 1) := by decide +kernel
theorem dX12_here_5 : decode cX12_here 5 = .ok (.getfield 25, 3) := by decide +kernel
theorem dX12_here_8 : decode cX12_here 8 = .ok (.iload_n 1, 1) := by decide +kernel
theorem dX12_here_9 : decode cX12_here 9 = .ok (.iaload, 1) := by decide +kernel
theorem dX12_here_10 : decode cX12_here 10 = .ok (.if_icmp .ge 20, 3) := by decide +kernel
theorem dX12_here_13 : decode cX12_here 13 = .ok (.aload_n 0, 1) := by decide +kernel
theorem dX12_here_14 : decode cX12_here 14 = .ok (.getfield 22, 3) := by decide +kernel
theorem dX12_here_17 : decode cX12_here 17 = .ok (.bipush 20, 2) := by decide +kernel
theorem dX12_here_19 : decode cX12_here 19 = .ok (.iload_n 1, 1) := by decide +kernel
theorem dX12_here_20 : decode cX12_here 20 = .ok (.imul, 1) := by decide +kernel
theorem dX12_here_21 : decode cX12_here 21 = .ok (.aload_n 0, 1) := by decide +kernel
theorem dX12_here_22 : decode cX12_here 22 = .ok (.getfield 132, 3) := by decide +kernel
theorem dX12_here_25 : decode cX12_here 25 = .ok (.iadd, 1) := by decide +kernel
theorem dX12_here_26 : decode cX12_here 26 = .ok (.iaload, 1) := by decide +kernel
theorem dX12_here_27 : decode cX12_here 27 = .ok (.goto 4, 3) := by decide +kernel
theorem dX12_here_30 : decode cX12_here 30 = .ok (.iconst (-1), 1) := by decide +kernel
theorem dX12_here_31 : decode cX12_here 31 = .ok (.ireturn, 1) := by decide +kernel
theorem dX12_figure_0 : decode cX12_figure 0 = .ok (.aload_n 0, 1) := by decide +kernel
theorem dX12_figure_1 : decode cX12_figure 1 = .ok (.iload_n 1, 1) := by decide +kernel
theorem dX12_figure_2 : decode cX12_figure 2 = .ok (.invokevirtual 135, 3) := by decide +kernel
theorem dX12_figure_5 : decode cX12_figure 5 = .ok (.bipush 48, 2) := by decide +kernel
theorem dX12_figure_7 : decode cX12_figure 7 = .ok (.isub, 1) := by decide +kernel
theorem dX12_figure_8 : decode cX12_figure 8 = .ok (.istore 4, 2) := by decide +kernel
theorem dX12_figure_10 : decode cX12_figure 10 = .ok (.iload 4, 2) := by decide +kernel
theorem dX12_figure_12 : decode cX12_figure 12 = .ok (.i2l, 1) := by decide +kernel
theorem dX12_figure_13 : decode cX12_figure 13 = .ok (.iload_n 2, 1) := by decide +kernel
theorem dX12_figure_14 : decode cX12_figure 14 = .ok (.i2l, 1) := by decide +kernel
theorem dX12_figure_15 : decode cX12_figure 15 = .ok (.iload_n 3, 1) := by decide +kernel
theorem dX12_figure_16 : decode cX12_figure 16 = .ok (.i2l, 1) := by decide +kernel
theorem dX12_figure_17 : decode cX12_figure 17 = .ok (.invokestatic 95, 3) := by decide +kernel
theorem dX12_figure_20 : decode cX12_figure 20 = .ok (.ifCond .ne 5, 3) := by decide +kernel
theorem dX12_figure_23 : decode cX12_figure 23 = .ok (.iconst (-1), 1) := by decide +kernel
theorem dX12_figure_24 : decode cX12_figure 24 = .ok (.ireturn, 1) := by decide +kernel
theorem dX12_figure_25 : decode cX12_figure 25 = .ok (.aload_n 0, 1) := by decide +kernel
theorem dX12_figure_26 : decode cX12_figure 26 = .ok (.dup, 1) := by decide +kernel
theorem dX12_figure_27 : decode cX12_figure 27 = .ok (.getfield 132, 3) := by decide +kernel
theorem dX12_figure_30 : decode cX12_figure 30 = .ok (.iconst 1, 1) := by decide +kernel
theorem dX12_figure_31 : decode cX12_figure 31 = .ok (.iadd, 1) := by decide +kernel
theorem dX12_figure_32 : decode cX12_figure 32 = .ok (.putfield 132, 3) := by decide +kernel
theorem dX12_figure_35 : decode cX12_figure 35 = .ok (.iload 4, 2) := by decide +kernel
theorem dX12_figure_37 : decode cX12_figure 37 = .ok (.ireturn, 1) := by decide +kernel
theorem dX12_readsLand_0 : decode cX12_readsLand 0 = .ok (.aload_n 0, 1) := by decide +kernel
theorem dX12_readsLand_1 : decode cX12_readsLand 1 = .ok (.getfield 138, 3) := by decide +kernel
theorem dX12_readsLand_4 : decode cX12_readsLand 4 = .ok (.bipush 6, 2) := by decide +kernel
theorem dX12_readsLand_6 : decode cX12_readsLand 6 = .ok (.if_icmp .ne 5, 3) := by decide +kernel
theorem dX12_readsLand_9 : decode cX12_readsLand 9 = .ok (.iconst 0, 1) := by decide +kernel
theorem dX12_readsLand_10 : decode cX12_readsLand 10 = .ok (.ireturn, 1) := by decide +kernel
theorem dX12_readsLand_11 : decode cX12_readsLand 11 = .ok (.aload_n 0, 1) := by decide +kernel
theorem dX12_readsLand_12 : decode cX12_readsLand 12 = .ok (.iconst 0, 1) := by decide +kernel
theorem dX12_readsLand_13 : decode cX12_readsLand 13 = .ok (.iconst 0, 1) := by decide +kernel
theorem dX12_readsLand_14 : decode cX12_readsLand 14 = .ok (.bipush 9, 2) := by decide +kernel
theorem dX12_readsLand_16 : decode cX12_readsLand 16 = .ok (.invokevirtual 141, 3) := by decide +kernel
theorem dX12_readsLand_19 : decode cX12_readsLand 19 = .ok (.istore_n 1, 1) := by decide +kernel
theorem dX12_readsLand_20 : decode cX12_readsLand 20 = .ok (.iload_n 1, 1) := by decide +kernel
theorem dX12_readsLand_21 : decode cX12_readsLand 21 = .ok (.iconst (-1), 1) := by decide +kernel
theorem dX12_readsLand_22 : decode cX12_readsLand 22 = .ok (.if_icmp .ne 7, 3) := by decide +kernel
theorem dX12_readsLand_25 : decode cX12_readsLand 25 = .ok (.iconst (-1), 1) := by decide +kernel
theorem dX12_readsLand_26 : decode cX12_readsLand 26 = .ok (.goto 11, 3) := by decide +kernel
theorem dX12_readsLand_29 : decode cX12_readsLand 29 = .ok (.aload_n 0, 1) := by decide +kernel
theorem dX12_readsLand_30 : decode cX12_readsLand 30 = .ok (.iconst 0, 1) := by decide +kernel
theorem dX12_readsLand_31 : decode cX12_readsLand 31 = .ok (.iconst 0, 1) := by decide +kernel
theorem dX12_readsLand_32 : decode cX12_readsLand 32 = .ok (.bipush 9, 2) := by decide +kernel
theorem dX12_readsLand_34 : decode cX12_readsLand 34 = .ok (.invokevirtual 141, 3) := by decide +kernel
theorem dX12_readsLand_37 : decode cX12_readsLand 37 = .ok (.istore_n 2, 1) := by decide +kernel
theorem dX12_readsLand_38 : decode cX12_readsLand 38 = .ok (.iload_n 2, 1) := by decide +kernel
theorem dX12_readsLand_39 : decode cX12_readsLand 39 = .ok (.iconst (-1), 1) := by decide +kernel
theorem dX12_readsLand_40 : decode cX12_readsLand 40 = .ok (.if_icmp .ne 5, 3) := by decide +kernel
theorem dX12_readsLand_43 : decode cX12_readsLand 43 = .ok (.iconst 0, 1) := by decide +kernel
theorem dX12_readsLand_44 : decode cX12_readsLand 44 = .ok (.ireturn, 1) := by decide +kernel
theorem dX12_readsLand_45 : decode cX12_readsLand 45 = .ok (.aload_n 0, 1) := by decide +kernel
theorem dX12_readsLand_46 : decode cX12_readsLand 46 = .ok (.getfield 28, 3) := by decide +kernel
theorem dX12_readsLand_49 : decode cX12_readsLand 49 = .ok (.aload_n 0, 1) := by decide +kernel
theorem dX12_readsLand_50 : decode cX12_readsLand 50 = .ok (.getfield 138, 3) := by decide +kernel
theorem dX12_readsLand_53 : decode cX12_readsLand 53 = .ok (.bipush 10, 2) := by decide +kernel
theorem dX12_readsLand_55 : decode cX12_readsLand 55 = .ok (.iload_n 1, 1) := by decide +kernel
theorem dX12_readsLand_56 : decode cX12_readsLand 56 = .ok (.imul, 1) := by decide +kernel
theorem dX12_readsLand_57 : decode cX12_readsLand 57 = .ok (.iload_n 2, 1) := by decide +kernel
theorem dX12_readsLand_58 : decode cX12_readsLand 58 = .ok (.iadd, 1) := by decide +kernel
theorem dX12_readsLand_59 : decode cX12_readsLand 59 = .ok (.iastore, 1) := by decide +kernel
theorem dX12_readsLand_60 : decode cX12_readsLand 60 = .ok (.aload_n 0, 1) := by decide +kernel
theorem dX12_readsLand_61 : decode cX12_readsLand 61 = .ok (.dup, 1) := by decide +kernel
theorem dX12_readsLand_62 : decode cX12_readsLand 62 = .ok (.getfield 138, 3) := by decide +kernel
theorem dX12_readsLand_65 : decode cX12_readsLand 65 = .ok (.iconst 1, 1) := by decide +kernel
theorem dX12_readsLand_66 : decode cX12_readsLand 66 = .ok (.iadd, 1) := by decide +kernel
theorem dX12_readsLand_67 : decode cX12_readsLand 67 = .ok (.putfield 138, 3) := by decide +kernel
theorem dX12_readsLand_70 : decode cX12_readsLand 70 = .ok (.iconst 1, 1) := by decide +kernel
theorem dX12_readsLand_71 : decode cX12_readsLand 71 = .ok (.ireturn, 1) := by decide +kernel
theorem dX12_readsPerson_0 : decode cX12_readsPerson 0 = .ok (.aload_n 0, 1) := by decide +kernel
theorem dX12_readsPerson_1 : decode cX12_readsPerson 1 = .ok (.getfield 144, 3) := by decide +kernel
theorem dX12_readsPerson_4 : decode cX12_readsPerson 4 = .ok (.bipush 12, 2) := by decide +kernel
theorem dX12_readsPerson_6 : decode cX12_readsPerson 6 = .ok (.if_icmp .ne 5, 3) := by decide +kernel
theorem dX12_readsPerson_9 : decode cX12_readsPerson 9 = .ok (.iconst 0, 1) := by decide +kernel
theorem dX12_readsPerson_10 : decode cX12_readsPerson 10 = .ok (.ireturn, 1) := by decide +kernel
theorem dX12_readsPerson_11 : decode cX12_readsPerson 11 = .ok (.aload_n 0, 1) := by decide +kernel
theorem dX12_readsPerson_12 : decode cX12_readsPerson 12 = .ok (.iconst 1, 1) := by decide +kernel
theorem dX12_readsPerson_13 : decode cX12_readsPerson 13 = .ok (.invokevirtual 135, 3) := by decide +kernel
theorem dX12_readsPerson_16 : decode cX12_readsPerson 16 = .ok (.bipush 109, 2) := by decide +kernel
theorem dX12_readsPerson_18 : decode cX12_readsPerson 18 = .ok (.if_icmp .ne 7, 3) := by decide +kernel
theorem dX12_readsPerson_21 : decode cX12_readsPerson 21 = .ok (.iconst 0, 1) := by decide +kernel
theorem dX12_readsPerson_22 : decode cX12_readsPerson 22 = .ok (.goto 18, 3) := by decide +kernel
theorem dX12_readsPerson_25 : decode cX12_readsPerson 25 = .ok (.aload_n 0, 1) := by decide +kernel
theorem dX12_readsPerson_26 : decode cX12_readsPerson 26 = .ok (.iconst 1, 1) := by decide +kernel
theorem dX12_readsPerson_27 : decode cX12_readsPerson 27 = .ok (.invokevirtual 135, 3) := by decide +kernel
theorem dX12_readsPerson_30 : decode cX12_readsPerson 30 = .ok (.bipush 119, 2) := by decide +kernel
theorem dX12_readsPerson_32 : decode cX12_readsPerson 32 = .ok (.if_icmp .ne 7, 3) := by decide +kernel
theorem dX12_readsPerson_35 : decode cX12_readsPerson 35 = .ok (.iconst 1, 1) := by decide +kernel
theorem dX12_readsPerson_36 : decode cX12_readsPerson 36 = .ok (.goto 4, 3) := by decide +kernel
theorem dX12_readsPerson_39 : decode cX12_readsPerson 39 = .ok (.iconst (-1), 1) := by decide +kernel
theorem dX12_readsPerson_40 : decode cX12_readsPerson 40 = .ok (.istore_n 1, 1) := by decide +kernel
theorem dX12_readsPerson_41 : decode cX12_readsPerson 41 = .ok (.iload_n 1, 1) := by decide +kernel
theorem dX12_readsPerson_42 : decode cX12_readsPerson 42 = .ok (.iconst (-1), 1) := by decide +kernel
theorem dX12_readsPerson_43 : decode cX12_readsPerson 43 = .ok (.if_icmp .ne 5, 3) := by decide +kernel
theorem dX12_readsPerson_46 : decode cX12_readsPerson 46 = .ok (.iconst 0, 1) := by decide +kernel
theorem dX12_readsPerson_47 : decode cX12_readsPerson 47 = .ok (.ireturn, 1) := by decide +kernel
theorem dX12_readsPerson_48 : decode cX12_readsPerson 48 = .ok (.aload_n 0, 1) := by decide +kernel
theorem dX12_readsPerson_49 : decode cX12_readsPerson 49 = .ok (.dup, 1) := by decide +kernel
theorem dX12_readsPerson_50 : decode cX12_readsPerson 50 = .ok (.getfield 132, 3) := by decide +kernel
theorem dX12_readsPerson_53 : decode cX12_readsPerson 53 = .ok (.iconst 1, 1) := by decide +kernel
theorem dX12_readsPerson_54 : decode cX12_readsPerson 54 = .ok (.iadd, 1) := by decide +kernel
theorem dX12_readsPerson_55 : decode cX12_readsPerson 55 = .ok (.putfield 132, 3) := by decide +kernel
theorem dX12_readsPerson_58 : decode cX12_readsPerson 58 = .ok (.aload_n 0, 1) := by decide +kernel
theorem dX12_readsPerson_59 : decode cX12_readsPerson 59 = .ok (.getfield 31, 3) := by decide +kernel
theorem dX12_readsPerson_62 : decode cX12_readsPerson 62 = .ok (.iconst 4, 1) := by decide +kernel
theorem dX12_readsPerson_63 : decode cX12_readsPerson 63 = .ok (.aload_n 0, 1) := by decide +kernel
theorem dX12_readsPerson_64 : decode cX12_readsPerson 64 = .ok (.getfield 144, 3) := by decide +kernel
theorem dX12_readsPerson_67 : decode cX12_readsPerson 67 = .ok (.imul, 1) := by decide +kernel
theorem dX12_readsPerson_68 : decode cX12_readsPerson 68 = .ok (.iload_n 1, 1) := by decide +kernel
theorem dX12_readsPerson_69 : decode cX12_readsPerson 69 = .ok (.iastore, 1) := by decide +kernel
theorem dX12_readsPerson_70 : decode cX12_readsPerson 70 = .ok (.iconst 1, 1) := by decide +kernel
theorem dX12_readsPerson_71 : decode cX12_readsPerson 71 = .ok (.istore_n 2, 1) := by decide +kernel
theorem dX12_readsPerson_72 : decode cX12_readsPerson 72 = .ok (.iload_n 2, 1) := by decide +kernel
theorem dX12_readsPerson_73 : decode cX12_readsPerson 73 = .ok (.iconst 4, 1) := by decide +kernel
theorem dX12_readsPerson_74 : decode cX12_readsPerson 74 = .ok (.if_icmp .ge 62, 3) := by decide +kernel
theorem dX12_readsPerson_77 : decode cX12_readsPerson 77 = .ok (.aload_n 0, 1) := by decide +kernel
theorem dX12_readsPerson_78 : decode cX12_readsPerson 78 = .ok (.iconst 1, 1) := by decide +kernel
theorem dX12_readsPerson_79 : decode cX12_readsPerson 79 = .ok (.iload_n 2, 1) := by decide +kernel
theorem dX12_readsPerson_80 : decode cX12_readsPerson 80 = .ok (.iconst 2, 1) := by decide +kernel
theorem dX12_readsPerson_81 : decode cX12_readsPerson 81 = .ok (.if_icmp .ne 7, 3) := by decide +kernel
theorem dX12_readsPerson_84 : decode cX12_readsPerson 84 = .ok (.iconst 1, 1) := by decide +kernel
theorem dX12_readsPerson_85 : decode cX12_readsPerson 85 = .ok (.goto 4, 3) := by decide +kernel
theorem dX12_readsPerson_88 : decode cX12_readsPerson 88 = .ok (.iconst 0, 1) := by decide +kernel
theorem dX12_readsPerson_89 : decode cX12_readsPerson 89 = .ok (.iload_n 2, 1) := by decide +kernel
theorem dX12_readsPerson_90 : decode cX12_readsPerson 90 = .ok (.iconst 1, 1) := by decide +kernel
theorem dX12_readsPerson_91 : decode cX12_readsPerson 91 = .ok (.if_icmp .ne 12, 3) := by decide +kernel
theorem dX12_readsPerson_94 : decode cX12_readsPerson 94 = .ok (.aload_n 0, 1) := by decide +kernel
theorem dX12_readsPerson_95 : decode cX12_readsPerson 95 = .ok (.getfield 138, 3) := by decide +kernel
theorem dX12_readsPerson_98 : decode cX12_readsPerson 98 = .ok (.iconst 1, 1) := by decide +kernel
theorem dX12_readsPerson_99 : decode cX12_readsPerson 99 = .ok (.isub, 1) := by decide +kernel
theorem dX12_readsPerson_100 : decode cX12_readsPerson 100 = .ok (.goto 5, 3) := by decide +kernel
theorem dX12_readsPerson_103 : decode cX12_readsPerson 103 = .ok (.bipush 9, 2) := by decide +kernel
theorem dX12_readsPerson_105 : decode cX12_readsPerson 105 = .ok (.invokevirtual 141, 3) := by decide +kernel
theorem dX12_readsPerson_108 : decode cX12_readsPerson 108 = .ok (.istore_n 3, 1) := by decide +kernel
theorem dX12_readsPerson_109 : decode cX12_readsPerson 109 = .ok (.iload_n 3, 1) := by decide +kernel
theorem dX12_readsPerson_110 : decode cX12_readsPerson 110 = .ok (.iconst (-1), 1) := by decide +kernel
theorem dX12_readsPerson_111 : decode cX12_readsPerson 111 = .ok (.if_icmp .ne 5, 3) := by decide +kernel
theorem dX12_readsPerson_114 : decode cX12_readsPerson 114 = .ok (.iconst 0, 1) := by decide +kernel
theorem dX12_readsPerson_115 : decode cX12_readsPerson 115 = .ok (.ireturn, 1) := by decide +kernel
theorem dX12_readsPerson_116 : decode cX12_readsPerson 116 = .ok (.aload_n 0, 1) := by decide +kernel
theorem dX12_readsPerson_117 : decode cX12_readsPerson 117 = .ok (.getfield 31, 3) := by decide +kernel
theorem dX12_readsPerson_120 : decode cX12_readsPerson 120 = .ok (.iconst 4, 1) := by decide +kernel
theorem dX12_readsPerson_121 : decode cX12_readsPerson 121 = .ok (.aload_n 0, 1) := by decide +kernel
theorem dX12_readsPerson_122 : decode cX12_readsPerson 122 = .ok (.getfield 144, 3) := by decide +kernel
theorem dX12_readsPerson_125 : decode cX12_readsPerson 125 = .ok (.imul, 1) := by decide +kernel
theorem dX12_readsPerson_126 : decode cX12_readsPerson 126 = .ok (.iload_n 2, 1) := by decide +kernel
theorem dX12_readsPerson_127 : decode cX12_readsPerson 127 = .ok (.iadd, 1) := by decide +kernel
theorem dX12_readsPerson_128 : decode cX12_readsPerson 128 = .ok (.iload_n 3, 1) := by decide +kernel
theorem dX12_readsPerson_129 : decode cX12_readsPerson 129 = .ok (.iastore, 1) := by decide +kernel
theorem dX12_readsPerson_130 : decode cX12_readsPerson 130 = .ok (.iinc 2 1, 3) := by decide +kernel
theorem dX12_readsPerson_133 : decode cX12_readsPerson 133 = .ok (.goto (-61), 3) := by decide +kernel
theorem dX12_readsPerson_136 : decode cX12_readsPerson 136 = .ok (.aload_n 0, 1) := by decide +kernel
theorem dX12_readsPerson_137 : decode cX12_readsPerson 137 = .ok (.dup, 1) := by decide +kernel
theorem dX12_readsPerson_138 : decode cX12_readsPerson 138 = .ok (.getfield 144, 3) := by decide +kernel
theorem dX12_readsPerson_141 : decode cX12_readsPerson 141 = .ok (.iconst 1, 1) := by decide +kernel
theorem dX12_readsPerson_142 : decode cX12_readsPerson 142 = .ok (.iadd, 1) := by decide +kernel
theorem dX12_readsPerson_143 : decode cX12_readsPerson 143 = .ok (.putfield 144, 3) := by decide +kernel
theorem dX12_readsPerson_146 : decode cX12_readsPerson 146 = .ok (.iconst 1, 1) := by decide +kernel
theorem dX12_readsPerson_147 : decode cX12_readsPerson 147 = .ok (.ireturn, 1) := by decide +kernel
theorem dX12_fails_0 : decode cX12_fails 0 = .ok (.iload_n 1, 1) := by decide +kernel
theorem dX12_fails_1 : decode cX12_fails 1 = .ok (.ifCond .ne 11, 3) := by decide +kernel
theorem dX12_fails_4 : decode cX12_fails 4 = .ok (.aload_n 0, 1) := by decide +kernel
theorem dX12_fails_5 : decode cX12_fails 5 = .ok (.iconst 0, 1) := by decide +kernel
theorem dX12_fails_6 : decode cX12_fails 6 = .ok (.putfield 138, 3) := by decide +kernel
theorem dX12_fails_9 : decode cX12_fails 9 = .ok (.goto 8, 3) := by decide +kernel
theorem dX12_fails_12 : decode cX12_fails 12 = .ok (.aload_n 0, 1) := by decide +kernel
theorem dX12_fails_13 : decode cX12_fails 13 = .ok (.iconst 0, 1) := by decide +kernel
theorem dX12_fails_14 : decode cX12_fails 14 = .ok (.putfield 144, 3) := by decide +kernel
theorem dX12_fails_17 : decode cX12_fails 17 = .ok (.aload_n 0, 1) := by decide +kernel
theorem dX12_fails_18 : decode cX12_fails 18 = .ok (.getfield 132, 3) := by decide +kernel
theorem dX12_fails_21 : decode cX12_fails 21 = .ok (.ireturn, 1) := by decide +kernel
theorem dX12_reads_0 : decode cX12_reads 0 = .ok (.aload_n 0, 1) := by decide +kernel
theorem dX12_reads_1 : decode cX12_reads 1 = .ok (.iconst 0, 1) := by decide +kernel
theorem dX12_reads_2 : decode cX12_reads 2 = .ok (.putfield 132, 3) := by decide +kernel
theorem dX12_reads_5 : decode cX12_reads 5 = .ok (.iload_n 1, 1) := by decide +kernel
theorem dX12_reads_6 : decode cX12_reads 6 = .ok (.ifCond .ne 11, 3) := by decide +kernel
theorem dX12_reads_9 : decode cX12_reads 9 = .ok (.aload_n 0, 1) := by decide +kernel
theorem dX12_reads_10 : decode cX12_reads 10 = .ok (.iconst 0, 1) := by decide +kernel
theorem dX12_reads_11 : decode cX12_reads 11 = .ok (.putfield 138, 3) := by decide +kernel
theorem dX12_reads_14 : decode cX12_reads 14 = .ok (.goto 8, 3) := by decide +kernel
theorem dX12_reads_17 : decode cX12_reads 17 = .ok (.aload_n 0, 1) := by decide +kernel
theorem dX12_reads_18 : decode cX12_reads 18 = .ok (.iconst 0, 1) := by decide +kernel
theorem dX12_reads_19 : decode cX12_reads 19 = .ok (.putfield 144, 3) := by decide +kernel
theorem dX12_reads_22 : decode cX12_reads 22 = .ok (.aload_n 0, 1) := by decide +kernel
theorem dX12_reads_23 : decode cX12_reads 23 = .ok (.getfield 25, 3) := by decide +kernel
theorem dX12_reads_26 : decode cX12_reads 26 = .ok (.iload_n 1, 1) := by decide +kernel
theorem dX12_reads_27 : decode cX12_reads 27 = .ok (.iaload, 1) := by decide +kernel
theorem dX12_reads_28 : decode cX12_reads 28 = .ok (.ifCond .le 7, 3) := by decide +kernel
theorem dX12_reads_31 : decode cX12_reads 31 = .ok (.iconst 1, 1) := by decide +kernel
theorem dX12_reads_32 : decode cX12_reads 32 = .ok (.goto 4, 3) := by decide +kernel
theorem dX12_reads_35 : decode cX12_reads 35 = .ok (.iconst 0, 1) := by decide +kernel
theorem dX12_reads_36 : decode cX12_reads 36 = .ok (.istore_n 2, 1) := by decide +kernel
theorem dX12_reads_37 : decode cX12_reads 37 = .ok (.iload_n 2, 1) := by decide +kernel
theorem dX12_reads_38 : decode cX12_reads 38 = .ok (.ifCond .eq 89, 3) := by decide +kernel
theorem dX12_reads_41 : decode cX12_reads 41 = .ok (.iload_n 1, 1) := by decide +kernel
theorem dX12_reads_42 : decode cX12_reads 42 = .ok (.ifCond .ne 10, 3) := by decide +kernel
theorem dX12_reads_45 : decode cX12_reads 45 = .ok (.aload_n 0, 1) := by decide +kernel
theorem dX12_reads_46 : decode cX12_reads 46 = .ok (.invokevirtual 147, 3) := by decide +kernel
theorem dX12_reads_49 : decode cX12_reads 49 = .ok (.goto 7, 3) := by decide +kernel
theorem dX12_reads_52 : decode cX12_reads 52 = .ok (.aload_n 0, 1) := by decide +kernel
theorem dX12_reads_53 : decode cX12_reads 53 = .ok (.invokevirtual 151, 3) := by decide +kernel
theorem dX12_reads_56 : decode cX12_reads 56 = .ok (.istore_n 3, 1) := by decide +kernel
theorem dX12_reads_57 : decode cX12_reads 57 = .ok (.iload_n 3, 1) := by decide +kernel
theorem dX12_reads_58 : decode cX12_reads 58 = .ok (.ifCond .ne 9, 3) := by decide +kernel
theorem dX12_reads_61 : decode cX12_reads 61 = .ok (.aload_n 0, 1) := by decide +kernel
theorem dX12_reads_62 : decode cX12_reads 62 = .ok (.iload_n 1, 1) := by decide +kernel
theorem dX12_reads_63 : decode cX12_reads 63 = .ok (.invokevirtual 154, 3) := by decide +kernel
theorem dX12_reads_66 : decode cX12_reads 66 = .ok (.ireturn, 1) := by decide +kernel
theorem dX12_reads_67 : decode cX12_reads 67 = .ok (.aload_n 0, 1) := by decide +kernel
theorem dX12_reads_68 : decode cX12_reads 68 = .ok (.getfield 132, 3) := by decide +kernel
theorem dX12_reads_71 : decode cX12_reads 71 = .ok (.aload_n 0, 1) := by decide +kernel
theorem dX12_reads_72 : decode cX12_reads 72 = .ok (.getfield 25, 3) := by decide +kernel
theorem dX12_reads_75 : decode cX12_reads 75 = .ok (.iload_n 1, 1) := by decide +kernel
theorem dX12_reads_76 : decode cX12_reads 76 = .ok (.iaload, 1) := by decide +kernel
theorem dX12_reads_77 : decode cX12_reads 77 = .ok (.if_icmp .ge 7, 3) := by decide +kernel
theorem dX12_reads_80 : decode cX12_reads 80 = .ok (.iconst 1, 1) := by decide +kernel
theorem dX12_reads_81 : decode cX12_reads 81 = .ok (.goto 4, 3) := by decide +kernel
theorem dX12_reads_84 : decode cX12_reads 84 = .ok (.iconst 0, 1) := by decide +kernel
theorem dX12_reads_85 : decode cX12_reads 85 = .ok (.istore_n 2, 1) := by decide +kernel
theorem dX12_reads_86 : decode cX12_reads 86 = .ok (.iload_n 2, 1) := by decide +kernel
theorem dX12_reads_87 : decode cX12_reads 87 = .ok (.ifCond .eq 19, 3) := by decide +kernel
theorem dX12_reads_90 : decode cX12_reads 90 = .ok (.aload_n 0, 1) := by decide +kernel
theorem dX12_reads_91 : decode cX12_reads 91 = .ok (.iload_n 1, 1) := by decide +kernel
theorem dX12_reads_92 : decode cX12_reads 92 = .ok (.invokevirtual 135, 3) := by decide +kernel
theorem dX12_reads_95 : decode cX12_reads 95 = .ok (.bipush 59, 2) := by decide +kernel
theorem dX12_reads_97 : decode cX12_reads 97 = .ok (.if_icmp .eq 9, 3) := by decide +kernel
theorem dX12_reads_100 : decode cX12_reads 100 = .ok (.aload_n 0, 1) := by decide +kernel
theorem dX12_reads_101 : decode cX12_reads 101 = .ok (.iload_n 1, 1) := by decide +kernel
theorem dX12_reads_102 : decode cX12_reads 102 = .ok (.invokevirtual 154, 3) := by decide +kernel
theorem dX12_reads_105 : decode cX12_reads 105 = .ok (.ireturn, 1) := by decide +kernel
theorem dX12_reads_106 : decode cX12_reads 106 = .ok (.aload_n 0, 1) := by decide +kernel
theorem dX12_reads_107 : decode cX12_reads 107 = .ok (.dup, 1) := by decide +kernel
theorem dX12_reads_108 : decode cX12_reads 108 = .ok (.getfield 132, 3) := by decide +kernel
theorem dX12_reads_111 : decode cX12_reads 111 = .ok (.iload_n 2, 1) := by decide +kernel
theorem dX12_reads_112 : decode cX12_reads 112 = .ok (.ifCond .eq 7, 3) := by decide +kernel
theorem dX12_reads_115 : decode cX12_reads 115 = .ok (.iconst 1, 1) := by decide +kernel
theorem dX12_reads_116 : decode cX12_reads 116 = .ok (.goto 4, 3) := by decide +kernel
theorem dX12_reads_119 : decode cX12_reads 119 = .ok (.iconst 0, 1) := by decide +kernel
theorem dX12_reads_120 : decode cX12_reads 120 = .ok (.iadd, 1) := by decide +kernel
theorem dX12_reads_121 : decode cX12_reads 121 = .ok (.putfield 132, 3) := by decide +kernel
theorem dX12_reads_124 : decode cX12_reads 124 = .ok (.goto (-87), 3) := by decide +kernel
theorem dX12_reads_127 : decode cX12_reads 127 = .ok (.iconst (-1), 1) := by decide +kernel
theorem dX12_reads_128 : decode cX12_reads 128 = .ok (.ireturn, 1) := by decide +kernel
theorem dX12_find_0 : decode cX12_find 0 = .ok (.aload_n 0, 1) := by decide +kernel
theorem dX12_find_1 : decode cX12_find 1 = .ok (.iconst 0, 1) := by decide +kernel
theorem dX12_find_2 : decode cX12_find 2 = .ok (.invokevirtual 157, 3) := by decide +kernel
theorem dX12_find_5 : decode cX12_find 5 = .ok (.pop, 1) := by decide +kernel
theorem dX12_find_6 : decode cX12_find 6 = .ok (.aload_n 0, 1) := by decide +kernel
theorem dX12_find_7 : decode cX12_find 7 = .ok (.iconst 1, 1) := by decide +kernel
theorem dX12_find_8 : decode cX12_find 8 = .ok (.invokevirtual 157, 3) := by decide +kernel
theorem dX12_find_11 : decode cX12_find 11 = .ok (.pop, 1) := by decide +kernel
theorem dX12_find_12 : decode cX12_find 12 = .ok (.return_, 1) := by decide +kernel
theorem dX12_faultOf_0 : decode cX12_faultOf 0 = .ok (.aload_n 0, 1) := by decide +kernel
theorem dX12_faultOf_1 : decode cX12_faultOf 1 = .ok (.iconst 0, 1) := by decide +kernel
theorem dX12_faultOf_2 : decode cX12_faultOf 2 = .ok (.invokevirtual 157, 3) := by decide +kernel
theorem dX12_faultOf_5 : decode cX12_faultOf 5 = .ok (.istore_n 2, 1) := by decide +kernel
theorem dX12_faultOf_6 : decode cX12_faultOf 6 = .ok (.aload_n 0, 1) := by decide +kernel
theorem dX12_faultOf_7 : decode cX12_faultOf 7 = .ok (.iconst 1, 1) := by decide +kernel
theorem dX12_faultOf_8 : decode cX12_faultOf 8 = .ok (.invokevirtual 157, 3) := by decide +kernel
theorem dX12_faultOf_11 : decode cX12_faultOf 11 = .ok (.istore_n 3, 1) := by decide +kernel
theorem dX12_faultOf_12 : decode cX12_faultOf 12 = .ok (.iload_n 1, 1) := by decide +kernel
theorem dX12_faultOf_13 : decode cX12_faultOf 13 = .ok (.ifCond .ne 7, 3) := by decide +kernel
theorem dX12_faultOf_16 : decode cX12_faultOf 16 = .ok (.iload_n 2, 1) := by decide +kernel
theorem dX12_faultOf_17 : decode cX12_faultOf 17 = .ok (.goto 4, 3) := by decide +kernel
theorem dX12_faultOf_20 : decode cX12_faultOf 20 = .ok (.iload_n 3, 1) := by decide +kernel
theorem dX12_faultOf_21 : decode cX12_faultOf 21 = .ok (.ireturn, 1) := by decide +kernel
theorem dX12_fault_0 : decode cX12_fault 0 = .ok (.iload_n 1, 1) := by decide +kernel
theorem dX12_fault_1 : decode cX12_fault 1 = .ok (.invokestatic 124, 3) := by decide +kernel
theorem dX12_fault_4 : decode cX12_fault 4 = .ok (.ifCond .eq 11, 3) := by decide +kernel
theorem dX12_fault_7 : decode cX12_fault 7 = .ok (.aload_n 0, 1) := by decide +kernel
theorem dX12_fault_8 : decode cX12_fault 8 = .ok (.iload_n 1, 1) := by decide +kernel
theorem dX12_fault_9 : decode cX12_fault 9 = .ok (.invokevirtual 160, 3) := by decide +kernel
theorem dX12_fault_12 : decode cX12_fault 12 = .ok (.goto 5, 3) := by decide +kernel
theorem dX12_fault_15 : decode cX12_fault 15 = .ok (.bipush (-2), 2) := by decide +kernel
theorem dX12_fault_17 : decode cX12_fault 17 = .ok (.ireturn, 1) := by decide +kernel
theorem dX12_isLand_0 : decode cX12_isLand 0 = .ok (.aload_n 0, 1) := by decide +kernel
theorem dX12_isLand_1 : decode cX12_isLand 1 = .ok (.invokevirtual 163, 3) := by decide +kernel
theorem dX12_isLand_4 : decode cX12_isLand 4 = .ok (.iload_n 1, 1) := by decide +kernel
theorem dX12_isLand_5 : decode cX12_isLand 5 = .ok (.i2l, 1) := by decide +kernel
theorem dX12_isLand_6 : decode cX12_isLand 6 = .ok (.lconst 0, 1) := by decide +kernel
theorem dX12_isLand_7 : decode cX12_isLand 7 = .ok (.aload_n 0, 1) := by decide +kernel
theorem dX12_isLand_8 : decode cX12_isLand 8 = .ok (.getfield 138, 3) := by decide +kernel
theorem dX12_isLand_11 : decode cX12_isLand 11 = .ok (.iconst 1, 1) := by decide +kernel
theorem dX12_isLand_12 : decode cX12_isLand 12 = .ok (.isub, 1) := by decide +kernel
theorem dX12_isLand_13 : decode cX12_isLand 13 = .ok (.i2l, 1) := by decide +kernel
theorem dX12_isLand_14 : decode cX12_isLand 14 = .ok (.invokestatic 95, 3) := by decide +kernel
theorem dX12_isLand_17 : decode cX12_isLand 17 = .ok (.ireturn, 1) := by decide +kernel
theorem dX12_isPerson_0 : decode cX12_isPerson 0 = .ok (.aload_n 0, 1) := by decide +kernel
theorem dX12_isPerson_1 : decode cX12_isPerson 1 = .ok (.invokevirtual 163, 3) := by decide +kernel
theorem dX12_isPerson_4 : decode cX12_isPerson 4 = .ok (.iload_n 1, 1) := by decide +kernel
theorem dX12_isPerson_5 : decode cX12_isPerson 5 = .ok (.i2l, 1) := by decide +kernel
theorem dX12_isPerson_6 : decode cX12_isPerson 6 = .ok (.lconst 0, 1) := by decide +kernel
theorem dX12_isPerson_7 : decode cX12_isPerson 7 = .ok (.aload_n 0, 1) := by decide +kernel
theorem dX12_isPerson_8 : decode cX12_isPerson 8 = .ok (.getfield 144, 3) := by decide +kernel
theorem dX12_isPerson_11 : decode cX12_isPerson 11 = .ok (.iconst 1, 1) := by decide +kernel
theorem dX12_isPerson_12 : decode cX12_isPerson 12 = .ok (.isub, 1) := by decide +kernel
theorem dX12_isPerson_13 : decode cX12_isPerson 13 = .ok (.i2l, 1) := by decide +kernel
theorem dX12_isPerson_14 : decode cX12_isPerson 14 = .ok (.invokestatic 95, 3) := by decide +kernel
theorem dX12_isPerson_17 : decode cX12_isPerson 17 = .ok (.ireturn, 1) := by decide +kernel
theorem dX12_person_0 : decode cX12_person 0 = .ok (.aload_n 0, 1) := by decide +kernel
theorem dX12_person_1 : decode cX12_person 1 = .ok (.iload_n 1, 1) := by decide +kernel
theorem dX12_person_2 : decode cX12_person 2 = .ok (.invokevirtual 166, 3) := by decide +kernel
theorem dX12_person_5 : decode cX12_person 5 = .ok (.ifCond .eq 28, 3) := by decide +kernel
theorem dX12_person_8 : decode cX12_person 8 = .ok (.iload_n 2, 1) := by decide +kernel
theorem dX12_person_9 : decode cX12_person 9 = .ok (.i2l, 1) := by decide +kernel
theorem dX12_person_10 : decode cX12_person 10 = .ok (.lconst 0, 1) := by decide +kernel
theorem dX12_person_11 : decode cX12_person 11 = .ok (.ldc2_w 103, 3) := by decide +kernel
theorem dX12_person_14 : decode cX12_person 14 = .ok (.invokestatic 95, 3) := by decide +kernel
theorem dX12_person_17 : decode cX12_person 17 = .ok (.ifCond .eq 16, 3) := by decide +kernel
theorem dX12_person_20 : decode cX12_person 20 = .ok (.aload_n 0, 1) := by decide +kernel
theorem dX12_person_21 : decode cX12_person 21 = .ok (.getfield 31, 3) := by decide +kernel
theorem dX12_person_24 : decode cX12_person 24 = .ok (.iconst 4, 1) := by decide +kernel
theorem dX12_person_25 : decode cX12_person 25 = .ok (.iload_n 1, 1) := by decide +kernel
theorem dX12_person_26 : decode cX12_person 26 = .ok (.imul, 1) := by decide +kernel
theorem dX12_person_27 : decode cX12_person 27 = .ok (.iload_n 2, 1) := by decide +kernel
theorem dX12_person_28 : decode cX12_person 28 = .ok (.iadd, 1) := by decide +kernel
theorem dX12_person_29 : decode cX12_person 29 = .ok (.iaload, 1) := by decide +kernel
theorem dX12_person_30 : decode cX12_person 30 = .ok (.goto 5, 3) := by decide +kernel
theorem dX12_person_33 : decode cX12_person 33 = .ok (.bipush (-2), 2) := by decide +kernel
theorem dX12_person_35 : decode cX12_person 35 = .ok (.ireturn, 1) := by decide +kernel
theorem dX12_shadowOf_0 : decode cX12_shadowOf 0 = .ok (.iload_n 2, 1) := by decide +kernel
theorem dX12_shadowOf_1 : decode cX12_shadowOf 1 = .ok (.bipush 12, 2) := by decide +kernel
theorem dX12_shadowOf_3 : decode cX12_shadowOf 3 = .ok (.if_icmp .ge 10, 3) := by decide +kernel
theorem dX12_shadowOf_6 : decode cX12_shadowOf 6 = .ok (.bipush 12, 2) := by decide +kernel
theorem dX12_shadowOf_8 : decode cX12_shadowOf 8 = .ok (.iload_n 2, 1) := by decide +kernel
theorem dX12_shadowOf_9 : decode cX12_shadowOf 9 = .ok (.isub, 1) := by decide +kernel
theorem dX12_shadowOf_10 : decode cX12_shadowOf 10 = .ok (.goto 7, 3) := by decide +kernel
theorem dX12_shadowOf_13 : decode cX12_shadowOf 13 = .ok (.iload_n 2, 1) := by decide +kernel
theorem dX12_shadowOf_14 : decode cX12_shadowOf 14 = .ok (.bipush 12, 2) := by decide +kernel
theorem dX12_shadowOf_16 : decode cX12_shadowOf 16 = .ok (.isub, 1) := by decide +kernel
theorem dX12_shadowOf_17 : decode cX12_shadowOf 17 = .ok (.istore_n 3, 1) := by decide +kernel
theorem dX12_shadowOf_18 : decode cX12_shadowOf 18 = .ok (.aload_n 0, 1) := by decide +kernel
theorem dX12_shadowOf_19 : decode cX12_shadowOf 19 = .ok (.getfield 31, 3) := by decide +kernel
theorem dX12_shadowOf_22 : decode cX12_shadowOf 22 = .ok (.iconst 4, 1) := by decide +kernel
theorem dX12_shadowOf_23 : decode cX12_shadowOf 23 = .ok (.iload_n 1, 1) := by decide +kernel
theorem dX12_shadowOf_24 : decode cX12_shadowOf 24 = .ok (.imul, 1) := by decide +kernel
theorem dX12_shadowOf_25 : decode cX12_shadowOf 25 = .ok (.iconst 2, 1) := by decide +kernel
theorem dX12_shadowOf_26 : decode cX12_shadowOf 26 = .ok (.iadd, 1) := by decide +kernel
theorem dX12_shadowOf_27 : decode cX12_shadowOf 27 = .ok (.iaload, 1) := by decide +kernel
theorem dX12_shadowOf_28 : decode cX12_shadowOf 28 = .ok (.aload_n 0, 1) := by decide +kernel
theorem dX12_shadowOf_29 : decode cX12_shadowOf 29 = .ok (.getfield 31, 3) := by decide +kernel
theorem dX12_shadowOf_32 : decode cX12_shadowOf 32 = .ok (.iconst 4, 1) := by decide +kernel
theorem dX12_shadowOf_33 : decode cX12_shadowOf 33 = .ok (.iload_n 1, 1) := by decide +kernel
theorem dX12_shadowOf_34 : decode cX12_shadowOf 34 = .ok (.imul, 1) := by decide +kernel
theorem dX12_shadowOf_35 : decode cX12_shadowOf 35 = .ok (.iconst 3, 1) := by decide +kernel
theorem dX12_shadowOf_36 : decode cX12_shadowOf 36 = .ok (.iadd, 1) := by decide +kernel
theorem dX12_shadowOf_37 : decode cX12_shadowOf 37 = .ok (.iaload, 1) := by decide +kernel
theorem dX12_shadowOf_38 : decode cX12_shadowOf 38 = .ok (.iadd, 1) := by decide +kernel
theorem dX12_shadowOf_39 : decode cX12_shadowOf 39 = .ok (.iconst 1, 1) := by decide +kernel
theorem dX12_shadowOf_40 : decode cX12_shadowOf 40 = .ok (.iload_n 3, 1) := by decide +kernel
theorem dX12_shadowOf_41 : decode cX12_shadowOf 41 = .ok (.iadd, 1) := by decide +kernel
theorem dX12_shadowOf_42 : decode cX12_shadowOf 42 = .ok (.imul, 1) := by decide +kernel
theorem dX12_shadowOf_43 : decode cX12_shadowOf 43 = .ok (.ireturn, 1) := by decide +kernel
theorem dX12_isHour_0 : decode cX12_isHour 0 = .ok (.iload_n 0, 1) := by decide +kernel
theorem dX12_isHour_1 : decode cX12_isHour 1 = .ok (.i2l, 1) := by decide +kernel
theorem dX12_isHour_2 : decode cX12_isHour 2 = .ok (.ldc2_w 169, 3) := by decide +kernel
theorem dX12_isHour_5 : decode cX12_isHour 5 = .ok (.ldc2_w 171, 3) := by decide +kernel
theorem dX12_isHour_8 : decode cX12_isHour 8 = .ok (.invokestatic 95, 3) := by decide +kernel
theorem dX12_isHour_11 : decode cX12_isHour 11 = .ok (.ireturn, 1) := by decide +kernel
theorem dX12_shadow_0 : decode cX12_shadow 0 = .ok (.aload_n 0, 1) := by decide +kernel
theorem dX12_shadow_1 : decode cX12_shadow 1 = .ok (.iload_n 1, 1) := by decide +kernel
theorem dX12_shadow_2 : decode cX12_shadow 2 = .ok (.invokevirtual 166, 3) := by decide +kernel
theorem dX12_shadow_5 : decode cX12_shadow 5 = .ok (.ifCond .eq 19, 3) := by decide +kernel
theorem dX12_shadow_8 : decode cX12_shadow 8 = .ok (.iload_n 2, 1) := by decide +kernel
theorem dX12_shadow_9 : decode cX12_shadow 9 = .ok (.invokestatic 173, 3) := by decide +kernel
theorem dX12_shadow_12 : decode cX12_shadow 12 = .ok (.ifCond .eq 12, 3) := by decide +kernel
theorem dX12_shadow_15 : decode cX12_shadow 15 = .ok (.aload_n 0, 1) := by decide +kernel
theorem dX12_shadow_16 : decode cX12_shadow 16 = .ok (.iload_n 1, 1) := by decide +kernel
theorem dX12_shadow_17 : decode cX12_shadow 17 = .ok (.iload_n 2, 1) := by decide +kernel
theorem dX12_shadow_18 : decode cX12_shadow 18 = .ok (.invokevirtual 176, 3) := by decide +kernel
theorem dX12_shadow_21 : decode cX12_shadow 21 = .ok (.goto 5, 3) := by decide +kernel
theorem dX12_shadow_24 : decode cX12_shadow 24 = .ok (.bipush (-2), 2) := by decide +kernel
theorem dX12_shadow_26 : decode cX12_shadow 26 = .ok (.ireturn, 1) := by decide +kernel
theorem dX12_isWeek_0 : decode cX12_isWeek 0 = .ok (.iload_n 0, 1) := by decide +kernel
theorem dX12_isWeek_1 : decode cX12_isWeek 1 = .ok (.i2l, 1) := by decide +kernel
theorem dX12_isWeek_2 : decode cX12_isWeek 2 = .ok (.lconst 0, 1) := by decide +kernel
theorem dX12_isWeek_3 : decode cX12_isWeek 3 = .ok (.ldc2_w 179, 3) := by decide +kernel
theorem dX12_isWeek_6 : decode cX12_isWeek 6 = .ok (.invokestatic 95, 3) := by decide +kernel
theorem dX12_isWeek_9 : decode cX12_isWeek 9 = .ok (.ireturn, 1) := by decide +kernel
theorem dX12_cloud_0 : decode cX12_cloud 0 = .ok (.iload_n 1, 1) := by decide +kernel
theorem dX12_cloud_1 : decode cX12_cloud 1 = .ok (.invokestatic 181, 3) := by decide +kernel
theorem dX12_cloud_4 : decode cX12_cloud 4 = .ok (.ifCond .eq 10, 3) := by decide +kernel
theorem dX12_cloud_7 : decode cX12_cloud 7 = .ok (.iload_n 2, 1) := by decide +kernel
theorem dX12_cloud_8 : decode cX12_cloud 8 = .ok (.invokestatic 124, 3) := by decide +kernel
theorem dX12_cloud_11 : decode cX12_cloud 11 = .ok (.ifCond .ne 6, 3) := by decide +kernel
theorem dX12_cloud_14 : decode cX12_cloud 14 = .ok (.bipush (-2), 2) := by decide +kernel
theorem dX12_cloud_16 : decode cX12_cloud 16 = .ok (.ireturn, 1) := by decide +kernel
theorem dX12_cloud_17 : decode cX12_cloud 17 = .ok (.aload_n 0, 1) := by decide +kernel
theorem dX12_cloud_18 : decode cX12_cloud 18 = .ok (.getfield 34, 3) := by decide +kernel
theorem dX12_cloud_21 : decode cX12_cloud 21 = .ok (.iload_n 1, 1) := by decide +kernel
theorem dX12_cloud_22 : decode cX12_cloud 22 = .ok (.iaload, 1) := by decide +kernel
theorem dX12_cloud_23 : decode cX12_cloud 23 = .ok (.istore_n 3, 1) := by decide +kernel
theorem dX12_cloud_24 : decode cX12_cloud 24 = .ok (.aload_n 0, 1) := by decide +kernel
theorem dX12_cloud_25 : decode cX12_cloud 25 = .ok (.getfield 34, 3) := by decide +kernel
theorem dX12_cloud_28 : decode cX12_cloud 28 = .ok (.iload_n 1, 1) := by decide +kernel
theorem dX12_cloud_29 : decode cX12_cloud 29 = .ok (.iload_n 2, 1) := by decide +kernel
theorem dX12_cloud_30 : decode cX12_cloud 30 = .ok (.iastore, 1) := by decide +kernel
theorem dX12_cloud_31 : decode cX12_cloud 31 = .ok (.iload_n 3, 1) := by decide +kernel
theorem dX12_cloud_32 : decode cX12_cloud 32 = .ok (.ireturn, 1) := by decide +kernel
theorem dX12_isLate_0 : decode cX12_isLate 0 = .ok (.iload_n 1, 1) := by decide +kernel
theorem dX12_isLate_1 : decode cX12_isLate 1 = .ok (.i2l, 1) := by decide +kernel
theorem dX12_isLate_2 : decode cX12_isLate 2 = .ok (.aload_n 0, 1) := by decide +kernel
theorem dX12_isLate_3 : decode cX12_isLate 3 = .ok (.getfield 184, 3) := by decide +kernel
theorem dX12_isLate_6 : decode cX12_isLate 6 = .ok (.ifCond .ne 7, 3) := by decide +kernel
theorem dX12_isLate_9 : decode cX12_isLate 9 = .ok (.lconst 0, 1) := by decide +kernel
theorem dX12_isLate_10 : decode cX12_isLate 10 = .ok (.goto 17, 3) := by decide +kernel
theorem dX12_isLate_13 : decode cX12_isLate 13 = .ok (.aload_n 0, 1) := by decide +kernel
theorem dX12_isLate_14 : decode cX12_isLate 14 = .ok (.getfield 37, 3) := by decide +kernel
theorem dX12_isLate_17 : decode cX12_isLate 17 = .ok (.iconst 5, 1) := by decide +kernel
theorem dX12_isLate_18 : decode cX12_isLate 18 = .ok (.aload_n 0, 1) := by decide +kernel
theorem dX12_isLate_19 : decode cX12_isLate 19 = .ok (.getfield 184, 3) := by decide +kernel
theorem dX12_isLate_22 : decode cX12_isLate 22 = .ok (.imul, 1) := by decide +kernel
theorem dX12_isLate_23 : decode cX12_isLate 23 = .ok (.iconst 4, 1) := by decide +kernel
theorem dX12_isLate_24 : decode cX12_isLate 24 = .ok (.isub, 1) := by decide +kernel
theorem dX12_isLate_25 : decode cX12_isLate 25 = .ok (.iaload, 1) := by decide +kernel
theorem dX12_isLate_26 : decode cX12_isLate 26 = .ok (.i2l, 1) := by decide +kernel
theorem dX12_isLate_27 : decode cX12_isLate 27 = .ok (.ldc2_w 179, 3) := by decide +kernel
theorem dX12_isLate_30 : decode cX12_isLate 30 = .ok (.invokestatic 95, 3) := by decide +kernel
theorem dX12_isLate_33 : decode cX12_isLate 33 = .ok (.ireturn, 1) := by decide +kernel
theorem dX12_isAnyone_0 : decode cX12_isAnyone 0 = .ok (.iload_n 0, 1) := by decide +kernel
theorem dX12_isAnyone_1 : decode cX12_isAnyone 1 = .ok (.i2l, 1) := by decide +kernel
theorem dX12_isAnyone_2 : decode cX12_isAnyone 2 = .ok (.lconst 0, 1) := by decide +kernel
theorem dX12_isAnyone_3 : decode cX12_isAnyone 3 = .ok (.ldc2_w 187, 3) := by decide +kernel
theorem dX12_isAnyone_6 : decode cX12_isAnyone 6 = .ok (.invokestatic 95, 3) := by decide +kernel
theorem dX12_isAnyone_9 : decode cX12_isAnyone 9 = .ok (.ireturn, 1) := by decide +kernel
theorem dX12_tells_0 : decode cX12_tells 0 = .ok (.aload_n 0, 1) := by decide +kernel
theorem dX12_tells_1 : decode cX12_tells 1 = .ok (.getfield 184, 3) := by decide +kernel
theorem dX12_tells_4 : decode cX12_tells 4 = .ok (.bipush 24, 2) := by decide +kernel
theorem dX12_tells_6 : decode cX12_tells 6 = .ok (.if_icmp .ne 6, 3) := by decide +kernel
theorem dX12_tells_9 : decode cX12_tells 9 = .ok (.bipush (-4), 2) := by decide +kernel
theorem dX12_tells_11 : decode cX12_tells 11 = .ok (.ireturn, 1) := by decide +kernel
theorem dX12_tells_12 : decode cX12_tells 12 = .ok (.aload_n 0, 1) := by decide +kernel
theorem dX12_tells_13 : decode cX12_tells 13 = .ok (.getfield 37, 3) := by decide +kernel
theorem dX12_tells_16 : decode cX12_tells 16 = .ok (.iconst 5, 1) := by decide +kernel
theorem dX12_tells_17 : decode cX12_tells 17 = .ok (.aload_n 0, 1) := by decide +kernel
theorem dX12_tells_18 : decode cX12_tells 18 = .ok (.getfield 184, 3) := by decide +kernel
theorem dX12_tells_21 : decode cX12_tells 21 = .ok (.imul, 1) := by decide +kernel
theorem dX12_tells_22 : decode cX12_tells 22 = .ok (.iload_n 1, 1) := by decide +kernel
theorem dX12_tells_23 : decode cX12_tells 23 = .ok (.iastore, 1) := by decide +kernel
theorem dX12_tells_24 : decode cX12_tells 24 = .ok (.aload_n 0, 1) := by decide +kernel
theorem dX12_tells_25 : decode cX12_tells 25 = .ok (.getfield 37, 3) := by decide +kernel
theorem dX12_tells_28 : decode cX12_tells 28 = .ok (.iconst 5, 1) := by decide +kernel
theorem dX12_tells_29 : decode cX12_tells 29 = .ok (.aload_n 0, 1) := by decide +kernel
theorem dX12_tells_30 : decode cX12_tells 30 = .ok (.getfield 184, 3) := by decide +kernel
theorem dX12_tells_33 : decode cX12_tells 33 = .ok (.imul, 1) := by decide +kernel
theorem dX12_tells_34 : decode cX12_tells 34 = .ok (.iconst 1, 1) := by decide +kernel
theorem dX12_tells_35 : decode cX12_tells 35 = .ok (.iadd, 1) := by decide +kernel
theorem dX12_tells_36 : decode cX12_tells 36 = .ok (.iload_n 2, 1) := by decide +kernel
theorem dX12_tells_37 : decode cX12_tells 37 = .ok (.iastore, 1) := by decide +kernel
theorem dX12_tells_38 : decode cX12_tells 38 = .ok (.aload_n 0, 1) := by decide +kernel
theorem dX12_tells_39 : decode cX12_tells 39 = .ok (.getfield 37, 3) := by decide +kernel
theorem dX12_tells_42 : decode cX12_tells 42 = .ok (.iconst 5, 1) := by decide +kernel
theorem dX12_tells_43 : decode cX12_tells 43 = .ok (.aload_n 0, 1) := by decide +kernel
theorem dX12_tells_44 : decode cX12_tells 44 = .ok (.getfield 184, 3) := by decide +kernel
theorem dX12_tells_47 : decode cX12_tells 47 = .ok (.imul, 1) := by decide +kernel
theorem dX12_tells_48 : decode cX12_tells 48 = .ok (.iconst 2, 1) := by decide +kernel
theorem dX12_tells_49 : decode cX12_tells 49 = .ok (.iadd, 1) := by decide +kernel
theorem dX12_tells_50 : decode cX12_tells 50 = .ok (.iload_n 3, 1) := by decide +kernel
theorem dX12_tells_51 : decode cX12_tells 51 = .ok (.iastore, 1) := by decide +kernel
theorem dX12_tells_52 : decode cX12_tells 52 = .ok (.aload_n 0, 1) := by decide +kernel
theorem dX12_tells_53 : decode cX12_tells 53 = .ok (.getfield 37, 3) := by decide +kernel
theorem dX12_tells_56 : decode cX12_tells 56 = .ok (.iconst 5, 1) := by decide +kernel
theorem dX12_tells_57 : decode cX12_tells 57 = .ok (.aload_n 0, 1) := by decide +kernel
theorem dX12_tells_58 : decode cX12_tells 58 = .ok (.getfield 184, 3) := by decide +kernel
theorem dX12_tells_61 : decode cX12_tells 61 = .ok (.imul, 1) := by decide +kernel
theorem dX12_tells_62 : decode cX12_tells 62 = .ok (.iconst 3, 1) := by decide +kernel
theorem dX12_tells_63 : decode cX12_tells 63 = .ok (.iadd, 1) := by decide +kernel
theorem dX12_tells_64 : decode cX12_tells 64 = .ok (.iload 4, 2) := by decide +kernel
theorem dX12_tells_66 : decode cX12_tells 66 = .ok (.iastore, 1) := by decide +kernel
theorem dX12_tells_67 : decode cX12_tells 67 = .ok (.aload_n 0, 1) := by decide +kernel
theorem dX12_tells_68 : decode cX12_tells 68 = .ok (.getfield 37, 3) := by decide +kernel
theorem dX12_tells_71 : decode cX12_tells 71 = .ok (.iconst 5, 1) := by decide +kernel
theorem dX12_tells_72 : decode cX12_tells 72 = .ok (.aload_n 0, 1) := by decide +kernel
theorem dX12_tells_73 : decode cX12_tells 73 = .ok (.getfield 184, 3) := by decide +kernel
theorem dX12_tells_76 : decode cX12_tells 76 = .ok (.imul, 1) := by decide +kernel
theorem dX12_tells_77 : decode cX12_tells 77 = .ok (.iconst 4, 1) := by decide +kernel
theorem dX12_tells_78 : decode cX12_tells 78 = .ok (.iadd, 1) := by decide +kernel
theorem dX12_tells_79 : decode cX12_tells 79 = .ok (.iload 5, 2) := by decide +kernel
theorem dX12_tells_81 : decode cX12_tells 81 = .ok (.iastore, 1) := by decide +kernel
theorem dX12_tells_82 : decode cX12_tells 82 = .ok (.aload_n 0, 1) := by decide +kernel
theorem dX12_tells_83 : decode cX12_tells 83 = .ok (.dup, 1) := by decide +kernel
theorem dX12_tells_84 : decode cX12_tells 84 = .ok (.getfield 184, 3) := by decide +kernel
theorem dX12_tells_87 : decode cX12_tells 87 = .ok (.iconst 1, 1) := by decide +kernel
theorem dX12_tells_88 : decode cX12_tells 88 = .ok (.iadd, 1) := by decide +kernel
theorem dX12_tells_89 : decode cX12_tells 89 = .ok (.putfield 184, 3) := by decide +kernel
theorem dX12_tells_92 : decode cX12_tells 92 = .ok (.aload_n 0, 1) := by decide +kernel
theorem dX12_tells_93 : decode cX12_tells 93 = .ok (.getfield 184, 3) := by decide +kernel
theorem dX12_tells_96 : decode cX12_tells 96 = .ok (.ireturn, 1) := by decide +kernel
theorem dX12_wed_0 : decode cX12_wed 0 = .ok (.aload_n 0, 1) := by decide +kernel
theorem dX12_wed_1 : decode cX12_wed 1 = .ok (.iload_n 1, 1) := by decide +kernel
theorem dX12_wed_2 : decode cX12_wed 2 = .ok (.invokevirtual 189, 3) := by decide +kernel
theorem dX12_wed_5 : decode cX12_wed 5 = .ok (.ifCond .eq 38, 3) := by decide +kernel
theorem dX12_wed_8 : decode cX12_wed 8 = .ok (.iload_n 2, 1) := by decide +kernel
theorem dX12_wed_9 : decode cX12_wed 9 = .ok (.invokestatic 192, 3) := by decide +kernel
theorem dX12_wed_12 : decode cX12_wed 12 = .ok (.ifCond .eq 31, 3) := by decide +kernel
theorem dX12_wed_15 : decode cX12_wed 15 = .ok (.iload_n 3, 1) := by decide +kernel
theorem dX12_wed_16 : decode cX12_wed 16 = .ok (.invokestatic 192, 3) := by decide +kernel
theorem dX12_wed_19 : decode cX12_wed 19 = .ok (.ifCond .eq 24, 3) := by decide +kernel
theorem dX12_wed_22 : decode cX12_wed 22 = .ok (.iload 4, 2) := by decide +kernel
theorem dX12_wed_24 : decode cX12_wed 24 = .ok (.invokestatic 173, 3) := by decide +kernel
theorem dX12_wed_27 : decode cX12_wed 27 = .ok (.ifCond .eq 16, 3) := by decide +kernel
theorem dX12_wed_30 : decode cX12_wed 30 = .ok (.aload_n 0, 1) := by decide +kernel
theorem dX12_wed_31 : decode cX12_wed 31 = .ok (.iconst 0, 1) := by decide +kernel
theorem dX12_wed_32 : decode cX12_wed 32 = .ok (.iload_n 1, 1) := by decide +kernel
theorem dX12_wed_33 : decode cX12_wed 33 = .ok (.iload_n 2, 1) := by decide +kernel
theorem dX12_wed_34 : decode cX12_wed 34 = .ok (.iload_n 3, 1) := by decide +kernel
theorem dX12_wed_35 : decode cX12_wed 35 = .ok (.iload 4, 2) := by decide +kernel
theorem dX12_wed_37 : decode cX12_wed 37 = .ok (.invokevirtual 195, 3) := by decide +kernel
theorem dX12_wed_40 : decode cX12_wed 40 = .ok (.goto 5, 3) := by decide +kernel
theorem dX12_wed_43 : decode cX12_wed 43 = .ok (.bipush (-2), 2) := by decide +kernel
theorem dX12_wed_45 : decode cX12_wed 45 = .ok (.ireturn, 1) := by decide +kernel
theorem dX12_ends_0 : decode cX12_ends 0 = .ok (.aload_n 0, 1) := by decide +kernel
theorem dX12_ends_1 : decode cX12_ends 1 = .ok (.iload_n 1, 1) := by decide +kernel
theorem dX12_ends_2 : decode cX12_ends 2 = .ok (.invokevirtual 189, 3) := by decide +kernel
theorem dX12_ends_5 : decode cX12_ends 5 = .ok (.ifCond .eq 32, 3) := by decide +kernel
theorem dX12_ends_8 : decode cX12_ends 8 = .ok (.iload_n 2, 1) := by decide +kernel
theorem dX12_ends_9 : decode cX12_ends 9 = .ok (.invokestatic 124, 3) := by decide +kernel
theorem dX12_ends_12 : decode cX12_ends 12 = .ok (.ifCond .eq 25, 3) := by decide +kernel
theorem dX12_ends_15 : decode cX12_ends 15 = .ok (.iload_n 3, 1) := by decide +kernel
theorem dX12_ends_16 : decode cX12_ends 16 = .ok (.invokestatic 192, 3) := by decide +kernel
theorem dX12_ends_19 : decode cX12_ends 19 = .ok (.ifCond .eq 18, 3) := by decide +kernel
theorem dX12_ends_22 : decode cX12_ends 22 = .ok (.aload_n 0, 1) := by decide +kernel
theorem dX12_ends_23 : decode cX12_ends 23 = .ok (.iconst 1, 1) := by decide +kernel
theorem dX12_ends_24 : decode cX12_ends 24 = .ok (.iload_n 2, 1) := by decide +kernel
theorem dX12_ends_25 : decode cX12_ends 25 = .ok (.iadd, 1) := by decide +kernel
theorem dX12_ends_26 : decode cX12_ends 26 = .ok (.iload_n 1, 1) := by decide +kernel
theorem dX12_ends_27 : decode cX12_ends 27 = .ok (.iload_n 3, 1) := by decide +kernel
theorem dX12_ends_28 : decode cX12_ends 28 = .ok (.iload_n 3, 1) := by decide +kernel
theorem dX12_ends_29 : decode cX12_ends 29 = .ok (.bipush 12, 2) := by decide +kernel
theorem dX12_ends_31 : decode cX12_ends 31 = .ok (.invokevirtual 195, 3) := by decide +kernel
theorem dX12_ends_34 : decode cX12_ends 34 = .ok (.goto 5, 3) := by decide +kernel
theorem dX12_ends_37 : decode cX12_ends 37 = .ok (.bipush (-2), 2) := by decide +kernel
theorem dX12_ends_39 : decode cX12_ends 39 = .ok (.ireturn, 1) := by decide +kernel
theorem dX12_read_0 : decode cX12_read 0 = .ok (.iload_n 1, 1) := by decide +kernel
theorem dX12_read_1 : decode cX12_read 1 = .ok (.invokestatic 105, 3) := by decide +kernel
theorem dX12_read_4 : decode cX12_read 4 = .ok (.ifCond .eq 11, 3) := by decide +kernel
theorem dX12_read_7 : decode cX12_read 7 = .ok (.aload_n 0, 1) := by decide +kernel
theorem dX12_read_8 : decode cX12_read 8 = .ok (.iload_n 2, 1) := by decide +kernel
theorem dX12_read_9 : decode cX12_read 9 = .ok (.invokevirtual 189, 3) := by decide +kernel
theorem dX12_read_12 : decode cX12_read 12 = .ok (.ifCond .ne 6, 3) := by decide +kernel
theorem dX12_read_15 : decode cX12_read 15 = .ok (.bipush (-2), 2) := by decide +kernel
theorem dX12_read_17 : decode cX12_read 17 = .ok (.ireturn, 1) := by decide +kernel
theorem dX12_read_18 : decode cX12_read 18 = .ok (.aload_n 0, 1) := by decide +kernel
theorem dX12_read_19 : decode cX12_read 19 = .ok (.getfield 7, 3) := by decide +kernel
theorem dX12_read_22 : decode cX12_read 22 = .ok (.iload_n 1, 1) := by decide +kernel
theorem dX12_read_23 : decode cX12_read 23 = .ok (.iaload, 1) := by decide +kernel
theorem dX12_read_24 : decode cX12_read 24 = .ok (.ifCond .ge 9, 3) := by decide +kernel
theorem dX12_read_27 : decode cX12_read 27 = .ok (.aload_n 0, 1) := by decide +kernel
theorem dX12_read_28 : decode cX12_read 28 = .ok (.iconst 1, 1) := by decide +kernel
theorem dX12_read_29 : decode cX12_read 29 = .ok (.invokevirtual 111, 3) := by decide +kernel
theorem dX12_read_32 : decode cX12_read 32 = .ok (.ireturn, 1) := by decide +kernel
theorem dX12_read_33 : decode cX12_read 33 = .ok (.iconst 0, 1) := by decide +kernel
theorem dX12_read_34 : decode cX12_read 34 = .ok (.istore_n 3, 1) := by decide +kernel
theorem dX12_read_35 : decode cX12_read 35 = .ok (.iconst 1, 1) := by decide +kernel
theorem dX12_read_36 : decode cX12_read 36 = .ok (.istore 4, 2) := by decide +kernel
theorem dX12_read_38 : decode cX12_read 38 = .ok (.iload 4, 2) := by decide +kernel
theorem dX12_read_40 : decode cX12_read 40 = .ok (.ifCond .eq 83, 3) := by decide +kernel
theorem dX12_read_43 : decode cX12_read 43 = .ok (.iconst 3, 1) := by decide +kernel
theorem dX12_read_44 : decode cX12_read 44 = .ok (.iload_n 3, 1) := by decide +kernel
theorem dX12_read_45 : decode cX12_read 45 = .ok (.imul, 1) := by decide +kernel
theorem dX12_read_46 : decode cX12_read 46 = .ok (.iconst 3, 1) := by decide +kernel
theorem dX12_read_47 : decode cX12_read 47 = .ok (.iadd, 1) := by decide +kernel
theorem dX12_read_48 : decode cX12_read 48 = .ok (.aload_n 0, 1) := by decide +kernel
theorem dX12_read_49 : decode cX12_read 49 = .ok (.getfield 13, 3) := by decide +kernel
theorem dX12_read_52 : decode cX12_read 52 = .ok (.iload_n 1, 1) := by decide +kernel
theorem dX12_read_53 : decode cX12_read 53 = .ok (.iaload, 1) := by decide +kernel
theorem dX12_read_54 : decode cX12_read 54 = .ok (.if_icmp .gt 69, 3) := by decide +kernel
theorem dX12_read_57 : decode cX12_read 57 = .ok (.bipush 60, 2) := by decide +kernel
theorem dX12_read_59 : decode cX12_read 59 = .ok (.iload_n 1, 1) := by decide +kernel
theorem dX12_read_60 : decode cX12_read 60 = .ok (.imul, 1) := by decide +kernel
theorem dX12_read_61 : decode cX12_read 61 = .ok (.iconst 3, 1) := by decide +kernel
theorem dX12_read_62 : decode cX12_read 62 = .ok (.iload_n 3, 1) := by decide +kernel
theorem dX12_read_63 : decode cX12_read 63 = .ok (.imul, 1) := by decide +kernel
theorem dX12_read_64 : decode cX12_read 64 = .ok (.iadd, 1) := by decide +kernel
theorem dX12_read_65 : decode cX12_read 65 = .ok (.istore 5, 2) := by decide +kernel
theorem dX12_read_67 : decode cX12_read 67 = .ok (.aload_n 0, 1) := by decide +kernel
theorem dX12_read_68 : decode cX12_read 68 = .ok (.iload_n 2, 1) := by decide +kernel
theorem dX12_read_69 : decode cX12_read 69 = .ok (.aload_n 0, 1) := by decide +kernel
theorem dX12_read_70 : decode cX12_read 70 = .ok (.getfield 16, 3) := by decide +kernel
theorem dX12_read_73 : decode cX12_read 73 = .ok (.iload 5, 2) := by decide +kernel
theorem dX12_read_75 : decode cX12_read 75 = .ok (.iaload, 1) := by decide +kernel
theorem dX12_read_76 : decode cX12_read 76 = .ok (.aload_n 0, 1) := by decide +kernel
theorem dX12_read_77 : decode cX12_read 77 = .ok (.getfield 16, 3) := by decide +kernel
theorem dX12_read_80 : decode cX12_read 80 = .ok (.iload 5, 2) := by decide +kernel
theorem dX12_read_82 : decode cX12_read 82 = .ok (.iconst 1, 1) := by decide +kernel
theorem dX12_read_83 : decode cX12_read 83 = .ok (.iadd, 1) := by decide +kernel
theorem dX12_read_84 : decode cX12_read 84 = .ok (.iaload, 1) := by decide +kernel
theorem dX12_read_85 : decode cX12_read 85 = .ok (.aload_n 0, 1) := by decide +kernel
theorem dX12_read_86 : decode cX12_read 86 = .ok (.getfield 16, 3) := by decide +kernel
theorem dX12_read_89 : decode cX12_read 89 = .ok (.iload 5, 2) := by decide +kernel
theorem dX12_read_91 : decode cX12_read 91 = .ok (.iconst 2, 1) := by decide +kernel
theorem dX12_read_92 : decode cX12_read 92 = .ok (.iadd, 1) := by decide +kernel
theorem dX12_read_93 : decode cX12_read 93 = .ok (.iaload, 1) := by decide +kernel
theorem dX12_read_94 : decode cX12_read 94 = .ok (.invokevirtual 199, 3) := by decide +kernel
theorem dX12_read_97 : decode cX12_read 97 = .ok (.ifCond .lt 7, 3) := by decide +kernel
theorem dX12_read_100 : decode cX12_read 100 = .ok (.iconst 1, 1) := by decide +kernel
theorem dX12_read_101 : decode cX12_read 101 = .ok (.goto 4, 3) := by decide +kernel
theorem dX12_read_104 : decode cX12_read 104 = .ok (.iconst 0, 1) := by decide +kernel
theorem dX12_read_105 : decode cX12_read 105 = .ok (.istore 4, 2) := by decide +kernel
theorem dX12_read_107 : decode cX12_read 107 = .ok (.iload_n 3, 1) := by decide +kernel
theorem dX12_read_108 : decode cX12_read 108 = .ok (.iload 4, 2) := by decide +kernel
theorem dX12_read_110 : decode cX12_read 110 = .ok (.ifCond .eq 7, 3) := by decide +kernel
theorem dX12_read_113 : decode cX12_read 113 = .ok (.iconst 1, 1) := by decide +kernel
theorem dX12_read_114 : decode cX12_read 114 = .ok (.goto 4, 3) := by decide +kernel
theorem dX12_read_117 : decode cX12_read 117 = .ok (.iconst 0, 1) := by decide +kernel
theorem dX12_read_118 : decode cX12_read 118 = .ok (.iadd, 1) := by decide +kernel
theorem dX12_read_119 : decode cX12_read 119 = .ok (.istore_n 3, 1) := by decide +kernel
theorem dX12_read_120 : decode cX12_read 120 = .ok (.goto (-82), 3) := by decide +kernel
theorem dX12_read_123 : decode cX12_read 123 = .ok (.iload_n 3, 1) := by decide +kernel
theorem dX12_read_124 : decode cX12_read 124 = .ok (.ireturn, 1) := by decide +kernel
theorem dX12_undo_0 : decode cX12_undo 0 = .ok (.aload_n 0, 1) := by decide +kernel
theorem dX12_undo_1 : decode cX12_undo 1 = .ok (.getfield 184, 3) := by decide +kernel
theorem dX12_undo_4 : decode cX12_undo 4 = .ok (.ifCond .ne 6, 3) := by decide +kernel
theorem dX12_undo_7 : decode cX12_undo 7 = .ok (.bipush (-3), 2) := by decide +kernel
theorem dX12_undo_9 : decode cX12_undo 9 = .ok (.ireturn, 1) := by decide +kernel
theorem dX12_undo_10 : decode cX12_undo 10 = .ok (.aload_n 0, 1) := by decide +kernel
theorem dX12_undo_11 : decode cX12_undo 11 = .ok (.dup, 1) := by decide +kernel
theorem dX12_undo_12 : decode cX12_undo 12 = .ok (.getfield 184, 3) := by decide +kernel
theorem dX12_undo_15 : decode cX12_undo 15 = .ok (.iconst 1, 1) := by decide +kernel
theorem dX12_undo_16 : decode cX12_undo 16 = .ok (.isub, 1) := by decide +kernel
theorem dX12_undo_17 : decode cX12_undo 17 = .ok (.putfield 184, 3) := by decide +kernel
theorem dX12_undo_20 : decode cX12_undo 20 = .ok (.aload_n 0, 1) := by decide +kernel
theorem dX12_undo_21 : decode cX12_undo 21 = .ok (.getfield 184, 3) := by decide +kernel
theorem dX12_undo_24 : decode cX12_undo 24 = .ok (.ireturn, 1) := by decide +kernel
theorem dX12_begins_0 : decode cX12_begins 0 = .ok (.iconst 0, 1) := by decide +kernel
theorem dX12_begins_1 : decode cX12_begins 1 = .ok (.istore_n 1, 1) := by decide +kernel
theorem dX12_begins_2 : decode cX12_begins 2 = .ok (.iload_n 1, 1) := by decide +kernel
theorem dX12_begins_3 : decode cX12_begins 3 = .ok (.aload_n 0, 1) := by decide +kernel
theorem dX12_begins_4 : decode cX12_begins 4 = .ok (.getfield 138, 3) := by decide +kernel
theorem dX12_begins_7 : decode cX12_begins 7 = .ok (.if_icmp .ge 21, 3) := by decide +kernel
theorem dX12_begins_10 : decode cX12_begins 10 = .ok (.aload_n 0, 1) := by decide +kernel
theorem dX12_begins_11 : decode cX12_begins 11 = .ok (.getfield 40, 3) := by decide +kernel
theorem dX12_begins_14 : decode cX12_begins 14 = .ok (.iload_n 1, 1) := by decide +kernel
theorem dX12_begins_15 : decode cX12_begins 15 = .ok (.aload_n 0, 1) := by decide +kernel
theorem dX12_begins_16 : decode cX12_begins 16 = .ok (.getfield 28, 3) := by decide +kernel
theorem dX12_begins_19 : decode cX12_begins 19 = .ok (.iload_n 1, 1) := by decide +kernel
theorem dX12_begins_20 : decode cX12_begins 20 = .ok (.iaload, 1) := by decide +kernel
theorem dX12_begins_21 : decode cX12_begins 21 = .ok (.iastore, 1) := by decide +kernel
theorem dX12_begins_22 : decode cX12_begins 22 = .ok (.iinc 1 1, 3) := by decide +kernel
theorem dX12_begins_25 : decode cX12_begins 25 = .ok (.goto (-23), 3) := by decide +kernel
theorem dX12_begins_28 : decode cX12_begins 28 = .ok (.iconst 0, 1) := by decide +kernel
theorem dX12_begins_29 : decode cX12_begins 29 = .ok (.istore_n 1, 1) := by decide +kernel
theorem dX12_begins_30 : decode cX12_begins 30 = .ok (.iload_n 1, 1) := by decide +kernel
theorem dX12_begins_31 : decode cX12_begins 31 = .ok (.bipush 12, 2) := by decide +kernel
theorem dX12_begins_33 : decode cX12_begins 33 = .ok (.if_icmp .ge 44, 3) := by decide +kernel
theorem dX12_begins_36 : decode cX12_begins 36 = .ok (.aload_n 0, 1) := by decide +kernel
theorem dX12_begins_37 : decode cX12_begins 37 = .ok (.getfield 43, 3) := by decide +kernel
theorem dX12_begins_40 : decode cX12_begins 40 = .ok (.iload_n 1, 1) := by decide +kernel
theorem dX12_begins_41 : decode cX12_begins 41 = .ok (.iconst (-1), 1) := by decide +kernel
theorem dX12_begins_42 : decode cX12_begins 42 = .ok (.iastore, 1) := by decide +kernel
theorem dX12_begins_43 : decode cX12_begins 43 = .ok (.aload_n 0, 1) := by decide +kernel
theorem dX12_begins_44 : decode cX12_begins 44 = .ok (.getfield 46, 3) := by decide +kernel
theorem dX12_begins_47 : decode cX12_begins 47 = .ok (.iload_n 1, 1) := by decide +kernel
theorem dX12_begins_48 : decode cX12_begins 48 = .ok (.iconst 0, 1) := by decide +kernel
theorem dX12_begins_49 : decode cX12_begins 49 = .ok (.iastore, 1) := by decide +kernel
theorem dX12_begins_50 : decode cX12_begins 50 = .ok (.aload_n 0, 1) := by decide +kernel
theorem dX12_begins_51 : decode cX12_begins 51 = .ok (.getfield 49, 3) := by decide +kernel
theorem dX12_begins_54 : decode cX12_begins 54 = .ok (.iload_n 1, 1) := by decide +kernel
theorem dX12_begins_55 : decode cX12_begins 55 = .ok (.iconst (-1), 1) := by decide +kernel
theorem dX12_begins_56 : decode cX12_begins 56 = .ok (.iastore, 1) := by decide +kernel
theorem dX12_begins_57 : decode cX12_begins 57 = .ok (.aload_n 0, 1) := by decide +kernel
theorem dX12_begins_58 : decode cX12_begins 58 = .ok (.getfield 52, 3) := by decide +kernel
theorem dX12_begins_61 : decode cX12_begins 61 = .ok (.iload_n 1, 1) := by decide +kernel
theorem dX12_begins_62 : decode cX12_begins 62 = .ok (.iconst 0, 1) := by decide +kernel
theorem dX12_begins_63 : decode cX12_begins 63 = .ok (.iastore, 1) := by decide +kernel
theorem dX12_begins_64 : decode cX12_begins 64 = .ok (.aload_n 0, 1) := by decide +kernel
theorem dX12_begins_65 : decode cX12_begins 65 = .ok (.getfield 55, 3) := by decide +kernel
theorem dX12_begins_68 : decode cX12_begins 68 = .ok (.iload_n 1, 1) := by decide +kernel
theorem dX12_begins_69 : decode cX12_begins 69 = .ok (.iconst 1, 1) := by decide +kernel
theorem dX12_begins_70 : decode cX12_begins 70 = .ok (.iastore, 1) := by decide +kernel
theorem dX12_begins_71 : decode cX12_begins 71 = .ok (.iinc 1 1, 3) := by decide +kernel
theorem dX12_begins_74 : decode cX12_begins 74 = .ok (.goto (-44), 3) := by decide +kernel
theorem dX12_begins_77 : decode cX12_begins 77 = .ok (.aload_n 0, 1) := by decide +kernel
theorem dX12_begins_78 : decode cX12_begins 78 = .ok (.iconst 0, 1) := by decide +kernel
theorem dX12_begins_79 : decode cX12_begins 79 = .ok (.putfield 203, 3) := by decide +kernel
theorem dX12_begins_82 : decode cX12_begins 82 = .ok (.aload_n 0, 1) := by decide +kernel
theorem dX12_begins_83 : decode cX12_begins 83 = .ok (.iconst 0, 1) := by decide +kernel
theorem dX12_begins_84 : decode cX12_begins 84 = .ok (.putfield 206, 3) := by decide +kernel
theorem dX12_begins_87 : decode cX12_begins 87 = .ok (.aload_n 0, 1) := by decide +kernel
theorem dX12_begins_88 : decode cX12_begins 88 = .ok (.iconst (-1), 1) := by decide +kernel
theorem dX12_begins_89 : decode cX12_begins 89 = .ok (.putfield 209, 3) := by decide +kernel
theorem dX12_begins_92 : decode cX12_begins 92 = .ok (.return_, 1) := by decide +kernel
theorem dX12_isFree_0 : decode cX12_isFree 0 = .ok (.aload_n 0, 1) := by decide +kernel
theorem dX12_isFree_1 : decode cX12_isFree 1 = .ok (.getfield 55, 3) := by decide +kernel
theorem dX12_isFree_4 : decode cX12_isFree 4 = .ok (.iload_n 1, 1) := by decide +kernel
theorem dX12_isFree_5 : decode cX12_isFree 5 = .ok (.iaload, 1) := by decide +kernel
theorem dX12_isFree_6 : decode cX12_isFree 6 = .ok (.iconst 1, 1) := by decide +kernel
theorem dX12_isFree_7 : decode cX12_isFree 7 = .ok (.if_icmp .ne 17, 3) := by decide +kernel
theorem dX12_isFree_10 : decode cX12_isFree 10 = .ok (.aload_n 0, 1) := by decide +kernel
theorem dX12_isFree_11 : decode cX12_isFree 11 = .ok (.getfield 43, 3) := by decide +kernel
theorem dX12_isFree_14 : decode cX12_isFree 14 = .ok (.iload_n 1, 1) := by decide +kernel
theorem dX12_isFree_15 : decode cX12_isFree 15 = .ok (.iaload, 1) := by decide +kernel
theorem dX12_isFree_16 : decode cX12_isFree 16 = .ok (.iconst (-1), 1) := by decide +kernel
theorem dX12_isFree_17 : decode cX12_isFree 17 = .ok (.if_icmp .ne 7, 3) := by decide +kernel
theorem dX12_isFree_20 : decode cX12_isFree 20 = .ok (.iconst 1, 1) := by decide +kernel
theorem dX12_isFree_21 : decode cX12_isFree 21 = .ok (.goto 4, 3) := by decide +kernel
theorem dX12_isFree_24 : decode cX12_isFree 24 = .ok (.iconst 0, 1) := by decide +kernel
theorem dX12_isFree_25 : decode cX12_isFree 25 = .ok (.ireturn, 1) := by decide +kernel
theorem dX12_mayWed_0 : decode cX12_mayWed 0 = .ok (.iload_n 1, 1) := by decide +kernel
theorem dX12_mayWed_1 : decode cX12_mayWed 1 = .ok (.aload_n 0, 1) := by decide +kernel
theorem dX12_mayWed_2 : decode cX12_mayWed 2 = .ok (.getfield 144, 3) := by decide +kernel
theorem dX12_mayWed_5 : decode cX12_mayWed 5 = .ok (.if_icmp .ge 27, 3) := by decide +kernel
theorem dX12_mayWed_8 : decode cX12_mayWed 8 = .ok (.iload_n 2, 1) := by decide +kernel
theorem dX12_mayWed_9 : decode cX12_mayWed 9 = .ok (.aload_n 0, 1) := by decide +kernel
theorem dX12_mayWed_10 : decode cX12_mayWed 10 = .ok (.getfield 144, 3) := by decide +kernel
theorem dX12_mayWed_13 : decode cX12_mayWed 13 = .ok (.if_icmp .ge 19, 3) := by decide +kernel
theorem dX12_mayWed_16 : decode cX12_mayWed 16 = .ok (.aload_n 0, 1) := by decide +kernel
theorem dX12_mayWed_17 : decode cX12_mayWed 17 = .ok (.iload_n 1, 1) := by decide +kernel
theorem dX12_mayWed_18 : decode cX12_mayWed 18 = .ok (.invokevirtual 212, 3) := by decide +kernel
theorem dX12_mayWed_21 : decode cX12_mayWed 21 = .ok (.ifCond .eq 11, 3) := by decide +kernel
theorem dX12_mayWed_24 : decode cX12_mayWed 24 = .ok (.aload_n 0, 1) := by decide +kernel
theorem dX12_mayWed_25 : decode cX12_mayWed 25 = .ok (.iload_n 2, 1) := by decide +kernel
theorem dX12_mayWed_26 : decode cX12_mayWed 26 = .ok (.invokevirtual 212, 3) := by decide +kernel
theorem dX12_mayWed_29 : decode cX12_mayWed 29 = .ok (.ifCond .ne 5, 3) := by decide +kernel
theorem dX12_mayWed_32 : decode cX12_mayWed 32 = .ok (.iconst 0, 1) := by decide +kernel
theorem dX12_mayWed_33 : decode cX12_mayWed 33 = .ok (.ireturn, 1) := by decide +kernel
theorem dX12_mayWed_34 : decode cX12_mayWed 34 = .ok (.aload_n 0, 1) := by decide +kernel
theorem dX12_mayWed_35 : decode cX12_mayWed 35 = .ok (.getfield 31, 3) := by decide +kernel
theorem dX12_mayWed_38 : decode cX12_mayWed 38 = .ok (.iconst 4, 1) := by decide +kernel
theorem dX12_mayWed_39 : decode cX12_mayWed 39 = .ok (.iload_n 1, 1) := by decide +kernel
theorem dX12_mayWed_40 : decode cX12_mayWed 40 = .ok (.imul, 1) := by decide +kernel
theorem dX12_mayWed_41 : decode cX12_mayWed 41 = .ok (.iconst 1, 1) := by decide +kernel
theorem dX12_mayWed_42 : decode cX12_mayWed 42 = .ok (.iadd, 1) := by decide +kernel
theorem dX12_mayWed_43 : decode cX12_mayWed 43 = .ok (.iaload, 1) := by decide +kernel
theorem dX12_mayWed_44 : decode cX12_mayWed 44 = .ok (.aload_n 0, 1) := by decide +kernel
theorem dX12_mayWed_45 : decode cX12_mayWed 45 = .ok (.getfield 31, 3) := by decide +kernel
theorem dX12_mayWed_48 : decode cX12_mayWed 48 = .ok (.iconst 4, 1) := by decide +kernel
theorem dX12_mayWed_49 : decode cX12_mayWed 49 = .ok (.iload_n 2, 1) := by decide +kernel
theorem dX12_mayWed_50 : decode cX12_mayWed 50 = .ok (.imul, 1) := by decide +kernel
theorem dX12_mayWed_51 : decode cX12_mayWed 51 = .ok (.iconst 1, 1) := by decide +kernel
theorem dX12_mayWed_52 : decode cX12_mayWed 52 = .ok (.iadd, 1) := by decide +kernel
theorem dX12_mayWed_53 : decode cX12_mayWed 53 = .ok (.iaload, 1) := by decide +kernel
theorem dX12_mayWed_54 : decode cX12_mayWed 54 = .ok (.isub, 1) := by decide +kernel
theorem dX12_mayWed_55 : decode cX12_mayWed 55 = .ok (.istore_n 3, 1) := by decide +kernel
theorem dX12_mayWed_56 : decode cX12_mayWed 56 = .ok (.aload_n 0, 1) := by decide +kernel
theorem dX12_mayWed_57 : decode cX12_mayWed 57 = .ok (.getfield 31, 3) := by decide +kernel
theorem dX12_mayWed_60 : decode cX12_mayWed 60 = .ok (.iconst 4, 1) := by decide +kernel
theorem dX12_mayWed_61 : decode cX12_mayWed 61 = .ok (.iload_n 1, 1) := by decide +kernel
theorem dX12_mayWed_62 : decode cX12_mayWed 62 = .ok (.imul, 1) := by decide +kernel
theorem dX12_mayWed_63 : decode cX12_mayWed 63 = .ok (.iaload, 1) := by decide +kernel
theorem dX12_mayWed_64 : decode cX12_mayWed 64 = .ok (.aload_n 0, 1) := by decide +kernel
theorem dX12_mayWed_65 : decode cX12_mayWed 65 = .ok (.getfield 31, 3) := by decide +kernel
theorem dX12_mayWed_68 : decode cX12_mayWed 68 = .ok (.iconst 4, 1) := by decide +kernel
theorem dX12_mayWed_69 : decode cX12_mayWed 69 = .ok (.iload_n 2, 1) := by decide +kernel
theorem dX12_mayWed_70 : decode cX12_mayWed 70 = .ok (.imul, 1) := by decide +kernel
theorem dX12_mayWed_71 : decode cX12_mayWed 71 = .ok (.iaload, 1) := by decide +kernel
theorem dX12_mayWed_72 : decode cX12_mayWed 72 = .ok (.if_icmp .eq 17, 3) := by decide +kernel
theorem dX12_mayWed_75 : decode cX12_mayWed 75 = .ok (.iload_n 3, 1) := by decide +kernel
theorem dX12_mayWed_76 : decode cX12_mayWed 76 = .ok (.iconst 1, 1) := by decide +kernel
theorem dX12_mayWed_77 : decode cX12_mayWed 77 = .ok (.if_icmp .eq 8, 3) := by decide +kernel
theorem dX12_mayWed_80 : decode cX12_mayWed 80 = .ok (.iload_n 3, 1) := by decide +kernel
theorem dX12_mayWed_81 : decode cX12_mayWed 81 = .ok (.iconst (-1), 1) := by decide +kernel
theorem dX12_mayWed_82 : decode cX12_mayWed 82 = .ok (.if_icmp .ne 7, 3) := by decide +kernel
theorem dX12_mayWed_85 : decode cX12_mayWed 85 = .ok (.iconst 1, 1) := by decide +kernel
theorem dX12_mayWed_86 : decode cX12_mayWed 86 = .ok (.goto 4, 3) := by decide +kernel
theorem dX12_mayWed_89 : decode cX12_mayWed 89 = .ok (.iconst 0, 1) := by decide +kernel
theorem dX12_mayWed_90 : decode cX12_mayWed 90 = .ok (.ireturn, 1) := by decide +kernel
theorem dX12_isLawful_0 : decode cX12_isLawful 0 = .ok (.aload_n 0, 1) := by decide +kernel
theorem dX12_isLawful_1 : decode cX12_isLawful 1 = .ok (.getfield 37, 3) := by decide +kernel
theorem dX12_isLawful_4 : decode cX12_isLawful 4 = .ok (.iconst 5, 1) := by decide +kernel
theorem dX12_isLawful_5 : decode cX12_isLawful 5 = .ok (.iload_n 1, 1) := by decide +kernel
theorem dX12_isLawful_6 : decode cX12_isLawful 6 = .ok (.imul, 1) := by decide +kernel
theorem dX12_isLawful_7 : decode cX12_isLawful 7 = .ok (.iconst 2, 1) := by decide +kernel
theorem dX12_isLawful_8 : decode cX12_isLawful 8 = .ok (.iadd, 1) := by decide +kernel
theorem dX12_isLawful_9 : decode cX12_isLawful 9 = .ok (.iaload, 1) := by decide +kernel
theorem dX12_isLawful_10 : decode cX12_isLawful 10 = .ok (.istore_n 2, 1) := by decide +kernel
theorem dX12_isLawful_11 : decode cX12_isLawful 11 = .ok (.aload_n 0, 1) := by decide +kernel
theorem dX12_isLawful_12 : decode cX12_isLawful 12 = .ok (.getfield 37, 3) := by decide +kernel
theorem dX12_isLawful_15 : decode cX12_isLawful 15 = .ok (.iconst 5, 1) := by decide +kernel
theorem dX12_isLawful_16 : decode cX12_isLawful 16 = .ok (.iload_n 1, 1) := by decide +kernel
theorem dX12_isLawful_17 : decode cX12_isLawful 17 = .ok (.imul, 1) := by decide +kernel
theorem dX12_isLawful_18 : decode cX12_isLawful 18 = .ok (.iaload, 1) := by decide +kernel
theorem dX12_isLawful_19 : decode cX12_isLawful 19 = .ok (.ifCond .ne 19, 3) := by decide +kernel
theorem dX12_isLawful_22 : decode cX12_isLawful 22 = .ok (.aload_n 0, 1) := by decide +kernel
theorem dX12_isLawful_23 : decode cX12_isLawful 23 = .ok (.iload_n 2, 1) := by decide +kernel
theorem dX12_isLawful_24 : decode cX12_isLawful 24 = .ok (.aload_n 0, 1) := by decide +kernel
theorem dX12_isLawful_25 : decode cX12_isLawful 25 = .ok (.getfield 37, 3) := by decide +kernel
theorem dX12_isLawful_28 : decode cX12_isLawful 28 = .ok (.iconst 5, 1) := by decide +kernel
theorem dX12_isLawful_29 : decode cX12_isLawful 29 = .ok (.iload_n 1, 1) := by decide +kernel
theorem dX12_isLawful_30 : decode cX12_isLawful 30 = .ok (.imul, 1) := by decide +kernel
theorem dX12_isLawful_31 : decode cX12_isLawful 31 = .ok (.iconst 3, 1) := by decide +kernel
theorem dX12_isLawful_32 : decode cX12_isLawful 32 = .ok (.iadd, 1) := by decide +kernel
theorem dX12_isLawful_33 : decode cX12_isLawful 33 = .ok (.iaload, 1) := by decide +kernel
theorem dX12_isLawful_34 : decode cX12_isLawful 34 = .ok (.invokevirtual 215, 3) := by decide +kernel
theorem dX12_isLawful_37 : decode cX12_isLawful 37 = .ok (.ireturn, 1) := by decide +kernel
theorem dX12_isLawful_38 : decode cX12_isLawful 38 = .ok (.iload_n 2, 1) := by decide +kernel
theorem dX12_isLawful_39 : decode cX12_isLawful 39 = .ok (.aload_n 0, 1) := by decide +kernel
theorem dX12_isLawful_40 : decode cX12_isLawful 40 = .ok (.getfield 144, 3) := by decide +kernel
theorem dX12_isLawful_43 : decode cX12_isLawful 43 = .ok (.if_icmp .ge 42, 3) := by decide +kernel
theorem dX12_isLawful_46 : decode cX12_isLawful 46 = .ok (.aload_n 0, 1) := by decide +kernel
theorem dX12_isLawful_47 : decode cX12_isLawful 47 = .ok (.getfield 37, 3) := by decide +kernel
theorem dX12_isLawful_50 : decode cX12_isLawful 50 = .ok (.iconst 5, 1) := by decide +kernel
theorem dX12_isLawful_51 : decode cX12_isLawful 51 = .ok (.iload_n 1, 1) := by decide +kernel
theorem dX12_isLawful_52 : decode cX12_isLawful 52 = .ok (.imul, 1) := by decide +kernel
theorem dX12_isLawful_53 : decode cX12_isLawful 53 = .ok (.iaload, 1) := by decide +kernel
theorem dX12_isLawful_54 : decode cX12_isLawful 54 = .ok (.iconst 1, 1) := by decide +kernel
theorem dX12_isLawful_55 : decode cX12_isLawful 55 = .ok (.if_icmp .ne 16, 3) := by decide +kernel
theorem dX12_isLawful_58 : decode cX12_isLawful 58 = .ok (.aload_n 0, 1) := by decide +kernel
theorem dX12_isLawful_59 : decode cX12_isLawful 59 = .ok (.getfield 43, 3) := by decide +kernel
theorem dX12_isLawful_62 : decode cX12_isLawful 62 = .ok (.iload_n 2, 1) := by decide +kernel
theorem dX12_isLawful_63 : decode cX12_isLawful 63 = .ok (.iaload, 1) := by decide +kernel
theorem dX12_isLawful_64 : decode cX12_isLawful 64 = .ok (.iconst (-1), 1) := by decide +kernel
theorem dX12_isLawful_65 : decode cX12_isLawful 65 = .ok (.if_icmp .eq 20, 3) := by decide +kernel
theorem dX12_isLawful_68 : decode cX12_isLawful 68 = .ok (.goto 13, 3) := by decide +kernel
theorem dX12_isLawful_71 : decode cX12_isLawful 71 = .ok (.aload_n 0, 1) := by decide +kernel
theorem dX12_isLawful_72 : decode cX12_isLawful 72 = .ok (.getfield 55, 3) := by decide +kernel
theorem dX12_isLawful_75 : decode cX12_isLawful 75 = .ok (.iload_n 2, 1) := by decide +kernel
theorem dX12_isLawful_76 : decode cX12_isLawful 76 = .ok (.iaload, 1) := by decide +kernel
theorem dX12_isLawful_77 : decode cX12_isLawful 77 = .ok (.iconst 1, 1) := by decide +kernel
theorem dX12_isLawful_78 : decode cX12_isLawful 78 = .ok (.if_icmp .ne 7, 3) := by decide +kernel
theorem dX12_isLawful_81 : decode cX12_isLawful 81 = .ok (.iconst 1, 1) := by decide +kernel
theorem dX12_isLawful_82 : decode cX12_isLawful 82 = .ok (.goto 4, 3) := by decide +kernel
theorem dX12_isLawful_85 : decode cX12_isLawful 85 = .ok (.iconst 0, 1) := by decide +kernel
theorem dX12_isLawful_86 : decode cX12_isLawful 86 = .ok (.ireturn, 1) := by decide +kernel
theorem dX12_takes_0 : decode cX12_takes 0 = .ok (.aload_n 0, 1) := by decide +kernel
theorem dX12_takes_1 : decode cX12_takes 1 = .ok (.getfield 40, 3) := by decide +kernel
theorem dX12_takes_4 : decode cX12_takes 4 = .ok (.iload_n 1, 1) := by decide +kernel
theorem dX12_takes_5 : decode cX12_takes 5 = .ok (.iaload, 1) := by decide +kernel
theorem dX12_takes_6 : decode cX12_takes 6 = .ok (.iload_n 2, 1) := by decide +kernel
theorem dX12_takes_7 : decode cX12_takes 7 = .ok (.if_icmp .ge 12, 3) := by decide +kernel
theorem dX12_takes_10 : decode cX12_takes 10 = .ok (.aload_n 0, 1) := by decide +kernel
theorem dX12_takes_11 : decode cX12_takes 11 = .ok (.getfield 40, 3) := by decide +kernel
theorem dX12_takes_14 : decode cX12_takes 14 = .ok (.iload_n 1, 1) := by decide +kernel
theorem dX12_takes_15 : decode cX12_takes 15 = .ok (.iaload, 1) := by decide +kernel
theorem dX12_takes_16 : decode cX12_takes 16 = .ok (.goto 4, 3) := by decide +kernel
theorem dX12_takes_19 : decode cX12_takes 19 = .ok (.iload_n 2, 1) := by decide +kernel
theorem dX12_takes_20 : decode cX12_takes 20 = .ok (.istore_n 3, 1) := by decide +kernel
theorem dX12_takes_21 : decode cX12_takes 21 = .ok (.aload_n 0, 1) := by decide +kernel
theorem dX12_takes_22 : decode cX12_takes 22 = .ok (.getfield 40, 3) := by decide +kernel
theorem dX12_takes_25 : decode cX12_takes 25 = .ok (.iload_n 1, 1) := by decide +kernel
theorem dX12_takes_26 : decode cX12_takes 26 = .ok (.dup2, 1) := by decide +kernel
theorem dX12_takes_27 : decode cX12_takes 27 = .ok (.iaload, 1) := by decide +kernel
theorem dX12_takes_28 : decode cX12_takes 28 = .ok (.iload_n 3, 1) := by decide +kernel
theorem dX12_takes_29 : decode cX12_takes 29 = .ok (.isub, 1) := by decide +kernel
theorem dX12_takes_30 : decode cX12_takes 30 = .ok (.iastore, 1) := by decide +kernel
theorem dX12_takes_31 : decode cX12_takes 31 = .ok (.iload_n 3, 1) := by decide +kernel
theorem dX12_takes_32 : decode cX12_takes 32 = .ok (.ireturn, 1) := by decide +kernel
theorem dX12_weds_0 : decode cX12_weds 0 = .ok (.aload_n 0, 1) := by decide +kernel
theorem dX12_weds_1 : decode cX12_weds 1 = .ok (.getfield 37, 3) := by decide +kernel
theorem dX12_weds_4 : decode cX12_weds 4 = .ok (.iconst 5, 1) := by decide +kernel
theorem dX12_weds_5 : decode cX12_weds 5 = .ok (.iload_n 1, 1) := by decide +kernel
theorem dX12_weds_6 : decode cX12_weds 6 = .ok (.imul, 1) := by decide +kernel
theorem dX12_weds_7 : decode cX12_weds 7 = .ok (.iconst 2, 1) := by decide +kernel
theorem dX12_weds_8 : decode cX12_weds 8 = .ok (.iadd, 1) := by decide +kernel
theorem dX12_weds_9 : decode cX12_weds 9 = .ok (.iaload, 1) := by decide +kernel
theorem dX12_weds_10 : decode cX12_weds 10 = .ok (.istore_n 2, 1) := by decide +kernel
theorem dX12_weds_11 : decode cX12_weds 11 = .ok (.aload_n 0, 1) := by decide +kernel
theorem dX12_weds_12 : decode cX12_weds 12 = .ok (.getfield 37, 3) := by decide +kernel
theorem dX12_weds_15 : decode cX12_weds 15 = .ok (.iconst 5, 1) := by decide +kernel
theorem dX12_weds_16 : decode cX12_weds 16 = .ok (.iload_n 1, 1) := by decide +kernel
theorem dX12_weds_17 : decode cX12_weds 17 = .ok (.imul, 1) := by decide +kernel
theorem dX12_weds_18 : decode cX12_weds 18 = .ok (.iconst 3, 1) := by decide +kernel
theorem dX12_weds_19 : decode cX12_weds 19 = .ok (.iadd, 1) := by decide +kernel
theorem dX12_weds_20 : decode cX12_weds 20 = .ok (.iaload, 1) := by decide +kernel
theorem dX12_weds_21 : decode cX12_weds 21 = .ok (.istore_n 3, 1) := by decide +kernel
theorem dX12_weds_22 : decode cX12_weds 22 = .ok (.aload_n 0, 1) := by decide +kernel
theorem dX12_weds_23 : decode cX12_weds 23 = .ok (.getfield 34, 3) := by decide +kernel
theorem dX12_weds_26 : decode cX12_weds 26 = .ok (.aload_n 0, 1) := by decide +kernel
theorem dX12_weds_27 : decode cX12_weds 27 = .ok (.getfield 37, 3) := by decide +kernel
theorem dX12_weds_30 : decode cX12_weds 30 = .ok (.iconst 5, 1) := by decide +kernel
theorem dX12_weds_31 : decode cX12_weds 31 = .ok (.iload_n 1, 1) := by decide +kernel
theorem dX12_weds_32 : decode cX12_weds 32 = .ok (.imul, 1) := by decide +kernel
theorem dX12_weds_33 : decode cX12_weds 33 = .ok (.iconst 1, 1) := by decide +kernel
theorem dX12_weds_34 : decode cX12_weds 34 = .ok (.iadd, 1) := by decide +kernel
theorem dX12_weds_35 : decode cX12_weds 35 = .ok (.iaload, 1) := by decide +kernel
theorem dX12_weds_36 : decode cX12_weds 36 = .ok (.iaload, 1) := by decide +kernel
theorem dX12_weds_37 : decode cX12_weds 37 = .ok (.iconst 1, 1) := by decide +kernel
theorem dX12_weds_38 : decode cX12_weds 38 = .ok (.if_icmp .ne 7, 3) := by decide +kernel
theorem dX12_weds_41 : decode cX12_weds 41 = .ok (.iconst 1, 1) := by decide +kernel
theorem dX12_weds_42 : decode cX12_weds 42 = .ok (.goto 4, 3) := by decide +kernel
theorem dX12_weds_45 : decode cX12_weds 45 = .ok (.iconst 0, 1) := by decide +kernel
theorem dX12_weds_46 : decode cX12_weds 46 = .ok (.istore 4, 2) := by decide +kernel
theorem dX12_weds_48 : decode cX12_weds 48 = .ok (.iload 4, 2) := by decide +kernel
theorem dX12_weds_50 : decode cX12_weds 50 = .ok (.ifCond .eq 7, 3) := by decide +kernel
theorem dX12_weds_53 : decode cX12_weds 53 = .ok (.iconst 0, 1) := by decide +kernel
theorem dX12_weds_54 : decode cX12_weds 54 = .ok (.goto 34, 3) := by decide +kernel
theorem dX12_weds_57 : decode cX12_weds 57 = .ok (.aload_n 0, 1) := by decide +kernel
theorem dX12_weds_58 : decode cX12_weds 58 = .ok (.iload_n 2, 1) := by decide +kernel
theorem dX12_weds_59 : decode cX12_weds 59 = .ok (.aload_n 0, 1) := by decide +kernel
theorem dX12_weds_60 : decode cX12_weds 60 = .ok (.getfield 37, 3) := by decide +kernel
theorem dX12_weds_63 : decode cX12_weds 63 = .ok (.iconst 5, 1) := by decide +kernel
theorem dX12_weds_64 : decode cX12_weds 64 = .ok (.iload_n 1, 1) := by decide +kernel
theorem dX12_weds_65 : decode cX12_weds 65 = .ok (.imul, 1) := by decide +kernel
theorem dX12_weds_66 : decode cX12_weds 66 = .ok (.iconst 4, 1) := by decide +kernel
theorem dX12_weds_67 : decode cX12_weds 67 = .ok (.iadd, 1) := by decide +kernel
theorem dX12_weds_68 : decode cX12_weds 68 = .ok (.iaload, 1) := by decide +kernel
theorem dX12_weds_69 : decode cX12_weds 69 = .ok (.invokevirtual 176, 3) := by decide +kernel
theorem dX12_weds_72 : decode cX12_weds 72 = .ok (.aload_n 0, 1) := by decide +kernel
theorem dX12_weds_73 : decode cX12_weds 73 = .ok (.iload_n 3, 1) := by decide +kernel
theorem dX12_weds_74 : decode cX12_weds 74 = .ok (.aload_n 0, 1) := by decide +kernel
theorem dX12_weds_75 : decode cX12_weds 75 = .ok (.getfield 37, 3) := by decide +kernel
theorem dX12_weds_78 : decode cX12_weds 78 = .ok (.iconst 5, 1) := by decide +kernel
theorem dX12_weds_79 : decode cX12_weds 79 = .ok (.iload_n 1, 1) := by decide +kernel
theorem dX12_weds_80 : decode cX12_weds 80 = .ok (.imul, 1) := by decide +kernel
theorem dX12_weds_81 : decode cX12_weds 81 = .ok (.iconst 4, 1) := by decide +kernel
theorem dX12_weds_82 : decode cX12_weds 82 = .ok (.iadd, 1) := by decide +kernel
theorem dX12_weds_83 : decode cX12_weds 83 = .ok (.iaload, 1) := by decide +kernel
theorem dX12_weds_84 : decode cX12_weds 84 = .ok (.invokevirtual 176, 3) := by decide +kernel
theorem dX12_weds_87 : decode cX12_weds 87 = .ok (.isub, 1) := by decide +kernel
theorem dX12_weds_88 : decode cX12_weds 88 = .ok (.istore 5, 2) := by decide +kernel
theorem dX12_weds_90 : decode cX12_weds 90 = .ok (.iload 5, 2) := by decide +kernel
theorem dX12_weds_92 : decode cX12_weds 92 = .ok (.ifCond .le 16, 3) := by decide +kernel
theorem dX12_weds_95 : decode cX12_weds 95 = .ok (.aload_n 0, 1) := by decide +kernel
theorem dX12_weds_96 : decode cX12_weds 96 = .ok (.getfield 31, 3) := by decide +kernel
theorem dX12_weds_99 : decode cX12_weds 99 = .ok (.iconst 4, 1) := by decide +kernel
theorem dX12_weds_100 : decode cX12_weds 100 = .ok (.iload_n 2, 1) := by decide +kernel
theorem dX12_weds_101 : decode cX12_weds 101 = .ok (.imul, 1) := by decide +kernel
theorem dX12_weds_102 : decode cX12_weds 102 = .ok (.iconst 1, 1) := by decide +kernel
theorem dX12_weds_103 : decode cX12_weds 103 = .ok (.iadd, 1) := by decide +kernel
theorem dX12_weds_104 : decode cX12_weds 104 = .ok (.iaload, 1) := by decide +kernel
theorem dX12_weds_105 : decode cX12_weds 105 = .ok (.goto 22, 3) := by decide +kernel
theorem dX12_weds_108 : decode cX12_weds 108 = .ok (.iload 5, 2) := by decide +kernel
theorem dX12_weds_110 : decode cX12_weds 110 = .ok (.ifCond .ge 16, 3) := by decide +kernel
theorem dX12_weds_113 : decode cX12_weds 113 = .ok (.aload_n 0, 1) := by decide +kernel
theorem dX12_weds_114 : decode cX12_weds 114 = .ok (.getfield 31, 3) := by decide +kernel
theorem dX12_weds_117 : decode cX12_weds 117 = .ok (.iconst 4, 1) := by decide +kernel
theorem dX12_weds_118 : decode cX12_weds 118 = .ok (.iload_n 3, 1) := by decide +kernel
theorem dX12_weds_119 : decode cX12_weds 119 = .ok (.imul, 1) := by decide +kernel
theorem dX12_weds_120 : decode cX12_weds 120 = .ok (.iconst 1, 1) := by decide +kernel
theorem dX12_weds_121 : decode cX12_weds 121 = .ok (.iadd, 1) := by decide +kernel
theorem dX12_weds_122 : decode cX12_weds 122 = .ok (.iaload, 1) := by decide +kernel
theorem dX12_weds_123 : decode cX12_weds 123 = .ok (.goto 4, 3) := by decide +kernel
theorem dX12_weds_126 : decode cX12_weds 126 = .ok (.iconst (-1), 1) := by decide +kernel
theorem dX12_weds_127 : decode cX12_weds 127 = .ok (.istore 6, 2) := by decide +kernel
theorem dX12_weds_129 : decode cX12_weds 129 = .ok (.iload 5, 2) := by decide +kernel
theorem dX12_weds_131 : decode cX12_weds 131 = .ok (.ifCond .le 16, 3) := by decide +kernel
theorem dX12_weds_134 : decode cX12_weds 134 = .ok (.aload_n 0, 1) := by decide +kernel
theorem dX12_weds_135 : decode cX12_weds 135 = .ok (.getfield 31, 3) := by decide +kernel
theorem dX12_weds_138 : decode cX12_weds 138 = .ok (.iconst 4, 1) := by decide +kernel
theorem dX12_weds_139 : decode cX12_weds 139 = .ok (.iload_n 3, 1) := by decide +kernel
theorem dX12_weds_140 : decode cX12_weds 140 = .ok (.imul, 1) := by decide +kernel
theorem dX12_weds_141 : decode cX12_weds 141 = .ok (.iconst 1, 1) := by decide +kernel
theorem dX12_weds_142 : decode cX12_weds 142 = .ok (.iadd, 1) := by decide +kernel
theorem dX12_weds_143 : decode cX12_weds 143 = .ok (.iaload, 1) := by decide +kernel
theorem dX12_weds_144 : decode cX12_weds 144 = .ok (.goto 13, 3) := by decide +kernel
theorem dX12_weds_147 : decode cX12_weds 147 = .ok (.aload_n 0, 1) := by decide +kernel
theorem dX12_weds_148 : decode cX12_weds 148 = .ok (.getfield 31, 3) := by decide +kernel
theorem dX12_weds_151 : decode cX12_weds 151 = .ok (.iconst 4, 1) := by decide +kernel
theorem dX12_weds_152 : decode cX12_weds 152 = .ok (.iload_n 2, 1) := by decide +kernel
theorem dX12_weds_153 : decode cX12_weds 153 = .ok (.imul, 1) := by decide +kernel
theorem dX12_weds_154 : decode cX12_weds 154 = .ok (.iconst 1, 1) := by decide +kernel
theorem dX12_weds_155 : decode cX12_weds 155 = .ok (.iadd, 1) := by decide +kernel
theorem dX12_weds_156 : decode cX12_weds 156 = .ok (.iaload, 1) := by decide +kernel
theorem dX12_weds_157 : decode cX12_weds 157 = .ok (.istore 7, 2) := by decide +kernel
theorem dX12_weds_159 : decode cX12_weds 159 = .ok (.iload 6, 2) := by decide +kernel
theorem dX12_weds_161 : decode cX12_weds 161 = .ok (.iconst (-1), 1) := by decide +kernel
theorem dX12_weds_162 : decode cX12_weds 162 = .ok (.if_icmp .ne 7, 3) := by decide +kernel
theorem dX12_weds_165 : decode cX12_weds 165 = .ok (.iconst 0, 1) := by decide +kernel
theorem dX12_weds_166 : decode cX12_weds 166 = .ok (.goto 22, 3) := by decide +kernel
theorem dX12_weds_169 : decode cX12_weds 169 = .ok (.aload_n 0, 1) := by decide +kernel
theorem dX12_weds_170 : decode cX12_weds 170 = .ok (.iload 7, 2) := by decide +kernel
theorem dX12_weds_172 : decode cX12_weds 172 = .ok (.iload 5, 2) := by decide +kernel
theorem dX12_weds_174 : decode cX12_weds 174 = .ok (.ifCond .ge 9, 3) := by decide +kernel
theorem dX12_weds_177 : decode cX12_weds 177 = .ok (.iload 5, 2) := by decide +kernel
theorem dX12_weds_179 : decode cX12_weds 179 = .ok (.ineg, 1) := by decide +kernel
theorem dX12_weds_180 : decode cX12_weds 180 = .ok (.goto 5, 3) := by decide +kernel
theorem dX12_weds_183 : decode cX12_weds 183 = .ok (.iload 5, 2) := by decide +kernel
theorem dX12_weds_185 : decode cX12_weds 185 = .ok (.invokevirtual 219, 3) := by decide +kernel
theorem dX12_weds_188 : decode cX12_weds 188 = .ok (.istore 8, 2) := by decide +kernel
theorem dX12_weds_190 : decode cX12_weds 190 = .ok (.iload 6, 2) := by decide +kernel
theorem dX12_weds_192 : decode cX12_weds 192 = .ok (.iconst (-1), 1) := by decide +kernel
theorem dX12_weds_193 : decode cX12_weds 193 = .ok (.if_icmp .eq 36, 3) := by decide +kernel
theorem dX12_weds_196 : decode cX12_weds 196 = .ok (.aload_n 0, 1) := by decide +kernel
theorem dX12_weds_197 : decode cX12_weds 197 = .ok (.getfield 40, 3) := by decide +kernel
theorem dX12_weds_200 : decode cX12_weds 200 = .ok (.iload 6, 2) := by decide +kernel
theorem dX12_weds_202 : decode cX12_weds 202 = .ok (.dup2, 1) := by decide +kernel
theorem dX12_weds_203 : decode cX12_weds 203 = .ok (.iaload, 1) := by decide +kernel
theorem dX12_weds_204 : decode cX12_weds 204 = .ok (.iload 8, 2) := by decide +kernel
theorem dX12_weds_206 : decode cX12_weds 206 = .ok (.iadd, 1) := by decide +kernel
theorem dX12_weds_207 : decode cX12_weds 207 = .ok (.iastore, 1) := by decide +kernel
theorem dX12_weds_208 : decode cX12_weds 208 = .ok (.aload_n 0, 1) := by decide +kernel
theorem dX12_weds_209 : decode cX12_weds 209 = .ok (.getfield 58, 3) := by decide +kernel
theorem dX12_weds_212 : decode cX12_weds 212 = .ok (.iload_n 1, 1) := by decide +kernel
theorem dX12_weds_213 : decode cX12_weds 213 = .ok (.iload 6, 2) := by decide +kernel
theorem dX12_weds_215 : decode cX12_weds 215 = .ok (.iload 7, 2) := by decide +kernel
theorem dX12_weds_217 : decode cX12_weds 217 = .ok (.if_icmp .ge 8, 3) := by decide +kernel
theorem dX12_weds_220 : decode cX12_weds 220 = .ok (.iload 8, 2) := by decide +kernel
theorem dX12_weds_222 : decode cX12_weds 222 = .ok (.goto 6, 3) := by decide +kernel
theorem dX12_weds_225 : decode cX12_weds 225 = .ok (.iload 8, 2) := by decide +kernel
theorem dX12_weds_227 : decode cX12_weds 227 = .ok (.ineg, 1) := by decide +kernel
theorem dX12_weds_228 : decode cX12_weds 228 = .ok (.iastore, 1) := by decide +kernel
theorem dX12_weds_229 : decode cX12_weds 229 = .ok (.aload_n 0, 1) := by decide +kernel
theorem dX12_weds_230 : decode cX12_weds 230 = .ok (.getfield 43, 3) := by decide +kernel
theorem dX12_weds_233 : decode cX12_weds 233 = .ok (.iload_n 2, 1) := by decide +kernel
theorem dX12_weds_234 : decode cX12_weds 234 = .ok (.iload_n 3, 1) := by decide +kernel
theorem dX12_weds_235 : decode cX12_weds 235 = .ok (.iastore, 1) := by decide +kernel
theorem dX12_weds_236 : decode cX12_weds 236 = .ok (.aload_n 0, 1) := by decide +kernel
theorem dX12_weds_237 : decode cX12_weds 237 = .ok (.getfield 43, 3) := by decide +kernel
theorem dX12_weds_240 : decode cX12_weds 240 = .ok (.iload_n 3, 1) := by decide +kernel
theorem dX12_weds_241 : decode cX12_weds 241 = .ok (.iload_n 2, 1) := by decide +kernel
theorem dX12_weds_242 : decode cX12_weds 242 = .ok (.iastore, 1) := by decide +kernel
theorem dX12_weds_243 : decode cX12_weds 243 = .ok (.aload_n 0, 1) := by decide +kernel
theorem dX12_weds_244 : decode cX12_weds 244 = .ok (.getfield 46, 3) := by decide +kernel
theorem dX12_weds_247 : decode cX12_weds 247 = .ok (.iload_n 2, 1) := by decide +kernel
theorem dX12_weds_248 : decode cX12_weds 248 = .ok (.iload 8, 2) := by decide +kernel
theorem dX12_weds_250 : decode cX12_weds 250 = .ok (.iastore, 1) := by decide +kernel
theorem dX12_weds_251 : decode cX12_weds 251 = .ok (.aload_n 0, 1) := by decide +kernel
theorem dX12_weds_252 : decode cX12_weds 252 = .ok (.getfield 46, 3) := by decide +kernel
theorem dX12_weds_255 : decode cX12_weds 255 = .ok (.iload_n 3, 1) := by decide +kernel
theorem dX12_weds_256 : decode cX12_weds 256 = .ok (.iload 8, 2) := by decide +kernel
theorem dX12_weds_258 : decode cX12_weds 258 = .ok (.iastore, 1) := by decide +kernel
theorem dX12_weds_259 : decode cX12_weds 259 = .ok (.aload_n 0, 1) := by decide +kernel
theorem dX12_weds_260 : decode cX12_weds 260 = .ok (.getfield 49, 3) := by decide +kernel
theorem dX12_weds_263 : decode cX12_weds 263 = .ok (.iload_n 2, 1) := by decide +kernel
theorem dX12_weds_264 : decode cX12_weds 264 = .ok (.iload 6, 2) := by decide +kernel
theorem dX12_weds_266 : decode cX12_weds 266 = .ok (.iastore, 1) := by decide +kernel
theorem dX12_weds_267 : decode cX12_weds 267 = .ok (.aload_n 0, 1) := by decide +kernel
theorem dX12_weds_268 : decode cX12_weds 268 = .ok (.getfield 49, 3) := by decide +kernel
theorem dX12_weds_271 : decode cX12_weds 271 = .ok (.iload_n 3, 1) := by decide +kernel
theorem dX12_weds_272 : decode cX12_weds 272 = .ok (.iload 6, 2) := by decide +kernel
theorem dX12_weds_274 : decode cX12_weds 274 = .ok (.iastore, 1) := by decide +kernel
theorem dX12_weds_275 : decode cX12_weds 275 = .ok (.return_, 1) := by decide +kernel
theorem dX12_parts_0 : decode cX12_parts 0 = .ok (.aload_n 0, 1) := by decide +kernel
theorem dX12_parts_1 : decode cX12_parts 1 = .ok (.getfield 43, 3) := by decide +kernel
theorem dX12_parts_4 : decode cX12_parts 4 = .ok (.iload_n 1, 1) := by decide +kernel
theorem dX12_parts_5 : decode cX12_parts 5 = .ok (.iaload, 1) := by decide +kernel
theorem dX12_parts_6 : decode cX12_parts 6 = .ok (.istore_n 2, 1) := by decide +kernel
theorem dX12_parts_7 : decode cX12_parts 7 = .ok (.aload_n 0, 1) := by decide +kernel
theorem dX12_parts_8 : decode cX12_parts 8 = .ok (.getfield 49, 3) := by decide +kernel
theorem dX12_parts_11 : decode cX12_parts 11 = .ok (.iload_n 1, 1) := by decide +kernel
theorem dX12_parts_12 : decode cX12_parts 12 = .ok (.iaload, 1) := by decide +kernel
theorem dX12_parts_13 : decode cX12_parts 13 = .ok (.iconst (-1), 1) := by decide +kernel
theorem dX12_parts_14 : decode cX12_parts 14 = .ok (.if_icmp .ne 7, 3) := by decide +kernel
theorem dX12_parts_17 : decode cX12_parts 17 = .ok (.iconst 0, 1) := by decide +kernel
theorem dX12_parts_18 : decode cX12_parts 18 = .ok (.goto 19, 3) := by decide +kernel
theorem dX12_parts_21 : decode cX12_parts 21 = .ok (.aload_n 0, 1) := by decide +kernel
theorem dX12_parts_22 : decode cX12_parts 22 = .ok (.aload_n 0, 1) := by decide +kernel
theorem dX12_parts_23 : decode cX12_parts 23 = .ok (.getfield 49, 3) := by decide +kernel
theorem dX12_parts_26 : decode cX12_parts 26 = .ok (.iload_n 1, 1) := by decide +kernel
theorem dX12_parts_27 : decode cX12_parts 27 = .ok (.iaload, 1) := by decide +kernel
theorem dX12_parts_28 : decode cX12_parts 28 = .ok (.aload_n 0, 1) := by decide +kernel
theorem dX12_parts_29 : decode cX12_parts 29 = .ok (.getfield 46, 3) := by decide +kernel
theorem dX12_parts_32 : decode cX12_parts 32 = .ok (.iload_n 1, 1) := by decide +kernel
theorem dX12_parts_33 : decode cX12_parts 33 = .ok (.iaload, 1) := by decide +kernel
theorem dX12_parts_34 : decode cX12_parts 34 = .ok (.invokevirtual 219, 3) := by decide +kernel
theorem dX12_parts_37 : decode cX12_parts 37 = .ok (.istore_n 3, 1) := by decide +kernel
theorem dX12_parts_38 : decode cX12_parts 38 = .ok (.aload_n 0, 1) := by decide +kernel
theorem dX12_parts_39 : decode cX12_parts 39 = .ok (.getfield 43, 3) := by decide +kernel
theorem dX12_parts_42 : decode cX12_parts 42 = .ok (.iload_n 1, 1) := by decide +kernel
theorem dX12_parts_43 : decode cX12_parts 43 = .ok (.iconst (-1), 1) := by decide +kernel
theorem dX12_parts_44 : decode cX12_parts 44 = .ok (.iastore, 1) := by decide +kernel
theorem dX12_parts_45 : decode cX12_parts 45 = .ok (.aload_n 0, 1) := by decide +kernel
theorem dX12_parts_46 : decode cX12_parts 46 = .ok (.getfield 43, 3) := by decide +kernel
theorem dX12_parts_49 : decode cX12_parts 49 = .ok (.iload_n 2, 1) := by decide +kernel
theorem dX12_parts_50 : decode cX12_parts 50 = .ok (.iconst (-1), 1) := by decide +kernel
theorem dX12_parts_51 : decode cX12_parts 51 = .ok (.iastore, 1) := by decide +kernel
theorem dX12_parts_52 : decode cX12_parts 52 = .ok (.iload_n 3, 1) := by decide +kernel
theorem dX12_parts_53 : decode cX12_parts 53 = .ok (.ireturn, 1) := by decide +kernel
theorem dX12_does_0 : decode cX12_does 0 = .ok (.aload_n 0, 1) := by decide +kernel
theorem dX12_does_1 : decode cX12_does 1 = .ok (.getfield 37, 3) := by decide +kernel
theorem dX12_does_4 : decode cX12_does 4 = .ok (.iconst 5, 1) := by decide +kernel
theorem dX12_does_5 : decode cX12_does 5 = .ok (.iload_n 1, 1) := by decide +kernel
theorem dX12_does_6 : decode cX12_does 6 = .ok (.imul, 1) := by decide +kernel
theorem dX12_does_7 : decode cX12_does 7 = .ok (.iconst 2, 1) := by decide +kernel
theorem dX12_does_8 : decode cX12_does 8 = .ok (.iadd, 1) := by decide +kernel
theorem dX12_does_9 : decode cX12_does 9 = .ok (.iaload, 1) := by decide +kernel
theorem dX12_does_10 : decode cX12_does 10 = .ok (.istore_n 2, 1) := by decide +kernel
theorem dX12_does_11 : decode cX12_does 11 = .ok (.aload_n 0, 1) := by decide +kernel
theorem dX12_does_12 : decode cX12_does 12 = .ok (.getfield 37, 3) := by decide +kernel
theorem dX12_does_15 : decode cX12_does 15 = .ok (.iconst 5, 1) := by decide +kernel
theorem dX12_does_16 : decode cX12_does 16 = .ok (.iload_n 1, 1) := by decide +kernel
theorem dX12_does_17 : decode cX12_does 17 = .ok (.imul, 1) := by decide +kernel
theorem dX12_does_18 : decode cX12_does 18 = .ok (.iaload, 1) := by decide +kernel
theorem dX12_does_19 : decode cX12_does 19 = .ok (.ifCond .ne 11, 3) := by decide +kernel
theorem dX12_does_22 : decode cX12_does 22 = .ok (.aload_n 0, 1) := by decide +kernel
theorem dX12_does_23 : decode cX12_does 23 = .ok (.iload_n 1, 1) := by decide +kernel
theorem dX12_does_24 : decode cX12_does 24 = .ok (.invokevirtual 222, 3) := by decide +kernel
theorem dX12_does_27 : decode cX12_does 27 = .ok (.goto 89, 3) := by decide +kernel
theorem dX12_does_30 : decode cX12_does 30 = .ok (.aload_n 0, 1) := by decide +kernel
theorem dX12_does_31 : decode cX12_does 31 = .ok (.getfield 37, 3) := by decide +kernel
theorem dX12_does_34 : decode cX12_does 34 = .ok (.iconst 5, 1) := by decide +kernel
theorem dX12_does_35 : decode cX12_does 35 = .ok (.iload_n 1, 1) := by decide +kernel
theorem dX12_does_36 : decode cX12_does 36 = .ok (.imul, 1) := by decide +kernel
theorem dX12_does_37 : decode cX12_does 37 = .ok (.iaload, 1) := by decide +kernel
theorem dX12_does_38 : decode cX12_does 38 = .ok (.iconst 1, 1) := by decide +kernel
theorem dX12_does_39 : decode cX12_does 39 = .ok (.if_icmp .ne 32, 3) := by decide +kernel
theorem dX12_does_42 : decode cX12_does 42 = .ok (.aload_n 0, 1) := by decide +kernel
theorem dX12_does_43 : decode cX12_does 43 = .ok (.getfield 58, 3) := by decide +kernel
theorem dX12_does_46 : decode cX12_does 46 = .ok (.iload_n 1, 1) := by decide +kernel
theorem dX12_does_47 : decode cX12_does 47 = .ok (.aload_n 0, 1) := by decide +kernel
theorem dX12_does_48 : decode cX12_does 48 = .ok (.iload_n 2, 1) := by decide +kernel
theorem dX12_does_49 : decode cX12_does 49 = .ok (.invokevirtual 226, 3) := by decide +kernel
theorem dX12_does_52 : decode cX12_does 52 = .ok (.iastore, 1) := by decide +kernel
theorem dX12_does_53 : decode cX12_does 53 = .ok (.aload_n 0, 1) := by decide +kernel
theorem dX12_does_54 : decode cX12_does 54 = .ok (.dup, 1) := by decide +kernel
theorem dX12_does_55 : decode cX12_does 55 = .ok (.getfield 203, 3) := by decide +kernel
theorem dX12_does_58 : decode cX12_does 58 = .ok (.aload_n 0, 1) := by decide +kernel
theorem dX12_does_59 : decode cX12_does 59 = .ok (.getfield 58, 3) := by decide +kernel
theorem dX12_does_62 : decode cX12_does 62 = .ok (.iload_n 1, 1) := by decide +kernel
theorem dX12_does_63 : decode cX12_does 63 = .ok (.iaload, 1) := by decide +kernel
theorem dX12_does_64 : decode cX12_does 64 = .ok (.iadd, 1) := by decide +kernel
theorem dX12_does_65 : decode cX12_does 65 = .ok (.putfield 203, 3) := by decide +kernel
theorem dX12_does_68 : decode cX12_does 68 = .ok (.goto 48, 3) := by decide +kernel
theorem dX12_does_71 : decode cX12_does 71 = .ok (.aload_n 0, 1) := by decide +kernel
theorem dX12_does_72 : decode cX12_does 72 = .ok (.getfield 43, 3) := by decide +kernel
theorem dX12_does_75 : decode cX12_does 75 = .ok (.iload_n 2, 1) := by decide +kernel
theorem dX12_does_76 : decode cX12_does 76 = .ok (.iaload, 1) := by decide +kernel
theorem dX12_does_77 : decode cX12_does 77 = .ok (.istore_n 3, 1) := by decide +kernel
theorem dX12_does_78 : decode cX12_does 78 = .ok (.aload_n 0, 1) := by decide +kernel
theorem dX12_does_79 : decode cX12_does 79 = .ok (.getfield 55, 3) := by decide +kernel
theorem dX12_does_82 : decode cX12_does 82 = .ok (.iload_n 2, 1) := by decide +kernel
theorem dX12_does_83 : decode cX12_does 83 = .ok (.iconst 0, 1) := by decide +kernel
theorem dX12_does_84 : decode cX12_does 84 = .ok (.iastore, 1) := by decide +kernel
theorem dX12_does_85 : decode cX12_does 85 = .ok (.iload_n 3, 1) := by decide +kernel
theorem dX12_does_86 : decode cX12_does 86 = .ok (.iconst (-1), 1) := by decide +kernel
theorem dX12_does_87 : decode cX12_does 87 = .ok (.if_icmp .eq 29, 3) := by decide +kernel
theorem dX12_does_90 : decode cX12_does 90 = .ok (.aload_n 0, 1) := by decide +kernel
theorem dX12_does_91 : decode cX12_does 91 = .ok (.getfield 58, 3) := by decide +kernel
theorem dX12_does_94 : decode cX12_does 94 = .ok (.iload_n 1, 1) := by decide +kernel
theorem dX12_does_95 : decode cX12_does 95 = .ok (.aload_n 0, 1) := by decide +kernel
theorem dX12_does_96 : decode cX12_does 96 = .ok (.iload_n 2, 1) := by decide +kernel
theorem dX12_does_97 : decode cX12_does 97 = .ok (.invokevirtual 226, 3) := by decide +kernel
theorem dX12_does_100 : decode cX12_does 100 = .ok (.iastore, 1) := by decide +kernel
theorem dX12_does_101 : decode cX12_does 101 = .ok (.aload_n 0, 1) := by decide +kernel
theorem dX12_does_102 : decode cX12_does 102 = .ok (.getfield 52, 3) := by decide +kernel
theorem dX12_does_105 : decode cX12_does 105 = .ok (.iload_n 3, 1) := by decide +kernel
theorem dX12_does_106 : decode cX12_does 106 = .ok (.dup2, 1) := by decide +kernel
theorem dX12_does_107 : decode cX12_does 107 = .ok (.iaload, 1) := by decide +kernel
theorem dX12_does_108 : decode cX12_does 108 = .ok (.aload_n 0, 1) := by decide +kernel
theorem dX12_does_109 : decode cX12_does 109 = .ok (.getfield 58, 3) := by decide +kernel
theorem dX12_does_112 : decode cX12_does 112 = .ok (.iload_n 1, 1) := by decide +kernel
theorem dX12_does_113 : decode cX12_does 113 = .ok (.iaload, 1) := by decide +kernel
theorem dX12_does_114 : decode cX12_does 114 = .ok (.iadd, 1) := by decide +kernel
theorem dX12_does_115 : decode cX12_does 115 = .ok (.iastore, 1) := by decide +kernel
theorem dX12_does_116 : decode cX12_does 116 = .ok (.return_, 1) := by decide +kernel
theorem dX12_goes_0 : decode cX12_goes 0 = .ok (.aload_n 0, 1) := by decide +kernel
theorem dX12_goes_1 : decode cX12_goes 1 = .ok (.invokevirtual 229, 3) := by decide +kernel
theorem dX12_goes_4 : decode cX12_goes 4 = .ok (.iconst 0, 1) := by decide +kernel
theorem dX12_goes_5 : decode cX12_goes 5 = .ok (.istore_n 3, 1) := by decide +kernel
theorem dX12_goes_6 : decode cX12_goes 6 = .ok (.iload_n 3, 1) := by decide +kernel
theorem dX12_goes_7 : decode cX12_goes 7 = .ok (.iload_n 1, 1) := by decide +kernel
theorem dX12_goes_8 : decode cX12_goes 8 = .ok (.if_icmp .ge 67, 3) := by decide +kernel
theorem dX12_goes_11 : decode cX12_goes 11 = .ok (.aload_n 0, 1) := by decide +kernel
theorem dX12_goes_12 : decode cX12_goes 12 = .ok (.getfield 58, 3) := by decide +kernel
theorem dX12_goes_15 : decode cX12_goes 15 = .ok (.iload_n 3, 1) := by decide +kernel
theorem dX12_goes_16 : decode cX12_goes 16 = .ok (.iconst 0, 1) := by decide +kernel
theorem dX12_goes_17 : decode cX12_goes 17 = .ok (.iastore, 1) := by decide +kernel
theorem dX12_goes_18 : decode cX12_goes 18 = .ok (.iload_n 3, 1) := by decide +kernel
theorem dX12_goes_19 : decode cX12_goes 19 = .ok (.iload_n 2, 1) := by decide +kernel
theorem dX12_goes_20 : decode cX12_goes 20 = .ok (.if_icmp .eq 49, 3) := by decide +kernel
theorem dX12_goes_23 : decode cX12_goes 23 = .ok (.aload_n 0, 1) := by decide +kernel
theorem dX12_goes_24 : decode cX12_goes 24 = .ok (.iload_n 3, 1) := by decide +kernel
theorem dX12_goes_25 : decode cX12_goes 25 = .ok (.invokevirtual 232, 3) := by decide +kernel
theorem dX12_goes_28 : decode cX12_goes 28 = .ok (.ifCond .eq 11, 3) := by decide +kernel
theorem dX12_goes_31 : decode cX12_goes 31 = .ok (.aload_n 0, 1) := by decide +kernel
theorem dX12_goes_32 : decode cX12_goes 32 = .ok (.iload_n 3, 1) := by decide +kernel
theorem dX12_goes_33 : decode cX12_goes 33 = .ok (.invokevirtual 235, 3) := by decide +kernel
theorem dX12_goes_36 : decode cX12_goes 36 = .ok (.goto 33, 3) := by decide +kernel
theorem dX12_goes_39 : decode cX12_goes 39 = .ok (.aload_n 0, 1) := by decide +kernel
theorem dX12_goes_40 : decode cX12_goes 40 = .ok (.dup, 1) := by decide +kernel
theorem dX12_goes_41 : decode cX12_goes 41 = .ok (.getfield 206, 3) := by decide +kernel
theorem dX12_goes_44 : decode cX12_goes 44 = .ok (.iconst 1, 1) := by decide +kernel
theorem dX12_goes_45 : decode cX12_goes 45 = .ok (.iadd, 1) := by decide +kernel
theorem dX12_goes_46 : decode cX12_goes 46 = .ok (.putfield 206, 3) := by decide +kernel
theorem dX12_goes_49 : decode cX12_goes 49 = .ok (.aload_n 0, 1) := by decide +kernel
theorem dX12_goes_50 : decode cX12_goes 50 = .ok (.aload_n 0, 1) := by decide +kernel
theorem dX12_goes_51 : decode cX12_goes 51 = .ok (.getfield 209, 3) := by decide +kernel
theorem dX12_goes_54 : decode cX12_goes 54 = .ok (.iconst (-1), 1) := by decide +kernel
theorem dX12_goes_55 : decode cX12_goes 55 = .ok (.if_icmp .ne 7, 3) := by decide +kernel
theorem dX12_goes_58 : decode cX12_goes 58 = .ok (.iload_n 3, 1) := by decide +kernel
theorem dX12_goes_59 : decode cX12_goes 59 = .ok (.goto 7, 3) := by decide +kernel
theorem dX12_goes_62 : decode cX12_goes 62 = .ok (.aload_n 0, 1) := by decide +kernel
theorem dX12_goes_63 : decode cX12_goes 63 = .ok (.getfield 209, 3) := by decide +kernel
theorem dX12_goes_66 : decode cX12_goes 66 = .ok (.putfield 209, 3) := by decide +kernel
theorem dX12_goes_69 : decode cX12_goes 69 = .ok (.iinc 3 1, 3) := by decide +kernel
theorem dX12_goes_72 : decode cX12_goes 72 = .ok (.goto (-66), 3) := by decide +kernel
theorem dX12_goes_75 : decode cX12_goes 75 = .ok (.return_, 1) := by decide +kernel
theorem dX12_goesAll_0 : decode cX12_goesAll 0 = .ok (.aload_n 0, 1) := by decide +kernel
theorem dX12_goesAll_1 : decode cX12_goesAll 1 = .ok (.aload_n 0, 1) := by decide +kernel
theorem dX12_goesAll_2 : decode cX12_goesAll 2 = .ok (.getfield 184, 3) := by decide +kernel
theorem dX12_goesAll_5 : decode cX12_goesAll 5 = .ok (.iconst (-1), 1) := by decide +kernel
theorem dX12_goesAll_6 : decode cX12_goesAll 6 = .ok (.invokevirtual 238, 3) := by decide +kernel
theorem dX12_goesAll_9 : decode cX12_goesAll 9 = .ok (.return_, 1) := by decide +kernel
theorem dX12_judged_0 : decode cX12_judged 0 = .ok (.aload_n 0, 1) := by decide +kernel
theorem dX12_judged_1 : decode cX12_judged 1 = .ok (.invokevirtual 163, 3) := by decide +kernel
theorem dX12_judged_4 : decode cX12_judged 4 = .ok (.aload_n 0, 1) := by decide +kernel
theorem dX12_judged_5 : decode cX12_judged 5 = .ok (.invokevirtual 242, 3) := by decide +kernel
theorem dX12_judged_8 : decode cX12_judged 8 = .ok (.aload_n 0, 1) := by decide +kernel
theorem dX12_judged_9 : decode cX12_judged 9 = .ok (.getfield 209, 3) := by decide +kernel
theorem dX12_judged_12 : decode cX12_judged 12 = .ok (.ireturn, 1) := by decide +kernel
theorem dX12_moved_0 : decode cX12_moved 0 = .ok (.aload_n 0, 1) := by decide +kernel
theorem dX12_moved_1 : decode cX12_moved 1 = .ok (.invokevirtual 163, 3) := by decide +kernel
theorem dX12_moved_4 : decode cX12_moved 4 = .ok (.iload_n 1, 1) := by decide +kernel
theorem dX12_moved_5 : decode cX12_moved 5 = .ok (.i2l, 1) := by decide +kernel
theorem dX12_moved_6 : decode cX12_moved 6 = .ok (.lconst 0, 1) := by decide +kernel
theorem dX12_moved_7 : decode cX12_moved 7 = .ok (.aload_n 0, 1) := by decide +kernel
theorem dX12_moved_8 : decode cX12_moved 8 = .ok (.getfield 184, 3) := by decide +kernel
theorem dX12_moved_11 : decode cX12_moved 11 = .ok (.iconst 1, 1) := by decide +kernel
theorem dX12_moved_12 : decode cX12_moved 12 = .ok (.isub, 1) := by decide +kernel
theorem dX12_moved_13 : decode cX12_moved 13 = .ok (.i2l, 1) := by decide +kernel
theorem dX12_moved_14 : decode cX12_moved 14 = .ok (.invokestatic 95, 3) := by decide +kernel
theorem dX12_moved_17 : decode cX12_moved 17 = .ok (.ifCond .ne 7, 3) := by decide +kernel
theorem dX12_moved_20 : decode cX12_moved 20 = .ok (.sipush (-10002), 3) := by decide +kernel
theorem dX12_moved_23 : decode cX12_moved 23 = .ok (.ireturn, 1) := by decide +kernel
theorem dX12_moved_24 : decode cX12_moved 24 = .ok (.aload_n 0, 1) := by decide +kernel
theorem dX12_moved_25 : decode cX12_moved 25 = .ok (.invokevirtual 242, 3) := by decide +kernel
theorem dX12_moved_28 : decode cX12_moved 28 = .ok (.aload_n 0, 1) := by decide +kernel
theorem dX12_moved_29 : decode cX12_moved 29 = .ok (.getfield 58, 3) := by decide +kernel
theorem dX12_moved_32 : decode cX12_moved 32 = .ok (.iload_n 1, 1) := by decide +kernel
theorem dX12_moved_33 : decode cX12_moved 33 = .ok (.iaload, 1) := by decide +kernel
theorem dX12_moved_34 : decode cX12_moved 34 = .ok (.ireturn, 1) := by decide +kernel
theorem dX12_isSo_0 : decode cX12_isSo 0 = .ok (.iload_n 1, 1) := by decide +kernel
theorem dX12_isSo_1 : decode cX12_isSo 1 = .ok (.i2l, 1) := by decide +kernel
theorem dX12_isSo_2 : decode cX12_isSo 2 = .ok (.lconst 0, 1) := by decide +kernel
theorem dX12_isSo_3 : decode cX12_isSo 3 = .ok (.aload_n 0, 1) := by decide +kernel
theorem dX12_isSo_4 : decode cX12_isSo 4 = .ok (.getfield 184, 3) := by decide +kernel
theorem dX12_isSo_7 : decode cX12_isSo 7 = .ok (.i2l, 1) := by decide +kernel
theorem dX12_isSo_8 : decode cX12_isSo 8 = .ok (.invokestatic 95, 3) := by decide +kernel
theorem dX12_isSo_11 : decode cX12_isSo 11 = .ok (.ireturn, 1) := by decide +kernel
theorem dX12_widthOf_0 : decode cX12_widthOf 0 = .ok (.aload_n 0, 1) := by decide +kernel
theorem dX12_widthOf_1 : decode cX12_widthOf 1 = .ok (.iload_n 2, 1) := by decide +kernel
theorem dX12_widthOf_2 : decode cX12_widthOf 2 = .ok (.iload_n 3, 1) := by decide +kernel
theorem dX12_widthOf_3 : decode cX12_widthOf 3 = .ok (.invokevirtual 238, 3) := by decide +kernel
theorem dX12_widthOf_6 : decode cX12_widthOf 6 = .ok (.aload_n 0, 1) := by decide +kernel
theorem dX12_widthOf_7 : decode cX12_widthOf 7 = .ok (.getfield 40, 3) := by decide +kernel
theorem dX12_widthOf_10 : decode cX12_widthOf 10 = .ok (.iload_n 1, 1) := by decide +kernel
theorem dX12_widthOf_11 : decode cX12_widthOf 11 = .ok (.iaload, 1) := by decide +kernel
theorem dX12_widthOf_12 : decode cX12_widthOf 12 = .ok (.ireturn, 1) := by decide +kernel
theorem dX12_width_0 : decode cX12_width 0 = .ok (.aload_n 0, 1) := by decide +kernel
theorem dX12_width_1 : decode cX12_width 1 = .ok (.iload_n 1, 1) := by decide +kernel
theorem dX12_width_2 : decode cX12_width 2 = .ok (.invokevirtual 245, 3) := by decide +kernel
theorem dX12_width_5 : decode cX12_width 5 = .ok (.ifCond .eq 21, 3) := by decide +kernel
theorem dX12_width_8 : decode cX12_width 8 = .ok (.aload_n 0, 1) := by decide +kernel
theorem dX12_width_9 : decode cX12_width 9 = .ok (.iload_n 2, 1) := by decide +kernel
theorem dX12_width_10 : decode cX12_width 10 = .ok (.invokevirtual 248, 3) := by decide +kernel
theorem dX12_width_13 : decode cX12_width 13 = .ok (.ifCond .eq 13, 3) := by decide +kernel
theorem dX12_width_16 : decode cX12_width 16 = .ok (.aload_n 0, 1) := by decide +kernel
theorem dX12_width_17 : decode cX12_width 17 = .ok (.iload_n 1, 1) := by decide +kernel
theorem dX12_width_18 : decode cX12_width 18 = .ok (.iload_n 2, 1) := by decide +kernel
theorem dX12_width_19 : decode cX12_width 19 = .ok (.iconst (-1), 1) := by decide +kernel
theorem dX12_width_20 : decode cX12_width 20 = .ok (.invokevirtual 251, 3) := by decide +kernel
theorem dX12_width_23 : decode cX12_width 23 = .ok (.goto 5, 3) := by decide +kernel
theorem dX12_width_26 : decode cX12_width 26 = .ok (.bipush (-2), 2) := by decide +kernel
theorem dX12_width_28 : decode cX12_width 28 = .ok (.ireturn, 1) := by decide +kernel
theorem dX12_stateNow_0 : decode cX12_stateNow 0 = .ok (.iload_n 2, 1) := by decide +kernel
theorem dX12_stateNow_1 : decode cX12_stateNow 1 = .ok (.ifCond .ne 12, 3) := by decide +kernel
theorem dX12_stateNow_4 : decode cX12_stateNow 4 = .ok (.aload_n 0, 1) := by decide +kernel
theorem dX12_stateNow_5 : decode cX12_stateNow 5 = .ok (.getfield 43, 3) := by decide +kernel
theorem dX12_stateNow_8 : decode cX12_stateNow 8 = .ok (.iload_n 1, 1) := by decide +kernel
theorem dX12_stateNow_9 : decode cX12_stateNow 9 = .ok (.iaload, 1) := by decide +kernel
theorem dX12_stateNow_10 : decode cX12_stateNow 10 = .ok (.goto 23, 3) := by decide +kernel
theorem dX12_stateNow_13 : decode cX12_stateNow 13 = .ok (.iload_n 2, 1) := by decide +kernel
theorem dX12_stateNow_14 : decode cX12_stateNow 14 = .ok (.iconst 1, 1) := by decide +kernel
theorem dX12_stateNow_15 : decode cX12_stateNow 15 = .ok (.if_icmp .ne 12, 3) := by decide +kernel
theorem dX12_stateNow_18 : decode cX12_stateNow 18 = .ok (.aload_n 0, 1) := by decide +kernel
theorem dX12_stateNow_19 : decode cX12_stateNow 19 = .ok (.getfield 52, 3) := by decide +kernel
theorem dX12_stateNow_22 : decode cX12_stateNow 22 = .ok (.iload_n 1, 1) := by decide +kernel
theorem dX12_stateNow_23 : decode cX12_stateNow 23 = .ok (.iaload, 1) := by decide +kernel
theorem dX12_stateNow_24 : decode cX12_stateNow 24 = .ok (.goto 9, 3) := by decide +kernel
theorem dX12_stateNow_27 : decode cX12_stateNow 27 = .ok (.aload_n 0, 1) := by decide +kernel
theorem dX12_stateNow_28 : decode cX12_stateNow 28 = .ok (.getfield 55, 3) := by decide +kernel
theorem dX12_stateNow_31 : decode cX12_stateNow 31 = .ok (.iload_n 1, 1) := by decide +kernel
theorem dX12_stateNow_32 : decode cX12_stateNow 32 = .ok (.iaload, 1) := by decide +kernel
theorem dX12_stateNow_33 : decode cX12_stateNow 33 = .ok (.ireturn, 1) := by decide +kernel
theorem dX12_state_0 : decode cX12_state 0 = .ok (.aload_n 0, 1) := by decide +kernel
theorem dX12_state_1 : decode cX12_state 1 = .ok (.iload_n 1, 1) := by decide +kernel
theorem dX12_state_2 : decode cX12_state 2 = .ok (.invokevirtual 166, 3) := by decide +kernel
theorem dX12_state_5 : decode cX12_state 5 = .ok (.ifCond .eq 23, 3) := by decide +kernel
theorem dX12_state_8 : decode cX12_state 8 = .ok (.aload_n 0, 1) := by decide +kernel
theorem dX12_state_9 : decode cX12_state 9 = .ok (.iload_n 2, 1) := by decide +kernel
theorem dX12_state_10 : decode cX12_state 10 = .ok (.invokevirtual 248, 3) := by decide +kernel
theorem dX12_state_13 : decode cX12_state 13 = .ok (.ifCond .eq 15, 3) := by decide +kernel
theorem dX12_state_16 : decode cX12_state 16 = .ok (.iload_n 3, 1) := by decide +kernel
theorem dX12_state_17 : decode cX12_state 17 = .ok (.i2l, 1) := by decide +kernel
theorem dX12_state_18 : decode cX12_state 18 = .ok (.lconst 0, 1) := by decide +kernel
theorem dX12_state_19 : decode cX12_state 19 = .ok (.ldc2_w 109, 3) := by decide +kernel
theorem dX12_state_22 : decode cX12_state 22 = .ok (.invokestatic 95, 3) := by decide +kernel
theorem dX12_state_25 : decode cX12_state 25 = .ok (.ifCond .ne 6, 3) := by decide +kernel
theorem dX12_state_28 : decode cX12_state 28 = .ok (.bipush (-2), 2) := by decide +kernel
theorem dX12_state_30 : decode cX12_state 30 = .ok (.ireturn, 1) := by decide +kernel
theorem dX12_state_31 : decode cX12_state 31 = .ok (.aload_n 0, 1) := by decide +kernel
theorem dX12_state_32 : decode cX12_state 32 = .ok (.iload_n 2, 1) := by decide +kernel
theorem dX12_state_33 : decode cX12_state 33 = .ok (.iconst (-1), 1) := by decide +kernel
theorem dX12_state_34 : decode cX12_state 34 = .ok (.invokevirtual 238, 3) := by decide +kernel
theorem dX12_state_37 : decode cX12_state 37 = .ok (.aload_n 0, 1) := by decide +kernel
theorem dX12_state_38 : decode cX12_state 38 = .ok (.iload_n 1, 1) := by decide +kernel
theorem dX12_state_39 : decode cX12_state 39 = .ok (.iload_n 3, 1) := by decide +kernel
theorem dX12_state_40 : decode cX12_state 40 = .ok (.invokevirtual 254, 3) := by decide +kernel
theorem dX12_state_43 : decode cX12_state 43 = .ok (.ireturn, 1) := by decide +kernel
theorem dX12_nobody_0 : decode cX12_nobody 0 = .ok (.aload_n 0, 1) := by decide +kernel
theorem dX12_nobody_1 : decode cX12_nobody 1 = .ok (.invokevirtual 163, 3) := by decide +kernel
theorem dX12_nobody_4 : decode cX12_nobody 4 = .ok (.aload_n 0, 1) := by decide +kernel
theorem dX12_nobody_5 : decode cX12_nobody 5 = .ok (.iload_n 1, 1) := by decide +kernel
theorem dX12_nobody_6 : decode cX12_nobody 6 = .ok (.invokevirtual 248, 3) := by decide +kernel
theorem dX12_nobody_9 : decode cX12_nobody 9 = .ok (.ifCond .ne 6, 3) := by decide +kernel
theorem dX12_nobody_12 : decode cX12_nobody 12 = .ok (.bipush (-2), 2) := by decide +kernel
theorem dX12_nobody_14 : decode cX12_nobody 14 = .ok (.ireturn, 1) := by decide +kernel
theorem dX12_nobody_15 : decode cX12_nobody 15 = .ok (.aload_n 0, 1) := by decide +kernel
theorem dX12_nobody_16 : decode cX12_nobody 16 = .ok (.iload_n 1, 1) := by decide +kernel
theorem dX12_nobody_17 : decode cX12_nobody 17 = .ok (.iconst (-1), 1) := by decide +kernel
theorem dX12_nobody_18 : decode cX12_nobody 18 = .ok (.invokevirtual 238, 3) := by decide +kernel
theorem dX12_nobody_21 : decode cX12_nobody 21 = .ok (.aload_n 0, 1) := by decide +kernel
theorem dX12_nobody_22 : decode cX12_nobody 22 = .ok (.getfield 203, 3) := by decide +kernel
theorem dX12_nobody_25 : decode cX12_nobody 25 = .ok (.ireturn, 1) := by decide +kernel
theorem dX12_gain_0 : decode cX12_gain 0 = .ok (.aload_n 0, 1) := by decide +kernel
theorem dX12_gain_1 : decode cX12_gain 1 = .ok (.iload_n 1, 1) := by decide +kernel
theorem dX12_gain_2 : decode cX12_gain 2 = .ok (.bipush 6, 2) := by decide +kernel
theorem dX12_gain_4 : decode cX12_gain 4 = .ok (.invokevirtual 176, 3) := by decide +kernel
theorem dX12_gain_7 : decode cX12_gain 7 = .ok (.aload_n 0, 1) := by decide +kernel
theorem dX12_gain_8 : decode cX12_gain 8 = .ok (.iload_n 2, 1) := by decide +kernel
theorem dX12_gain_9 : decode cX12_gain 9 = .ok (.bipush 6, 2) := by decide +kernel
theorem dX12_gain_11 : decode cX12_gain 11 = .ok (.invokevirtual 176, 3) := by decide +kernel
theorem dX12_gain_14 : decode cX12_gain 14 = .ok (.isub, 1) := by decide +kernel
theorem dX12_gain_15 : decode cX12_gain 15 = .ok (.ireturn, 1) := by decide +kernel
theorem dX12_findMost_0 : decode cX12_findMost 0 = .ok (.aload_n 0, 1) := by decide +kernel
theorem dX12_findMost_1 : decode cX12_findMost 1 = .ok (.invokevirtual 242, 3) := by decide +kernel
theorem dX12_findMost_4 : decode cX12_findMost 4 = .ok (.aload_n 0, 1) := by decide +kernel
theorem dX12_findMost_5 : decode cX12_findMost 5 = .ok (.iconst 0, 1) := by decide +kernel
theorem dX12_findMost_6 : decode cX12_findMost 6 = .ok (.putfield 257, 3) := by decide +kernel
theorem dX12_findMost_9 : decode cX12_findMost 9 = .ok (.iconst 0, 1) := by decide +kernel
theorem dX12_findMost_10 : decode cX12_findMost 10 = .ok (.istore_n 2, 1) := by decide +kernel
theorem dX12_findMost_11 : decode cX12_findMost 11 = .ok (.iload_n 2, 1) := by decide +kernel
theorem dX12_findMost_12 : decode cX12_findMost 12 = .ok (.aload_n 0, 1) := by decide +kernel
theorem dX12_findMost_13 : decode cX12_findMost 13 = .ok (.getfield 144, 3) := by decide +kernel
theorem dX12_findMost_16 : decode cX12_findMost 16 = .ok (.if_icmp .ge 51, 3) := by decide +kernel
theorem dX12_findMost_19 : decode cX12_findMost 19 = .ok (.aload_n 0, 1) := by decide +kernel
theorem dX12_findMost_20 : decode cX12_findMost 20 = .ok (.getfield 31, 3) := by decide +kernel
theorem dX12_findMost_23 : decode cX12_findMost 23 = .ok (.iconst 4, 1) := by decide +kernel
theorem dX12_findMost_24 : decode cX12_findMost 24 = .ok (.iload_n 2, 1) := by decide +kernel
theorem dX12_findMost_25 : decode cX12_findMost 25 = .ok (.imul, 1) := by decide +kernel
theorem dX12_findMost_26 : decode cX12_findMost 26 = .ok (.iconst 1, 1) := by decide +kernel
theorem dX12_findMost_27 : decode cX12_findMost 27 = .ok (.iadd, 1) := by decide +kernel
theorem dX12_findMost_28 : decode cX12_findMost 28 = .ok (.iaload, 1) := by decide +kernel
theorem dX12_findMost_29 : decode cX12_findMost 29 = .ok (.iload_n 1, 1) := by decide +kernel
theorem dX12_findMost_30 : decode cX12_findMost 30 = .ok (.if_icmp .ne 31, 3) := by decide +kernel
theorem dX12_findMost_33 : decode cX12_findMost 33 = .ok (.aload_n 0, 1) := by decide +kernel
theorem dX12_findMost_34 : decode cX12_findMost 34 = .ok (.iload_n 2, 1) := by decide +kernel
theorem dX12_findMost_35 : decode cX12_findMost 35 = .ok (.invokevirtual 212, 3) := by decide +kernel
theorem dX12_findMost_38 : decode cX12_findMost 38 = .ok (.ifCond .eq 23, 3) := by decide +kernel
theorem dX12_findMost_41 : decode cX12_findMost 41 = .ok (.aload_n 0, 1) := by decide +kernel
theorem dX12_findMost_42 : decode cX12_findMost 42 = .ok (.getfield 61, 3) := by decide +kernel
theorem dX12_findMost_45 : decode cX12_findMost 45 = .ok (.aload_n 0, 1) := by decide +kernel
theorem dX12_findMost_46 : decode cX12_findMost 46 = .ok (.getfield 257, 3) := by decide +kernel
theorem dX12_findMost_49 : decode cX12_findMost 49 = .ok (.iload_n 2, 1) := by decide +kernel
theorem dX12_findMost_50 : decode cX12_findMost 50 = .ok (.iastore, 1) := by decide +kernel
theorem dX12_findMost_51 : decode cX12_findMost 51 = .ok (.aload_n 0, 1) := by decide +kernel
theorem dX12_findMost_52 : decode cX12_findMost 52 = .ok (.dup, 1) := by decide +kernel
theorem dX12_findMost_53 : decode cX12_findMost 53 = .ok (.getfield 257, 3) := by decide +kernel
theorem dX12_findMost_56 : decode cX12_findMost 56 = .ok (.iconst 1, 1) := by decide +kernel
theorem dX12_findMost_57 : decode cX12_findMost 57 = .ok (.iadd, 1) := by decide +kernel
theorem dX12_findMost_58 : decode cX12_findMost 58 = .ok (.putfield 257, 3) := by decide +kernel
theorem dX12_findMost_61 : decode cX12_findMost 61 = .ok (.iinc 2 1, 3) := by decide +kernel
theorem dX12_findMost_64 : decode cX12_findMost 64 = .ok (.goto (-53), 3) := by decide +kernel
theorem dX12_findMost_67 : decode cX12_findMost 67 = .ok (.iconst 0, 1) := by decide +kernel
theorem dX12_findMost_68 : decode cX12_findMost 68 = .ok (.istore_n 2, 1) := by decide +kernel
theorem dX12_findMost_69 : decode cX12_findMost 69 = .ok (.iload_n 2, 1) := by decide +kernel
theorem dX12_findMost_70 : decode cX12_findMost 70 = .ok (.bipush 13, 2) := by decide +kernel
theorem dX12_findMost_72 : decode cX12_findMost 72 = .ok (.if_icmp .ge 21, 3) := by decide +kernel
theorem dX12_findMost_75 : decode cX12_findMost 75 = .ok (.aload_n 0, 1) := by decide +kernel
theorem dX12_findMost_76 : decode cX12_findMost 76 = .ok (.getfield 67, 3) := by decide +kernel
theorem dX12_findMost_79 : decode cX12_findMost 79 = .ok (.iload_n 2, 1) := by decide +kernel
theorem dX12_findMost_80 : decode cX12_findMost 80 = .ok (.aload_n 0, 1) := by decide +kernel
theorem dX12_findMost_81 : decode cX12_findMost 81 = .ok (.getfield 40, 3) := by decide +kernel
theorem dX12_findMost_84 : decode cX12_findMost 84 = .ok (.iload_n 1, 1) := by decide +kernel
theorem dX12_findMost_85 : decode cX12_findMost 85 = .ok (.iaload, 1) := by decide +kernel
theorem dX12_findMost_86 : decode cX12_findMost 86 = .ok (.iastore, 1) := by decide +kernel
theorem dX12_findMost_87 : decode cX12_findMost 87 = .ok (.iinc 2 1, 3) := by decide +kernel
theorem dX12_findMost_90 : decode cX12_findMost 90 = .ok (.goto (-21), 3) := by decide +kernel
theorem dX12_findMost_93 : decode cX12_findMost 93 = .ok (.iconst 0, 1) := by decide +kernel
theorem dX12_findMost_94 : decode cX12_findMost 94 = .ok (.istore_n 2, 1) := by decide +kernel
theorem dX12_findMost_95 : decode cX12_findMost 95 = .ok (.iconst 0, 1) := by decide +kernel
theorem dX12_findMost_96 : decode cX12_findMost 96 = .ok (.istore_n 3, 1) := by decide +kernel
theorem dX12_findMost_97 : decode cX12_findMost 97 = .ok (.aload_n 0, 1) := by decide +kernel
theorem dX12_findMost_98 : decode cX12_findMost 98 = .ok (.getfield 64, 3) := by decide +kernel
theorem dX12_findMost_101 : decode cX12_findMost 101 = .ok (.iconst 0, 1) := by decide +kernel
theorem dX12_findMost_102 : decode cX12_findMost 102 = .ok (.bipush (-2), 2) := by decide +kernel
theorem dX12_findMost_104 : decode cX12_findMost 104 = .ok (.iastore, 1) := by decide +kernel
theorem dX12_findMost_105 : decode cX12_findMost 105 = .ok (.iload_n 2, 1) := by decide +kernel
theorem dX12_findMost_106 : decode cX12_findMost 106 = .ok (.ifCond .lt 170, 3) := by decide +kernel
theorem dX12_findMost_109 : decode cX12_findMost 109 = .ok (.iload_n 2, 1) := by decide +kernel
theorem dX12_findMost_110 : decode cX12_findMost 110 = .ok (.aload_n 0, 1) := by decide +kernel
theorem dX12_findMost_111 : decode cX12_findMost 111 = .ok (.getfield 257, 3) := by decide +kernel
theorem dX12_findMost_114 : decode cX12_findMost 114 = .ok (.if_icmp .ne 14, 3) := by decide +kernel
theorem dX12_findMost_117 : decode cX12_findMost 117 = .ok (.aload_n 0, 1) := by decide +kernel
theorem dX12_findMost_118 : decode cX12_findMost 118 = .ok (.iload_n 1, 1) := by decide +kernel
theorem dX12_findMost_119 : decode cX12_findMost 119 = .ok (.invokevirtual 260, 3) := by decide +kernel
theorem dX12_findMost_122 : decode cX12_findMost 122 = .ok (.iinc 2 (-1), 3) := by decide +kernel
theorem dX12_findMost_125 : decode cX12_findMost 125 = .ok (.goto (-20), 3) := by decide +kernel
theorem dX12_findMost_128 : decode cX12_findMost 128 = .ok (.iload_n 3, 1) := by decide +kernel
theorem dX12_findMost_129 : decode cX12_findMost 129 = .ok (.aload_n 0, 1) := by decide +kernel
theorem dX12_findMost_130 : decode cX12_findMost 130 = .ok (.getfield 64, 3) := by decide +kernel
theorem dX12_findMost_133 : decode cX12_findMost 133 = .ok (.iload_n 2, 1) := by decide +kernel
theorem dX12_findMost_134 : decode cX12_findMost 134 = .ok (.iaload, 1) := by decide +kernel
theorem dX12_findMost_135 : decode cX12_findMost 135 = .ok (.ifCond .lt 16, 3) := by decide +kernel
theorem dX12_findMost_138 : decode cX12_findMost 138 = .ok (.iconst 1, 1) := by decide +kernel
theorem dX12_findMost_139 : decode cX12_findMost 139 = .ok (.aload_n 0, 1) := by decide +kernel
theorem dX12_findMost_140 : decode cX12_findMost 140 = .ok (.getfield 64, 3) := by decide +kernel
theorem dX12_findMost_143 : decode cX12_findMost 143 = .ok (.iload_n 2, 1) := by decide +kernel
theorem dX12_findMost_144 : decode cX12_findMost 144 = .ok (.iaload, 1) := by decide +kernel
theorem dX12_findMost_145 : decode cX12_findMost 145 = .ok (.ishl, 1) := by decide +kernel
theorem dX12_findMost_146 : decode cX12_findMost 146 = .ok (.iconst (-1), 1) := by decide +kernel
theorem dX12_findMost_147 : decode cX12_findMost 147 = .ok (.ixor, 1) := by decide +kernel
theorem dX12_findMost_148 : decode cX12_findMost 148 = .ok (.goto 4, 3) := by decide +kernel
theorem dX12_findMost_151 : decode cX12_findMost 151 = .ok (.iconst (-1), 1) := by decide +kernel
theorem dX12_findMost_152 : decode cX12_findMost 152 = .ok (.iand, 1) := by decide +kernel
theorem dX12_findMost_153 : decode cX12_findMost 153 = .ok (.istore_n 3, 1) := by decide +kernel
theorem dX12_findMost_154 : decode cX12_findMost 154 = .ok (.aload_n 0, 1) := by decide +kernel
theorem dX12_findMost_155 : decode cX12_findMost 155 = .ok (.getfield 64, 3) := by decide +kernel
theorem dX12_findMost_158 : decode cX12_findMost 158 = .ok (.iload_n 2, 1) := by decide +kernel
theorem dX12_findMost_159 : decode cX12_findMost 159 = .ok (.dup2, 1) := by decide +kernel
theorem dX12_findMost_160 : decode cX12_findMost 160 = .ok (.iaload, 1) := by decide +kernel
theorem dX12_findMost_161 : decode cX12_findMost 161 = .ok (.iconst 1, 1) := by decide +kernel
theorem dX12_findMost_162 : decode cX12_findMost 162 = .ok (.iadd, 1) := by decide +kernel
theorem dX12_findMost_163 : decode cX12_findMost 163 = .ok (.iastore, 1) := by decide +kernel
theorem dX12_findMost_164 : decode cX12_findMost 164 = .ok (.aload_n 0, 1) := by decide +kernel
theorem dX12_findMost_165 : decode cX12_findMost 165 = .ok (.getfield 64, 3) := by decide +kernel
theorem dX12_findMost_168 : decode cX12_findMost 168 = .ok (.iload_n 2, 1) := by decide +kernel
theorem dX12_findMost_169 : decode cX12_findMost 169 = .ok (.iaload, 1) := by decide +kernel
theorem dX12_findMost_170 : decode cX12_findMost 170 = .ok (.ifCond .lt 49, 3) := by decide +kernel
theorem dX12_findMost_173 : decode cX12_findMost 173 = .ok (.aload_n 0, 1) := by decide +kernel
theorem dX12_findMost_174 : decode cX12_findMost 174 = .ok (.getfield 64, 3) := by decide +kernel
theorem dX12_findMost_177 : decode cX12_findMost 177 = .ok (.iload_n 2, 1) := by decide +kernel
theorem dX12_findMost_178 : decode cX12_findMost 178 = .ok (.iaload, 1) := by decide +kernel
theorem dX12_findMost_179 : decode cX12_findMost 179 = .ok (.aload_n 0, 1) := by decide +kernel
theorem dX12_findMost_180 : decode cX12_findMost 180 = .ok (.getfield 144, 3) := by decide +kernel
theorem dX12_findMost_183 : decode cX12_findMost 183 = .ok (.if_icmp .ge 36, 3) := by decide +kernel
theorem dX12_findMost_186 : decode cX12_findMost 186 = .ok (.aload_n 0, 1) := by decide +kernel
theorem dX12_findMost_187 : decode cX12_findMost 187 = .ok (.aload_n 0, 1) := by decide +kernel
theorem dX12_findMost_188 : decode cX12_findMost 188 = .ok (.getfield 61, 3) := by decide +kernel
theorem dX12_findMost_191 : decode cX12_findMost 191 = .ok (.iload_n 2, 1) := by decide +kernel
theorem dX12_findMost_192 : decode cX12_findMost 192 = .ok (.iaload, 1) := by decide +kernel
theorem dX12_findMost_193 : decode cX12_findMost 193 = .ok (.aload_n 0, 1) := by decide +kernel
theorem dX12_findMost_194 : decode cX12_findMost 194 = .ok (.getfield 64, 3) := by decide +kernel
theorem dX12_findMost_197 : decode cX12_findMost 197 = .ok (.iload_n 2, 1) := by decide +kernel
theorem dX12_findMost_198 : decode cX12_findMost 198 = .ok (.iaload, 1) := by decide +kernel
theorem dX12_findMost_199 : decode cX12_findMost 199 = .ok (.iload_n 3, 1) := by decide +kernel
theorem dX12_findMost_200 : decode cX12_findMost 200 = .ok (.invokevirtual 263, 3) := by decide +kernel
theorem dX12_findMost_203 : decode cX12_findMost 203 = .ok (.ifCond .ne 16, 3) := by decide +kernel
theorem dX12_findMost_206 : decode cX12_findMost 206 = .ok (.aload_n 0, 1) := by decide +kernel
theorem dX12_findMost_207 : decode cX12_findMost 207 = .ok (.getfield 64, 3) := by decide +kernel
theorem dX12_findMost_210 : decode cX12_findMost 210 = .ok (.iload_n 2, 1) := by decide +kernel
theorem dX12_findMost_211 : decode cX12_findMost 211 = .ok (.dup2, 1) := by decide +kernel
theorem dX12_findMost_212 : decode cX12_findMost 212 = .ok (.iaload, 1) := by decide +kernel
theorem dX12_findMost_213 : decode cX12_findMost 213 = .ok (.iconst 1, 1) := by decide +kernel
theorem dX12_findMost_214 : decode cX12_findMost 214 = .ok (.iadd, 1) := by decide +kernel
theorem dX12_findMost_215 : decode cX12_findMost 215 = .ok (.iastore, 1) := by decide +kernel
theorem dX12_findMost_216 : decode cX12_findMost 216 = .ok (.goto (-52), 3) := by decide +kernel
theorem dX12_findMost_219 : decode cX12_findMost 219 = .ok (.aload_n 0, 1) := by decide +kernel
theorem dX12_findMost_220 : decode cX12_findMost 220 = .ok (.getfield 64, 3) := by decide +kernel
theorem dX12_findMost_223 : decode cX12_findMost 223 = .ok (.iload_n 2, 1) := by decide +kernel
theorem dX12_findMost_224 : decode cX12_findMost 224 = .ok (.iaload, 1) := by decide +kernel
theorem dX12_findMost_225 : decode cX12_findMost 225 = .ok (.aload_n 0, 1) := by decide +kernel
theorem dX12_findMost_226 : decode cX12_findMost 226 = .ok (.getfield 144, 3) := by decide +kernel
theorem dX12_findMost_229 : decode cX12_findMost 229 = .ok (.if_icmp .lt 9, 3) := by decide +kernel
theorem dX12_findMost_232 : decode cX12_findMost 232 = .ok (.iinc 2 (-1), 3) := by decide +kernel
theorem dX12_findMost_235 : decode cX12_findMost 235 = .ok (.goto (-130), 3) := by decide +kernel
theorem dX12_findMost_238 : decode cX12_findMost 238 = .ok (.iload_n 3, 1) := by decide +kernel
theorem dX12_findMost_239 : decode cX12_findMost 239 = .ok (.aload_n 0, 1) := by decide +kernel
theorem dX12_findMost_240 : decode cX12_findMost 240 = .ok (.getfield 64, 3) := by decide +kernel
theorem dX12_findMost_243 : decode cX12_findMost 243 = .ok (.iload_n 2, 1) := by decide +kernel
theorem dX12_findMost_244 : decode cX12_findMost 244 = .ok (.iaload, 1) := by decide +kernel
theorem dX12_findMost_245 : decode cX12_findMost 245 = .ok (.ifCond .lt 14, 3) := by decide +kernel
theorem dX12_findMost_248 : decode cX12_findMost 248 = .ok (.iconst 1, 1) := by decide +kernel
theorem dX12_findMost_249 : decode cX12_findMost 249 = .ok (.aload_n 0, 1) := by decide +kernel
theorem dX12_findMost_250 : decode cX12_findMost 250 = .ok (.getfield 64, 3) := by decide +kernel
theorem dX12_findMost_253 : decode cX12_findMost 253 = .ok (.iload_n 2, 1) := by decide +kernel
theorem dX12_findMost_254 : decode cX12_findMost 254 = .ok (.iaload, 1) := by decide +kernel
theorem dX12_findMost_255 : decode cX12_findMost 255 = .ok (.ishl, 1) := by decide +kernel
theorem dX12_findMost_256 : decode cX12_findMost 256 = .ok (.goto 4, 3) := by decide +kernel
theorem dX12_findMost_259 : decode cX12_findMost 259 = .ok (.iconst 0, 1) := by decide +kernel
theorem dX12_findMost_260 : decode cX12_findMost 260 = .ok (.ior, 1) := by decide +kernel
theorem dX12_findMost_261 : decode cX12_findMost 261 = .ok (.istore_n 3, 1) := by decide +kernel
theorem dX12_findMost_262 : decode cX12_findMost 262 = .ok (.iinc 2 1, 3) := by decide +kernel
theorem dX12_findMost_265 : decode cX12_findMost 265 = .ok (.aload_n 0, 1) := by decide +kernel
theorem dX12_findMost_266 : decode cX12_findMost 266 = .ok (.getfield 64, 3) := by decide +kernel
theorem dX12_findMost_269 : decode cX12_findMost 269 = .ok (.iload_n 2, 1) := by decide +kernel
theorem dX12_findMost_270 : decode cX12_findMost 270 = .ok (.bipush (-2), 2) := by decide +kernel
theorem dX12_findMost_272 : decode cX12_findMost 272 = .ok (.iastore, 1) := by decide +kernel
theorem dX12_findMost_273 : decode cX12_findMost 273 = .ok (.goto (-168), 3) := by decide +kernel
theorem dX12_findMost_276 : decode cX12_findMost 276 = .ok (.iconst 1, 1) := by decide +kernel
theorem dX12_findMost_277 : decode cX12_findMost 277 = .ok (.istore 4, 2) := by decide +kernel
theorem dX12_findMost_279 : decode cX12_findMost 279 = .ok (.iload 4, 2) := by decide +kernel
theorem dX12_findMost_281 : decode cX12_findMost 281 = .ok (.bipush 13, 2) := by decide +kernel
theorem dX12_findMost_283 : decode cX12_findMost 283 = .ok (.if_icmp .ge 54, 3) := by decide +kernel
theorem dX12_findMost_286 : decode cX12_findMost 286 = .ok (.aload_n 0, 1) := by decide +kernel
theorem dX12_findMost_287 : decode cX12_findMost 287 = .ok (.getfield 67, 3) := by decide +kernel
theorem dX12_findMost_290 : decode cX12_findMost 290 = .ok (.iload 4, 2) := by decide +kernel
theorem dX12_findMost_292 : decode cX12_findMost 292 = .ok (.aload_n 0, 1) := by decide +kernel
theorem dX12_findMost_293 : decode cX12_findMost 293 = .ok (.getfield 67, 3) := by decide +kernel
theorem dX12_findMost_296 : decode cX12_findMost 296 = .ok (.iload 4, 2) := by decide +kernel
theorem dX12_findMost_298 : decode cX12_findMost 298 = .ok (.iconst 1, 1) := by decide +kernel
theorem dX12_findMost_299 : decode cX12_findMost 299 = .ok (.isub, 1) := by decide +kernel
theorem dX12_findMost_300 : decode cX12_findMost 300 = .ok (.iaload, 1) := by decide +kernel
theorem dX12_findMost_301 : decode cX12_findMost 301 = .ok (.aload_n 0, 1) := by decide +kernel
theorem dX12_findMost_302 : decode cX12_findMost 302 = .ok (.getfield 67, 3) := by decide +kernel
theorem dX12_findMost_305 : decode cX12_findMost 305 = .ok (.iload 4, 2) := by decide +kernel
theorem dX12_findMost_307 : decode cX12_findMost 307 = .ok (.iaload, 1) := by decide +kernel
theorem dX12_findMost_308 : decode cX12_findMost 308 = .ok (.if_icmp .le 15, 3) := by decide +kernel
theorem dX12_findMost_311 : decode cX12_findMost 311 = .ok (.aload_n 0, 1) := by decide +kernel
theorem dX12_findMost_312 : decode cX12_findMost 312 = .ok (.getfield 67, 3) := by decide +kernel
theorem dX12_findMost_315 : decode cX12_findMost 315 = .ok (.iload 4, 2) := by decide +kernel
theorem dX12_findMost_317 : decode cX12_findMost 317 = .ok (.iconst 1, 1) := by decide +kernel
theorem dX12_findMost_318 : decode cX12_findMost 318 = .ok (.isub, 1) := by decide +kernel
theorem dX12_findMost_319 : decode cX12_findMost 319 = .ok (.iaload, 1) := by decide +kernel
theorem dX12_findMost_320 : decode cX12_findMost 320 = .ok (.goto 10, 3) := by decide +kernel
theorem dX12_findMost_323 : decode cX12_findMost 323 = .ok (.aload_n 0, 1) := by decide +kernel
theorem dX12_findMost_324 : decode cX12_findMost 324 = .ok (.getfield 67, 3) := by decide +kernel
theorem dX12_findMost_327 : decode cX12_findMost 327 = .ok (.iload 4, 2) := by decide +kernel
theorem dX12_findMost_329 : decode cX12_findMost 329 = .ok (.iaload, 1) := by decide +kernel
theorem dX12_findMost_330 : decode cX12_findMost 330 = .ok (.iastore, 1) := by decide +kernel
theorem dX12_findMost_331 : decode cX12_findMost 331 = .ok (.iinc 4 1, 3) := by decide +kernel
theorem dX12_findMost_334 : decode cX12_findMost 334 = .ok (.goto (-55), 3) := by decide +kernel
theorem dX12_findMost_337 : decode cX12_findMost 337 = .ok (.return_, 1) := by decide +kernel
theorem dX12_isUseful_0 : decode cX12_isUseful 0 = .ok (.iload_n 3, 1) := by decide +kernel
theorem dX12_isUseful_1 : decode cX12_isUseful 1 = .ok (.iload_n 2, 1) := by decide +kernel
theorem dX12_isUseful_2 : decode cX12_isUseful 2 = .ok (.ishr, 1) := by decide +kernel
theorem dX12_isUseful_3 : decode cX12_isUseful 3 = .ok (.iconst 1, 1) := by decide +kernel
theorem dX12_isUseful_4 : decode cX12_isUseful 4 = .ok (.iand, 1) := by decide +kernel
theorem dX12_isUseful_5 : decode cX12_isUseful 5 = .ok (.ifCond .ne 25, 3) := by decide +kernel
theorem dX12_isUseful_8 : decode cX12_isUseful 8 = .ok (.aload_n 0, 1) := by decide +kernel
theorem dX12_isUseful_9 : decode cX12_isUseful 9 = .ok (.iload_n 1, 1) := by decide +kernel
theorem dX12_isUseful_10 : decode cX12_isUseful 10 = .ok (.iload_n 2, 1) := by decide +kernel
theorem dX12_isUseful_11 : decode cX12_isUseful 11 = .ok (.invokevirtual 215, 3) := by decide +kernel
theorem dX12_isUseful_14 : decode cX12_isUseful 14 = .ok (.ifCond .eq 16, 3) := by decide +kernel
theorem dX12_isUseful_17 : decode cX12_isUseful 17 = .ok (.aload_n 0, 1) := by decide +kernel
theorem dX12_isUseful_18 : decode cX12_isUseful 18 = .ok (.iload_n 1, 1) := by decide +kernel
theorem dX12_isUseful_19 : decode cX12_isUseful 19 = .ok (.iload_n 2, 1) := by decide +kernel
theorem dX12_isUseful_20 : decode cX12_isUseful 20 = .ok (.invokevirtual 267, 3) := by decide +kernel
theorem dX12_isUseful_23 : decode cX12_isUseful 23 = .ok (.ifCond .le 7, 3) := by decide +kernel
theorem dX12_isUseful_26 : decode cX12_isUseful 26 = .ok (.iconst 1, 1) := by decide +kernel
theorem dX12_isUseful_27 : decode cX12_isUseful 27 = .ok (.goto 4, 3) := by decide +kernel
theorem dX12_isUseful_30 : decode cX12_isUseful 30 = .ok (.iconst 0, 1) := by decide +kernel
theorem dX12_isUseful_31 : decode cX12_isUseful 31 = .ok (.ireturn, 1) := by decide +kernel
theorem dX12_keepsMost_0 : decode cX12_keepsMost 0 = .ok (.iconst 0, 1) := by decide +kernel
theorem dX12_keepsMost_1 : decode cX12_keepsMost 1 = .ok (.istore_n 2, 1) := by decide +kernel
theorem dX12_keepsMost_2 : decode cX12_keepsMost 2 = .ok (.iconst 0, 1) := by decide +kernel
theorem dX12_keepsMost_3 : decode cX12_keepsMost 3 = .ok (.istore_n 3, 1) := by decide +kernel
theorem dX12_keepsMost_4 : decode cX12_keepsMost 4 = .ok (.iconst 0, 1) := by decide +kernel
theorem dX12_keepsMost_5 : decode cX12_keepsMost 5 = .ok (.istore 4, 2) := by decide +kernel
theorem dX12_keepsMost_7 : decode cX12_keepsMost 7 = .ok (.iconst 0, 1) := by decide +kernel
theorem dX12_keepsMost_8 : decode cX12_keepsMost 8 = .ok (.istore 5, 2) := by decide +kernel
theorem dX12_keepsMost_10 : decode cX12_keepsMost 10 = .ok (.iload 5, 2) := by decide +kernel
theorem dX12_keepsMost_12 : decode cX12_keepsMost 12 = .ok (.aload_n 0, 1) := by decide +kernel
theorem dX12_keepsMost_13 : decode cX12_keepsMost 13 = .ok (.getfield 257, 3) := by decide +kernel
theorem dX12_keepsMost_16 : decode cX12_keepsMost 16 = .ok (.if_icmp .ge 109, 3) := by decide +kernel
theorem dX12_keepsMost_19 : decode cX12_keepsMost 19 = .ok (.aload_n 0, 1) := by decide +kernel
theorem dX12_keepsMost_20 : decode cX12_keepsMost 20 = .ok (.getfield 64, 3) := by decide +kernel
theorem dX12_keepsMost_23 : decode cX12_keepsMost 23 = .ok (.iload 5, 2) := by decide +kernel
theorem dX12_keepsMost_25 : decode cX12_keepsMost 25 = .ok (.iaload, 1) := by decide +kernel
theorem dX12_keepsMost_26 : decode cX12_keepsMost 26 = .ok (.ifCond .lt 93, 3) := by decide +kernel
theorem dX12_keepsMost_29 : decode cX12_keepsMost 29 = .ok (.aload_n 0, 1) := by decide +kernel
theorem dX12_keepsMost_30 : decode cX12_keepsMost 30 = .ok (.getfield 31, 3) := by decide +kernel
theorem dX12_keepsMost_33 : decode cX12_keepsMost 33 = .ok (.iconst 4, 1) := by decide +kernel
theorem dX12_keepsMost_34 : decode cX12_keepsMost 34 = .ok (.aload_n 0, 1) := by decide +kernel
theorem dX12_keepsMost_35 : decode cX12_keepsMost 35 = .ok (.getfield 64, 3) := by decide +kernel
theorem dX12_keepsMost_38 : decode cX12_keepsMost 38 = .ok (.iload 5, 2) := by decide +kernel
theorem dX12_keepsMost_40 : decode cX12_keepsMost 40 = .ok (.iaload, 1) := by decide +kernel
theorem dX12_keepsMost_41 : decode cX12_keepsMost 41 = .ok (.imul, 1) := by decide +kernel
theorem dX12_keepsMost_42 : decode cX12_keepsMost 42 = .ok (.iconst 1, 1) := by decide +kernel
theorem dX12_keepsMost_43 : decode cX12_keepsMost 43 = .ok (.iadd, 1) := by decide +kernel
theorem dX12_keepsMost_44 : decode cX12_keepsMost 44 = .ok (.iaload, 1) := by decide +kernel
theorem dX12_keepsMost_45 : decode cX12_keepsMost 45 = .ok (.iload_n 1, 1) := by decide +kernel
theorem dX12_keepsMost_46 : decode cX12_keepsMost 46 = .ok (.if_icmp .ge 7, 3) := by decide +kernel
theorem dX12_keepsMost_49 : decode cX12_keepsMost 49 = .ok (.iconst 1, 1) := by decide +kernel
theorem dX12_keepsMost_50 : decode cX12_keepsMost 50 = .ok (.goto 4, 3) := by decide +kernel
theorem dX12_keepsMost_53 : decode cX12_keepsMost 53 = .ok (.iconst 0, 1) := by decide +kernel
theorem dX12_keepsMost_54 : decode cX12_keepsMost 54 = .ok (.istore 6, 2) := by decide +kernel
theorem dX12_keepsMost_56 : decode cX12_keepsMost 56 = .ok (.iload_n 2, 1) := by decide +kernel
theorem dX12_keepsMost_57 : decode cX12_keepsMost 57 = .ok (.iload 6, 2) := by decide +kernel
theorem dX12_keepsMost_59 : decode cX12_keepsMost 59 = .ok (.ifCond .eq 24, 3) := by decide +kernel
theorem dX12_keepsMost_62 : decode cX12_keepsMost 62 = .ok (.aload_n 0, 1) := by decide +kernel
theorem dX12_keepsMost_63 : decode cX12_keepsMost 63 = .ok (.aload_n 0, 1) := by decide +kernel
theorem dX12_keepsMost_64 : decode cX12_keepsMost 64 = .ok (.getfield 61, 3) := by decide +kernel
theorem dX12_keepsMost_67 : decode cX12_keepsMost 67 = .ok (.iload 5, 2) := by decide +kernel
theorem dX12_keepsMost_69 : decode cX12_keepsMost 69 = .ok (.iaload, 1) := by decide +kernel
theorem dX12_keepsMost_70 : decode cX12_keepsMost 70 = .ok (.aload_n 0, 1) := by decide +kernel
theorem dX12_keepsMost_71 : decode cX12_keepsMost 71 = .ok (.getfield 64, 3) := by decide +kernel
theorem dX12_keepsMost_74 : decode cX12_keepsMost 74 = .ok (.iload 5, 2) := by decide +kernel
theorem dX12_keepsMost_76 : decode cX12_keepsMost 76 = .ok (.iaload, 1) := by decide +kernel
theorem dX12_keepsMost_77 : decode cX12_keepsMost 77 = .ok (.invokevirtual 267, 3) := by decide +kernel
theorem dX12_keepsMost_80 : decode cX12_keepsMost 80 = .ok (.goto 4, 3) := by decide +kernel
theorem dX12_keepsMost_83 : decode cX12_keepsMost 83 = .ok (.iconst 0, 1) := by decide +kernel
theorem dX12_keepsMost_84 : decode cX12_keepsMost 84 = .ok (.iadd, 1) := by decide +kernel
theorem dX12_keepsMost_85 : decode cX12_keepsMost 85 = .ok (.istore_n 2, 1) := by decide +kernel
theorem dX12_keepsMost_86 : decode cX12_keepsMost 86 = .ok (.iload_n 3, 1) := by decide +kernel
theorem dX12_keepsMost_87 : decode cX12_keepsMost 87 = .ok (.iload 6, 2) := by decide +kernel
theorem dX12_keepsMost_89 : decode cX12_keepsMost 89 = .ok (.ifCond .eq 7, 3) := by decide +kernel
theorem dX12_keepsMost_92 : decode cX12_keepsMost 92 = .ok (.iconst 0, 1) := by decide +kernel
theorem dX12_keepsMost_93 : decode cX12_keepsMost 93 = .ok (.goto 21, 3) := by decide +kernel
theorem dX12_keepsMost_96 : decode cX12_keepsMost 96 = .ok (.aload_n 0, 1) := by decide +kernel
theorem dX12_keepsMost_97 : decode cX12_keepsMost 97 = .ok (.aload_n 0, 1) := by decide +kernel
theorem dX12_keepsMost_98 : decode cX12_keepsMost 98 = .ok (.getfield 61, 3) := by decide +kernel
theorem dX12_keepsMost_101 : decode cX12_keepsMost 101 = .ok (.iload 5, 2) := by decide +kernel
theorem dX12_keepsMost_103 : decode cX12_keepsMost 103 = .ok (.iaload, 1) := by decide +kernel
theorem dX12_keepsMost_104 : decode cX12_keepsMost 104 = .ok (.aload_n 0, 1) := by decide +kernel
theorem dX12_keepsMost_105 : decode cX12_keepsMost 105 = .ok (.getfield 64, 3) := by decide +kernel
theorem dX12_keepsMost_108 : decode cX12_keepsMost 108 = .ok (.iload 5, 2) := by decide +kernel
theorem dX12_keepsMost_110 : decode cX12_keepsMost 110 = .ok (.iaload, 1) := by decide +kernel
theorem dX12_keepsMost_111 : decode cX12_keepsMost 111 = .ok (.invokevirtual 267, 3) := by decide +kernel
theorem dX12_keepsMost_114 : decode cX12_keepsMost 114 = .ok (.iadd, 1) := by decide +kernel
theorem dX12_keepsMost_115 : decode cX12_keepsMost 115 = .ok (.istore_n 3, 1) := by decide +kernel
theorem dX12_keepsMost_116 : decode cX12_keepsMost 116 = .ok (.iinc 4 1, 3) := by decide +kernel
theorem dX12_keepsMost_119 : decode cX12_keepsMost 119 = .ok (.iinc 5 1, 3) := by decide +kernel
theorem dX12_keepsMost_122 : decode cX12_keepsMost 122 = .ok (.goto (-112), 3) := by decide +kernel
theorem dX12_keepsMost_125 : decode cX12_keepsMost 125 = .ok (.aload_n 0, 1) := by decide +kernel
theorem dX12_keepsMost_126 : decode cX12_keepsMost 126 = .ok (.getfield 40, 3) := by decide +kernel
theorem dX12_keepsMost_129 : decode cX12_keepsMost 129 = .ok (.iload_n 1, 1) := by decide +kernel
theorem dX12_keepsMost_130 : decode cX12_keepsMost 130 = .ok (.iaload, 1) := by decide +kernel
theorem dX12_keepsMost_131 : decode cX12_keepsMost 131 = .ok (.istore 5, 2) := by decide +kernel
theorem dX12_keepsMost_133 : decode cX12_keepsMost 133 = .ok (.iload 5, 2) := by decide +kernel
theorem dX12_keepsMost_135 : decode cX12_keepsMost 135 = .ok (.iload_n 2, 1) := by decide +kernel
theorem dX12_keepsMost_136 : decode cX12_keepsMost 136 = .ok (.ifCond .ne 7, 3) := by decide +kernel
theorem dX12_keepsMost_139 : decode cX12_keepsMost 139 = .ok (.iconst 0, 1) := by decide +kernel
theorem dX12_keepsMost_140 : decode cX12_keepsMost 140 = .ok (.goto 27, 3) := by decide +kernel
theorem dX12_keepsMost_143 : decode cX12_keepsMost 143 = .ok (.iload_n 2, 1) := by decide +kernel
theorem dX12_keepsMost_144 : decode cX12_keepsMost 144 = .ok (.aload_n 0, 1) := by decide +kernel
theorem dX12_keepsMost_145 : decode cX12_keepsMost 145 = .ok (.getfield 40, 3) := by decide +kernel
theorem dX12_keepsMost_148 : decode cX12_keepsMost 148 = .ok (.iload_n 1, 1) := by decide +kernel
theorem dX12_keepsMost_149 : decode cX12_keepsMost 149 = .ok (.iconst 1, 1) := by decide +kernel
theorem dX12_keepsMost_150 : decode cX12_keepsMost 150 = .ok (.isub, 1) := by decide +kernel
theorem dX12_keepsMost_151 : decode cX12_keepsMost 151 = .ok (.iaload, 1) := by decide +kernel
theorem dX12_keepsMost_152 : decode cX12_keepsMost 152 = .ok (.if_icmp .ge 7, 3) := by decide +kernel
theorem dX12_keepsMost_155 : decode cX12_keepsMost 155 = .ok (.iload_n 2, 1) := by decide +kernel
theorem dX12_keepsMost_156 : decode cX12_keepsMost 156 = .ok (.goto 11, 3) := by decide +kernel
theorem dX12_keepsMost_159 : decode cX12_keepsMost 159 = .ok (.aload_n 0, 1) := by decide +kernel
theorem dX12_keepsMost_160 : decode cX12_keepsMost 160 = .ok (.getfield 40, 3) := by decide +kernel
theorem dX12_keepsMost_163 : decode cX12_keepsMost 163 = .ok (.iload_n 1, 1) := by decide +kernel
theorem dX12_keepsMost_164 : decode cX12_keepsMost 164 = .ok (.iconst 1, 1) := by decide +kernel
theorem dX12_keepsMost_165 : decode cX12_keepsMost 165 = .ok (.isub, 1) := by decide +kernel
theorem dX12_keepsMost_166 : decode cX12_keepsMost 166 = .ok (.iaload, 1) := by decide +kernel
theorem dX12_keepsMost_167 : decode cX12_keepsMost 167 = .ok (.iadd, 1) := by decide +kernel
theorem dX12_keepsMost_168 : decode cX12_keepsMost 168 = .ok (.istore 5, 2) := by decide +kernel
theorem dX12_keepsMost_170 : decode cX12_keepsMost 170 = .ok (.iload 5, 2) := by decide +kernel
theorem dX12_keepsMost_172 : decode cX12_keepsMost 172 = .ok (.iload_n 3, 1) := by decide +kernel
theorem dX12_keepsMost_173 : decode cX12_keepsMost 173 = .ok (.ifCond .ne 7, 3) := by decide +kernel
theorem dX12_keepsMost_176 : decode cX12_keepsMost 176 = .ok (.iconst 0, 1) := by decide +kernel
theorem dX12_keepsMost_177 : decode cX12_keepsMost 177 = .ok (.goto 27, 3) := by decide +kernel
theorem dX12_keepsMost_180 : decode cX12_keepsMost 180 = .ok (.iload_n 3, 1) := by decide +kernel
theorem dX12_keepsMost_181 : decode cX12_keepsMost 181 = .ok (.aload_n 0, 1) := by decide +kernel
theorem dX12_keepsMost_182 : decode cX12_keepsMost 182 = .ok (.getfield 40, 3) := by decide +kernel
theorem dX12_keepsMost_185 : decode cX12_keepsMost 185 = .ok (.iload_n 1, 1) := by decide +kernel
theorem dX12_keepsMost_186 : decode cX12_keepsMost 186 = .ok (.iconst 1, 1) := by decide +kernel
theorem dX12_keepsMost_187 : decode cX12_keepsMost 187 = .ok (.iadd, 1) := by decide +kernel
theorem dX12_keepsMost_188 : decode cX12_keepsMost 188 = .ok (.iaload, 1) := by decide +kernel
theorem dX12_keepsMost_189 : decode cX12_keepsMost 189 = .ok (.if_icmp .ge 7, 3) := by decide +kernel
theorem dX12_keepsMost_192 : decode cX12_keepsMost 192 = .ok (.iload_n 3, 1) := by decide +kernel
theorem dX12_keepsMost_193 : decode cX12_keepsMost 193 = .ok (.goto 11, 3) := by decide +kernel
theorem dX12_keepsMost_196 : decode cX12_keepsMost 196 = .ok (.aload_n 0, 1) := by decide +kernel
theorem dX12_keepsMost_197 : decode cX12_keepsMost 197 = .ok (.getfield 40, 3) := by decide +kernel
theorem dX12_keepsMost_200 : decode cX12_keepsMost 200 = .ok (.iload_n 1, 1) := by decide +kernel
theorem dX12_keepsMost_201 : decode cX12_keepsMost 201 = .ok (.iconst 1, 1) := by decide +kernel
theorem dX12_keepsMost_202 : decode cX12_keepsMost 202 = .ok (.iadd, 1) := by decide +kernel
theorem dX12_keepsMost_203 : decode cX12_keepsMost 203 = .ok (.iaload, 1) := by decide +kernel
theorem dX12_keepsMost_204 : decode cX12_keepsMost 204 = .ok (.iadd, 1) := by decide +kernel
theorem dX12_keepsMost_205 : decode cX12_keepsMost 205 = .ok (.istore 5, 2) := by decide +kernel
theorem dX12_keepsMost_207 : decode cX12_keepsMost 207 = .ok (.aload_n 0, 1) := by decide +kernel
theorem dX12_keepsMost_208 : decode cX12_keepsMost 208 = .ok (.getfield 67, 3) := by decide +kernel
theorem dX12_keepsMost_211 : decode cX12_keepsMost 211 = .ok (.iload 4, 2) := by decide +kernel
theorem dX12_keepsMost_213 : decode cX12_keepsMost 213 = .ok (.iload 5, 2) := by decide +kernel
theorem dX12_keepsMost_215 : decode cX12_keepsMost 215 = .ok (.aload_n 0, 1) := by decide +kernel
theorem dX12_keepsMost_216 : decode cX12_keepsMost 216 = .ok (.getfield 67, 3) := by decide +kernel
theorem dX12_keepsMost_219 : decode cX12_keepsMost 219 = .ok (.iload 4, 2) := by decide +kernel
theorem dX12_keepsMost_221 : decode cX12_keepsMost 221 = .ok (.iaload, 1) := by decide +kernel
theorem dX12_keepsMost_222 : decode cX12_keepsMost 222 = .ok (.if_icmp .le 8, 3) := by decide +kernel
theorem dX12_keepsMost_225 : decode cX12_keepsMost 225 = .ok (.iload 5, 2) := by decide +kernel
theorem dX12_keepsMost_227 : decode cX12_keepsMost 227 = .ok (.goto 10, 3) := by decide +kernel
theorem dX12_keepsMost_230 : decode cX12_keepsMost 230 = .ok (.aload_n 0, 1) := by decide +kernel
theorem dX12_keepsMost_231 : decode cX12_keepsMost 231 = .ok (.getfield 67, 3) := by decide +kernel
theorem dX12_keepsMost_234 : decode cX12_keepsMost 234 = .ok (.iload 4, 2) := by decide +kernel
theorem dX12_keepsMost_236 : decode cX12_keepsMost 236 = .ok (.iaload, 1) := by decide +kernel
theorem dX12_keepsMost_237 : decode cX12_keepsMost 237 = .ok (.iastore, 1) := by decide +kernel
theorem dX12_keepsMost_238 : decode cX12_keepsMost 238 = .ok (.return_, 1) := by decide +kernel
theorem dX12_reachOf_0 : decode cX12_reachOf 0 = .ok (.aload_n 0, 1) := by decide +kernel
theorem dX12_reachOf_1 : decode cX12_reachOf 1 = .ok (.iload_n 1, 1) := by decide +kernel
theorem dX12_reachOf_2 : decode cX12_reachOf 2 = .ok (.invokevirtual 270, 3) := by decide +kernel
theorem dX12_reachOf_5 : decode cX12_reachOf 5 = .ok (.iconst 0, 1) := by decide +kernel
theorem dX12_reachOf_6 : decode cX12_reachOf 6 = .ok (.istore_n 3, 1) := by decide +kernel
theorem dX12_reachOf_7 : decode cX12_reachOf 7 = .ok (.iload_n 3, 1) := by decide +kernel
theorem dX12_reachOf_8 : decode cX12_reachOf 8 = .ok (.bipush 13, 2) := by decide +kernel
theorem dX12_reachOf_10 : decode cX12_reachOf 10 = .ok (.if_icmp .ge 21, 3) := by decide +kernel
theorem dX12_reachOf_13 : decode cX12_reachOf 13 = .ok (.aload_n 0, 1) := by decide +kernel
theorem dX12_reachOf_14 : decode cX12_reachOf 14 = .ok (.getfield 67, 3) := by decide +kernel
theorem dX12_reachOf_17 : decode cX12_reachOf 17 = .ok (.iload_n 3, 1) := by decide +kernel
theorem dX12_reachOf_18 : decode cX12_reachOf 18 = .ok (.iaload, 1) := by decide +kernel
theorem dX12_reachOf_19 : decode cX12_reachOf 19 = .ok (.iload_n 2, 1) := by decide +kernel
theorem dX12_reachOf_20 : decode cX12_reachOf 20 = .ok (.if_icmp .lt 5, 3) := by decide +kernel
theorem dX12_reachOf_23 : decode cX12_reachOf 23 = .ok (.iload_n 3, 1) := by decide +kernel
theorem dX12_reachOf_24 : decode cX12_reachOf 24 = .ok (.ireturn, 1) := by decide +kernel
theorem dX12_reachOf_25 : decode cX12_reachOf 25 = .ok (.iinc 3 1, 3) := by decide +kernel
theorem dX12_reachOf_28 : decode cX12_reachOf 28 = .ok (.goto (-21), 3) := by decide +kernel
theorem dX12_reachOf_31 : decode cX12_reachOf 31 = .ok (.iconst (-1), 1) := by decide +kernel
theorem dX12_reachOf_32 : decode cX12_reachOf 32 = .ok (.ireturn, 1) := by decide +kernel
theorem dX12_reach_0 : decode cX12_reach 0 = .ok (.aload_n 0, 1) := by decide +kernel
theorem dX12_reach_1 : decode cX12_reach 1 = .ok (.iload_n 1, 1) := by decide +kernel
theorem dX12_reach_2 : decode cX12_reach 2 = .ok (.invokevirtual 245, 3) := by decide +kernel
theorem dX12_reach_5 : decode cX12_reach 5 = .ok (.ifCond .eq 24, 3) := by decide +kernel
theorem dX12_reach_8 : decode cX12_reach 8 = .ok (.iload_n 2, 1) := by decide +kernel
theorem dX12_reach_9 : decode cX12_reach 9 = .ok (.i2l, 1) := by decide +kernel
theorem dX12_reach_10 : decode cX12_reach 10 = .ok (.lconst 0, 1) := by decide +kernel
theorem dX12_reach_11 : decode cX12_reach 11 = .ok (.ldc2_w 273, 3) := by decide +kernel
theorem dX12_reach_14 : decode cX12_reach 14 = .ok (.invokestatic 95, 3) := by decide +kernel
theorem dX12_reach_17 : decode cX12_reach 17 = .ok (.ifCond .eq 12, 3) := by decide +kernel
theorem dX12_reach_20 : decode cX12_reach 20 = .ok (.aload_n 0, 1) := by decide +kernel
theorem dX12_reach_21 : decode cX12_reach 21 = .ok (.iload_n 1, 1) := by decide +kernel
theorem dX12_reach_22 : decode cX12_reach 22 = .ok (.iload_n 2, 1) := by decide +kernel
theorem dX12_reach_23 : decode cX12_reach 23 = .ok (.invokevirtual 275, 3) := by decide +kernel
theorem dX12_reach_26 : decode cX12_reach 26 = .ok (.goto 5, 3) := by decide +kernel
theorem dX12_reach_29 : decode cX12_reach 29 = .ok (.bipush (-2), 2) := by decide +kernel
theorem dX12_reach_31 : decode cX12_reach 31 = .ok (.ireturn, 1) := by decide +kernel
theorem dX12_growsOf_0 : decode cX12_growsOf 0 = .ok (.aload_n 0, 1) := by decide +kernel
theorem dX12_growsOf_1 : decode cX12_growsOf 1 = .ok (.iload_n 1, 1) := by decide +kernel
theorem dX12_growsOf_2 : decode cX12_growsOf 2 = .ok (.invokevirtual 270, 3) := by decide +kernel
theorem dX12_growsOf_5 : decode cX12_growsOf 5 = .ok (.aload_n 0, 1) := by decide +kernel
theorem dX12_growsOf_6 : decode cX12_growsOf 6 = .ok (.getfield 67, 3) := by decide +kernel
theorem dX12_growsOf_9 : decode cX12_growsOf 9 = .ok (.iload_n 2, 1) := by decide +kernel
theorem dX12_growsOf_10 : decode cX12_growsOf 10 = .ok (.iaload, 1) := by decide +kernel
theorem dX12_growsOf_11 : decode cX12_growsOf 11 = .ok (.ireturn, 1) := by decide +kernel
theorem dX12_grows_0 : decode cX12_grows 0 = .ok (.aload_n 0, 1) := by decide +kernel
theorem dX12_grows_1 : decode cX12_grows 1 = .ok (.iload_n 1, 1) := by decide +kernel
theorem dX12_grows_2 : decode cX12_grows 2 = .ok (.invokevirtual 245, 3) := by decide +kernel
theorem dX12_grows_5 : decode cX12_grows 5 = .ok (.ifCond .eq 24, 3) := by decide +kernel
theorem dX12_grows_8 : decode cX12_grows 8 = .ok (.iload_n 2, 1) := by decide +kernel
theorem dX12_grows_9 : decode cX12_grows 9 = .ok (.i2l, 1) := by decide +kernel
theorem dX12_grows_10 : decode cX12_grows 10 = .ok (.lconst 0, 1) := by decide +kernel
theorem dX12_grows_11 : decode cX12_grows 11 = .ok (.ldc2_w 278, 3) := by decide +kernel
theorem dX12_grows_14 : decode cX12_grows 14 = .ok (.invokestatic 95, 3) := by decide +kernel
theorem dX12_grows_17 : decode cX12_grows 17 = .ok (.ifCond .eq 12, 3) := by decide +kernel
theorem dX12_grows_20 : decode cX12_grows 20 = .ok (.aload_n 0, 1) := by decide +kernel
theorem dX12_grows_21 : decode cX12_grows 21 = .ok (.iload_n 1, 1) := by decide +kernel
theorem dX12_grows_22 : decode cX12_grows 22 = .ok (.iload_n 2, 1) := by decide +kernel
theorem dX12_grows_23 : decode cX12_grows 23 = .ok (.invokevirtual 280, 3) := by decide +kernel
theorem dX12_grows_26 : decode cX12_grows 26 = .ok (.goto 5, 3) := by decide +kernel
theorem dX12_grows_29 : decode cX12_grows 29 = .ok (.bipush (-2), 2) := by decide +kernel
theorem dX12_grows_31 : decode cX12_grows 31 = .ok (.ireturn, 1) := by decide +kernel
theorem dX12_wouldLeave_0 : decode cX12_wouldLeave 0 = .ok (.aload_n 0, 1) := by decide +kernel
theorem dX12_wouldLeave_1 : decode cX12_wouldLeave 1 = .ok (.getfield 31, 3) := by decide +kernel
theorem dX12_wouldLeave_4 : decode cX12_wouldLeave 4 = .ok (.iconst 4, 1) := by decide +kernel
theorem dX12_wouldLeave_5 : decode cX12_wouldLeave 5 = .ok (.iload_n 1, 1) := by decide +kernel
theorem dX12_wouldLeave_6 : decode cX12_wouldLeave 6 = .ok (.imul, 1) := by decide +kernel
theorem dX12_wouldLeave_7 : decode cX12_wouldLeave 7 = .ok (.iaload, 1) := by decide +kernel
theorem dX12_wouldLeave_8 : decode cX12_wouldLeave 8 = .ok (.ifCond .ne 45, 3) := by decide +kernel
theorem dX12_wouldLeave_11 : decode cX12_wouldLeave 11 = .ok (.aload_n 0, 1) := by decide +kernel
theorem dX12_wouldLeave_12 : decode cX12_wouldLeave 12 = .ok (.getfield 31, 3) := by decide +kernel
theorem dX12_wouldLeave_15 : decode cX12_wouldLeave 15 = .ok (.iconst 4, 1) := by decide +kernel
theorem dX12_wouldLeave_16 : decode cX12_wouldLeave 16 = .ok (.iload_n 2, 1) := by decide +kernel
theorem dX12_wouldLeave_17 : decode cX12_wouldLeave 17 = .ok (.imul, 1) := by decide +kernel
theorem dX12_wouldLeave_18 : decode cX12_wouldLeave 18 = .ok (.iaload, 1) := by decide +kernel
theorem dX12_wouldLeave_19 : decode cX12_wouldLeave 19 = .ok (.iconst 1, 1) := by decide +kernel
theorem dX12_wouldLeave_20 : decode cX12_wouldLeave 20 = .ok (.if_icmp .ne 33, 3) := by decide +kernel
theorem dX12_wouldLeave_23 : decode cX12_wouldLeave 23 = .ok (.aload_n 0, 1) := by decide +kernel
theorem dX12_wouldLeave_24 : decode cX12_wouldLeave 24 = .ok (.getfield 43, 3) := by decide +kernel
theorem dX12_wouldLeave_27 : decode cX12_wouldLeave 27 = .ok (.iload_n 1, 1) := by decide +kernel
theorem dX12_wouldLeave_28 : decode cX12_wouldLeave 28 = .ok (.iaload, 1) := by decide +kernel
theorem dX12_wouldLeave_29 : decode cX12_wouldLeave 29 = .ok (.iconst (-1), 1) := by decide +kernel
theorem dX12_wouldLeave_30 : decode cX12_wouldLeave 30 = .ok (.if_icmp .eq 23, 3) := by decide +kernel
theorem dX12_wouldLeave_33 : decode cX12_wouldLeave 33 = .ok (.aload_n 0, 1) := by decide +kernel
theorem dX12_wouldLeave_34 : decode cX12_wouldLeave 34 = .ok (.getfield 43, 3) := by decide +kernel
theorem dX12_wouldLeave_37 : decode cX12_wouldLeave 37 = .ok (.iload_n 2, 1) := by decide +kernel
theorem dX12_wouldLeave_38 : decode cX12_wouldLeave 38 = .ok (.iaload, 1) := by decide +kernel
theorem dX12_wouldLeave_39 : decode cX12_wouldLeave 39 = .ok (.iconst (-1), 1) := by decide +kernel
theorem dX12_wouldLeave_40 : decode cX12_wouldLeave 40 = .ok (.if_icmp .eq 13, 3) := by decide +kernel
theorem dX12_wouldLeave_43 : decode cX12_wouldLeave 43 = .ok (.aload_n 0, 1) := by decide +kernel
theorem dX12_wouldLeave_44 : decode cX12_wouldLeave 44 = .ok (.getfield 43, 3) := by decide +kernel
theorem dX12_wouldLeave_47 : decode cX12_wouldLeave 47 = .ok (.iload_n 1, 1) := by decide +kernel
theorem dX12_wouldLeave_48 : decode cX12_wouldLeave 48 = .ok (.iaload, 1) := by decide +kernel
theorem dX12_wouldLeave_49 : decode cX12_wouldLeave 49 = .ok (.iload_n 2, 1) := by decide +kernel
theorem dX12_wouldLeave_50 : decode cX12_wouldLeave 50 = .ok (.if_icmp .ne 5, 3) := by decide +kernel
theorem dX12_wouldLeave_53 : decode cX12_wouldLeave 53 = .ok (.iconst 0, 1) := by decide +kernel
theorem dX12_wouldLeave_54 : decode cX12_wouldLeave 54 = .ok (.ireturn, 1) := by decide +kernel
theorem dX12_wouldLeave_55 : decode cX12_wouldLeave 55 = .ok (.aload_n 0, 1) := by decide +kernel
theorem dX12_wouldLeave_56 : decode cX12_wouldLeave 56 = .ok (.getfield 31, 3) := by decide +kernel
theorem dX12_wouldLeave_59 : decode cX12_wouldLeave 59 = .ok (.iconst 4, 1) := by decide +kernel
theorem dX12_wouldLeave_60 : decode cX12_wouldLeave 60 = .ok (.iload_n 1, 1) := by decide +kernel
theorem dX12_wouldLeave_61 : decode cX12_wouldLeave 61 = .ok (.imul, 1) := by decide +kernel
theorem dX12_wouldLeave_62 : decode cX12_wouldLeave 62 = .ok (.iconst 1, 1) := by decide +kernel
theorem dX12_wouldLeave_63 : decode cX12_wouldLeave 63 = .ok (.iadd, 1) := by decide +kernel
theorem dX12_wouldLeave_64 : decode cX12_wouldLeave 64 = .ok (.iaload, 1) := by decide +kernel
theorem dX12_wouldLeave_65 : decode cX12_wouldLeave 65 = .ok (.aload_n 0, 1) := by decide +kernel
theorem dX12_wouldLeave_66 : decode cX12_wouldLeave 66 = .ok (.getfield 31, 3) := by decide +kernel
theorem dX12_wouldLeave_69 : decode cX12_wouldLeave 69 = .ok (.iconst 4, 1) := by decide +kernel
theorem dX12_wouldLeave_70 : decode cX12_wouldLeave 70 = .ok (.iload_n 2, 1) := by decide +kernel
theorem dX12_wouldLeave_71 : decode cX12_wouldLeave 71 = .ok (.imul, 1) := by decide +kernel
theorem dX12_wouldLeave_72 : decode cX12_wouldLeave 72 = .ok (.iconst 1, 1) := by decide +kernel
theorem dX12_wouldLeave_73 : decode cX12_wouldLeave 73 = .ok (.iadd, 1) := by decide +kernel
theorem dX12_wouldLeave_74 : decode cX12_wouldLeave 74 = .ok (.iaload, 1) := by decide +kernel
theorem dX12_wouldLeave_75 : decode cX12_wouldLeave 75 = .ok (.isub, 1) := by decide +kernel
theorem dX12_wouldLeave_76 : decode cX12_wouldLeave 76 = .ok (.istore_n 3, 1) := by decide +kernel
theorem dX12_wouldLeave_77 : decode cX12_wouldLeave 77 = .ok (.iload_n 3, 1) := by decide +kernel
theorem dX12_wouldLeave_78 : decode cX12_wouldLeave 78 = .ok (.iconst 1, 1) := by decide +kernel
theorem dX12_wouldLeave_79 : decode cX12_wouldLeave 79 = .ok (.if_icmp .eq 8, 3) := by decide +kernel
theorem dX12_wouldLeave_82 : decode cX12_wouldLeave 82 = .ok (.iload_n 3, 1) := by decide +kernel
theorem dX12_wouldLeave_83 : decode cX12_wouldLeave 83 = .ok (.iconst (-1), 1) := by decide +kernel
theorem dX12_wouldLeave_84 : decode cX12_wouldLeave 84 = .ok (.if_icmp .ne 7, 3) := by decide +kernel
theorem dX12_wouldLeave_87 : decode cX12_wouldLeave 87 = .ok (.iconst 1, 1) := by decide +kernel
theorem dX12_wouldLeave_88 : decode cX12_wouldLeave 88 = .ok (.goto 4, 3) := by decide +kernel
theorem dX12_wouldLeave_91 : decode cX12_wouldLeave 91 = .ok (.iconst 0, 1) := by decide +kernel
theorem dX12_wouldLeave_92 : decode cX12_wouldLeave 92 = .ok (.istore 4, 2) := by decide +kernel
theorem dX12_wouldLeave_94 : decode cX12_wouldLeave 94 = .ok (.iload 4, 2) := by decide +kernel
theorem dX12_wouldLeave_96 : decode cX12_wouldLeave 96 = .ok (.ifCond .eq 63, 3) := by decide +kernel
theorem dX12_wouldLeave_99 : decode cX12_wouldLeave 99 = .ok (.aload_n 0, 1) := by decide +kernel
theorem dX12_wouldLeave_100 : decode cX12_wouldLeave 100 = .ok (.getfield 31, 3) := by decide +kernel
theorem dX12_wouldLeave_103 : decode cX12_wouldLeave 103 = .ok (.iconst 4, 1) := by decide +kernel
theorem dX12_wouldLeave_104 : decode cX12_wouldLeave 104 = .ok (.iload_n 1, 1) := by decide +kernel
theorem dX12_wouldLeave_105 : decode cX12_wouldLeave 105 = .ok (.imul, 1) := by decide +kernel
theorem dX12_wouldLeave_106 : decode cX12_wouldLeave 106 = .ok (.iconst 2, 1) := by decide +kernel
theorem dX12_wouldLeave_107 : decode cX12_wouldLeave 107 = .ok (.iadd, 1) := by decide +kernel
theorem dX12_wouldLeave_108 : decode cX12_wouldLeave 108 = .ok (.iaload, 1) := by decide +kernel
theorem dX12_wouldLeave_109 : decode cX12_wouldLeave 109 = .ok (.aload_n 0, 1) := by decide +kernel
theorem dX12_wouldLeave_110 : decode cX12_wouldLeave 110 = .ok (.getfield 31, 3) := by decide +kernel
theorem dX12_wouldLeave_113 : decode cX12_wouldLeave 113 = .ok (.iconst 4, 1) := by decide +kernel
theorem dX12_wouldLeave_114 : decode cX12_wouldLeave 114 = .ok (.aload_n 0, 1) := by decide +kernel
theorem dX12_wouldLeave_115 : decode cX12_wouldLeave 115 = .ok (.getfield 43, 3) := by decide +kernel
theorem dX12_wouldLeave_118 : decode cX12_wouldLeave 118 = .ok (.iload_n 2, 1) := by decide +kernel
theorem dX12_wouldLeave_119 : decode cX12_wouldLeave 119 = .ok (.iaload, 1) := by decide +kernel
theorem dX12_wouldLeave_120 : decode cX12_wouldLeave 120 = .ok (.imul, 1) := by decide +kernel
theorem dX12_wouldLeave_121 : decode cX12_wouldLeave 121 = .ok (.iconst 2, 1) := by decide +kernel
theorem dX12_wouldLeave_122 : decode cX12_wouldLeave 122 = .ok (.iadd, 1) := by decide +kernel
theorem dX12_wouldLeave_123 : decode cX12_wouldLeave 123 = .ok (.iaload, 1) := by decide +kernel
theorem dX12_wouldLeave_124 : decode cX12_wouldLeave 124 = .ok (.if_icmp .ge 35, 3) := by decide +kernel
theorem dX12_wouldLeave_127 : decode cX12_wouldLeave 127 = .ok (.aload_n 0, 1) := by decide +kernel
theorem dX12_wouldLeave_128 : decode cX12_wouldLeave 128 = .ok (.getfield 31, 3) := by decide +kernel
theorem dX12_wouldLeave_131 : decode cX12_wouldLeave 131 = .ok (.iconst 4, 1) := by decide +kernel
theorem dX12_wouldLeave_132 : decode cX12_wouldLeave 132 = .ok (.iload_n 2, 1) := by decide +kernel
theorem dX12_wouldLeave_133 : decode cX12_wouldLeave 133 = .ok (.imul, 1) := by decide +kernel
theorem dX12_wouldLeave_134 : decode cX12_wouldLeave 134 = .ok (.iconst 2, 1) := by decide +kernel
theorem dX12_wouldLeave_135 : decode cX12_wouldLeave 135 = .ok (.iadd, 1) := by decide +kernel
theorem dX12_wouldLeave_136 : decode cX12_wouldLeave 136 = .ok (.iaload, 1) := by decide +kernel
theorem dX12_wouldLeave_137 : decode cX12_wouldLeave 137 = .ok (.aload_n 0, 1) := by decide +kernel
theorem dX12_wouldLeave_138 : decode cX12_wouldLeave 138 = .ok (.getfield 31, 3) := by decide +kernel
theorem dX12_wouldLeave_141 : decode cX12_wouldLeave 141 = .ok (.iconst 4, 1) := by decide +kernel
theorem dX12_wouldLeave_142 : decode cX12_wouldLeave 142 = .ok (.aload_n 0, 1) := by decide +kernel
theorem dX12_wouldLeave_143 : decode cX12_wouldLeave 143 = .ok (.getfield 43, 3) := by decide +kernel
theorem dX12_wouldLeave_146 : decode cX12_wouldLeave 146 = .ok (.iload_n 1, 1) := by decide +kernel
theorem dX12_wouldLeave_147 : decode cX12_wouldLeave 147 = .ok (.iaload, 1) := by decide +kernel
theorem dX12_wouldLeave_148 : decode cX12_wouldLeave 148 = .ok (.imul, 1) := by decide +kernel
theorem dX12_wouldLeave_149 : decode cX12_wouldLeave 149 = .ok (.iconst 2, 1) := by decide +kernel
theorem dX12_wouldLeave_150 : decode cX12_wouldLeave 150 = .ok (.iadd, 1) := by decide +kernel
theorem dX12_wouldLeave_151 : decode cX12_wouldLeave 151 = .ok (.iaload, 1) := by decide +kernel
theorem dX12_wouldLeave_152 : decode cX12_wouldLeave 152 = .ok (.if_icmp .ge 7, 3) := by decide +kernel
theorem dX12_wouldLeave_155 : decode cX12_wouldLeave 155 = .ok (.iconst 1, 1) := by decide +kernel
theorem dX12_wouldLeave_156 : decode cX12_wouldLeave 156 = .ok (.goto 4, 3) := by decide +kernel
theorem dX12_wouldLeave_159 : decode cX12_wouldLeave 159 = .ok (.iconst 0, 1) := by decide +kernel
theorem dX12_wouldLeave_160 : decode cX12_wouldLeave 160 = .ok (.ireturn, 1) := by decide +kernel
theorem dX12_leaveNow_0 : decode cX12_leaveNow 0 = .ok (.aload_n 0, 1) := by decide +kernel
theorem dX12_leaveNow_1 : decode cX12_leaveNow 1 = .ok (.invokevirtual 242, 3) := by decide +kernel
theorem dX12_leaveNow_4 : decode cX12_leaveNow 4 = .ok (.iconst 0, 1) := by decide +kernel
theorem dX12_leaveNow_5 : decode cX12_leaveNow 5 = .ok (.istore_n 1, 1) := by decide +kernel
theorem dX12_leaveNow_6 : decode cX12_leaveNow 6 = .ok (.iconst 0, 1) := by decide +kernel
theorem dX12_leaveNow_7 : decode cX12_leaveNow 7 = .ok (.istore_n 2, 1) := by decide +kernel
theorem dX12_leaveNow_8 : decode cX12_leaveNow 8 = .ok (.iload_n 2, 1) := by decide +kernel
theorem dX12_leaveNow_9 : decode cX12_leaveNow 9 = .ok (.aload_n 0, 1) := by decide +kernel
theorem dX12_leaveNow_10 : decode cX12_leaveNow 10 = .ok (.getfield 144, 3) := by decide +kernel
theorem dX12_leaveNow_13 : decode cX12_leaveNow 13 = .ok (.if_icmp .ge 42, 3) := by decide +kernel
theorem dX12_leaveNow_16 : decode cX12_leaveNow 16 = .ok (.iconst 0, 1) := by decide +kernel
theorem dX12_leaveNow_17 : decode cX12_leaveNow 17 = .ok (.istore_n 3, 1) := by decide +kernel
theorem dX12_leaveNow_18 : decode cX12_leaveNow 18 = .ok (.iload_n 3, 1) := by decide +kernel
theorem dX12_leaveNow_19 : decode cX12_leaveNow 19 = .ok (.aload_n 0, 1) := by decide +kernel
theorem dX12_leaveNow_20 : decode cX12_leaveNow 20 = .ok (.getfield 144, 3) := by decide +kernel
theorem dX12_leaveNow_23 : decode cX12_leaveNow 23 = .ok (.if_icmp .ge 26, 3) := by decide +kernel
theorem dX12_leaveNow_26 : decode cX12_leaveNow 26 = .ok (.iload_n 1, 1) := by decide +kernel
theorem dX12_leaveNow_27 : decode cX12_leaveNow 27 = .ok (.aload_n 0, 1) := by decide +kernel
theorem dX12_leaveNow_28 : decode cX12_leaveNow 28 = .ok (.iload_n 2, 1) := by decide +kernel
theorem dX12_leaveNow_29 : decode cX12_leaveNow 29 = .ok (.iload_n 3, 1) := by decide +kernel
theorem dX12_leaveNow_30 : decode cX12_leaveNow 30 = .ok (.invokevirtual 283, 3) := by decide +kernel
theorem dX12_leaveNow_33 : decode cX12_leaveNow 33 = .ok (.ifCond .eq 7, 3) := by decide +kernel
theorem dX12_leaveNow_36 : decode cX12_leaveNow 36 = .ok (.iconst 1, 1) := by decide +kernel
theorem dX12_leaveNow_37 : decode cX12_leaveNow 37 = .ok (.goto 4, 3) := by decide +kernel
theorem dX12_leaveNow_40 : decode cX12_leaveNow 40 = .ok (.iconst 0, 1) := by decide +kernel
theorem dX12_leaveNow_41 : decode cX12_leaveNow 41 = .ok (.iadd, 1) := by decide +kernel
theorem dX12_leaveNow_42 : decode cX12_leaveNow 42 = .ok (.istore_n 1, 1) := by decide +kernel
theorem dX12_leaveNow_43 : decode cX12_leaveNow 43 = .ok (.iinc 3 1, 3) := by decide +kernel
theorem dX12_leaveNow_46 : decode cX12_leaveNow 46 = .ok (.goto (-28), 3) := by decide +kernel
theorem dX12_leaveNow_49 : decode cX12_leaveNow 49 = .ok (.iinc 2 1, 3) := by decide +kernel
theorem dX12_leaveNow_52 : decode cX12_leaveNow 52 = .ok (.goto (-44), 3) := by decide +kernel
theorem dX12_leaveNow_55 : decode cX12_leaveNow 55 = .ok (.iload_n 1, 1) := by decide +kernel
theorem dX12_leaveNow_56 : decode cX12_leaveNow 56 = .ok (.ireturn, 1) := by decide +kernel
theorem dX12_leave_0 : decode cX12_leave 0 = .ok (.aload_n 0, 1) := by decide +kernel
theorem dX12_leave_1 : decode cX12_leave 1 = .ok (.invokevirtual 163, 3) := by decide +kernel
theorem dX12_leave_4 : decode cX12_leave 4 = .ok (.aload_n 0, 1) := by decide +kernel
theorem dX12_leave_5 : decode cX12_leave 5 = .ok (.invokevirtual 286, 3) := by decide +kernel
theorem dX12_leave_8 : decode cX12_leave 8 = .ok (.ireturn, 1) := by decide +kernel
theorem dX12_survey_0 : decode cX12_survey 0 = .ok (.iload_n 1, 1) := by decide +kernel
theorem dX12_survey_1 : decode cX12_survey 1 = .ok (.i2l, 1) := by decide +kernel
theorem dX12_survey_2 : decode cX12_survey 2 = .ok (.lconst 0, 1) := by decide +kernel
theorem dX12_survey_3 : decode cX12_survey 3 = .ok (.ldc2_w 290, 3) := by decide +kernel
theorem dX12_survey_6 : decode cX12_survey 6 = .ok (.invokestatic 95, 3) := by decide +kernel
theorem dX12_survey_9 : decode cX12_survey 9 = .ok (.ifCond .eq 27, 3) := by decide +kernel
theorem dX12_survey_12 : decode cX12_survey 12 = .ok (.iload_n 2, 1) := by decide +kernel
theorem dX12_survey_13 : decode cX12_survey 13 = .ok (.i2l, 1) := by decide +kernel
theorem dX12_survey_14 : decode cX12_survey 14 = .ok (.lconst 0, 1) := by decide +kernel
theorem dX12_survey_15 : decode cX12_survey 15 = .ok (.ldc2_w 292, 3) := by decide +kernel
theorem dX12_survey_18 : decode cX12_survey 18 = .ok (.invokestatic 95, 3) := by decide +kernel
theorem dX12_survey_21 : decode cX12_survey 21 = .ok (.ifCond .eq 15, 3) := by decide +kernel
theorem dX12_survey_24 : decode cX12_survey 24 = .ok (.iload_n 3, 1) := by decide +kernel
theorem dX12_survey_25 : decode cX12_survey 25 = .ok (.i2l, 1) := by decide +kernel
theorem dX12_survey_26 : decode cX12_survey 26 = .ok (.lconst 0, 1) := by decide +kernel
theorem dX12_survey_27 : decode cX12_survey 27 = .ok (.ldc2_w 273, 3) := by decide +kernel
theorem dX12_survey_30 : decode cX12_survey 30 = .ok (.invokestatic 95, 3) := by decide +kernel
theorem dX12_survey_33 : decode cX12_survey 33 = .ok (.ifCond .ne 6, 3) := by decide +kernel
theorem dX12_survey_36 : decode cX12_survey 36 = .ok (.bipush (-2), 2) := by decide +kernel
theorem dX12_survey_38 : decode cX12_survey 38 = .ok (.ireturn, 1) := by decide +kernel
theorem dX12_survey_39 : decode cX12_survey 39 = .ok (.aload_n 0, 1) := by decide +kernel
theorem dX12_survey_40 : decode cX12_survey 40 = .ok (.getfield 294, 3) := by decide +kernel
theorem dX12_survey_43 : decode cX12_survey 43 = .ok (.bipush 8, 2) := by decide +kernel
theorem dX12_survey_45 : decode cX12_survey 45 = .ok (.if_icmp .ne 6, 3) := by decide +kernel
theorem dX12_survey_48 : decode cX12_survey 48 = .ok (.bipush (-4), 2) := by decide +kernel
theorem dX12_survey_50 : decode cX12_survey 50 = .ok (.ireturn, 1) := by decide +kernel
theorem dX12_survey_51 : decode cX12_survey 51 = .ok (.aload_n 0, 1) := by decide +kernel
theorem dX12_survey_52 : decode cX12_survey 52 = .ok (.getfield 70, 3) := by decide +kernel
theorem dX12_survey_55 : decode cX12_survey 55 = .ok (.iconst 3, 1) := by decide +kernel
theorem dX12_survey_56 : decode cX12_survey 56 = .ok (.aload_n 0, 1) := by decide +kernel
theorem dX12_survey_57 : decode cX12_survey 57 = .ok (.getfield 294, 3) := by decide +kernel
theorem dX12_survey_60 : decode cX12_survey 60 = .ok (.imul, 1) := by decide +kernel
theorem dX12_survey_61 : decode cX12_survey 61 = .ok (.iload_n 1, 1) := by decide +kernel
theorem dX12_survey_62 : decode cX12_survey 62 = .ok (.iastore, 1) := by decide +kernel
theorem dX12_survey_63 : decode cX12_survey 63 = .ok (.aload_n 0, 1) := by decide +kernel
theorem dX12_survey_64 : decode cX12_survey 64 = .ok (.getfield 70, 3) := by decide +kernel
theorem dX12_survey_67 : decode cX12_survey 67 = .ok (.iconst 3, 1) := by decide +kernel
theorem dX12_survey_68 : decode cX12_survey 68 = .ok (.aload_n 0, 1) := by decide +kernel
theorem dX12_survey_69 : decode cX12_survey 69 = .ok (.getfield 294, 3) := by decide +kernel
theorem dX12_survey_72 : decode cX12_survey 72 = .ok (.imul, 1) := by decide +kernel
theorem dX12_survey_73 : decode cX12_survey 73 = .ok (.iconst 1, 1) := by decide +kernel
theorem dX12_survey_74 : decode cX12_survey 74 = .ok (.iadd, 1) := by decide +kernel
theorem dX12_survey_75 : decode cX12_survey 75 = .ok (.iload_n 2, 1) := by decide +kernel
theorem dX12_survey_76 : decode cX12_survey 76 = .ok (.iastore, 1) := by decide +kernel
theorem dX12_survey_77 : decode cX12_survey 77 = .ok (.aload_n 0, 1) := by decide +kernel
theorem dX12_survey_78 : decode cX12_survey 78 = .ok (.getfield 70, 3) := by decide +kernel
theorem dX12_survey_81 : decode cX12_survey 81 = .ok (.iconst 3, 1) := by decide +kernel
theorem dX12_survey_82 : decode cX12_survey 82 = .ok (.aload_n 0, 1) := by decide +kernel
theorem dX12_survey_83 : decode cX12_survey 83 = .ok (.getfield 294, 3) := by decide +kernel
theorem dX12_survey_86 : decode cX12_survey 86 = .ok (.imul, 1) := by decide +kernel
theorem dX12_survey_87 : decode cX12_survey 87 = .ok (.iconst 2, 1) := by decide +kernel
theorem dX12_survey_88 : decode cX12_survey 88 = .ok (.iadd, 1) := by decide +kernel
theorem dX12_survey_89 : decode cX12_survey 89 = .ok (.iload_n 3, 1) := by decide +kernel
theorem dX12_survey_90 : decode cX12_survey 90 = .ok (.iastore, 1) := by decide +kernel
theorem dX12_survey_91 : decode cX12_survey 91 = .ok (.aload_n 0, 1) := by decide +kernel
theorem dX12_survey_92 : decode cX12_survey 92 = .ok (.dup, 1) := by decide +kernel
theorem dX12_survey_93 : decode cX12_survey 93 = .ok (.getfield 294, 3) := by decide +kernel
theorem dX12_survey_96 : decode cX12_survey 96 = .ok (.iconst 1, 1) := by decide +kernel
theorem dX12_survey_97 : decode cX12_survey 97 = .ok (.iadd, 1) := by decide +kernel
theorem dX12_survey_98 : decode cX12_survey 98 = .ok (.putfield 294, 3) := by decide +kernel
theorem dX12_survey_101 : decode cX12_survey 101 = .ok (.aload_n 0, 1) := by decide +kernel
theorem dX12_survey_102 : decode cX12_survey 102 = .ok (.getfield 294, 3) := by decide +kernel
theorem dX12_survey_105 : decode cX12_survey 105 = .ok (.ireturn, 1) := by decide +kernel
theorem dX12_forget_0 : decode cX12_forget 0 = .ok (.aload_n 0, 1) := by decide +kernel
theorem dX12_forget_1 : decode cX12_forget 1 = .ok (.getfield 294, 3) := by decide +kernel
theorem dX12_forget_4 : decode cX12_forget 4 = .ok (.istore_n 1, 1) := by decide +kernel
theorem dX12_forget_5 : decode cX12_forget 5 = .ok (.aload_n 0, 1) := by decide +kernel
theorem dX12_forget_6 : decode cX12_forget 6 = .ok (.iconst 0, 1) := by decide +kernel
theorem dX12_forget_7 : decode cX12_forget 7 = .ok (.putfield 294, 3) := by decide +kernel
theorem dX12_forget_10 : decode cX12_forget 10 = .ok (.iload_n 1, 1) := by decide +kernel
theorem dX12_forget_11 : decode cX12_forget 11 = .ok (.ireturn, 1) := by decide +kernel
theorem dX12_canBeAsked_0 : decode cX12_canBeAsked 0 = .ok (.aload_n 0, 1) := by decide +kernel
theorem dX12_canBeAsked_1 : decode cX12_canBeAsked 1 = .ok (.getfield 70, 3) := by decide +kernel
theorem dX12_canBeAsked_4 : decode cX12_canBeAsked 4 = .ok (.iconst 3, 1) := by decide +kernel
theorem dX12_canBeAsked_5 : decode cX12_canBeAsked 5 = .ok (.iload_n 1, 1) := by decide +kernel
theorem dX12_canBeAsked_6 : decode cX12_canBeAsked 6 = .ok (.imul, 1) := by decide +kernel
theorem dX12_canBeAsked_7 : decode cX12_canBeAsked 7 = .ok (.iaload, 1) := by decide +kernel
theorem dX12_canBeAsked_8 : decode cX12_canBeAsked 8 = .ok (.aload_n 0, 1) := by decide +kernel
theorem dX12_canBeAsked_9 : decode cX12_canBeAsked 9 = .ok (.getfield 138, 3) := by decide +kernel
theorem dX12_canBeAsked_12 : decode cX12_canBeAsked 12 = .ok (.if_icmp .ge 24, 3) := by decide +kernel
theorem dX12_canBeAsked_15 : decode cX12_canBeAsked 15 = .ok (.aload_n 0, 1) := by decide +kernel
theorem dX12_canBeAsked_16 : decode cX12_canBeAsked 16 = .ok (.getfield 70, 3) := by decide +kernel
theorem dX12_canBeAsked_19 : decode cX12_canBeAsked 19 = .ok (.iconst 3, 1) := by decide +kernel
theorem dX12_canBeAsked_20 : decode cX12_canBeAsked 20 = .ok (.iload_n 1, 1) := by decide +kernel
theorem dX12_canBeAsked_21 : decode cX12_canBeAsked 21 = .ok (.imul, 1) := by decide +kernel
theorem dX12_canBeAsked_22 : decode cX12_canBeAsked 22 = .ok (.iconst 1, 1) := by decide +kernel
theorem dX12_canBeAsked_23 : decode cX12_canBeAsked 23 = .ok (.iadd, 1) := by decide +kernel
theorem dX12_canBeAsked_24 : decode cX12_canBeAsked 24 = .ok (.iaload, 1) := by decide +kernel
theorem dX12_canBeAsked_25 : decode cX12_canBeAsked 25 = .ok (.aload_n 0, 1) := by decide +kernel
theorem dX12_canBeAsked_26 : decode cX12_canBeAsked 26 = .ok (.getfield 184, 3) := by decide +kernel
theorem dX12_canBeAsked_29 : decode cX12_canBeAsked 29 = .ok (.if_icmp .gt 7, 3) := by decide +kernel
theorem dX12_canBeAsked_32 : decode cX12_canBeAsked 32 = .ok (.iconst 1, 1) := by decide +kernel
theorem dX12_canBeAsked_33 : decode cX12_canBeAsked 33 = .ok (.goto 4, 3) := by decide +kernel
theorem dX12_canBeAsked_36 : decode cX12_canBeAsked 36 = .ok (.iconst 0, 1) := by decide +kernel
theorem dX12_canBeAsked_37 : decode cX12_canBeAsked 37 = .ok (.ireturn, 1) := by decide +kernel
theorem dX12_isRight_0 : decode cX12_isRight 0 = .ok (.aload_n 0, 1) := by decide +kernel
theorem dX12_isRight_1 : decode cX12_isRight 1 = .ok (.aload_n 0, 1) := by decide +kernel
theorem dX12_isRight_2 : decode cX12_isRight 2 = .ok (.getfield 70, 3) := by decide +kernel
theorem dX12_isRight_5 : decode cX12_isRight 5 = .ok (.iconst 3, 1) := by decide +kernel
theorem dX12_isRight_6 : decode cX12_isRight 6 = .ok (.iload_n 1, 1) := by decide +kernel
theorem dX12_isRight_7 : decode cX12_isRight 7 = .ok (.imul, 1) := by decide +kernel
theorem dX12_isRight_8 : decode cX12_isRight 8 = .ok (.iaload, 1) := by decide +kernel
theorem dX12_isRight_9 : decode cX12_isRight 9 = .ok (.aload_n 0, 1) := by decide +kernel
theorem dX12_isRight_10 : decode cX12_isRight 10 = .ok (.getfield 70, 3) := by decide +kernel
theorem dX12_isRight_13 : decode cX12_isRight 13 = .ok (.iconst 3, 1) := by decide +kernel
theorem dX12_isRight_14 : decode cX12_isRight 14 = .ok (.iload_n 1, 1) := by decide +kernel
theorem dX12_isRight_15 : decode cX12_isRight 15 = .ok (.imul, 1) := by decide +kernel
theorem dX12_isRight_16 : decode cX12_isRight 16 = .ok (.iconst 1, 1) := by decide +kernel
theorem dX12_isRight_17 : decode cX12_isRight 17 = .ok (.iadd, 1) := by decide +kernel
theorem dX12_isRight_18 : decode cX12_isRight 18 = .ok (.iaload, 1) := by decide +kernel
theorem dX12_isRight_19 : decode cX12_isRight 19 = .ok (.iconst (-1), 1) := by decide +kernel
theorem dX12_isRight_20 : decode cX12_isRight 20 = .ok (.invokevirtual 251, 3) := by decide +kernel
theorem dX12_isRight_23 : decode cX12_isRight 23 = .ok (.aload_n 0, 1) := by decide +kernel
theorem dX12_isRight_24 : decode cX12_isRight 24 = .ok (.getfield 70, 3) := by decide +kernel
theorem dX12_isRight_27 : decode cX12_isRight 27 = .ok (.iconst 3, 1) := by decide +kernel
theorem dX12_isRight_28 : decode cX12_isRight 28 = .ok (.iload_n 1, 1) := by decide +kernel
theorem dX12_isRight_29 : decode cX12_isRight 29 = .ok (.imul, 1) := by decide +kernel
theorem dX12_isRight_30 : decode cX12_isRight 30 = .ok (.iconst 2, 1) := by decide +kernel
theorem dX12_isRight_31 : decode cX12_isRight 31 = .ok (.iadd, 1) := by decide +kernel
theorem dX12_isRight_32 : decode cX12_isRight 32 = .ok (.iaload, 1) := by decide +kernel
theorem dX12_isRight_33 : decode cX12_isRight 33 = .ok (.if_icmp .ne 7, 3) := by decide +kernel
theorem dX12_isRight_36 : decode cX12_isRight 36 = .ok (.iconst 1, 1) := by decide +kernel
theorem dX12_isRight_37 : decode cX12_isRight 37 = .ok (.goto 4, 3) := by decide +kernel
theorem dX12_isRight_40 : decode cX12_isRight 40 = .ok (.iconst 0, 1) := by decide +kernel
theorem dX12_isRight_41 : decode cX12_isRight 41 = .ok (.ireturn, 1) := by decide +kernel
theorem dX12_forgedOf_0 : decode cX12_forgedOf 0 = .ok (.aload_n 0, 1) := by decide +kernel
theorem dX12_forgedOf_1 : decode cX12_forgedOf 1 = .ok (.getfield 31, 3) := by decide +kernel
theorem dX12_forgedOf_4 : decode cX12_forgedOf 4 = .ok (.iconst 4, 1) := by decide +kernel
theorem dX12_forgedOf_5 : decode cX12_forgedOf 5 = .ok (.iload_n 1, 1) := by decide +kernel
theorem dX12_forgedOf_6 : decode cX12_forgedOf 6 = .ok (.imul, 1) := by decide +kernel
theorem dX12_forgedOf_7 : decode cX12_forgedOf 7 = .ok (.iconst 2, 1) := by decide +kernel
theorem dX12_forgedOf_8 : decode cX12_forgedOf 8 = .ok (.iadd, 1) := by decide +kernel
theorem dX12_forgedOf_9 : decode cX12_forgedOf 9 = .ok (.iaload, 1) := by decide +kernel
theorem dX12_forgedOf_10 : decode cX12_forgedOf 10 = .ok (.istore_n 2, 1) := by decide +kernel
theorem dX12_forgedOf_11 : decode cX12_forgedOf 11 = .ok (.iconst 0, 1) := by decide +kernel
theorem dX12_forgedOf_12 : decode cX12_forgedOf 12 = .ok (.istore_n 3, 1) := by decide +kernel
theorem dX12_forgedOf_13 : decode cX12_forgedOf 13 = .ok (.iconst 1, 1) := by decide +kernel
theorem dX12_forgedOf_14 : decode cX12_forgedOf 14 = .ok (.istore 4, 2) := by decide +kernel
theorem dX12_forgedOf_16 : decode cX12_forgedOf 16 = .ok (.iload 4, 2) := by decide +kernel
theorem dX12_forgedOf_18 : decode cX12_forgedOf 18 = .ok (.bipush 10, 2) := by decide +kernel
theorem dX12_forgedOf_20 : decode cX12_forgedOf 20 = .ok (.if_icmp .ge 90, 3) := by decide +kernel
theorem dX12_forgedOf_23 : decode cX12_forgedOf 23 = .ok (.aload_n 0, 1) := by decide +kernel
theorem dX12_forgedOf_24 : decode cX12_forgedOf 24 = .ok (.getfield 31, 3) := by decide +kernel
theorem dX12_forgedOf_27 : decode cX12_forgedOf 27 = .ok (.iconst 4, 1) := by decide +kernel
theorem dX12_forgedOf_28 : decode cX12_forgedOf 28 = .ok (.iload_n 1, 1) := by decide +kernel
theorem dX12_forgedOf_29 : decode cX12_forgedOf 29 = .ok (.imul, 1) := by decide +kernel
theorem dX12_forgedOf_30 : decode cX12_forgedOf 30 = .ok (.iconst 2, 1) := by decide +kernel
theorem dX12_forgedOf_31 : decode cX12_forgedOf 31 = .ok (.iadd, 1) := by decide +kernel
theorem dX12_forgedOf_32 : decode cX12_forgedOf 32 = .ok (.iload 4, 2) := by decide +kernel
theorem dX12_forgedOf_34 : decode cX12_forgedOf 34 = .ok (.iastore, 1) := by decide +kernel
theorem dX12_forgedOf_35 : decode cX12_forgedOf 35 = .ok (.iconst 1, 1) := by decide +kernel
theorem dX12_forgedOf_36 : decode cX12_forgedOf 36 = .ok (.istore 5, 2) := by decide +kernel
theorem dX12_forgedOf_38 : decode cX12_forgedOf 38 = .ok (.iconst 0, 1) := by decide +kernel
theorem dX12_forgedOf_39 : decode cX12_forgedOf 39 = .ok (.istore 6, 2) := by decide +kernel
theorem dX12_forgedOf_41 : decode cX12_forgedOf 41 = .ok (.iload 6, 2) := by decide +kernel
theorem dX12_forgedOf_43 : decode cX12_forgedOf 43 = .ok (.aload_n 0, 1) := by decide +kernel
theorem dX12_forgedOf_44 : decode cX12_forgedOf 44 = .ok (.getfield 294, 3) := by decide +kernel
theorem dX12_forgedOf_47 : decode cX12_forgedOf 47 = .ok (.if_icmp .ge 39, 3) := by decide +kernel
theorem dX12_forgedOf_50 : decode cX12_forgedOf 50 = .ok (.iload 5, 2) := by decide +kernel
theorem dX12_forgedOf_52 : decode cX12_forgedOf 52 = .ok (.ifCond .eq 25, 3) := by decide +kernel
theorem dX12_forgedOf_55 : decode cX12_forgedOf 55 = .ok (.aload_n 0, 1) := by decide +kernel
theorem dX12_forgedOf_56 : decode cX12_forgedOf 56 = .ok (.iload 6, 2) := by decide +kernel
theorem dX12_forgedOf_58 : decode cX12_forgedOf 58 = .ok (.invokevirtual 297, 3) := by decide +kernel
theorem dX12_forgedOf_61 : decode cX12_forgedOf 61 = .ok (.ifCond .eq 12, 3) := by decide +kernel
theorem dX12_forgedOf_64 : decode cX12_forgedOf 64 = .ok (.aload_n 0, 1) := by decide +kernel
theorem dX12_forgedOf_65 : decode cX12_forgedOf 65 = .ok (.iload 6, 2) := by decide +kernel
theorem dX12_forgedOf_67 : decode cX12_forgedOf 67 = .ok (.invokevirtual 300, 3) := by decide +kernel
theorem dX12_forgedOf_70 : decode cX12_forgedOf 70 = .ok (.ifCond .eq 7, 3) := by decide +kernel
theorem dX12_forgedOf_73 : decode cX12_forgedOf 73 = .ok (.iconst 1, 1) := by decide +kernel
theorem dX12_forgedOf_74 : decode cX12_forgedOf 74 = .ok (.goto 4, 3) := by decide +kernel
theorem dX12_forgedOf_77 : decode cX12_forgedOf 77 = .ok (.iconst 0, 1) := by decide +kernel
theorem dX12_forgedOf_78 : decode cX12_forgedOf 78 = .ok (.istore 5, 2) := by decide +kernel
theorem dX12_forgedOf_80 : decode cX12_forgedOf 80 = .ok (.iinc 6 1, 3) := by decide +kernel
theorem dX12_forgedOf_83 : decode cX12_forgedOf 83 = .ok (.goto (-42), 3) := by decide +kernel
theorem dX12_forgedOf_86 : decode cX12_forgedOf 86 = .ok (.iload_n 3, 1) := by decide +kernel
theorem dX12_forgedOf_87 : decode cX12_forgedOf 87 = .ok (.iload 5, 2) := by decide +kernel
theorem dX12_forgedOf_89 : decode cX12_forgedOf 89 = .ok (.ifCond .eq 12, 3) := by decide +kernel
theorem dX12_forgedOf_92 : decode cX12_forgedOf 92 = .ok (.iconst 1, 1) := by decide +kernel
theorem dX12_forgedOf_93 : decode cX12_forgedOf 93 = .ok (.iload 4, 2) := by decide +kernel
theorem dX12_forgedOf_95 : decode cX12_forgedOf 95 = .ok (.iconst 1, 1) := by decide +kernel
theorem dX12_forgedOf_96 : decode cX12_forgedOf 96 = .ok (.isub, 1) := by decide +kernel
theorem dX12_forgedOf_97 : decode cX12_forgedOf 97 = .ok (.ishl, 1) := by decide +kernel
theorem dX12_forgedOf_98 : decode cX12_forgedOf 98 = .ok (.goto 4, 3) := by decide +kernel
theorem dX12_forgedOf_101 : decode cX12_forgedOf 101 = .ok (.iconst 0, 1) := by decide +kernel
theorem dX12_forgedOf_102 : decode cX12_forgedOf 102 = .ok (.ior, 1) := by decide +kernel
theorem dX12_forgedOf_103 : decode cX12_forgedOf 103 = .ok (.istore_n 3, 1) := by decide +kernel
theorem dX12_forgedOf_104 : decode cX12_forgedOf 104 = .ok (.iinc 4 1, 3) := by decide +kernel
theorem dX12_forgedOf_107 : decode cX12_forgedOf 107 = .ok (.goto (-91), 3) := by decide +kernel
theorem dX12_forgedOf_110 : decode cX12_forgedOf 110 = .ok (.aload_n 0, 1) := by decide +kernel
theorem dX12_forgedOf_111 : decode cX12_forgedOf 111 = .ok (.getfield 31, 3) := by decide +kernel
theorem dX12_forgedOf_114 : decode cX12_forgedOf 114 = .ok (.iconst 4, 1) := by decide +kernel
theorem dX12_forgedOf_115 : decode cX12_forgedOf 115 = .ok (.iload_n 1, 1) := by decide +kernel
theorem dX12_forgedOf_116 : decode cX12_forgedOf 116 = .ok (.imul, 1) := by decide +kernel
theorem dX12_forgedOf_117 : decode cX12_forgedOf 117 = .ok (.iconst 2, 1) := by decide +kernel
theorem dX12_forgedOf_118 : decode cX12_forgedOf 118 = .ok (.iadd, 1) := by decide +kernel
theorem dX12_forgedOf_119 : decode cX12_forgedOf 119 = .ok (.iload_n 2, 1) := by decide +kernel
theorem dX12_forgedOf_120 : decode cX12_forgedOf 120 = .ok (.iastore, 1) := by decide +kernel
theorem dX12_forgedOf_121 : decode cX12_forgedOf 121 = .ok (.iload_n 3, 1) := by decide +kernel
theorem dX12_forgedOf_122 : decode cX12_forgedOf 122 = .ok (.ireturn, 1) := by decide +kernel
theorem dX12_forged_0 : decode cX12_forged 0 = .ok (.aload_n 0, 1) := by decide +kernel
theorem dX12_forged_1 : decode cX12_forged 1 = .ok (.iload_n 1, 1) := by decide +kernel
theorem dX12_forged_2 : decode cX12_forged 2 = .ok (.invokevirtual 166, 3) := by decide +kernel
theorem dX12_forged_5 : decode cX12_forged 5 = .ok (.ifCond .eq 11, 3) := by decide +kernel
theorem dX12_forged_8 : decode cX12_forged 8 = .ok (.aload_n 0, 1) := by decide +kernel
theorem dX12_forged_9 : decode cX12_forged 9 = .ok (.iload_n 1, 1) := by decide +kernel
theorem dX12_forged_10 : decode cX12_forged 10 = .ok (.invokevirtual 303, 3) := by decide +kernel
theorem dX12_forged_13 : decode cX12_forged 13 = .ok (.goto 5, 3) := by decide +kernel
theorem dX12_forged_16 : decode cX12_forged 16 = .ok (.bipush (-2), 2) := by decide +kernel
theorem dX12_forged_18 : decode cX12_forged 18 = .ok (.ireturn, 1) := by decide +kernel
theorem dX12_unlikeNow_0 : decode cX12_unlikeNow 0 = .ok (.iconst 0, 1) := by decide +kernel
theorem dX12_unlikeNow_1 : decode cX12_unlikeNow 1 = .ok (.istore_n 1, 1) := by decide +kernel
theorem dX12_unlikeNow_2 : decode cX12_unlikeNow 2 = .ok (.iconst 0, 1) := by decide +kernel
theorem dX12_unlikeNow_3 : decode cX12_unlikeNow 3 = .ok (.istore_n 2, 1) := by decide +kernel
theorem dX12_unlikeNow_4 : decode cX12_unlikeNow 4 = .ok (.iload_n 2, 1) := by decide +kernel
theorem dX12_unlikeNow_5 : decode cX12_unlikeNow 5 = .ok (.aload_n 0, 1) := by decide +kernel
theorem dX12_unlikeNow_6 : decode cX12_unlikeNow 6 = .ok (.getfield 294, 3) := by decide +kernel
theorem dX12_unlikeNow_9 : decode cX12_unlikeNow 9 = .ok (.if_icmp .ge 33, 3) := by decide +kernel
theorem dX12_unlikeNow_12 : decode cX12_unlikeNow 12 = .ok (.iload_n 1, 1) := by decide +kernel
theorem dX12_unlikeNow_13 : decode cX12_unlikeNow 13 = .ok (.aload_n 0, 1) := by decide +kernel
theorem dX12_unlikeNow_14 : decode cX12_unlikeNow 14 = .ok (.iload_n 2, 1) := by decide +kernel
theorem dX12_unlikeNow_15 : decode cX12_unlikeNow 15 = .ok (.invokevirtual 297, 3) := by decide +kernel
theorem dX12_unlikeNow_18 : decode cX12_unlikeNow 18 = .ok (.ifCond .eq 15, 3) := by decide +kernel
theorem dX12_unlikeNow_21 : decode cX12_unlikeNow 21 = .ok (.aload_n 0, 1) := by decide +kernel
theorem dX12_unlikeNow_22 : decode cX12_unlikeNow 22 = .ok (.iload_n 2, 1) := by decide +kernel
theorem dX12_unlikeNow_23 : decode cX12_unlikeNow 23 = .ok (.invokevirtual 300, 3) := by decide +kernel
theorem dX12_unlikeNow_26 : decode cX12_unlikeNow 26 = .ok (.ifCond .eq 7, 3) := by decide +kernel
theorem dX12_unlikeNow_29 : decode cX12_unlikeNow 29 = .ok (.iconst 0, 1) := by decide +kernel
theorem dX12_unlikeNow_30 : decode cX12_unlikeNow 30 = .ok (.goto 4, 3) := by decide +kernel
theorem dX12_unlikeNow_33 : decode cX12_unlikeNow 33 = .ok (.iconst 1, 1) := by decide +kernel
theorem dX12_unlikeNow_34 : decode cX12_unlikeNow 34 = .ok (.iadd, 1) := by decide +kernel
theorem dX12_unlikeNow_35 : decode cX12_unlikeNow 35 = .ok (.istore_n 1, 1) := by decide +kernel
theorem dX12_unlikeNow_36 : decode cX12_unlikeNow 36 = .ok (.iinc 2 1, 3) := by decide +kernel
theorem dX12_unlikeNow_39 : decode cX12_unlikeNow 39 = .ok (.goto (-35), 3) := by decide +kernel
theorem dX12_unlikeNow_42 : decode cX12_unlikeNow 42 = .ok (.iload_n 1, 1) := by decide +kernel
theorem dX12_unlikeNow_43 : decode cX12_unlikeNow 43 = .ok (.ireturn, 1) := by decide +kernel
theorem dX12_unlike_0 : decode cX12_unlike 0 = .ok (.aload_n 0, 1) := by decide +kernel
theorem dX12_unlike_1 : decode cX12_unlike 1 = .ok (.invokevirtual 163, 3) := by decide +kernel
theorem dX12_unlike_4 : decode cX12_unlike 4 = .ok (.aload_n 0, 1) := by decide +kernel
theorem dX12_unlike_5 : decode cX12_unlike 5 = .ok (.invokevirtual 306, 3) := by decide +kernel
theorem dX12_unlike_8 : decode cX12_unlike 8 = .ok (.ireturn, 1) := by decide +kernel
theorem dX12_withoutOf_0 : decode cX12_withoutOf 0 = .ok (.iload_n 2, 1) := by decide +kernel
theorem dX12_withoutOf_1 : decode cX12_withoutOf 1 = .ok (.i2l, 1) := by decide +kernel
theorem dX12_withoutOf_2 : decode cX12_withoutOf 2 = .ok (.lconst 0, 1) := by decide +kernel
theorem dX12_withoutOf_3 : decode cX12_withoutOf 3 = .ok (.aload_n 0, 1) := by decide +kernel
theorem dX12_withoutOf_4 : decode cX12_withoutOf 4 = .ok (.getfield 138, 3) := by decide +kernel
theorem dX12_withoutOf_7 : decode cX12_withoutOf 7 = .ok (.iconst 1, 1) := by decide +kernel
theorem dX12_withoutOf_8 : decode cX12_withoutOf 8 = .ok (.isub, 1) := by decide +kernel
theorem dX12_withoutOf_9 : decode cX12_withoutOf 9 = .ok (.i2l, 1) := by decide +kernel
theorem dX12_withoutOf_10 : decode cX12_withoutOf 10 = .ok (.invokestatic 95, 3) := by decide +kernel
theorem dX12_withoutOf_13 : decode cX12_withoutOf 13 = .ok (.ifCond .eq 16, 3) := by decide +kernel
theorem dX12_withoutOf_16 : decode cX12_withoutOf 16 = .ok (.aload_n 0, 1) := by decide +kernel
theorem dX12_withoutOf_17 : decode cX12_withoutOf 17 = .ok (.iload_n 2, 1) := by decide +kernel
theorem dX12_withoutOf_18 : decode cX12_withoutOf 18 = .ok (.aload_n 0, 1) := by decide +kernel
theorem dX12_withoutOf_19 : decode cX12_withoutOf 19 = .ok (.getfield 184, 3) := by decide +kernel
theorem dX12_withoutOf_22 : decode cX12_withoutOf 22 = .ok (.iload_n 1, 1) := by decide +kernel
theorem dX12_withoutOf_23 : decode cX12_withoutOf 23 = .ok (.invokevirtual 251, 3) := by decide +kernel
theorem dX12_withoutOf_26 : decode cX12_withoutOf 26 = .ok (.goto 5, 3) := by decide +kernel
theorem dX12_withoutOf_29 : decode cX12_withoutOf 29 = .ok (.bipush (-2), 2) := by decide +kernel
theorem dX12_withoutOf_31 : decode cX12_withoutOf 31 = .ok (.ireturn, 1) := by decide +kernel
theorem dX12_without_0 : decode cX12_without 0 = .ok (.aload_n 0, 1) := by decide +kernel
theorem dX12_without_1 : decode cX12_without 1 = .ok (.invokevirtual 163, 3) := by decide +kernel
theorem dX12_without_4 : decode cX12_without 4 = .ok (.iload_n 1, 1) := by decide +kernel
theorem dX12_without_5 : decode cX12_without 5 = .ok (.i2l, 1) := by decide +kernel
theorem dX12_without_6 : decode cX12_without 6 = .ok (.lconst 0, 1) := by decide +kernel
theorem dX12_without_7 : decode cX12_without 7 = .ok (.aload_n 0, 1) := by decide +kernel
theorem dX12_without_8 : decode cX12_without 8 = .ok (.getfield 184, 3) := by decide +kernel
theorem dX12_without_11 : decode cX12_without 11 = .ok (.iconst 1, 1) := by decide +kernel
theorem dX12_without_12 : decode cX12_without 12 = .ok (.isub, 1) := by decide +kernel
theorem dX12_without_13 : decode cX12_without 13 = .ok (.i2l, 1) := by decide +kernel
theorem dX12_without_14 : decode cX12_without 14 = .ok (.invokestatic 95, 3) := by decide +kernel
theorem dX12_without_17 : decode cX12_without 17 = .ok (.ifCond .eq 12, 3) := by decide +kernel
theorem dX12_without_20 : decode cX12_without 20 = .ok (.aload_n 0, 1) := by decide +kernel
theorem dX12_without_21 : decode cX12_without 21 = .ok (.iload_n 1, 1) := by decide +kernel
theorem dX12_without_22 : decode cX12_without 22 = .ok (.iload_n 2, 1) := by decide +kernel
theorem dX12_without_23 : decode cX12_without 23 = .ok (.invokevirtual 309, 3) := by decide +kernel
theorem dX12_without_26 : decode cX12_without 26 = .ok (.goto 5, 3) := by decide +kernel
theorem dX12_without_29 : decode cX12_without 29 = .ok (.bipush (-2), 2) := by decide +kernel
theorem dX12_without_31 : decode cX12_without 31 = .ok (.ireturn, 1) := by decide +kernel
theorem dX12_blameOf_0 : decode cX12_blameOf 0 = .ok (.iconst (-1), 1) := by decide +kernel
theorem dX12_blameOf_1 : decode cX12_blameOf 1 = .ok (.istore_n 2, 1) := by decide +kernel
theorem dX12_blameOf_2 : decode cX12_blameOf 2 = .ok (.aload_n 0, 1) := by decide +kernel
theorem dX12_blameOf_3 : decode cX12_blameOf 3 = .ok (.iload_n 1, 1) := by decide +kernel
theorem dX12_blameOf_4 : decode cX12_blameOf 4 = .ok (.aload_n 0, 1) := by decide +kernel
theorem dX12_blameOf_5 : decode cX12_blameOf 5 = .ok (.getfield 184, 3) := by decide +kernel
theorem dX12_blameOf_8 : decode cX12_blameOf 8 = .ok (.iconst (-1), 1) := by decide +kernel
theorem dX12_blameOf_9 : decode cX12_blameOf 9 = .ok (.invokevirtual 251, 3) := by decide +kernel
theorem dX12_blameOf_12 : decode cX12_blameOf 12 = .ok (.istore_n 3, 1) := by decide +kernel
theorem dX12_blameOf_13 : decode cX12_blameOf 13 = .ok (.iconst 0, 1) := by decide +kernel
theorem dX12_blameOf_14 : decode cX12_blameOf 14 = .ok (.istore 4, 2) := by decide +kernel
theorem dX12_blameOf_16 : decode cX12_blameOf 16 = .ok (.iload 4, 2) := by decide +kernel
theorem dX12_blameOf_18 : decode cX12_blameOf 18 = .ok (.aload_n 0, 1) := by decide +kernel
theorem dX12_blameOf_19 : decode cX12_blameOf 19 = .ok (.getfield 184, 3) := by decide +kernel
theorem dX12_blameOf_22 : decode cX12_blameOf 22 = .ok (.if_icmp .ge 48, 3) := by decide +kernel
theorem dX12_blameOf_25 : decode cX12_blameOf 25 = .ok (.aload_n 0, 1) := by decide +kernel
theorem dX12_blameOf_26 : decode cX12_blameOf 26 = .ok (.iload_n 1, 1) := by decide +kernel
theorem dX12_blameOf_27 : decode cX12_blameOf 27 = .ok (.aload_n 0, 1) := by decide +kernel
theorem dX12_blameOf_28 : decode cX12_blameOf 28 = .ok (.getfield 184, 3) := by decide +kernel
theorem dX12_blameOf_31 : decode cX12_blameOf 31 = .ok (.iload 4, 2) := by decide +kernel
theorem dX12_blameOf_33 : decode cX12_blameOf 33 = .ok (.invokevirtual 251, 3) := by decide +kernel
theorem dX12_blameOf_36 : decode cX12_blameOf 36 = .ok (.istore 5, 2) := by decide +kernel
theorem dX12_blameOf_38 : decode cX12_blameOf 38 = .ok (.iload 5, 2) := by decide +kernel
theorem dX12_blameOf_40 : decode cX12_blameOf 40 = .ok (.iload_n 3, 1) := by decide +kernel
theorem dX12_blameOf_41 : decode cX12_blameOf 41 = .ok (.if_icmp .le 8, 3) := by decide +kernel
theorem dX12_blameOf_44 : decode cX12_blameOf 44 = .ok (.iload 4, 2) := by decide +kernel
theorem dX12_blameOf_46 : decode cX12_blameOf 46 = .ok (.goto 4, 3) := by decide +kernel
theorem dX12_blameOf_49 : decode cX12_blameOf 49 = .ok (.iload_n 2, 1) := by decide +kernel
theorem dX12_blameOf_50 : decode cX12_blameOf 50 = .ok (.istore_n 2, 1) := by decide +kernel
theorem dX12_blameOf_51 : decode cX12_blameOf 51 = .ok (.iload 5, 2) := by decide +kernel
theorem dX12_blameOf_53 : decode cX12_blameOf 53 = .ok (.iload_n 3, 1) := by decide +kernel
theorem dX12_blameOf_54 : decode cX12_blameOf 54 = .ok (.if_icmp .le 8, 3) := by decide +kernel
theorem dX12_blameOf_57 : decode cX12_blameOf 57 = .ok (.iload 5, 2) := by decide +kernel
theorem dX12_blameOf_59 : decode cX12_blameOf 59 = .ok (.goto 4, 3) := by decide +kernel
theorem dX12_blameOf_62 : decode cX12_blameOf 62 = .ok (.iload_n 3, 1) := by decide +kernel
theorem dX12_blameOf_63 : decode cX12_blameOf 63 = .ok (.istore_n 3, 1) := by decide +kernel
theorem dX12_blameOf_64 : decode cX12_blameOf 64 = .ok (.iinc 4 1, 3) := by decide +kernel
theorem dX12_blameOf_67 : decode cX12_blameOf 67 = .ok (.goto (-51), 3) := by decide +kernel
theorem dX12_blameOf_70 : decode cX12_blameOf 70 = .ok (.iload_n 2, 1) := by decide +kernel
theorem dX12_blameOf_71 : decode cX12_blameOf 71 = .ok (.ireturn, 1) := by decide +kernel
theorem dX12_blame_0 : decode cX12_blame 0 = .ok (.aload_n 0, 1) := by decide +kernel
theorem dX12_blame_1 : decode cX12_blame 1 = .ok (.iload_n 1, 1) := by decide +kernel
theorem dX12_blame_2 : decode cX12_blame 2 = .ok (.invokevirtual 245, 3) := by decide +kernel
theorem dX12_blame_5 : decode cX12_blame 5 = .ok (.ifCond .eq 11, 3) := by decide +kernel
theorem dX12_blame_8 : decode cX12_blame 8 = .ok (.aload_n 0, 1) := by decide +kernel
theorem dX12_blame_9 : decode cX12_blame 9 = .ok (.iload_n 1, 1) := by decide +kernel
theorem dX12_blame_10 : decode cX12_blame 10 = .ok (.invokevirtual 312, 3) := by decide +kernel
theorem dX12_blame_13 : decode cX12_blame 13 = .ok (.goto 5, 3) := by decide +kernel
theorem dX12_blame_16 : decode cX12_blame 16 = .ok (.bipush (-2), 2) := by decide +kernel
theorem dX12_blame_18 : decode cX12_blame 18 = .ok (.ireturn, 1) := by decide +kernel
theorem dX12_freeOf_0 : decode cX12_freeOf 0 = .ok (.iconst 0, 1) := by decide +kernel
theorem dX12_freeOf_1 : decode cX12_freeOf 1 = .ok (.istore_n 3, 1) := by decide +kernel
theorem dX12_freeOf_2 : decode cX12_freeOf 2 = .ok (.iconst 0, 1) := by decide +kernel
theorem dX12_freeOf_3 : decode cX12_freeOf 3 = .ok (.istore 4, 2) := by decide +kernel
theorem dX12_freeOf_5 : decode cX12_freeOf 5 = .ok (.iload 4, 2) := by decide +kernel
theorem dX12_freeOf_7 : decode cX12_freeOf 7 = .ok (.aload_n 0, 1) := by decide +kernel
theorem dX12_freeOf_8 : decode cX12_freeOf 8 = .ok (.getfield 144, 3) := by decide +kernel
theorem dX12_freeOf_11 : decode cX12_freeOf 11 = .ok (.if_icmp .ge 46, 3) := by decide +kernel
theorem dX12_freeOf_14 : decode cX12_freeOf 14 = .ok (.aload_n 0, 1) := by decide +kernel
theorem dX12_freeOf_15 : decode cX12_freeOf 15 = .ok (.getfield 31, 3) := by decide +kernel
theorem dX12_freeOf_18 : decode cX12_freeOf 18 = .ok (.iconst 4, 1) := by decide +kernel
theorem dX12_freeOf_19 : decode cX12_freeOf 19 = .ok (.iload 4, 2) := by decide +kernel
theorem dX12_freeOf_21 : decode cX12_freeOf 21 = .ok (.imul, 1) := by decide +kernel
theorem dX12_freeOf_22 : decode cX12_freeOf 22 = .ok (.iconst 1, 1) := by decide +kernel
theorem dX12_freeOf_23 : decode cX12_freeOf 23 = .ok (.iadd, 1) := by decide +kernel
theorem dX12_freeOf_24 : decode cX12_freeOf 24 = .ok (.iaload, 1) := by decide +kernel
theorem dX12_freeOf_25 : decode cX12_freeOf 25 = .ok (.iload_n 1, 1) := by decide +kernel
theorem dX12_freeOf_26 : decode cX12_freeOf 26 = .ok (.if_icmp .ne 25, 3) := by decide +kernel
theorem dX12_freeOf_29 : decode cX12_freeOf 29 = .ok (.aload_n 0, 1) := by decide +kernel
theorem dX12_freeOf_30 : decode cX12_freeOf 30 = .ok (.iload 4, 2) := by decide +kernel
theorem dX12_freeOf_32 : decode cX12_freeOf 32 = .ok (.invokevirtual 212, 3) := by decide +kernel
theorem dX12_freeOf_35 : decode cX12_freeOf 35 = .ok (.ifCond .eq 16, 3) := by decide +kernel
theorem dX12_freeOf_38 : decode cX12_freeOf 38 = .ok (.iload_n 3, 1) := by decide +kernel
theorem dX12_freeOf_39 : decode cX12_freeOf 39 = .ok (.iconst 4, 1) := by decide +kernel
theorem dX12_freeOf_40 : decode cX12_freeOf 40 = .ok (.if_icmp .ge 8, 3) := by decide +kernel
theorem dX12_freeOf_43 : decode cX12_freeOf 43 = .ok (.aload_n 2, 1) := by decide +kernel
theorem dX12_freeOf_44 : decode cX12_freeOf 44 = .ok (.iload_n 3, 1) := by decide +kernel
theorem dX12_freeOf_45 : decode cX12_freeOf 45 = .ok (.iload 4, 2) := by decide +kernel
theorem dX12_freeOf_47 : decode cX12_freeOf 47 = .ok (.iastore, 1) := by decide +kernel
theorem dX12_freeOf_48 : decode cX12_freeOf 48 = .ok (.iinc 3 1, 3) := by decide +kernel
theorem dX12_freeOf_51 : decode cX12_freeOf 51 = .ok (.iinc 4 1, 3) := by decide +kernel
theorem dX12_freeOf_54 : decode cX12_freeOf 54 = .ok (.goto (-49), 3) := by decide +kernel
theorem dX12_freeOf_57 : decode cX12_freeOf 57 = .ok (.iload_n 3, 1) := by decide +kernel
theorem dX12_freeOf_58 : decode cX12_freeOf 58 = .ok (.ireturn, 1) := by decide +kernel
theorem dX12_mayPick_0 : decode cX12_mayPick 0 = .ok (.iload_n 2, 1) := by decide +kernel
theorem dX12_mayPick_1 : decode cX12_mayPick 1 = .ok (.iconst 4, 1) := by decide +kernel
theorem dX12_mayPick_2 : decode cX12_mayPick 2 = .ok (.idiv, 1) := by decide +kernel
theorem dX12_mayPick_3 : decode cX12_mayPick 3 = .ok (.istore_n 3, 1) := by decide +kernel
theorem dX12_mayPick_4 : decode cX12_mayPick 4 = .ok (.iload_n 2, 1) := by decide +kernel
theorem dX12_mayPick_5 : decode cX12_mayPick 5 = .ok (.iconst 4, 1) := by decide +kernel
theorem dX12_mayPick_6 : decode cX12_mayPick 6 = .ok (.irem, 1) := by decide +kernel
theorem dX12_mayPick_7 : decode cX12_mayPick 7 = .ok (.istore 4, 2) := by decide +kernel
theorem dX12_mayPick_9 : decode cX12_mayPick 9 = .ok (.iload_n 3, 1) := by decide +kernel
theorem dX12_mayPick_10 : decode cX12_mayPick 10 = .ok (.aload_n 0, 1) := by decide +kernel
theorem dX12_mayPick_11 : decode cX12_mayPick 11 = .ok (.getfield 315, 3) := by decide +kernel
theorem dX12_mayPick_14 : decode cX12_mayPick 14 = .ok (.if_icmp .ge 45, 3) := by decide +kernel
theorem dX12_mayPick_17 : decode cX12_mayPick 17 = .ok (.iload 4, 2) := by decide +kernel
theorem dX12_mayPick_19 : decode cX12_mayPick 19 = .ok (.aload_n 0, 1) := by decide +kernel
theorem dX12_mayPick_20 : decode cX12_mayPick 20 = .ok (.getfield 318, 3) := by decide +kernel
theorem dX12_mayPick_23 : decode cX12_mayPick 23 = .ok (.if_icmp .ge 36, 3) := by decide +kernel
theorem dX12_mayPick_26 : decode cX12_mayPick 26 = .ok (.aload_n 0, 1) := by decide +kernel
theorem dX12_mayPick_27 : decode cX12_mayPick 27 = .ok (.getfield 89, 3) := by decide +kernel
theorem dX12_mayPick_30 : decode cX12_mayPick 30 = .ok (.iload_n 1, 1) := by decide +kernel
theorem dX12_mayPick_31 : decode cX12_mayPick 31 = .ok (.iaload, 1) := by decide +kernel
theorem dX12_mayPick_32 : decode cX12_mayPick 32 = .ok (.iload_n 3, 1) := by decide +kernel
theorem dX12_mayPick_33 : decode cX12_mayPick 33 = .ok (.ishr, 1) := by decide +kernel
theorem dX12_mayPick_34 : decode cX12_mayPick 34 = .ok (.iconst 1, 1) := by decide +kernel
theorem dX12_mayPick_35 : decode cX12_mayPick 35 = .ok (.iand, 1) := by decide +kernel
theorem dX12_mayPick_36 : decode cX12_mayPick 36 = .ok (.ifCond .ne 23, 3) := by decide +kernel
theorem dX12_mayPick_39 : decode cX12_mayPick 39 = .ok (.aload_n 0, 1) := by decide +kernel
theorem dX12_mayPick_40 : decode cX12_mayPick 40 = .ok (.getfield 89, 3) := by decide +kernel
theorem dX12_mayPick_43 : decode cX12_mayPick 43 = .ok (.iload_n 1, 1) := by decide +kernel
theorem dX12_mayPick_44 : decode cX12_mayPick 44 = .ok (.iaload, 1) := by decide +kernel
theorem dX12_mayPick_45 : decode cX12_mayPick 45 = .ok (.iconst 4, 1) := by decide +kernel
theorem dX12_mayPick_46 : decode cX12_mayPick 46 = .ok (.iload 4, 2) := by decide +kernel
theorem dX12_mayPick_48 : decode cX12_mayPick 48 = .ok (.iadd, 1) := by decide +kernel
theorem dX12_mayPick_49 : decode cX12_mayPick 49 = .ok (.ishr, 1) := by decide +kernel
theorem dX12_mayPick_50 : decode cX12_mayPick 50 = .ok (.iconst 1, 1) := by decide +kernel
theorem dX12_mayPick_51 : decode cX12_mayPick 51 = .ok (.iand, 1) := by decide +kernel
theorem dX12_mayPick_52 : decode cX12_mayPick 52 = .ok (.ifCond .ne 7, 3) := by decide +kernel
theorem dX12_mayPick_55 : decode cX12_mayPick 55 = .ok (.iconst 1, 1) := by decide +kernel
theorem dX12_mayPick_56 : decode cX12_mayPick 56 = .ok (.goto 4, 3) := by decide +kernel
theorem dX12_mayPick_59 : decode cX12_mayPick 59 = .ok (.iconst 0, 1) := by decide +kernel
theorem dX12_mayPick_60 : decode cX12_mayPick 60 = .ok (.istore 5, 2) := by decide +kernel
theorem dX12_mayPick_62 : decode cX12_mayPick 62 = .ok (.iload 5, 2) := by decide +kernel
theorem dX12_mayPick_64 : decode cX12_mayPick 64 = .ok (.ifCond .eq 37, 3) := by decide +kernel
theorem dX12_mayPick_67 : decode cX12_mayPick 67 = .ok (.aload_n 0, 1) := by decide +kernel
theorem dX12_mayPick_68 : decode cX12_mayPick 68 = .ok (.getfield 31, 3) := by decide +kernel
theorem dX12_mayPick_71 : decode cX12_mayPick 71 = .ok (.iconst 4, 1) := by decide +kernel
theorem dX12_mayPick_72 : decode cX12_mayPick 72 = .ok (.aload_n 0, 1) := by decide +kernel
theorem dX12_mayPick_73 : decode cX12_mayPick 73 = .ok (.getfield 73, 3) := by decide +kernel
theorem dX12_mayPick_76 : decode cX12_mayPick 76 = .ok (.iload_n 3, 1) := by decide +kernel
theorem dX12_mayPick_77 : decode cX12_mayPick 77 = .ok (.iaload, 1) := by decide +kernel
theorem dX12_mayPick_78 : decode cX12_mayPick 78 = .ok (.imul, 1) := by decide +kernel
theorem dX12_mayPick_79 : decode cX12_mayPick 79 = .ok (.iaload, 1) := by decide +kernel
theorem dX12_mayPick_80 : decode cX12_mayPick 80 = .ok (.aload_n 0, 1) := by decide +kernel
theorem dX12_mayPick_81 : decode cX12_mayPick 81 = .ok (.getfield 31, 3) := by decide +kernel
theorem dX12_mayPick_84 : decode cX12_mayPick 84 = .ok (.iconst 4, 1) := by decide +kernel
theorem dX12_mayPick_85 : decode cX12_mayPick 85 = .ok (.aload_n 0, 1) := by decide +kernel
theorem dX12_mayPick_86 : decode cX12_mayPick 86 = .ok (.getfield 76, 3) := by decide +kernel
theorem dX12_mayPick_89 : decode cX12_mayPick 89 = .ok (.iload 4, 2) := by decide +kernel
theorem dX12_mayPick_91 : decode cX12_mayPick 91 = .ok (.iaload, 1) := by decide +kernel
theorem dX12_mayPick_92 : decode cX12_mayPick 92 = .ok (.imul, 1) := by decide +kernel
theorem dX12_mayPick_93 : decode cX12_mayPick 93 = .ok (.iaload, 1) := by decide +kernel
theorem dX12_mayPick_94 : decode cX12_mayPick 94 = .ok (.if_icmp .eq 7, 3) := by decide +kernel
theorem dX12_mayPick_97 : decode cX12_mayPick 97 = .ok (.iconst 1, 1) := by decide +kernel
theorem dX12_mayPick_98 : decode cX12_mayPick 98 = .ok (.goto 4, 3) := by decide +kernel
theorem dX12_mayPick_101 : decode cX12_mayPick 101 = .ok (.iconst 0, 1) := by decide +kernel
theorem dX12_mayPick_102 : decode cX12_mayPick 102 = .ok (.ireturn, 1) := by decide +kernel
theorem dX12_widthBehind_0 : decode cX12_widthBehind 0 = .ok (.aload_n 0, 1) := by decide +kernel
theorem dX12_widthBehind_1 : decode cX12_widthBehind 1 = .ok (.aload_n 0, 1) := by decide +kernel
theorem dX12_widthBehind_2 : decode cX12_widthBehind 2 = .ok (.getfield 73, 3) := by decide +kernel
theorem dX12_widthBehind_5 : decode cX12_widthBehind 5 = .ok (.iload_n 3, 1) := by decide +kernel
theorem dX12_widthBehind_6 : decode cX12_widthBehind 6 = .ok (.iconst 4, 1) := by decide +kernel
theorem dX12_widthBehind_7 : decode cX12_widthBehind 7 = .ok (.idiv, 1) := by decide +kernel
theorem dX12_widthBehind_8 : decode cX12_widthBehind 8 = .ok (.iaload, 1) := by decide +kernel
theorem dX12_widthBehind_9 : decode cX12_widthBehind 9 = .ok (.aload_n 0, 1) := by decide +kernel
theorem dX12_widthBehind_10 : decode cX12_widthBehind 10 = .ok (.getfield 76, 3) := by decide +kernel
theorem dX12_widthBehind_13 : decode cX12_widthBehind 13 = .ok (.iload_n 3, 1) := by decide +kernel
theorem dX12_widthBehind_14 : decode cX12_widthBehind 14 = .ok (.iconst 4, 1) := by decide +kernel
theorem dX12_widthBehind_15 : decode cX12_widthBehind 15 = .ok (.irem, 1) := by decide +kernel
theorem dX12_widthBehind_16 : decode cX12_widthBehind 16 = .ok (.iaload, 1) := by decide +kernel
theorem dX12_widthBehind_17 : decode cX12_widthBehind 17 = .ok (.invokevirtual 267, 3) := by decide +kernel
theorem dX12_widthBehind_20 : decode cX12_widthBehind 20 = .ok (.istore 4, 2) := by decide +kernel
theorem dX12_widthBehind_22 : decode cX12_widthBehind 22 = .ok (.iload_n 1, 1) := by decide +kernel
theorem dX12_widthBehind_23 : decode cX12_widthBehind 23 = .ok (.iload 4, 2) := by decide +kernel
theorem dX12_widthBehind_25 : decode cX12_widthBehind 25 = .ok (.iadd, 1) := by decide +kernel
theorem dX12_widthBehind_26 : decode cX12_widthBehind 26 = .ok (.istore 5, 2) := by decide +kernel
theorem dX12_widthBehind_28 : decode cX12_widthBehind 28 = .ok (.iload 5, 2) := by decide +kernel
theorem dX12_widthBehind_30 : decode cX12_widthBehind 30 = .ok (.ifCond .ge 7, 3) := by decide +kernel
theorem dX12_widthBehind_33 : decode cX12_widthBehind 33 = .ok (.iconst 0, 1) := by decide +kernel
theorem dX12_widthBehind_34 : decode cX12_widthBehind 34 = .ok (.goto 15, 3) := by decide +kernel
theorem dX12_widthBehind_37 : decode cX12_widthBehind 37 = .ok (.iload 5, 2) := by decide +kernel
theorem dX12_widthBehind_39 : decode cX12_widthBehind 39 = .ok (.iload_n 2, 1) := by decide +kernel
theorem dX12_widthBehind_40 : decode cX12_widthBehind 40 = .ok (.if_icmp .le 7, 3) := by decide +kernel
theorem dX12_widthBehind_43 : decode cX12_widthBehind 43 = .ok (.iload_n 2, 1) := by decide +kernel
theorem dX12_widthBehind_44 : decode cX12_widthBehind 44 = .ok (.goto 5, 3) := by decide +kernel
theorem dX12_widthBehind_47 : decode cX12_widthBehind 47 = .ok (.iload 5, 2) := by decide +kernel
theorem dX12_widthBehind_49 : decode cX12_widthBehind 49 = .ok (.ireturn, 1) := by decide +kernel
theorem dX12_turnsOf_0 : decode cX12_turnsOf 0 = .ok (.aload_n 0, 1) := by decide +kernel
theorem dX12_turnsOf_1 : decode cX12_turnsOf 1 = .ok (.invokevirtual 242, 3) := by decide +kernel
theorem dX12_turnsOf_4 : decode cX12_turnsOf 4 = .ok (.aload_n 0, 1) := by decide +kernel
theorem dX12_turnsOf_5 : decode cX12_turnsOf 5 = .ok (.aload_n 0, 1) := by decide +kernel
theorem dX12_turnsOf_6 : decode cX12_turnsOf 6 = .ok (.iload_n 1, 1) := by decide +kernel
theorem dX12_turnsOf_7 : decode cX12_turnsOf 7 = .ok (.aload_n 0, 1) := by decide +kernel
theorem dX12_turnsOf_8 : decode cX12_turnsOf 8 = .ok (.getfield 73, 3) := by decide +kernel
theorem dX12_turnsOf_11 : decode cX12_turnsOf 11 = .ok (.invokevirtual 321, 3) := by decide +kernel
theorem dX12_turnsOf_14 : decode cX12_turnsOf 14 = .ok (.putfield 315, 3) := by decide +kernel
theorem dX12_turnsOf_17 : decode cX12_turnsOf 17 = .ok (.aload_n 0, 1) := by decide +kernel
theorem dX12_turnsOf_18 : decode cX12_turnsOf 18 = .ok (.aload_n 0, 1) := by decide +kernel
theorem dX12_turnsOf_19 : decode cX12_turnsOf 19 = .ok (.iload_n 2, 1) := by decide +kernel
theorem dX12_turnsOf_20 : decode cX12_turnsOf 20 = .ok (.aload_n 0, 1) := by decide +kernel
theorem dX12_turnsOf_21 : decode cX12_turnsOf 21 = .ok (.getfield 76, 3) := by decide +kernel
theorem dX12_turnsOf_24 : decode cX12_turnsOf 24 = .ok (.invokevirtual 321, 3) := by decide +kernel
theorem dX12_turnsOf_27 : decode cX12_turnsOf 27 = .ok (.putfield 318, 3) := by decide +kernel
theorem dX12_turnsOf_30 : decode cX12_turnsOf 30 = .ok (.aload_n 0, 1) := by decide +kernel
theorem dX12_turnsOf_31 : decode cX12_turnsOf 31 = .ok (.getfield 315, 3) := by decide +kernel
theorem dX12_turnsOf_34 : decode cX12_turnsOf 34 = .ok (.iconst 4, 1) := by decide +kernel
theorem dX12_turnsOf_35 : decode cX12_turnsOf 35 = .ok (.if_icmp .gt 11, 3) := by decide +kernel
theorem dX12_turnsOf_38 : decode cX12_turnsOf 38 = .ok (.aload_n 0, 1) := by decide +kernel
theorem dX12_turnsOf_39 : decode cX12_turnsOf 39 = .ok (.getfield 318, 3) := by decide +kernel
theorem dX12_turnsOf_42 : decode cX12_turnsOf 42 = .ok (.iconst 4, 1) := by decide +kernel
theorem dX12_turnsOf_43 : decode cX12_turnsOf 43 = .ok (.if_icmp .le 7, 3) := by decide +kernel
theorem dX12_turnsOf_46 : decode cX12_turnsOf 46 = .ok (.sipush (-10004), 3) := by decide +kernel
theorem dX12_turnsOf_49 : decode cX12_turnsOf 49 = .ok (.ireturn, 1) := by decide +kernel
theorem dX12_turnsOf_50 : decode cX12_turnsOf 50 = .ok (.aload_n 0, 1) := by decide +kernel
theorem dX12_turnsOf_51 : decode cX12_turnsOf 51 = .ok (.getfield 40, 3) := by decide +kernel
theorem dX12_turnsOf_54 : decode cX12_turnsOf 54 = .ok (.iload_n 1, 1) := by decide +kernel
theorem dX12_turnsOf_55 : decode cX12_turnsOf 55 = .ok (.iaload, 1) := by decide +kernel
theorem dX12_turnsOf_56 : decode cX12_turnsOf 56 = .ok (.aload_n 0, 1) := by decide +kernel
theorem dX12_turnsOf_57 : decode cX12_turnsOf 57 = .ok (.getfield 40, 3) := by decide +kernel
theorem dX12_turnsOf_60 : decode cX12_turnsOf 60 = .ok (.iload_n 2, 1) := by decide +kernel
theorem dX12_turnsOf_61 : decode cX12_turnsOf 61 = .ok (.iaload, 1) := by decide +kernel
theorem dX12_turnsOf_62 : decode cX12_turnsOf 62 = .ok (.iadd, 1) := by decide +kernel
theorem dX12_turnsOf_63 : decode cX12_turnsOf 63 = .ok (.istore 4, 2) := by decide +kernel
theorem dX12_turnsOf_65 : decode cX12_turnsOf 65 = .ok (.aload_n 0, 1) := by decide +kernel
theorem dX12_turnsOf_66 : decode cX12_turnsOf 66 = .ok (.iconst (-1), 1) := by decide +kernel
theorem dX12_turnsOf_67 : decode cX12_turnsOf 67 = .ok (.putfield 325, 3) := by decide +kernel
theorem dX12_turnsOf_70 : decode cX12_turnsOf 70 = .ok (.iconst 0, 1) := by decide +kernel
theorem dX12_turnsOf_71 : decode cX12_turnsOf 71 = .ok (.istore 5, 2) := by decide +kernel
theorem dX12_turnsOf_73 : decode cX12_turnsOf 73 = .ok (.aload_n 0, 1) := by decide +kernel
theorem dX12_turnsOf_74 : decode cX12_turnsOf 74 = .ok (.iconst 0, 1) := by decide +kernel
theorem dX12_turnsOf_75 : decode cX12_turnsOf 75 = .ok (.iconst 0, 1) := by decide +kernel
theorem dX12_turnsOf_76 : decode cX12_turnsOf 76 = .ok (.aload_n 0, 1) := by decide +kernel
theorem dX12_turnsOf_77 : decode cX12_turnsOf 77 = .ok (.getfield 40, 3) := by decide +kernel
theorem dX12_turnsOf_80 : decode cX12_turnsOf 80 = .ok (.iload_n 1, 1) := by decide +kernel
theorem dX12_turnsOf_81 : decode cX12_turnsOf 81 = .ok (.iaload, 1) := by decide +kernel
theorem dX12_turnsOf_82 : decode cX12_turnsOf 82 = .ok (.invokevirtual 328, 3) := by decide +kernel
theorem dX12_turnsOf_85 : decode cX12_turnsOf 85 = .ok (.iconst 0, 1) := by decide +kernel
theorem dX12_turnsOf_86 : decode cX12_turnsOf 86 = .ok (.istore 6, 2) := by decide +kernel
theorem dX12_turnsOf_88 : decode cX12_turnsOf 88 = .ok (.iload 5, 2) := by decide +kernel
theorem dX12_turnsOf_90 : decode cX12_turnsOf 90 = .ok (.ifCond .lt 185, 3) := by decide +kernel
theorem dX12_turnsOf_93 : decode cX12_turnsOf 93 = .ok (.aload_n 0, 1) := by decide +kernel
theorem dX12_turnsOf_94 : decode cX12_turnsOf 94 = .ok (.getfield 79, 3) := by decide +kernel
theorem dX12_turnsOf_97 : decode cX12_turnsOf 97 = .ok (.iload 5, 2) := by decide +kernel
theorem dX12_turnsOf_99 : decode cX12_turnsOf 99 = .ok (.iaload, 1) := by decide +kernel
theorem dX12_turnsOf_100 : decode cX12_turnsOf 100 = .ok (.bipush 16, 2) := by decide +kernel
theorem dX12_turnsOf_102 : decode cX12_turnsOf 102 = .ok (.if_icmp .ge 33, 3) := by decide +kernel
theorem dX12_turnsOf_105 : decode cX12_turnsOf 105 = .ok (.aload_n 0, 1) := by decide +kernel
theorem dX12_turnsOf_106 : decode cX12_turnsOf 106 = .ok (.iload 5, 2) := by decide +kernel
theorem dX12_turnsOf_108 : decode cX12_turnsOf 108 = .ok (.aload_n 0, 1) := by decide +kernel
theorem dX12_turnsOf_109 : decode cX12_turnsOf 109 = .ok (.getfield 79, 3) := by decide +kernel
theorem dX12_turnsOf_112 : decode cX12_turnsOf 112 = .ok (.iload 5, 2) := by decide +kernel
theorem dX12_turnsOf_114 : decode cX12_turnsOf 114 = .ok (.iaload, 1) := by decide +kernel
theorem dX12_turnsOf_115 : decode cX12_turnsOf 115 = .ok (.invokevirtual 332, 3) := by decide +kernel
theorem dX12_turnsOf_118 : decode cX12_turnsOf 118 = .ok (.ifCond .ne 17, 3) := by decide +kernel
theorem dX12_turnsOf_121 : decode cX12_turnsOf 121 = .ok (.aload_n 0, 1) := by decide +kernel
theorem dX12_turnsOf_122 : decode cX12_turnsOf 122 = .ok (.getfield 79, 3) := by decide +kernel
theorem dX12_turnsOf_125 : decode cX12_turnsOf 125 = .ok (.iload 5, 2) := by decide +kernel
theorem dX12_turnsOf_127 : decode cX12_turnsOf 127 = .ok (.dup2, 1) := by decide +kernel
theorem dX12_turnsOf_128 : decode cX12_turnsOf 128 = .ok (.iaload, 1) := by decide +kernel
theorem dX12_turnsOf_129 : decode cX12_turnsOf 129 = .ok (.iconst 1, 1) := by decide +kernel
theorem dX12_turnsOf_130 : decode cX12_turnsOf 130 = .ok (.iadd, 1) := by decide +kernel
theorem dX12_turnsOf_131 : decode cX12_turnsOf 131 = .ok (.iastore, 1) := by decide +kernel
theorem dX12_turnsOf_132 : decode cX12_turnsOf 132 = .ok (.goto (-39), 3) := by decide +kernel
theorem dX12_turnsOf_135 : decode cX12_turnsOf 135 = .ok (.aload_n 0, 1) := by decide +kernel
theorem dX12_turnsOf_136 : decode cX12_turnsOf 136 = .ok (.getfield 79, 3) := by decide +kernel
theorem dX12_turnsOf_139 : decode cX12_turnsOf 139 = .ok (.iload 5, 2) := by decide +kernel
theorem dX12_turnsOf_141 : decode cX12_turnsOf 141 = .ok (.iaload, 1) := by decide +kernel
theorem dX12_turnsOf_142 : decode cX12_turnsOf 142 = .ok (.bipush 16, 2) := by decide +kernel
theorem dX12_turnsOf_144 : decode cX12_turnsOf 144 = .ok (.if_icmp .ge 67, 3) := by decide +kernel
theorem dX12_turnsOf_147 : decode cX12_turnsOf 147 = .ok (.aload_n 0, 1) := by decide +kernel
theorem dX12_turnsOf_148 : decode cX12_turnsOf 148 = .ok (.getfield 79, 3) := by decide +kernel
theorem dX12_turnsOf_151 : decode cX12_turnsOf 151 = .ok (.iload 5, 2) := by decide +kernel
theorem dX12_turnsOf_153 : decode cX12_turnsOf 153 = .ok (.iaload, 1) := by decide +kernel
theorem dX12_turnsOf_154 : decode cX12_turnsOf 154 = .ok (.istore 7, 2) := by decide +kernel
theorem dX12_turnsOf_156 : decode cX12_turnsOf 156 = .ok (.aload_n 0, 1) := by decide +kernel
theorem dX12_turnsOf_157 : decode cX12_turnsOf 157 = .ok (.aload_n 0, 1) := by decide +kernel
theorem dX12_turnsOf_158 : decode cX12_turnsOf 158 = .ok (.getfield 92, 3) := by decide +kernel
theorem dX12_turnsOf_161 : decode cX12_turnsOf 161 = .ok (.iload 5, 2) := by decide +kernel
theorem dX12_turnsOf_163 : decode cX12_turnsOf 163 = .ok (.iaload, 1) := by decide +kernel
theorem dX12_turnsOf_164 : decode cX12_turnsOf 164 = .ok (.iload 4, 2) := by decide +kernel
theorem dX12_turnsOf_166 : decode cX12_turnsOf 166 = .ok (.iload 7, 2) := by decide +kernel
theorem dX12_turnsOf_168 : decode cX12_turnsOf 168 = .ok (.invokevirtual 335, 3) := by decide +kernel
theorem dX12_turnsOf_171 : decode cX12_turnsOf 171 = .ok (.istore 8, 2) := by decide +kernel
theorem dX12_turnsOf_173 : decode cX12_turnsOf 173 = .ok (.aload_n 0, 1) := by decide +kernel
theorem dX12_turnsOf_174 : decode cX12_turnsOf 174 = .ok (.iload 5, 2) := by decide +kernel
theorem dX12_turnsOf_176 : decode cX12_turnsOf 176 = .ok (.iconst 1, 1) := by decide +kernel
theorem dX12_turnsOf_177 : decode cX12_turnsOf 177 = .ok (.iadd, 1) := by decide +kernel
theorem dX12_turnsOf_178 : decode cX12_turnsOf 178 = .ok (.aload_n 0, 1) := by decide +kernel
theorem dX12_turnsOf_179 : decode cX12_turnsOf 179 = .ok (.getfield 89, 3) := by decide +kernel
theorem dX12_turnsOf_182 : decode cX12_turnsOf 182 = .ok (.iload 5, 2) := by decide +kernel
theorem dX12_turnsOf_184 : decode cX12_turnsOf 184 = .ok (.iaload, 1) := by decide +kernel
theorem dX12_turnsOf_185 : decode cX12_turnsOf 185 = .ok (.iconst 1, 1) := by decide +kernel
theorem dX12_turnsOf_186 : decode cX12_turnsOf 186 = .ok (.iload 7, 2) := by decide +kernel
theorem dX12_turnsOf_188 : decode cX12_turnsOf 188 = .ok (.iconst 4, 1) := by decide +kernel
theorem dX12_turnsOf_189 : decode cX12_turnsOf 189 = .ok (.idiv, 1) := by decide +kernel
theorem dX12_turnsOf_190 : decode cX12_turnsOf 190 = .ok (.ishl, 1) := by decide +kernel
theorem dX12_turnsOf_191 : decode cX12_turnsOf 191 = .ok (.ior, 1) := by decide +kernel
theorem dX12_turnsOf_192 : decode cX12_turnsOf 192 = .ok (.bipush 16, 2) := by decide +kernel
theorem dX12_turnsOf_194 : decode cX12_turnsOf 194 = .ok (.iload 7, 2) := by decide +kernel
theorem dX12_turnsOf_196 : decode cX12_turnsOf 196 = .ok (.iconst 4, 1) := by decide +kernel
theorem dX12_turnsOf_197 : decode cX12_turnsOf 197 = .ok (.irem, 1) := by decide +kernel
theorem dX12_turnsOf_198 : decode cX12_turnsOf 198 = .ok (.ishl, 1) := by decide +kernel
theorem dX12_turnsOf_199 : decode cX12_turnsOf 199 = .ok (.ior, 1) := by decide +kernel
theorem dX12_turnsOf_200 : decode cX12_turnsOf 200 = .ok (.iload 8, 2) := by decide +kernel
theorem dX12_turnsOf_202 : decode cX12_turnsOf 202 = .ok (.invokevirtual 328, 3) := by decide +kernel
theorem dX12_turnsOf_205 : decode cX12_turnsOf 205 = .ok (.iinc 5 1, 3) := by decide +kernel
theorem dX12_turnsOf_208 : decode cX12_turnsOf 208 = .ok (.goto (-120), 3) := by decide +kernel
theorem dX12_turnsOf_211 : decode cX12_turnsOf 211 = .ok (.aload_n 0, 1) := by decide +kernel
theorem dX12_turnsOf_212 : decode cX12_turnsOf 212 = .ok (.getfield 85, 3) := by decide +kernel
theorem dX12_turnsOf_215 : decode cX12_turnsOf 215 = .ok (.iload 5, 2) := by decide +kernel
theorem dX12_turnsOf_217 : decode cX12_turnsOf 217 = .ok (.baload, 1) := by decide +kernel
theorem dX12_turnsOf_218 : decode cX12_turnsOf 218 = .ok (.ifCond .eq 13, 3) := by decide +kernel
theorem dX12_turnsOf_221 : decode cX12_turnsOf 221 = .ok (.aload_n 0, 1) := by decide +kernel
theorem dX12_turnsOf_222 : decode cX12_turnsOf 222 = .ok (.getfield 82, 3) := by decide +kernel
theorem dX12_turnsOf_225 : decode cX12_turnsOf 225 = .ok (.iload 5, 2) := by decide +kernel
theorem dX12_turnsOf_227 : decode cX12_turnsOf 227 = .ok (.iaload, 1) := by decide +kernel
theorem dX12_turnsOf_228 : decode cX12_turnsOf 228 = .ok (.goto 15, 3) := by decide +kernel
theorem dX12_turnsOf_231 : decode cX12_turnsOf 231 = .ok (.iconst 2, 1) := by decide +kernel
theorem dX12_turnsOf_232 : decode cX12_turnsOf 232 = .ok (.aload_n 0, 1) := by decide +kernel
theorem dX12_turnsOf_233 : decode cX12_turnsOf 233 = .ok (.getfield 92, 3) := by decide +kernel
theorem dX12_turnsOf_236 : decode cX12_turnsOf 236 = .ok (.iload 5, 2) := by decide +kernel
theorem dX12_turnsOf_238 : decode cX12_turnsOf 238 = .ok (.iaload, 1) := by decide +kernel
theorem dX12_turnsOf_239 : decode cX12_turnsOf 239 = .ok (.imul, 1) := by decide +kernel
theorem dX12_turnsOf_240 : decode cX12_turnsOf 240 = .ok (.iload 4, 2) := by decide +kernel
theorem dX12_turnsOf_242 : decode cX12_turnsOf 242 = .ok (.isub, 1) := by decide +kernel
theorem dX12_turnsOf_243 : decode cX12_turnsOf 243 = .ok (.istore 6, 2) := by decide +kernel
theorem dX12_turnsOf_245 : decode cX12_turnsOf 245 = .ok (.iinc 5 (-1), 3) := by decide +kernel
theorem dX12_turnsOf_248 : decode cX12_turnsOf 248 = .ok (.iload 5, 2) := by decide +kernel
theorem dX12_turnsOf_250 : decode cX12_turnsOf 250 = .ok (.ifCond .lt (-162), 3) := by decide +kernel
theorem dX12_turnsOf_253 : decode cX12_turnsOf 253 = .ok (.aload_n 0, 1) := by decide +kernel
theorem dX12_turnsOf_254 : decode cX12_turnsOf 254 = .ok (.iload 5, 2) := by decide +kernel
theorem dX12_turnsOf_256 : decode cX12_turnsOf 256 = .ok (.iload 6, 2) := by decide +kernel
theorem dX12_turnsOf_258 : decode cX12_turnsOf 258 = .ok (.invokevirtual 338, 3) := by decide +kernel
theorem dX12_turnsOf_261 : decode cX12_turnsOf 261 = .ok (.aload_n 0, 1) := by decide +kernel
theorem dX12_turnsOf_262 : decode cX12_turnsOf 262 = .ok (.getfield 79, 3) := by decide +kernel
theorem dX12_turnsOf_265 : decode cX12_turnsOf 265 = .ok (.iload 5, 2) := by decide +kernel
theorem dX12_turnsOf_267 : decode cX12_turnsOf 267 = .ok (.dup2, 1) := by decide +kernel
theorem dX12_turnsOf_268 : decode cX12_turnsOf 268 = .ok (.iaload, 1) := by decide +kernel
theorem dX12_turnsOf_269 : decode cX12_turnsOf 269 = .ok (.iconst 1, 1) := by decide +kernel
theorem dX12_turnsOf_270 : decode cX12_turnsOf 270 = .ok (.iadd, 1) := by decide +kernel
theorem dX12_turnsOf_271 : decode cX12_turnsOf 271 = .ok (.iastore, 1) := by decide +kernel
theorem dX12_turnsOf_272 : decode cX12_turnsOf 272 = .ok (.goto (-184), 3) := by decide +kernel
theorem dX12_turnsOf_275 : decode cX12_turnsOf 275 = .ok (.iload_n 3, 1) := by decide +kernel
theorem dX12_turnsOf_276 : decode cX12_turnsOf 276 = .ok (.ifCond .ne 8, 3) := by decide +kernel
theorem dX12_turnsOf_279 : decode cX12_turnsOf 279 = .ok (.iload 6, 2) := by decide +kernel
theorem dX12_turnsOf_281 : decode cX12_turnsOf 281 = .ok (.goto 7, 3) := by decide +kernel
theorem dX12_turnsOf_284 : decode cX12_turnsOf 284 = .ok (.aload_n 0, 1) := by decide +kernel
theorem dX12_turnsOf_285 : decode cX12_turnsOf 285 = .ok (.getfield 325, 3) := by decide +kernel
theorem dX12_turnsOf_288 : decode cX12_turnsOf 288 = .ok (.ireturn, 1) := by decide +kernel
theorem dX12_enters_0 : decode cX12_enters 0 = .ok (.aload_n 0, 1) := by decide +kernel
theorem dX12_enters_1 : decode cX12_enters 1 = .ok (.getfield 79, 3) := by decide +kernel
theorem dX12_enters_4 : decode cX12_enters 4 = .ok (.iload_n 1, 1) := by decide +kernel
theorem dX12_enters_5 : decode cX12_enters 5 = .ok (.iconst 0, 1) := by decide +kernel
theorem dX12_enters_6 : decode cX12_enters 6 = .ok (.iastore, 1) := by decide +kernel
theorem dX12_enters_7 : decode cX12_enters 7 = .ok (.aload_n 0, 1) := by decide +kernel
theorem dX12_enters_8 : decode cX12_enters 8 = .ok (.getfield 85, 3) := by decide +kernel
theorem dX12_enters_11 : decode cX12_enters 11 = .ok (.iload_n 1, 1) := by decide +kernel
theorem dX12_enters_12 : decode cX12_enters 12 = .ok (.iconst 0, 1) := by decide +kernel
theorem dX12_enters_13 : decode cX12_enters 13 = .ok (.bastore, 1) := by decide +kernel
theorem dX12_enters_14 : decode cX12_enters 14 = .ok (.aload_n 0, 1) := by decide +kernel
theorem dX12_enters_15 : decode cX12_enters 15 = .ok (.getfield 89, 3) := by decide +kernel
theorem dX12_enters_18 : decode cX12_enters 18 = .ok (.iload_n 1, 1) := by decide +kernel
theorem dX12_enters_19 : decode cX12_enters 19 = .ok (.iload_n 2, 1) := by decide +kernel
theorem dX12_enters_20 : decode cX12_enters 20 = .ok (.iastore, 1) := by decide +kernel
theorem dX12_enters_21 : decode cX12_enters 21 = .ok (.aload_n 0, 1) := by decide +kernel
theorem dX12_enters_22 : decode cX12_enters 22 = .ok (.getfield 92, 3) := by decide +kernel
theorem dX12_enters_25 : decode cX12_enters 25 = .ok (.iload_n 1, 1) := by decide +kernel
theorem dX12_enters_26 : decode cX12_enters 26 = .ok (.iload_n 3, 1) := by decide +kernel
theorem dX12_enters_27 : decode cX12_enters 27 = .ok (.iastore, 1) := by decide +kernel
theorem dX12_enters_28 : decode cX12_enters 28 = .ok (.return_, 1) := by decide +kernel
theorem dX12_keeps_0 : decode cX12_keeps 0 = .ok (.aload_n 0, 1) := by decide +kernel
theorem dX12_keeps_1 : decode cX12_keeps 1 = .ok (.getfield 85, 3) := by decide +kernel
theorem dX12_keeps_4 : decode cX12_keeps 4 = .ok (.iload_n 1, 1) := by decide +kernel
theorem dX12_keeps_5 : decode cX12_keeps 5 = .ok (.baload, 1) := by decide +kernel
theorem dX12_keeps_6 : decode cX12_keeps 6 = .ok (.ifCond .eq 32, 3) := by decide +kernel
theorem dX12_keeps_9 : decode cX12_keeps 9 = .ok (.iload_n 1, 1) := by decide +kernel
theorem dX12_keeps_10 : decode cX12_keeps 10 = .ok (.iconst 2, 1) := by decide +kernel
theorem dX12_keeps_11 : decode cX12_keeps 11 = .ok (.irem, 1) := by decide +kernel
theorem dX12_keeps_12 : decode cX12_keeps 12 = .ok (.ifCond .ne 16, 3) := by decide +kernel
theorem dX12_keeps_15 : decode cX12_keeps 15 = .ok (.iload_n 2, 1) := by decide +kernel
theorem dX12_keeps_16 : decode cX12_keeps 16 = .ok (.aload_n 0, 1) := by decide +kernel
theorem dX12_keeps_17 : decode cX12_keeps 17 = .ok (.getfield 82, 3) := by decide +kernel
theorem dX12_keeps_20 : decode cX12_keeps 20 = .ok (.iload_n 1, 1) := by decide +kernel
theorem dX12_keeps_21 : decode cX12_keeps 21 = .ok (.iaload, 1) := by decide +kernel
theorem dX12_keeps_22 : decode cX12_keeps 22 = .ok (.if_icmp .le 20, 3) := by decide +kernel
theorem dX12_keeps_25 : decode cX12_keeps 25 = .ok (.goto 13, 3) := by decide +kernel
theorem dX12_keeps_28 : decode cX12_keeps 28 = .ok (.iload_n 2, 1) := by decide +kernel
theorem dX12_keeps_29 : decode cX12_keeps 29 = .ok (.aload_n 0, 1) := by decide +kernel
theorem dX12_keeps_30 : decode cX12_keeps 30 = .ok (.getfield 82, 3) := by decide +kernel
theorem dX12_keeps_33 : decode cX12_keeps 33 = .ok (.iload_n 1, 1) := by decide +kernel
theorem dX12_keeps_34 : decode cX12_keeps 34 = .ok (.iaload, 1) := by decide +kernel
theorem dX12_keeps_35 : decode cX12_keeps 35 = .ok (.if_icmp .ge 7, 3) := by decide +kernel
theorem dX12_keeps_38 : decode cX12_keeps 38 = .ok (.iconst 1, 1) := by decide +kernel
theorem dX12_keeps_39 : decode cX12_keeps 39 = .ok (.goto 4, 3) := by decide +kernel
theorem dX12_keeps_42 : decode cX12_keeps 42 = .ok (.iconst 0, 1) := by decide +kernel
theorem dX12_keeps_43 : decode cX12_keeps 43 = .ok (.istore_n 3, 1) := by decide +kernel
theorem dX12_keeps_44 : decode cX12_keeps 44 = .ok (.iload_n 3, 1) := by decide +kernel
theorem dX12_keeps_45 : decode cX12_keeps 45 = .ok (.ifCond .eq 62, 3) := by decide +kernel
theorem dX12_keeps_48 : decode cX12_keeps 48 = .ok (.aload_n 0, 1) := by decide +kernel
theorem dX12_keeps_49 : decode cX12_keeps 49 = .ok (.getfield 82, 3) := by decide +kernel
theorem dX12_keeps_52 : decode cX12_keeps 52 = .ok (.iload_n 1, 1) := by decide +kernel
theorem dX12_keeps_53 : decode cX12_keeps 53 = .ok (.iload_n 2, 1) := by decide +kernel
theorem dX12_keeps_54 : decode cX12_keeps 54 = .ok (.iastore, 1) := by decide +kernel
theorem dX12_keeps_55 : decode cX12_keeps 55 = .ok (.aload_n 0, 1) := by decide +kernel
theorem dX12_keeps_56 : decode cX12_keeps 56 = .ok (.getfield 85, 3) := by decide +kernel
theorem dX12_keeps_59 : decode cX12_keeps 59 = .ok (.iload_n 1, 1) := by decide +kernel
theorem dX12_keeps_60 : decode cX12_keeps 60 = .ok (.iconst 1, 1) := by decide +kernel
theorem dX12_keeps_61 : decode cX12_keeps 61 = .ok (.bastore, 1) := by decide +kernel
theorem dX12_keeps_62 : decode cX12_keeps 62 = .ok (.aload_n 0, 1) := by decide +kernel
theorem dX12_keeps_63 : decode cX12_keeps 63 = .ok (.iload_n 1, 1) := by decide +kernel
theorem dX12_keeps_64 : decode cX12_keeps 64 = .ok (.ifCond .ne 36, 3) := by decide +kernel
theorem dX12_keeps_67 : decode cX12_keeps 67 = .ok (.bipush 12, 2) := by decide +kernel
theorem dX12_keeps_69 : decode cX12_keeps 69 = .ok (.aload_n 0, 1) := by decide +kernel
theorem dX12_keeps_70 : decode cX12_keeps 70 = .ok (.getfield 73, 3) := by decide +kernel
theorem dX12_keeps_73 : decode cX12_keeps 73 = .ok (.aload_n 0, 1) := by decide +kernel
theorem dX12_keeps_74 : decode cX12_keeps 74 = .ok (.getfield 79, 3) := by decide +kernel
theorem dX12_keeps_77 : decode cX12_keeps 77 = .ok (.iconst 0, 1) := by decide +kernel
theorem dX12_keeps_78 : decode cX12_keeps 78 = .ok (.iaload, 1) := by decide +kernel
theorem dX12_keeps_79 : decode cX12_keeps 79 = .ok (.iconst 4, 1) := by decide +kernel
theorem dX12_keeps_80 : decode cX12_keeps 80 = .ok (.idiv, 1) := by decide +kernel
theorem dX12_keeps_81 : decode cX12_keeps 81 = .ok (.iaload, 1) := by decide +kernel
theorem dX12_keeps_82 : decode cX12_keeps 82 = .ok (.imul, 1) := by decide +kernel
theorem dX12_keeps_83 : decode cX12_keeps 83 = .ok (.aload_n 0, 1) := by decide +kernel
theorem dX12_keeps_84 : decode cX12_keeps 84 = .ok (.getfield 76, 3) := by decide +kernel
theorem dX12_keeps_87 : decode cX12_keeps 87 = .ok (.aload_n 0, 1) := by decide +kernel
theorem dX12_keeps_88 : decode cX12_keeps 88 = .ok (.getfield 79, 3) := by decide +kernel
theorem dX12_keeps_91 : decode cX12_keeps 91 = .ok (.iconst 0, 1) := by decide +kernel
theorem dX12_keeps_92 : decode cX12_keeps 92 = .ok (.iaload, 1) := by decide +kernel
theorem dX12_keeps_93 : decode cX12_keeps 93 = .ok (.iconst 4, 1) := by decide +kernel
theorem dX12_keeps_94 : decode cX12_keeps 94 = .ok (.irem, 1) := by decide +kernel
theorem dX12_keeps_95 : decode cX12_keeps 95 = .ok (.iaload, 1) := by decide +kernel
theorem dX12_keeps_96 : decode cX12_keeps 96 = .ok (.iadd, 1) := by decide +kernel
theorem dX12_keeps_97 : decode cX12_keeps 97 = .ok (.goto 7, 3) := by decide +kernel
theorem dX12_keeps_100 : decode cX12_keeps 100 = .ok (.aload_n 0, 1) := by decide +kernel
theorem dX12_keeps_101 : decode cX12_keeps 101 = .ok (.getfield 325, 3) := by decide +kernel
theorem dX12_keeps_104 : decode cX12_keeps 104 = .ok (.putfield 325, 3) := by decide +kernel
theorem dX12_keeps_107 : decode cX12_keeps 107 = .ok (.return_, 1) := by decide +kernel
theorem dX12_turnsBy_0 : decode cX12_turnsBy 0 = .ok (.iload_n 1, 1) := by decide +kernel
theorem dX12_turnsBy_1 : decode cX12_turnsBy 1 = .ok (.i2l, 1) := by decide +kernel
theorem dX12_turnsBy_2 : decode cX12_turnsBy 2 = .ok (.lconst 0, 1) := by decide +kernel
theorem dX12_turnsBy_3 : decode cX12_turnsBy 3 = .ok (.aload_n 0, 1) := by decide +kernel
theorem dX12_turnsBy_4 : decode cX12_turnsBy 4 = .ok (.getfield 138, 3) := by decide +kernel
theorem dX12_turnsBy_7 : decode cX12_turnsBy 7 = .ok (.iconst 1, 1) := by decide +kernel
theorem dX12_turnsBy_8 : decode cX12_turnsBy 8 = .ok (.isub, 1) := by decide +kernel
theorem dX12_turnsBy_9 : decode cX12_turnsBy 9 = .ok (.i2l, 1) := by decide +kernel
theorem dX12_turnsBy_10 : decode cX12_turnsBy 10 = .ok (.invokestatic 95, 3) := by decide +kernel
theorem dX12_turnsBy_13 : decode cX12_turnsBy 13 = .ok (.ifCond .eq 37, 3) := by decide +kernel
theorem dX12_turnsBy_16 : decode cX12_turnsBy 16 = .ok (.iload_n 2, 1) := by decide +kernel
theorem dX12_turnsBy_17 : decode cX12_turnsBy 17 = .ok (.i2l, 1) := by decide +kernel
theorem dX12_turnsBy_18 : decode cX12_turnsBy 18 = .ok (.lconst 0, 1) := by decide +kernel
theorem dX12_turnsBy_19 : decode cX12_turnsBy 19 = .ok (.aload_n 0, 1) := by decide +kernel
theorem dX12_turnsBy_20 : decode cX12_turnsBy 20 = .ok (.getfield 138, 3) := by decide +kernel
theorem dX12_turnsBy_23 : decode cX12_turnsBy 23 = .ok (.iconst 1, 1) := by decide +kernel
theorem dX12_turnsBy_24 : decode cX12_turnsBy 24 = .ok (.isub, 1) := by decide +kernel
theorem dX12_turnsBy_25 : decode cX12_turnsBy 25 = .ok (.i2l, 1) := by decide +kernel
theorem dX12_turnsBy_26 : decode cX12_turnsBy 26 = .ok (.invokestatic 95, 3) := by decide +kernel
theorem dX12_turnsBy_29 : decode cX12_turnsBy 29 = .ok (.ifCond .eq 21, 3) := by decide +kernel
theorem dX12_turnsBy_32 : decode cX12_turnsBy 32 = .ok (.iload_n 1, 1) := by decide +kernel
theorem dX12_turnsBy_33 : decode cX12_turnsBy 33 = .ok (.iload_n 2, 1) := by decide +kernel
theorem dX12_turnsBy_34 : decode cX12_turnsBy 34 = .ok (.isub, 1) := by decide +kernel
theorem dX12_turnsBy_35 : decode cX12_turnsBy 35 = .ok (.iconst 1, 1) := by decide +kernel
theorem dX12_turnsBy_36 : decode cX12_turnsBy 36 = .ok (.if_icmp .eq 10, 3) := by decide +kernel
theorem dX12_turnsBy_39 : decode cX12_turnsBy 39 = .ok (.iload_n 2, 1) := by decide +kernel
theorem dX12_turnsBy_40 : decode cX12_turnsBy 40 = .ok (.iload_n 1, 1) := by decide +kernel
theorem dX12_turnsBy_41 : decode cX12_turnsBy 41 = .ok (.isub, 1) := by decide +kernel
theorem dX12_turnsBy_42 : decode cX12_turnsBy 42 = .ok (.iconst 1, 1) := by decide +kernel
theorem dX12_turnsBy_43 : decode cX12_turnsBy 43 = .ok (.if_icmp .ne 7, 3) := by decide +kernel
theorem dX12_turnsBy_46 : decode cX12_turnsBy 46 = .ok (.iconst 1, 1) := by decide +kernel
theorem dX12_turnsBy_47 : decode cX12_turnsBy 47 = .ok (.goto 4, 3) := by decide +kernel
theorem dX12_turnsBy_50 : decode cX12_turnsBy 50 = .ok (.iconst 0, 1) := by decide +kernel
theorem dX12_turnsBy_51 : decode cX12_turnsBy 51 = .ok (.istore 4, 2) := by decide +kernel
theorem dX12_turnsBy_53 : decode cX12_turnsBy 53 = .ok (.iload 4, 2) := by decide +kernel
theorem dX12_turnsBy_55 : decode cX12_turnsBy 55 = .ok (.ifCond .eq 13, 3) := by decide +kernel
theorem dX12_turnsBy_58 : decode cX12_turnsBy 58 = .ok (.aload_n 0, 1) := by decide +kernel
theorem dX12_turnsBy_59 : decode cX12_turnsBy 59 = .ok (.iload_n 1, 1) := by decide +kernel
theorem dX12_turnsBy_60 : decode cX12_turnsBy 60 = .ok (.iload_n 2, 1) := by decide +kernel
theorem dX12_turnsBy_61 : decode cX12_turnsBy 61 = .ok (.iload_n 3, 1) := by decide +kernel
theorem dX12_turnsBy_62 : decode cX12_turnsBy 62 = .ok (.invokevirtual 341, 3) := by decide +kernel
theorem dX12_turnsBy_65 : decode cX12_turnsBy 65 = .ok (.goto 6, 3) := by decide +kernel
theorem dX12_turnsBy_68 : decode cX12_turnsBy 68 = .ok (.sipush (-10002), 3) := by decide +kernel
theorem dX12_turnsBy_71 : decode cX12_turnsBy 71 = .ok (.ireturn, 1) := by decide +kernel
theorem dX12_lords_0 : decode cX12_lords 0 = .ok (.aload_n 0, 1) := by decide +kernel
theorem dX12_lords_1 : decode cX12_lords 1 = .ok (.invokevirtual 163, 3) := by decide +kernel
theorem dX12_lords_4 : decode cX12_lords 4 = .ok (.iload_n 3, 1) := by decide +kernel
theorem dX12_lords_5 : decode cX12_lords 5 = .ok (.invokestatic 124, 3) := by decide +kernel
theorem dX12_lords_8 : decode cX12_lords 8 = .ok (.ifCond .eq 13, 3) := by decide +kernel
theorem dX12_lords_11 : decode cX12_lords 11 = .ok (.aload_n 0, 1) := by decide +kernel
theorem dX12_lords_12 : decode cX12_lords 12 = .ok (.iload_n 1, 1) := by decide +kernel
theorem dX12_lords_13 : decode cX12_lords 13 = .ok (.iload_n 2, 1) := by decide +kernel
theorem dX12_lords_14 : decode cX12_lords 14 = .ok (.iload_n 3, 1) := by decide +kernel
theorem dX12_lords_15 : decode cX12_lords 15 = .ok (.invokevirtual 344, 3) := by decide +kernel
theorem dX12_lords_18 : decode cX12_lords 18 = .ok (.goto 6, 3) := by decide +kernel
theorem dX12_lords_21 : decode cX12_lords 21 = .ok (.sipush (-10002), 3) := by decide +kernel
theorem dX12_lords_24 : decode cX12_lords 24 = .ok (.ireturn, 1) := by decide +kernel
theorem dX12_write_0 : decode cX12_write 0 = .ok (.aload_n 0, 1) := by decide +kernel
theorem dX12_write_1 : decode cX12_write 1 = .ok (.iload_n 1, 1) := by decide +kernel
theorem dX12_write_2 : decode cX12_write 2 = .ok (.invokevirtual 248, 3) := by decide +kernel
theorem dX12_write_5 : decode cX12_write 5 = .ok (.ifCond .eq 10, 3) := by decide +kernel
theorem dX12_write_8 : decode cX12_write 8 = .ok (.iload_n 2, 1) := by decide +kernel
theorem dX12_write_9 : decode cX12_write 9 = .ok (.invokestatic 105, 3) := by decide +kernel
theorem dX12_write_12 : decode cX12_write 12 = .ok (.ifCond .ne 6, 3) := by decide +kernel
theorem dX12_write_15 : decode cX12_write 15 = .ok (.bipush (-2), 2) := by decide +kernel
theorem dX12_write_17 : decode cX12_write 17 = .ok (.ireturn, 1) := by decide +kernel
theorem dX12_write_18 : decode cX12_write 18 = .ok (.aload_n 0, 1) := by decide +kernel
theorem dX12_write_19 : decode cX12_write 19 = .ok (.getfield 7, 3) := by decide +kernel
theorem dX12_write_22 : decode cX12_write 22 = .ok (.iload_n 2, 1) := by decide +kernel
theorem dX12_write_23 : decode cX12_write 23 = .ok (.iaload, 1) := by decide +kernel
theorem dX12_write_24 : decode cX12_write 24 = .ok (.ifCond .ge 9, 3) := by decide +kernel
theorem dX12_write_27 : decode cX12_write 27 = .ok (.aload_n 0, 1) := by decide +kernel
theorem dX12_write_28 : decode cX12_write 28 = .ok (.iconst 1, 1) := by decide +kernel
theorem dX12_write_29 : decode cX12_write 29 = .ok (.invokevirtual 111, 3) := by decide +kernel
theorem dX12_write_32 : decode cX12_write 32 = .ok (.ireturn, 1) := by decide +kernel
theorem dX12_write_33 : decode cX12_write 33 = .ok (.aload_n 0, 1) := by decide +kernel
theorem dX12_write_34 : decode cX12_write 34 = .ok (.invokevirtual 163, 3) := by decide +kernel
theorem dX12_write_37 : decode cX12_write 37 = .ok (.aload_n 0, 1) := by decide +kernel
theorem dX12_write_38 : decode cX12_write 38 = .ok (.iload_n 1, 1) := by decide +kernel
theorem dX12_write_39 : decode cX12_write 39 = .ok (.iconst (-1), 1) := by decide +kernel
theorem dX12_write_40 : decode cX12_write 40 = .ok (.invokevirtual 238, 3) := by decide +kernel
theorem dX12_write_43 : decode cX12_write 43 = .ok (.aload_n 0, 1) := by decide +kernel
theorem dX12_write_44 : decode cX12_write 44 = .ok (.getfield 13, 3) := by decide +kernel
theorem dX12_write_47 : decode cX12_write 47 = .ok (.iload_n 2, 1) := by decide +kernel
theorem dX12_write_48 : decode cX12_write 48 = .ok (.iaload, 1) := by decide +kernel
theorem dX12_write_49 : decode cX12_write 49 = .ok (.aload_n 0, 1) := by decide +kernel
theorem dX12_write_50 : decode cX12_write 50 = .ok (.getfield 138, 3) := by decide +kernel
theorem dX12_write_53 : decode cX12_write 53 = .ok (.if_icmp .ge 12, 3) := by decide +kernel
theorem dX12_write_56 : decode cX12_write 56 = .ok (.aload_n 0, 1) := by decide +kernel
theorem dX12_write_57 : decode cX12_write 57 = .ok (.getfield 13, 3) := by decide +kernel
theorem dX12_write_60 : decode cX12_write 60 = .ok (.iload_n 2, 1) := by decide +kernel
theorem dX12_write_61 : decode cX12_write 61 = .ok (.iaload, 1) := by decide +kernel
theorem dX12_write_62 : decode cX12_write 62 = .ok (.goto 7, 3) := by decide +kernel
theorem dX12_write_65 : decode cX12_write 65 = .ok (.aload_n 0, 1) := by decide +kernel
theorem dX12_write_66 : decode cX12_write 66 = .ok (.getfield 138, 3) := by decide +kernel
theorem dX12_write_69 : decode cX12_write 69 = .ok (.istore_n 3, 1) := by decide +kernel
theorem dX12_write_70 : decode cX12_write 70 = .ok (.iconst 0, 1) := by decide +kernel
theorem dX12_write_71 : decode cX12_write 71 = .ok (.istore 4, 2) := by decide +kernel
theorem dX12_write_73 : decode cX12_write 73 = .ok (.iload 4, 2) := by decide +kernel
theorem dX12_write_75 : decode cX12_write 75 = .ok (.iload_n 3, 1) := by decide +kernel
theorem dX12_write_76 : decode cX12_write 76 = .ok (.if_icmp .ge 37, 3) := by decide +kernel
theorem dX12_write_79 : decode cX12_write 79 = .ok (.aload_n 0, 1) := by decide +kernel
theorem dX12_write_80 : decode cX12_write 80 = .ok (.getfield 16, 3) := by decide +kernel
theorem dX12_write_83 : decode cX12_write 83 = .ok (.bipush 60, 2) := by decide +kernel
theorem dX12_write_85 : decode cX12_write 85 = .ok (.iload_n 2, 1) := by decide +kernel
theorem dX12_write_86 : decode cX12_write 86 = .ok (.imul, 1) := by decide +kernel
theorem dX12_write_87 : decode cX12_write 87 = .ok (.iload 4, 2) := by decide +kernel
theorem dX12_write_89 : decode cX12_write 89 = .ok (.iadd, 1) := by decide +kernel
theorem dX12_write_90 : decode cX12_write 90 = .ok (.aload_n 0, 1) := by decide +kernel
theorem dX12_write_91 : decode cX12_write 91 = .ok (.getfield 7, 3) := by decide +kernel
theorem dX12_write_94 : decode cX12_write 94 = .ok (.iload_n 2, 1) := by decide +kernel
theorem dX12_write_95 : decode cX12_write 95 = .ok (.iaload, 1) := by decide +kernel
theorem dX12_write_96 : decode cX12_write 96 = .ok (.aload_n 0, 1) := by decide +kernel
theorem dX12_write_97 : decode cX12_write 97 = .ok (.getfield 40, 3) := by decide +kernel
theorem dX12_write_100 : decode cX12_write 100 = .ok (.iload 4, 2) := by decide +kernel
theorem dX12_write_102 : decode cX12_write 102 = .ok (.iaload, 1) := by decide +kernel
theorem dX12_write_103 : decode cX12_write 103 = .ok (.invokestatic 119, 3) := by decide +kernel
theorem dX12_write_106 : decode cX12_write 106 = .ok (.iastore, 1) := by decide +kernel
theorem dX12_write_107 : decode cX12_write 107 = .ok (.iinc 4 1, 3) := by decide +kernel
theorem dX12_write_110 : decode cX12_write 110 = .ok (.goto (-37), 3) := by decide +kernel
theorem dX12_write_113 : decode cX12_write 113 = .ok (.iload_n 3, 1) := by decide +kernel
theorem dX12_write_114 : decode cX12_write 114 = .ok (.ireturn, 1) := by decide +kernel
theorem dX12_count_0 : decode cX12_count 0 = .ok (.iconst 0, 1) := by decide +kernel
theorem dX12_count_1 : decode cX12_count 1 = .ok (.istore_n 2, 1) := by decide +kernel
theorem dX12_count_2 : decode cX12_count 2 = .ok (.aload_n 0, 1) := by decide +kernel
theorem dX12_count_3 : decode cX12_count 3 = .ok (.invokevirtual 163, 3) := by decide +kernel
theorem dX12_count_6 : decode cX12_count 6 = .ok (.iload_n 1, 1) := by decide +kernel
theorem dX12_count_7 : decode cX12_count 7 = .ok (.tableswitch 117 0 8 #[49, 54, 59, 59, 68, 73, 82, 107, 112], 49) := by decide +kernel
theorem dX12_count_56 : decode cX12_count 56 = .ok (.aload_n 0, 1) := by decide +kernel
theorem dX12_count_57 : decode cX12_count 57 = .ok (.getfield 138, 3) := by decide +kernel
theorem dX12_count_60 : decode cX12_count 60 = .ok (.ireturn, 1) := by decide +kernel
theorem dX12_count_61 : decode cX12_count 61 = .ok (.aload_n 0, 1) := by decide +kernel
theorem dX12_count_62 : decode cX12_count 62 = .ok (.getfield 144, 3) := by decide +kernel
theorem dX12_count_65 : decode cX12_count 65 = .ok (.ireturn, 1) := by decide +kernel
theorem dX12_count_66 : decode cX12_count 66 = .ok (.aload_n 0, 1) := by decide +kernel
theorem dX12_count_67 : decode cX12_count 67 = .ok (.getfield 25, 3) := by decide +kernel
theorem dX12_count_70 : decode cX12_count 70 = .ok (.iload_n 1, 1) := by decide +kernel
theorem dX12_count_71 : decode cX12_count 71 = .ok (.iconst 2, 1) := by decide +kernel
theorem dX12_count_72 : decode cX12_count 72 = .ok (.isub, 1) := by decide +kernel
theorem dX12_count_73 : decode cX12_count 73 = .ok (.iaload, 1) := by decide +kernel
theorem dX12_count_74 : decode cX12_count 74 = .ok (.ireturn, 1) := by decide +kernel
theorem dX12_count_75 : decode cX12_count 75 = .ok (.aload_n 0, 1) := by decide +kernel
theorem dX12_count_76 : decode cX12_count 76 = .ok (.getfield 184, 3) := by decide +kernel
theorem dX12_count_79 : decode cX12_count 79 = .ok (.ireturn, 1) := by decide +kernel
theorem dX12_count_80 : decode cX12_count 80 = .ok (.aload_n 0, 1) := by decide +kernel
theorem dX12_count_81 : decode cX12_count 81 = .ok (.invokevirtual 242, 3) := by decide +kernel
theorem dX12_count_84 : decode cX12_count 84 = .ok (.aload_n 0, 1) := by decide +kernel
theorem dX12_count_85 : decode cX12_count 85 = .ok (.getfield 206, 3) := by decide +kernel
theorem dX12_count_88 : decode cX12_count 88 = .ok (.ireturn, 1) := by decide +kernel
theorem dX12_count_89 : decode cX12_count 89 = .ok (.iconst 0, 1) := by decide +kernel
theorem dX12_count_90 : decode cX12_count 90 = .ok (.istore_n 3, 1) := by decide +kernel
theorem dX12_count_91 : decode cX12_count 91 = .ok (.iload_n 3, 1) := by decide +kernel
theorem dX12_count_92 : decode cX12_count 92 = .ok (.bipush 52, 2) := by decide +kernel
theorem dX12_count_94 : decode cX12_count 94 = .ok (.if_icmp .ge 18, 3) := by decide +kernel
theorem dX12_count_97 : decode cX12_count 97 = .ok (.iload_n 2, 1) := by decide +kernel
theorem dX12_count_98 : decode cX12_count 98 = .ok (.aload_n 0, 1) := by decide +kernel
theorem dX12_count_99 : decode cX12_count 99 = .ok (.getfield 34, 3) := by decide +kernel
theorem dX12_count_102 : decode cX12_count 102 = .ok (.iload_n 3, 1) := by decide +kernel
theorem dX12_count_103 : decode cX12_count 103 = .ok (.iaload, 1) := by decide +kernel
theorem dX12_count_104 : decode cX12_count 104 = .ok (.iadd, 1) := by decide +kernel
theorem dX12_count_105 : decode cX12_count 105 = .ok (.istore_n 2, 1) := by decide +kernel
theorem dX12_count_106 : decode cX12_count 106 = .ok (.iinc 3 1, 3) := by decide +kernel
theorem dX12_count_109 : decode cX12_count 109 = .ok (.goto (-18), 3) := by decide +kernel
theorem dX12_count_112 : decode cX12_count 112 = .ok (.iload_n 2, 1) := by decide +kernel
theorem dX12_count_113 : decode cX12_count 113 = .ok (.ireturn, 1) := by decide +kernel
theorem dX12_count_114 : decode cX12_count 114 = .ok (.aload_n 0, 1) := by decide +kernel
theorem dX12_count_115 : decode cX12_count 115 = .ok (.getfield 294, 3) := by decide +kernel
theorem dX12_count_118 : decode cX12_count 118 = .ok (.ireturn, 1) := by decide +kernel
theorem dX12_count_119 : decode cX12_count 119 = .ok (.aload_n 0, 1) := by decide +kernel
theorem dX12_count_120 : decode cX12_count 120 = .ok (.getfield 99, 3) := by decide +kernel
theorem dX12_count_123 : decode cX12_count 123 = .ok (.ireturn, 1) := by decide +kernel
theorem dX12_count_124 : decode cX12_count 124 = .ok (.bipush (-2), 2) := by decide +kernel
theorem dX12_count_126 : decode cX12_count 126 = .ok (.ireturn, 1) := by decide +kernel
theorem dX12_digest_0 : decode cX12_digest 0 = .ok (.ldc2_w 347, 3) := by decide +kernel
theorem dX12_digest_3 : decode cX12_digest 3 = .ok (.lstore_n 1, 1) := by decide +kernel
theorem dX12_digest_4 : decode cX12_digest 4 = .ok (.iconst 0, 1) := by decide +kernel
theorem dX12_digest_5 : decode cX12_digest 5 = .ok (.istore_n 3, 1) := by decide +kernel
theorem dX12_digest_6 : decode cX12_digest 6 = .ok (.iload_n 3, 1) := by decide +kernel
theorem dX12_digest_7 : decode cX12_digest 7 = .ok (.bipush 8, 2) := by decide +kernel
theorem dX12_digest_9 : decode cX12_digest 9 = .ok (.if_icmp .ge 22, 3) := by decide +kernel
theorem dX12_digest_12 : decode cX12_digest 12 = .ok (.ldc2_w 349, 3) := by decide +kernel
theorem dX12_digest_15 : decode cX12_digest 15 = .ok (.lload_n 1, 1) := by decide +kernel
theorem dX12_digest_16 : decode cX12_digest 16 = .ok (.lmul, 1) := by decide +kernel
theorem dX12_digest_17 : decode cX12_digest 17 = .ok (.aload_n 0, 1) := by decide +kernel
theorem dX12_digest_18 : decode cX12_digest 18 = .ok (.iload_n 3, 1) := by decide +kernel
theorem dX12_digest_19 : decode cX12_digest 19 = .ok (.invokevirtual 351, 3) := by decide +kernel
theorem dX12_digest_22 : decode cX12_digest 22 = .ok (.i2l, 1) := by decide +kernel
theorem dX12_digest_23 : decode cX12_digest 23 = .ok (.ladd, 1) := by decide +kernel
theorem dX12_digest_24 : decode cX12_digest 24 = .ok (.lstore_n 1, 1) := by decide +kernel
theorem dX12_digest_25 : decode cX12_digest 25 = .ok (.iinc 3 1, 3) := by decide +kernel
theorem dX12_digest_28 : decode cX12_digest 28 = .ok (.goto (-22), 3) := by decide +kernel
theorem dX12_digest_31 : decode cX12_digest 31 = .ok (.ldc2_w 349, 3) := by decide +kernel
theorem dX12_digest_34 : decode cX12_digest 34 = .ok (.lload_n 1, 1) := by decide +kernel
theorem dX12_digest_35 : decode cX12_digest 35 = .ok (.lmul, 1) := by decide +kernel
theorem dX12_digest_36 : decode cX12_digest 36 = .ok (.aload_n 0, 1) := by decide +kernel
theorem dX12_digest_37 : decode cX12_digest 37 = .ok (.iconst 0, 1) := by decide +kernel
theorem dX12_digest_38 : decode cX12_digest 38 = .ok (.invokevirtual 160, 3) := by decide +kernel
theorem dX12_digest_41 : decode cX12_digest 41 = .ok (.i2l, 1) := by decide +kernel
theorem dX12_digest_42 : decode cX12_digest 42 = .ok (.ladd, 1) := by decide +kernel
theorem dX12_digest_43 : decode cX12_digest 43 = .ok (.lstore_n 1, 1) := by decide +kernel
theorem dX12_digest_44 : decode cX12_digest 44 = .ok (.ldc2_w 349, 3) := by decide +kernel
theorem dX12_digest_47 : decode cX12_digest 47 = .ok (.lload_n 1, 1) := by decide +kernel
theorem dX12_digest_48 : decode cX12_digest 48 = .ok (.lmul, 1) := by decide +kernel
theorem dX12_digest_49 : decode cX12_digest 49 = .ok (.aload_n 0, 1) := by decide +kernel
theorem dX12_digest_50 : decode cX12_digest 50 = .ok (.iconst 1, 1) := by decide +kernel
theorem dX12_digest_51 : decode cX12_digest 51 = .ok (.invokevirtual 160, 3) := by decide +kernel
theorem dX12_digest_54 : decode cX12_digest 54 = .ok (.i2l, 1) := by decide +kernel
theorem dX12_digest_55 : decode cX12_digest 55 = .ok (.ladd, 1) := by decide +kernel
theorem dX12_digest_56 : decode cX12_digest 56 = .ok (.lstore_n 1, 1) := by decide +kernel
theorem dX12_digest_57 : decode cX12_digest 57 = .ok (.aload_n 0, 1) := by decide +kernel
theorem dX12_digest_58 : decode cX12_digest 58 = .ok (.invokevirtual 242, 3) := by decide +kernel
theorem dX12_digest_61 : decode cX12_digest 61 = .ok (.ldc2_w 349, 3) := by decide +kernel
theorem dX12_digest_64 : decode cX12_digest 64 = .ok (.lload_n 1, 1) := by decide +kernel
theorem dX12_digest_65 : decode cX12_digest 65 = .ok (.lmul, 1) := by decide +kernel
theorem dX12_digest_66 : decode cX12_digest 66 = .ok (.aload_n 0, 1) := by decide +kernel
theorem dX12_digest_67 : decode cX12_digest 67 = .ok (.getfield 209, 3) := by decide +kernel
theorem dX12_digest_70 : decode cX12_digest 70 = .ok (.i2l, 1) := by decide +kernel
theorem dX12_digest_71 : decode cX12_digest 71 = .ok (.ladd, 1) := by decide +kernel
theorem dX12_digest_72 : decode cX12_digest 72 = .ok (.lstore_n 1, 1) := by decide +kernel
theorem dX12_digest_73 : decode cX12_digest 73 = .ok (.iconst 0, 1) := by decide +kernel
theorem dX12_digest_74 : decode cX12_digest 74 = .ok (.istore_n 3, 1) := by decide +kernel
theorem dX12_digest_75 : decode cX12_digest 75 = .ok (.iload_n 3, 1) := by decide +kernel
theorem dX12_digest_76 : decode cX12_digest 76 = .ok (.aload_n 0, 1) := by decide +kernel
theorem dX12_digest_77 : decode cX12_digest 77 = .ok (.getfield 184, 3) := by decide +kernel
theorem dX12_digest_80 : decode cX12_digest 80 = .ok (.if_icmp .ge 41, 3) := by decide +kernel
theorem dX12_digest_83 : decode cX12_digest 83 = .ok (.aload_n 0, 1) := by decide +kernel
theorem dX12_digest_84 : decode cX12_digest 84 = .ok (.invokevirtual 242, 3) := by decide +kernel
theorem dX12_digest_87 : decode cX12_digest 87 = .ok (.ldc2_w 349, 3) := by decide +kernel
theorem dX12_digest_90 : decode cX12_digest 90 = .ok (.lload_n 1, 1) := by decide +kernel
theorem dX12_digest_91 : decode cX12_digest 91 = .ok (.lmul, 1) := by decide +kernel
theorem dX12_digest_92 : decode cX12_digest 92 = .ok (.aload_n 0, 1) := by decide +kernel
theorem dX12_digest_93 : decode cX12_digest 93 = .ok (.getfield 58, 3) := by decide +kernel
theorem dX12_digest_96 : decode cX12_digest 96 = .ok (.iload_n 3, 1) := by decide +kernel
theorem dX12_digest_97 : decode cX12_digest 97 = .ok (.iaload, 1) := by decide +kernel
theorem dX12_digest_98 : decode cX12_digest 98 = .ok (.i2l, 1) := by decide +kernel
theorem dX12_digest_99 : decode cX12_digest 99 = .ok (.ladd, 1) := by decide +kernel
theorem dX12_digest_100 : decode cX12_digest 100 = .ok (.lstore_n 1, 1) := by decide +kernel
theorem dX12_digest_101 : decode cX12_digest 101 = .ok (.ldc2_w 349, 3) := by decide +kernel
theorem dX12_digest_104 : decode cX12_digest 104 = .ok (.lload_n 1, 1) := by decide +kernel
theorem dX12_digest_105 : decode cX12_digest 105 = .ok (.lmul, 1) := by decide +kernel
theorem dX12_digest_106 : decode cX12_digest 106 = .ok (.aload_n 0, 1) := by decide +kernel
theorem dX12_digest_107 : decode cX12_digest 107 = .ok (.iload_n 3, 1) := by decide +kernel
theorem dX12_digest_108 : decode cX12_digest 108 = .ok (.iconst 0, 1) := by decide +kernel
theorem dX12_digest_109 : decode cX12_digest 109 = .ok (.invokevirtual 309, 3) := by decide +kernel
theorem dX12_digest_112 : decode cX12_digest 112 = .ok (.i2l, 1) := by decide +kernel
theorem dX12_digest_113 : decode cX12_digest 113 = .ok (.ladd, 1) := by decide +kernel
theorem dX12_digest_114 : decode cX12_digest 114 = .ok (.lstore_n 1, 1) := by decide +kernel
theorem dX12_digest_115 : decode cX12_digest 115 = .ok (.iinc 3 1, 3) := by decide +kernel
theorem dX12_digest_118 : decode cX12_digest 118 = .ok (.goto (-43), 3) := by decide +kernel
theorem dX12_digest_121 : decode cX12_digest 121 = .ok (.iconst 0, 1) := by decide +kernel
theorem dX12_digest_122 : decode cX12_digest 122 = .ok (.istore_n 3, 1) := by decide +kernel
theorem dX12_digest_123 : decode cX12_digest 123 = .ok (.iload_n 3, 1) := by decide +kernel
theorem dX12_digest_124 : decode cX12_digest 124 = .ok (.aload_n 0, 1) := by decide +kernel
theorem dX12_digest_125 : decode cX12_digest 125 = .ok (.getfield 138, 3) := by decide +kernel
theorem dX12_digest_128 : decode cX12_digest 128 = .ok (.if_icmp .ge 103, 3) := by decide +kernel
theorem dX12_digest_131 : decode cX12_digest 131 = .ok (.ldc2_w 349, 3) := by decide +kernel
theorem dX12_digest_134 : decode cX12_digest 134 = .ok (.lload_n 1, 1) := by decide +kernel
theorem dX12_digest_135 : decode cX12_digest 135 = .ok (.lmul, 1) := by decide +kernel
theorem dX12_digest_136 : decode cX12_digest 136 = .ok (.aload_n 0, 1) := by decide +kernel
theorem dX12_digest_137 : decode cX12_digest 137 = .ok (.iload_n 3, 1) := by decide +kernel
theorem dX12_digest_138 : decode cX12_digest 138 = .ok (.aload_n 0, 1) := by decide +kernel
theorem dX12_digest_139 : decode cX12_digest 139 = .ok (.getfield 184, 3) := by decide +kernel
theorem dX12_digest_142 : decode cX12_digest 142 = .ok (.iconst (-1), 1) := by decide +kernel
theorem dX12_digest_143 : decode cX12_digest 143 = .ok (.invokevirtual 251, 3) := by decide +kernel
theorem dX12_digest_146 : decode cX12_digest 146 = .ok (.i2l, 1) := by decide +kernel
theorem dX12_digest_147 : decode cX12_digest 147 = .ok (.ladd, 1) := by decide +kernel
theorem dX12_digest_148 : decode cX12_digest 148 = .ok (.lstore_n 1, 1) := by decide +kernel
theorem dX12_digest_149 : decode cX12_digest 149 = .ok (.ldc2_w 349, 3) := by decide +kernel
theorem dX12_digest_152 : decode cX12_digest 152 = .ok (.lload_n 1, 1) := by decide +kernel
theorem dX12_digest_153 : decode cX12_digest 153 = .ok (.lmul, 1) := by decide +kernel
theorem dX12_digest_154 : decode cX12_digest 154 = .ok (.aload_n 0, 1) := by decide +kernel
theorem dX12_digest_155 : decode cX12_digest 155 = .ok (.iload_n 3, 1) := by decide +kernel
theorem dX12_digest_156 : decode cX12_digest 156 = .ok (.sipush 150, 3) := by decide +kernel
theorem dX12_digest_159 : decode cX12_digest 159 = .ok (.invokevirtual 275, 3) := by decide +kernel
theorem dX12_digest_162 : decode cX12_digest 162 = .ok (.i2l, 1) := by decide +kernel
theorem dX12_digest_163 : decode cX12_digest 163 = .ok (.ladd, 1) := by decide +kernel
theorem dX12_digest_164 : decode cX12_digest 164 = .ok (.lstore_n 1, 1) := by decide +kernel
theorem dX12_digest_165 : decode cX12_digest 165 = .ok (.ldc2_w 349, 3) := by decide +kernel
theorem dX12_digest_168 : decode cX12_digest 168 = .ok (.lload_n 1, 1) := by decide +kernel
theorem dX12_digest_169 : decode cX12_digest 169 = .ok (.lmul, 1) := by decide +kernel
theorem dX12_digest_170 : decode cX12_digest 170 = .ok (.aload_n 0, 1) := by decide +kernel
theorem dX12_digest_171 : decode cX12_digest 171 = .ok (.iload_n 3, 1) := by decide +kernel
theorem dX12_digest_172 : decode cX12_digest 172 = .ok (.iconst 2, 1) := by decide +kernel
theorem dX12_digest_173 : decode cX12_digest 173 = .ok (.invokevirtual 280, 3) := by decide +kernel
theorem dX12_digest_176 : decode cX12_digest 176 = .ok (.i2l, 1) := by decide +kernel
theorem dX12_digest_177 : decode cX12_digest 177 = .ok (.ladd, 1) := by decide +kernel
theorem dX12_digest_178 : decode cX12_digest 178 = .ok (.lstore_n 1, 1) := by decide +kernel
theorem dX12_digest_179 : decode cX12_digest 179 = .ok (.ldc2_w 349, 3) := by decide +kernel
theorem dX12_digest_182 : decode cX12_digest 182 = .ok (.lload_n 1, 1) := by decide +kernel
theorem dX12_digest_183 : decode cX12_digest 183 = .ok (.lmul, 1) := by decide +kernel
theorem dX12_digest_184 : decode cX12_digest 184 = .ok (.aload_n 0, 1) := by decide +kernel
theorem dX12_digest_185 : decode cX12_digest 185 = .ok (.iload_n 3, 1) := by decide +kernel
theorem dX12_digest_186 : decode cX12_digest 186 = .ok (.invokevirtual 312, 3) := by decide +kernel
theorem dX12_digest_189 : decode cX12_digest 189 = .ok (.i2l, 1) := by decide +kernel
theorem dX12_digest_190 : decode cX12_digest 190 = .ok (.ladd, 1) := by decide +kernel
theorem dX12_digest_191 : decode cX12_digest 191 = .ok (.lstore_n 1, 1) := by decide +kernel
theorem dX12_digest_192 : decode cX12_digest 192 = .ok (.iconst 0, 1) := by decide +kernel
theorem dX12_digest_193 : decode cX12_digest 193 = .ok (.istore 4, 2) := by decide +kernel
theorem dX12_digest_195 : decode cX12_digest 195 = .ok (.iload 4, 2) := by decide +kernel
theorem dX12_digest_197 : decode cX12_digest 197 = .ok (.iconst 2, 1) := by decide +kernel
theorem dX12_digest_198 : decode cX12_digest 198 = .ok (.if_icmp .ge 27, 3) := by decide +kernel
theorem dX12_digest_201 : decode cX12_digest 201 = .ok (.ldc2_w 349, 3) := by decide +kernel
theorem dX12_digest_204 : decode cX12_digest 204 = .ok (.lload_n 1, 1) := by decide +kernel
theorem dX12_digest_205 : decode cX12_digest 205 = .ok (.lmul, 1) := by decide +kernel
theorem dX12_digest_206 : decode cX12_digest 206 = .ok (.aload_n 0, 1) := by decide +kernel
theorem dX12_digest_207 : decode cX12_digest 207 = .ok (.iload_n 3, 1) := by decide +kernel
theorem dX12_digest_208 : decode cX12_digest 208 = .ok (.iload_n 3, 1) := by decide +kernel
theorem dX12_digest_209 : decode cX12_digest 209 = .ok (.iconst 1, 1) := by decide +kernel
theorem dX12_digest_210 : decode cX12_digest 210 = .ok (.iadd, 1) := by decide +kernel
theorem dX12_digest_211 : decode cX12_digest 211 = .ok (.iload 4, 2) := by decide +kernel
theorem dX12_digest_213 : decode cX12_digest 213 = .ok (.invokevirtual 344, 3) := by decide +kernel
theorem dX12_digest_216 : decode cX12_digest 216 = .ok (.i2l, 1) := by decide +kernel
theorem dX12_digest_217 : decode cX12_digest 217 = .ok (.ladd, 1) := by decide +kernel
theorem dX12_digest_218 : decode cX12_digest 218 = .ok (.lstore_n 1, 1) := by decide +kernel
theorem dX12_digest_219 : decode cX12_digest 219 = .ok (.iinc 4 1, 3) := by decide +kernel
theorem dX12_digest_222 : decode cX12_digest 222 = .ok (.goto (-27), 3) := by decide +kernel
theorem dX12_digest_225 : decode cX12_digest 225 = .ok (.iinc 3 1, 3) := by decide +kernel
theorem dX12_digest_228 : decode cX12_digest 228 = .ok (.goto (-105), 3) := by decide +kernel
theorem dX12_digest_231 : decode cX12_digest 231 = .ok (.iconst 0, 1) := by decide +kernel
theorem dX12_digest_232 : decode cX12_digest 232 = .ok (.istore_n 3, 1) := by decide +kernel
theorem dX12_digest_233 : decode cX12_digest 233 = .ok (.iload_n 3, 1) := by decide +kernel
theorem dX12_digest_234 : decode cX12_digest 234 = .ok (.aload_n 0, 1) := by decide +kernel
theorem dX12_digest_235 : decode cX12_digest 235 = .ok (.getfield 144, 3) := by decide +kernel
theorem dX12_digest_238 : decode cX12_digest 238 = .ok (.if_icmp .ge 105, 3) := by decide +kernel
theorem dX12_digest_241 : decode cX12_digest 241 = .ok (.iconst 0, 1) := by decide +kernel
theorem dX12_digest_242 : decode cX12_digest 242 = .ok (.istore 4, 2) := by decide +kernel
theorem dX12_digest_244 : decode cX12_digest 244 = .ok (.iload 4, 2) := by decide +kernel
theorem dX12_digest_246 : decode cX12_digest 246 = .ok (.iconst 4, 1) := by decide +kernel
theorem dX12_digest_247 : decode cX12_digest 247 = .ok (.if_icmp .ge 28, 3) := by decide +kernel
theorem dX12_digest_250 : decode cX12_digest 250 = .ok (.ldc2_w 349, 3) := by decide +kernel
theorem dX12_digest_253 : decode cX12_digest 253 = .ok (.lload_n 1, 1) := by decide +kernel
theorem dX12_digest_254 : decode cX12_digest 254 = .ok (.lmul, 1) := by decide +kernel
theorem dX12_digest_255 : decode cX12_digest 255 = .ok (.aload_n 0, 1) := by decide +kernel
theorem dX12_digest_256 : decode cX12_digest 256 = .ok (.getfield 31, 3) := by decide +kernel
theorem dX12_digest_259 : decode cX12_digest 259 = .ok (.iconst 4, 1) := by decide +kernel
theorem dX12_digest_260 : decode cX12_digest 260 = .ok (.iload_n 3, 1) := by decide +kernel
theorem dX12_digest_261 : decode cX12_digest 261 = .ok (.imul, 1) := by decide +kernel
theorem dX12_digest_262 : decode cX12_digest 262 = .ok (.iload 4, 2) := by decide +kernel
theorem dX12_digest_264 : decode cX12_digest 264 = .ok (.iadd, 1) := by decide +kernel
theorem dX12_digest_265 : decode cX12_digest 265 = .ok (.iaload, 1) := by decide +kernel
theorem dX12_digest_266 : decode cX12_digest 266 = .ok (.i2l, 1) := by decide +kernel
theorem dX12_digest_267 : decode cX12_digest 267 = .ok (.ladd, 1) := by decide +kernel
theorem dX12_digest_268 : decode cX12_digest 268 = .ok (.lstore_n 1, 1) := by decide +kernel
theorem dX12_digest_269 : decode cX12_digest 269 = .ok (.iinc 4 1, 3) := by decide +kernel
theorem dX12_digest_272 : decode cX12_digest 272 = .ok (.goto (-28), 3) := by decide +kernel
theorem dX12_digest_275 : decode cX12_digest 275 = .ok (.ldc2_w 349, 3) := by decide +kernel
theorem dX12_digest_278 : decode cX12_digest 278 = .ok (.lload_n 1, 1) := by decide +kernel
theorem dX12_digest_279 : decode cX12_digest 279 = .ok (.lmul, 1) := by decide +kernel
theorem dX12_digest_280 : decode cX12_digest 280 = .ok (.aload_n 0, 1) := by decide +kernel
theorem dX12_digest_281 : decode cX12_digest 281 = .ok (.iload_n 3, 1) := by decide +kernel
theorem dX12_digest_282 : decode cX12_digest 282 = .ok (.bipush 6, 2) := by decide +kernel
theorem dX12_digest_284 : decode cX12_digest 284 = .ok (.invokevirtual 176, 3) := by decide +kernel
theorem dX12_digest_287 : decode cX12_digest 287 = .ok (.i2l, 1) := by decide +kernel
theorem dX12_digest_288 : decode cX12_digest 288 = .ok (.ladd, 1) := by decide +kernel
theorem dX12_digest_289 : decode cX12_digest 289 = .ok (.lstore_n 1, 1) := by decide +kernel
theorem dX12_digest_290 : decode cX12_digest 290 = .ok (.aload_n 0, 1) := by decide +kernel
theorem dX12_digest_291 : decode cX12_digest 291 = .ok (.invokevirtual 242, 3) := by decide +kernel
theorem dX12_digest_294 : decode cX12_digest 294 = .ok (.iconst 0, 1) := by decide +kernel
theorem dX12_digest_295 : decode cX12_digest 295 = .ok (.istore 4, 2) := by decide +kernel
theorem dX12_digest_297 : decode cX12_digest 297 = .ok (.iload 4, 2) := by decide +kernel
theorem dX12_digest_299 : decode cX12_digest 299 = .ok (.iconst 3, 1) := by decide +kernel
theorem dX12_digest_300 : decode cX12_digest 300 = .ok (.if_icmp .ge 24, 3) := by decide +kernel
theorem dX12_digest_303 : decode cX12_digest 303 = .ok (.ldc2_w 349, 3) := by decide +kernel
theorem dX12_digest_306 : decode cX12_digest 306 = .ok (.lload_n 1, 1) := by decide +kernel
theorem dX12_digest_307 : decode cX12_digest 307 = .ok (.lmul, 1) := by decide +kernel
theorem dX12_digest_308 : decode cX12_digest 308 = .ok (.aload_n 0, 1) := by decide +kernel
theorem dX12_digest_309 : decode cX12_digest 309 = .ok (.iload_n 3, 1) := by decide +kernel
theorem dX12_digest_310 : decode cX12_digest 310 = .ok (.iload 4, 2) := by decide +kernel
theorem dX12_digest_312 : decode cX12_digest 312 = .ok (.invokevirtual 254, 3) := by decide +kernel
theorem dX12_digest_315 : decode cX12_digest 315 = .ok (.i2l, 1) := by decide +kernel
theorem dX12_digest_316 : decode cX12_digest 316 = .ok (.ladd, 1) := by decide +kernel
theorem dX12_digest_317 : decode cX12_digest 317 = .ok (.lstore_n 1, 1) := by decide +kernel
theorem dX12_digest_318 : decode cX12_digest 318 = .ok (.iinc 4 1, 3) := by decide +kernel
theorem dX12_digest_321 : decode cX12_digest 321 = .ok (.goto (-24), 3) := by decide +kernel
theorem dX12_digest_324 : decode cX12_digest 324 = .ok (.ldc2_w 349, 3) := by decide +kernel
theorem dX12_digest_327 : decode cX12_digest 327 = .ok (.lload_n 1, 1) := by decide +kernel
theorem dX12_digest_328 : decode cX12_digest 328 = .ok (.lmul, 1) := by decide +kernel
theorem dX12_digest_329 : decode cX12_digest 329 = .ok (.aload_n 0, 1) := by decide +kernel
theorem dX12_digest_330 : decode cX12_digest 330 = .ok (.iload_n 3, 1) := by decide +kernel
theorem dX12_digest_331 : decode cX12_digest 331 = .ok (.invokevirtual 303, 3) := by decide +kernel
theorem dX12_digest_334 : decode cX12_digest 334 = .ok (.i2l, 1) := by decide +kernel
theorem dX12_digest_335 : decode cX12_digest 335 = .ok (.ladd, 1) := by decide +kernel
theorem dX12_digest_336 : decode cX12_digest 336 = .ok (.lstore_n 1, 1) := by decide +kernel
theorem dX12_digest_337 : decode cX12_digest 337 = .ok (.iinc 3 1, 3) := by decide +kernel
theorem dX12_digest_340 : decode cX12_digest 340 = .ok (.goto (-107), 3) := by decide +kernel
theorem dX12_digest_343 : decode cX12_digest 343 = .ok (.aload_n 0, 1) := by decide +kernel
theorem dX12_digest_344 : decode cX12_digest 344 = .ok (.invokevirtual 242, 3) := by decide +kernel
theorem dX12_digest_347 : decode cX12_digest 347 = .ok (.ldc2_w 349, 3) := by decide +kernel
theorem dX12_digest_350 : decode cX12_digest 350 = .ok (.lload_n 1, 1) := by decide +kernel
theorem dX12_digest_351 : decode cX12_digest 351 = .ok (.lmul, 1) := by decide +kernel
theorem dX12_digest_352 : decode cX12_digest 352 = .ok (.aload_n 0, 1) := by decide +kernel
theorem dX12_digest_353 : decode cX12_digest 353 = .ok (.getfield 203, 3) := by decide +kernel
theorem dX12_digest_356 : decode cX12_digest 356 = .ok (.i2l, 1) := by decide +kernel
theorem dX12_digest_357 : decode cX12_digest 357 = .ok (.ladd, 1) := by decide +kernel
theorem dX12_digest_358 : decode cX12_digest 358 = .ok (.lstore_n 1, 1) := by decide +kernel
theorem dX12_digest_359 : decode cX12_digest 359 = .ok (.ldc2_w 349, 3) := by decide +kernel
theorem dX12_digest_362 : decode cX12_digest 362 = .ok (.lload_n 1, 1) := by decide +kernel
theorem dX12_digest_363 : decode cX12_digest 363 = .ok (.lmul, 1) := by decide +kernel
theorem dX12_digest_364 : decode cX12_digest 364 = .ok (.aload_n 0, 1) := by decide +kernel
theorem dX12_digest_365 : decode cX12_digest 365 = .ok (.invokevirtual 286, 3) := by decide +kernel
theorem dX12_digest_368 : decode cX12_digest 368 = .ok (.i2l, 1) := by decide +kernel
theorem dX12_digest_369 : decode cX12_digest 369 = .ok (.ladd, 1) := by decide +kernel
theorem dX12_digest_370 : decode cX12_digest 370 = .ok (.lstore_n 1, 1) := by decide +kernel
theorem dX12_digest_371 : decode cX12_digest 371 = .ok (.ldc2_w 349, 3) := by decide +kernel
theorem dX12_digest_374 : decode cX12_digest 374 = .ok (.lload_n 1, 1) := by decide +kernel
theorem dX12_digest_375 : decode cX12_digest 375 = .ok (.lmul, 1) := by decide +kernel
theorem dX12_digest_376 : decode cX12_digest 376 = .ok (.aload_n 0, 1) := by decide +kernel
theorem dX12_digest_377 : decode cX12_digest 377 = .ok (.invokevirtual 306, 3) := by decide +kernel
theorem dX12_digest_380 : decode cX12_digest 380 = .ok (.i2l, 1) := by decide +kernel
theorem dX12_digest_381 : decode cX12_digest 381 = .ok (.ladd, 1) := by decide +kernel
theorem dX12_digest_382 : decode cX12_digest 382 = .ok (.lreturn, 1) := by decide +kernel
end
section
theorem dJ7_fill_53178_0 : decode cJ7_fill_53178 0 = .ok (.iconst 0, 1) := by decide +kernel
theorem dJ7_fill_53178_1 : decode cJ7_fill_53178 1 = .ok (.istore_n 2, 1) := by decide +kernel
theorem dJ7_fill_53178_2 : decode cJ7_fill_53178 2 = .ok (.aload_n 0, 1) := by decide +kernel
theorem dJ7_fill_53178_3 : decode cJ7_fill_53178 3 = .ok (.arraylength, 1) := by decide +kernel
theorem dJ7_fill_53178_4 : decode cJ7_fill_53178 4 = .ok (.istore_n 3, 1) := by decide +kernel
theorem dJ7_fill_53178_5 : decode cJ7_fill_53178 5 = .ok (.iload_n 2, 1) := by decide +kernel
theorem dJ7_fill_53178_6 : decode cJ7_fill_53178 6 = .ok (.iload_n 3, 1) := by decide +kernel
theorem dJ7_fill_53178_7 : decode cJ7_fill_53178 7 = .ok (.if_icmp .ge 13, 3) := by decide +kernel
theorem dJ7_fill_53178_10 : decode cJ7_fill_53178 10 = .ok (.aload_n 0, 1) := by decide +kernel
theorem dJ7_fill_53178_11 : decode cJ7_fill_53178 11 = .ok (.iload_n 2, 1) := by decide +kernel
theorem dJ7_fill_53178_12 : decode cJ7_fill_53178 12 = .ok (.iload_n 1, 1) := by decide +kernel
theorem dJ7_fill_53178_13 : decode cJ7_fill_53178 13 = .ok (.iastore, 1) := by decide +kernel
theorem dJ7_fill_53178_14 : decode cJ7_fill_53178 14 = .ok (.iinc 2 1, 3) := by decide +kernel
theorem dJ7_fill_53178_17 : decode cJ7_fill_53178 17 = .ok (.goto (-12), 3) := by decide +kernel
theorem dJ7_fill_53178_20 : decode cJ7_fill_53178 20 = .ok (.return_, 1) := by decide +kernel
theorem dL_law_0 : decode cL_law 0 = .ok (.new 7, 3) := by decide +kernel
theorem dL_law_3 : decode cL_law 3 = .ok (.dup, 1) := by decide +kernel
theorem dL_law_4 : decode cL_law 4 = .ok (.invokespecial 9, 3) := by decide +kernel
theorem dL_law_7 : decode cL_law 7 = .ok (.astore_n 1, 1) := by decide +kernel
theorem dL_law_8 : decode cL_law 8 = .ok (.new 10, 3) := by decide +kernel
theorem dL_law_11 : decode cL_law 11 = .ok (.dup, 1) := by decide +kernel
theorem dL_law_12 : decode cL_law 12 = .ok (.invokespecial 12, 3) := by decide +kernel
theorem dL_law_15 : decode cL_law 15 = .ok (.astore_n 2, 1) := by decide +kernel
theorem dL_law_16 : decode cL_law 16 = .ok (.iconst 0, 1) := by decide +kernel
theorem dL_law_17 : decode cL_law 17 = .ok (.istore_n 3, 1) := by decide +kernel
theorem dL_law_18 : decode cL_law 18 = .ok (.iload_n 3, 1) := by decide +kernel
theorem dL_law_19 : decode cL_law 19 = .ok (.aload_n 0, 1) := by decide +kernel
theorem dL_law_20 : decode cL_law 20 = .ok (.arraylength, 1) := by decide +kernel
theorem dL_law_21 : decode cL_law 21 = .ok (.bipush 6, 2) := by decide +kernel
theorem dL_law_23 : decode cL_law 23 = .ok (.isub, 1) := by decide +kernel
theorem dL_law_24 : decode cL_law 24 = .ok (.if_icmp .gt 1182, 3) := by decide +kernel
theorem dL_law_27 : decode cL_law 27 = .ok (.aload_n 0, 1) := by decide +kernel
theorem dL_law_28 : decode cL_law 28 = .ok (.iload_n 3, 1) := by decide +kernel
theorem dL_law_29 : decode cL_law 29 = .ok (.iaload, 1) := by decide +kernel
theorem dL_law_30 : decode cL_law 30 = .ok (.bipush 63, 2) := by decide +kernel
theorem dL_law_32 : decode cL_law 32 = .ok (.iand, 1) := by decide +kernel
theorem dL_law_33 : decode cL_law 33 = .ok (.tableswitch 1167 0 32 #[147, 180, 203, 226, 259, 292, 325, 378, 421, 454, 467, 480, 503, 536, 579, 602, 635, 668, 681, 724, 737, 760, 773, 806, 829, 872, 915, 938, 991, 1034, 1097, 1130, 1153], 147) := by decide +kernel
theorem dL_law_180 : decode cL_law 180 = .ok (.aload_n 1, 1) := by decide +kernel
theorem dL_law_181 : decode cL_law 181 = .ok (.aload_n 0, 1) := by decide +kernel
theorem dL_law_182 : decode cL_law 182 = .ok (.iload_n 3, 1) := by decide +kernel
theorem dL_law_183 : decode cL_law 183 = .ok (.iconst 1, 1) := by decide +kernel
theorem dL_law_184 : decode cL_law 184 = .ok (.iadd, 1) := by decide +kernel
theorem dL_law_185 : decode cL_law 185 = .ok (.iaload, 1) := by decide +kernel
theorem dL_law_186 : decode cL_law 186 = .ok (.aload_n 0, 1) := by decide +kernel
theorem dL_law_187 : decode cL_law 187 = .ok (.iload_n 3, 1) := by decide +kernel
theorem dL_law_188 : decode cL_law 188 = .ok (.iconst 2, 1) := by decide +kernel
theorem dL_law_189 : decode cL_law 189 = .ok (.iadd, 1) := by decide +kernel
theorem dL_law_190 : decode cL_law 190 = .ok (.iaload, 1) := by decide +kernel
theorem dL_law_191 : decode cL_law 191 = .ok (.invokevirtual 13, 3) := by decide +kernel
theorem dL_law_194 : decode cL_law 194 = .ok (.aload_n 2, 1) := by decide +kernel
theorem dL_law_195 : decode cL_law 195 = .ok (.aload_n 0, 1) := by decide +kernel
theorem dL_law_196 : decode cL_law 196 = .ok (.iload_n 3, 1) := by decide +kernel
theorem dL_law_197 : decode cL_law 197 = .ok (.iconst 1, 1) := by decide +kernel
theorem dL_law_198 : decode cL_law 198 = .ok (.iadd, 1) := by decide +kernel
theorem dL_law_199 : decode cL_law 199 = .ok (.iaload, 1) := by decide +kernel
theorem dL_law_200 : decode cL_law 200 = .ok (.aload_n 0, 1) := by decide +kernel
theorem dL_law_201 : decode cL_law 201 = .ok (.iload_n 3, 1) := by decide +kernel
theorem dL_law_202 : decode cL_law 202 = .ok (.iconst 2, 1) := by decide +kernel
theorem dL_law_203 : decode cL_law 203 = .ok (.iadd, 1) := by decide +kernel
theorem dL_law_204 : decode cL_law 204 = .ok (.iaload, 1) := by decide +kernel
theorem dL_law_205 : decode cL_law 205 = .ok (.invokevirtual 17, 3) := by decide +kernel
theorem dL_law_208 : decode cL_law 208 = .ok (.if_icmp .eq 992, 3) := by decide +kernel
theorem dL_law_211 : decode cL_law 211 = .ok (.iconst 0, 1) := by decide +kernel
theorem dL_law_212 : decode cL_law 212 = .ok (.ireturn, 1) := by decide +kernel
theorem dL_law_213 : decode cL_law 213 = .ok (.aload_n 1, 1) := by decide +kernel
theorem dL_law_214 : decode cL_law 214 = .ok (.aload_n 0, 1) := by decide +kernel
theorem dL_law_215 : decode cL_law 215 = .ok (.iload_n 3, 1) := by decide +kernel
theorem dL_law_216 : decode cL_law 216 = .ok (.iconst 1, 1) := by decide +kernel
theorem dL_law_217 : decode cL_law 217 = .ok (.iadd, 1) := by decide +kernel
theorem dL_law_218 : decode cL_law 218 = .ok (.iaload, 1) := by decide +kernel
theorem dL_law_219 : decode cL_law 219 = .ok (.invokevirtual 18, 3) := by decide +kernel
theorem dL_law_222 : decode cL_law 222 = .ok (.aload_n 2, 1) := by decide +kernel
theorem dL_law_223 : decode cL_law 223 = .ok (.aload_n 0, 1) := by decide +kernel
theorem dL_law_224 : decode cL_law 224 = .ok (.iload_n 3, 1) := by decide +kernel
theorem dL_law_225 : decode cL_law 225 = .ok (.iconst 1, 1) := by decide +kernel
theorem dL_law_226 : decode cL_law 226 = .ok (.iadd, 1) := by decide +kernel
theorem dL_law_227 : decode cL_law 227 = .ok (.iaload, 1) := by decide +kernel
theorem dL_law_228 : decode cL_law 228 = .ok (.invokevirtual 22, 3) := by decide +kernel
theorem dL_law_231 : decode cL_law 231 = .ok (.if_icmp .eq 969, 3) := by decide +kernel
theorem dL_law_234 : decode cL_law 234 = .ok (.iconst 0, 1) := by decide +kernel
theorem dL_law_235 : decode cL_law 235 = .ok (.ireturn, 1) := by decide +kernel
theorem dL_law_236 : decode cL_law 236 = .ok (.aload_n 1, 1) := by decide +kernel
theorem dL_law_237 : decode cL_law 237 = .ok (.aload_n 0, 1) := by decide +kernel
theorem dL_law_238 : decode cL_law 238 = .ok (.iload_n 3, 1) := by decide +kernel
theorem dL_law_239 : decode cL_law 239 = .ok (.iconst 1, 1) := by decide +kernel
theorem dL_law_240 : decode cL_law 240 = .ok (.iadd, 1) := by decide +kernel
theorem dL_law_241 : decode cL_law 241 = .ok (.iaload, 1) := by decide +kernel
theorem dL_law_242 : decode cL_law 242 = .ok (.invokevirtual 23, 3) := by decide +kernel
theorem dL_law_245 : decode cL_law 245 = .ok (.aload_n 2, 1) := by decide +kernel
theorem dL_law_246 : decode cL_law 246 = .ok (.aload_n 0, 1) := by decide +kernel
theorem dL_law_247 : decode cL_law 247 = .ok (.iload_n 3, 1) := by decide +kernel
theorem dL_law_248 : decode cL_law 248 = .ok (.iconst 1, 1) := by decide +kernel
theorem dL_law_249 : decode cL_law 249 = .ok (.iadd, 1) := by decide +kernel
theorem dL_law_250 : decode cL_law 250 = .ok (.iaload, 1) := by decide +kernel
theorem dL_law_251 : decode cL_law 251 = .ok (.invokevirtual 26, 3) := by decide +kernel
theorem dL_law_254 : decode cL_law 254 = .ok (.if_icmp .eq 946, 3) := by decide +kernel
theorem dL_law_257 : decode cL_law 257 = .ok (.iconst 0, 1) := by decide +kernel
theorem dL_law_258 : decode cL_law 258 = .ok (.ireturn, 1) := by decide +kernel
theorem dL_law_259 : decode cL_law 259 = .ok (.aload_n 1, 1) := by decide +kernel
theorem dL_law_260 : decode cL_law 260 = .ok (.aload_n 0, 1) := by decide +kernel
theorem dL_law_261 : decode cL_law 261 = .ok (.iload_n 3, 1) := by decide +kernel
theorem dL_law_262 : decode cL_law 262 = .ok (.iconst 1, 1) := by decide +kernel
theorem dL_law_263 : decode cL_law 263 = .ok (.iadd, 1) := by decide +kernel
theorem dL_law_264 : decode cL_law 264 = .ok (.iaload, 1) := by decide +kernel
theorem dL_law_265 : decode cL_law 265 = .ok (.aload_n 0, 1) := by decide +kernel
theorem dL_law_266 : decode cL_law 266 = .ok (.iload_n 3, 1) := by decide +kernel
theorem dL_law_267 : decode cL_law 267 = .ok (.iconst 2, 1) := by decide +kernel
theorem dL_law_268 : decode cL_law 268 = .ok (.iadd, 1) := by decide +kernel
theorem dL_law_269 : decode cL_law 269 = .ok (.iaload, 1) := by decide +kernel
theorem dL_law_270 : decode cL_law 270 = .ok (.invokevirtual 27, 3) := by decide +kernel
theorem dL_law_273 : decode cL_law 273 = .ok (.aload_n 2, 1) := by decide +kernel
theorem dL_law_274 : decode cL_law 274 = .ok (.aload_n 0, 1) := by decide +kernel
theorem dL_law_275 : decode cL_law 275 = .ok (.iload_n 3, 1) := by decide +kernel
theorem dL_law_276 : decode cL_law 276 = .ok (.iconst 1, 1) := by decide +kernel
theorem dL_law_277 : decode cL_law 277 = .ok (.iadd, 1) := by decide +kernel
theorem dL_law_278 : decode cL_law 278 = .ok (.iaload, 1) := by decide +kernel
theorem dL_law_279 : decode cL_law 279 = .ok (.aload_n 0, 1) := by decide +kernel
theorem dL_law_280 : decode cL_law 280 = .ok (.iload_n 3, 1) := by decide +kernel
theorem dL_law_281 : decode cL_law 281 = .ok (.iconst 2, 1) := by decide +kernel
theorem dL_law_282 : decode cL_law 282 = .ok (.iadd, 1) := by decide +kernel
theorem dL_law_283 : decode cL_law 283 = .ok (.iaload, 1) := by decide +kernel
theorem dL_law_284 : decode cL_law 284 = .ok (.invokevirtual 30, 3) := by decide +kernel
theorem dL_law_287 : decode cL_law 287 = .ok (.if_icmp .eq 913, 3) := by decide +kernel
theorem dL_law_290 : decode cL_law 290 = .ok (.iconst 0, 1) := by decide +kernel
theorem dL_law_291 : decode cL_law 291 = .ok (.ireturn, 1) := by decide +kernel
theorem dL_law_292 : decode cL_law 292 = .ok (.aload_n 1, 1) := by decide +kernel
theorem dL_law_293 : decode cL_law 293 = .ok (.aload_n 0, 1) := by decide +kernel
theorem dL_law_294 : decode cL_law 294 = .ok (.iload_n 3, 1) := by decide +kernel
theorem dL_law_295 : decode cL_law 295 = .ok (.iconst 1, 1) := by decide +kernel
theorem dL_law_296 : decode cL_law 296 = .ok (.iadd, 1) := by decide +kernel
theorem dL_law_297 : decode cL_law 297 = .ok (.iaload, 1) := by decide +kernel
theorem dL_law_298 : decode cL_law 298 = .ok (.aload_n 0, 1) := by decide +kernel
theorem dL_law_299 : decode cL_law 299 = .ok (.iload_n 3, 1) := by decide +kernel
theorem dL_law_300 : decode cL_law 300 = .ok (.iconst 2, 1) := by decide +kernel
theorem dL_law_301 : decode cL_law 301 = .ok (.iadd, 1) := by decide +kernel
theorem dL_law_302 : decode cL_law 302 = .ok (.iaload, 1) := by decide +kernel
theorem dL_law_303 : decode cL_law 303 = .ok (.invokevirtual 31, 3) := by decide +kernel
theorem dL_law_306 : decode cL_law 306 = .ok (.aload_n 2, 1) := by decide +kernel
theorem dL_law_307 : decode cL_law 307 = .ok (.aload_n 0, 1) := by decide +kernel
theorem dL_law_308 : decode cL_law 308 = .ok (.iload_n 3, 1) := by decide +kernel
theorem dL_law_309 : decode cL_law 309 = .ok (.iconst 1, 1) := by decide +kernel
theorem dL_law_310 : decode cL_law 310 = .ok (.iadd, 1) := by decide +kernel
theorem dL_law_311 : decode cL_law 311 = .ok (.iaload, 1) := by decide +kernel
theorem dL_law_312 : decode cL_law 312 = .ok (.aload_n 0, 1) := by decide +kernel
theorem dL_law_313 : decode cL_law 313 = .ok (.iload_n 3, 1) := by decide +kernel
theorem dL_law_314 : decode cL_law 314 = .ok (.iconst 2, 1) := by decide +kernel
theorem dL_law_315 : decode cL_law 315 = .ok (.iadd, 1) := by decide +kernel
theorem dL_law_316 : decode cL_law 316 = .ok (.iaload, 1) := by decide +kernel
theorem dL_law_317 : decode cL_law 317 = .ok (.invokevirtual 34, 3) := by decide +kernel
theorem dL_law_320 : decode cL_law 320 = .ok (.if_icmp .eq 880, 3) := by decide +kernel
theorem dL_law_323 : decode cL_law 323 = .ok (.iconst 0, 1) := by decide +kernel
theorem dL_law_324 : decode cL_law 324 = .ok (.ireturn, 1) := by decide +kernel
theorem dL_law_325 : decode cL_law 325 = .ok (.aload_n 1, 1) := by decide +kernel
theorem dL_law_326 : decode cL_law 326 = .ok (.aload_n 0, 1) := by decide +kernel
theorem dL_law_327 : decode cL_law 327 = .ok (.iload_n 3, 1) := by decide +kernel
theorem dL_law_328 : decode cL_law 328 = .ok (.iconst 1, 1) := by decide +kernel
theorem dL_law_329 : decode cL_law 329 = .ok (.iadd, 1) := by decide +kernel
theorem dL_law_330 : decode cL_law 330 = .ok (.iaload, 1) := by decide +kernel
theorem dL_law_331 : decode cL_law 331 = .ok (.aload_n 0, 1) := by decide +kernel
theorem dL_law_332 : decode cL_law 332 = .ok (.iload_n 3, 1) := by decide +kernel
theorem dL_law_333 : decode cL_law 333 = .ok (.iconst 2, 1) := by decide +kernel
theorem dL_law_334 : decode cL_law 334 = .ok (.iadd, 1) := by decide +kernel
theorem dL_law_335 : decode cL_law 335 = .ok (.iaload, 1) := by decide +kernel
theorem dL_law_336 : decode cL_law 336 = .ok (.invokevirtual 35, 3) := by decide +kernel
theorem dL_law_339 : decode cL_law 339 = .ok (.aload_n 2, 1) := by decide +kernel
theorem dL_law_340 : decode cL_law 340 = .ok (.aload_n 0, 1) := by decide +kernel
theorem dL_law_341 : decode cL_law 341 = .ok (.iload_n 3, 1) := by decide +kernel
theorem dL_law_342 : decode cL_law 342 = .ok (.iconst 1, 1) := by decide +kernel
theorem dL_law_343 : decode cL_law 343 = .ok (.iadd, 1) := by decide +kernel
theorem dL_law_344 : decode cL_law 344 = .ok (.iaload, 1) := by decide +kernel
theorem dL_law_345 : decode cL_law 345 = .ok (.aload_n 0, 1) := by decide +kernel
theorem dL_law_346 : decode cL_law 346 = .ok (.iload_n 3, 1) := by decide +kernel
theorem dL_law_347 : decode cL_law 347 = .ok (.iconst 2, 1) := by decide +kernel
theorem dL_law_348 : decode cL_law 348 = .ok (.iadd, 1) := by decide +kernel
theorem dL_law_349 : decode cL_law 349 = .ok (.iaload, 1) := by decide +kernel
theorem dL_law_350 : decode cL_law 350 = .ok (.invokevirtual 38, 3) := by decide +kernel
theorem dL_law_353 : decode cL_law 353 = .ok (.if_icmp .eq 847, 3) := by decide +kernel
theorem dL_law_356 : decode cL_law 356 = .ok (.iconst 0, 1) := by decide +kernel
theorem dL_law_357 : decode cL_law 357 = .ok (.ireturn, 1) := by decide +kernel
theorem dL_law_358 : decode cL_law 358 = .ok (.aload_n 1, 1) := by decide +kernel
theorem dL_law_359 : decode cL_law 359 = .ok (.aload_n 0, 1) := by decide +kernel
theorem dL_law_360 : decode cL_law 360 = .ok (.iload_n 3, 1) := by decide +kernel
theorem dL_law_361 : decode cL_law 361 = .ok (.iconst 1, 1) := by decide +kernel
theorem dL_law_362 : decode cL_law 362 = .ok (.iadd, 1) := by decide +kernel
theorem dL_law_363 : decode cL_law 363 = .ok (.iaload, 1) := by decide +kernel
theorem dL_law_364 : decode cL_law 364 = .ok (.aload_n 0, 1) := by decide +kernel
theorem dL_law_365 : decode cL_law 365 = .ok (.iload_n 3, 1) := by decide +kernel
theorem dL_law_366 : decode cL_law 366 = .ok (.iconst 2, 1) := by decide +kernel
theorem dL_law_367 : decode cL_law 367 = .ok (.iadd, 1) := by decide +kernel
theorem dL_law_368 : decode cL_law 368 = .ok (.iaload, 1) := by decide +kernel
theorem dL_law_369 : decode cL_law 369 = .ok (.aload_n 0, 1) := by decide +kernel
theorem dL_law_370 : decode cL_law 370 = .ok (.iload_n 3, 1) := by decide +kernel
theorem dL_law_371 : decode cL_law 371 = .ok (.iconst 3, 1) := by decide +kernel
theorem dL_law_372 : decode cL_law 372 = .ok (.iadd, 1) := by decide +kernel
theorem dL_law_373 : decode cL_law 373 = .ok (.iaload, 1) := by decide +kernel
theorem dL_law_374 : decode cL_law 374 = .ok (.aload_n 0, 1) := by decide +kernel
theorem dL_law_375 : decode cL_law 375 = .ok (.iload_n 3, 1) := by decide +kernel
theorem dL_law_376 : decode cL_law 376 = .ok (.iconst 4, 1) := by decide +kernel
theorem dL_law_377 : decode cL_law 377 = .ok (.iadd, 1) := by decide +kernel
theorem dL_law_378 : decode cL_law 378 = .ok (.iaload, 1) := by decide +kernel
theorem dL_law_379 : decode cL_law 379 = .ok (.invokevirtual 39, 3) := by decide +kernel
theorem dL_law_382 : decode cL_law 382 = .ok (.aload_n 2, 1) := by decide +kernel
theorem dL_law_383 : decode cL_law 383 = .ok (.aload_n 0, 1) := by decide +kernel
theorem dL_law_384 : decode cL_law 384 = .ok (.iload_n 3, 1) := by decide +kernel
theorem dL_law_385 : decode cL_law 385 = .ok (.iconst 1, 1) := by decide +kernel
theorem dL_law_386 : decode cL_law 386 = .ok (.iadd, 1) := by decide +kernel
theorem dL_law_387 : decode cL_law 387 = .ok (.iaload, 1) := by decide +kernel
theorem dL_law_388 : decode cL_law 388 = .ok (.aload_n 0, 1) := by decide +kernel
theorem dL_law_389 : decode cL_law 389 = .ok (.iload_n 3, 1) := by decide +kernel
theorem dL_law_390 : decode cL_law 390 = .ok (.iconst 2, 1) := by decide +kernel
theorem dL_law_391 : decode cL_law 391 = .ok (.iadd, 1) := by decide +kernel
theorem dL_law_392 : decode cL_law 392 = .ok (.iaload, 1) := by decide +kernel
theorem dL_law_393 : decode cL_law 393 = .ok (.aload_n 0, 1) := by decide +kernel
theorem dL_law_394 : decode cL_law 394 = .ok (.iload_n 3, 1) := by decide +kernel
theorem dL_law_395 : decode cL_law 395 = .ok (.iconst 3, 1) := by decide +kernel
theorem dL_law_396 : decode cL_law 396 = .ok (.iadd, 1) := by decide +kernel
theorem dL_law_397 : decode cL_law 397 = .ok (.iaload, 1) := by decide +kernel
theorem dL_law_398 : decode cL_law 398 = .ok (.aload_n 0, 1) := by decide +kernel
theorem dL_law_399 : decode cL_law 399 = .ok (.iload_n 3, 1) := by decide +kernel
theorem dL_law_400 : decode cL_law 400 = .ok (.iconst 4, 1) := by decide +kernel
theorem dL_law_401 : decode cL_law 401 = .ok (.iadd, 1) := by decide +kernel
theorem dL_law_402 : decode cL_law 402 = .ok (.iaload, 1) := by decide +kernel
theorem dL_law_403 : decode cL_law 403 = .ok (.invokevirtual 43, 3) := by decide +kernel
theorem dL_law_406 : decode cL_law 406 = .ok (.if_icmp .eq 794, 3) := by decide +kernel
theorem dL_law_409 : decode cL_law 409 = .ok (.iconst 0, 1) := by decide +kernel
theorem dL_law_410 : decode cL_law 410 = .ok (.ireturn, 1) := by decide +kernel
theorem dL_law_411 : decode cL_law 411 = .ok (.aload_n 1, 1) := by decide +kernel
theorem dL_law_412 : decode cL_law 412 = .ok (.aload_n 0, 1) := by decide +kernel
theorem dL_law_413 : decode cL_law 413 = .ok (.iload_n 3, 1) := by decide +kernel
theorem dL_law_414 : decode cL_law 414 = .ok (.iconst 1, 1) := by decide +kernel
theorem dL_law_415 : decode cL_law 415 = .ok (.iadd, 1) := by decide +kernel
theorem dL_law_416 : decode cL_law 416 = .ok (.iaload, 1) := by decide +kernel
theorem dL_law_417 : decode cL_law 417 = .ok (.aload_n 0, 1) := by decide +kernel
theorem dL_law_418 : decode cL_law 418 = .ok (.iload_n 3, 1) := by decide +kernel
theorem dL_law_419 : decode cL_law 419 = .ok (.iconst 2, 1) := by decide +kernel
theorem dL_law_420 : decode cL_law 420 = .ok (.iadd, 1) := by decide +kernel
theorem dL_law_421 : decode cL_law 421 = .ok (.iaload, 1) := by decide +kernel
theorem dL_law_422 : decode cL_law 422 = .ok (.aload_n 0, 1) := by decide +kernel
theorem dL_law_423 : decode cL_law 423 = .ok (.iload_n 3, 1) := by decide +kernel
theorem dL_law_424 : decode cL_law 424 = .ok (.iconst 3, 1) := by decide +kernel
theorem dL_law_425 : decode cL_law 425 = .ok (.iadd, 1) := by decide +kernel
theorem dL_law_426 : decode cL_law 426 = .ok (.iaload, 1) := by decide +kernel
theorem dL_law_427 : decode cL_law 427 = .ok (.invokevirtual 44, 3) := by decide +kernel
theorem dL_law_430 : decode cL_law 430 = .ok (.aload_n 2, 1) := by decide +kernel
theorem dL_law_431 : decode cL_law 431 = .ok (.aload_n 0, 1) := by decide +kernel
theorem dL_law_432 : decode cL_law 432 = .ok (.iload_n 3, 1) := by decide +kernel
theorem dL_law_433 : decode cL_law 433 = .ok (.iconst 1, 1) := by decide +kernel
theorem dL_law_434 : decode cL_law 434 = .ok (.iadd, 1) := by decide +kernel
theorem dL_law_435 : decode cL_law 435 = .ok (.iaload, 1) := by decide +kernel
theorem dL_law_436 : decode cL_law 436 = .ok (.aload_n 0, 1) := by decide +kernel
theorem dL_law_437 : decode cL_law 437 = .ok (.iload_n 3, 1) := by decide +kernel
theorem dL_law_438 : decode cL_law 438 = .ok (.iconst 2, 1) := by decide +kernel
theorem dL_law_439 : decode cL_law 439 = .ok (.iadd, 1) := by decide +kernel
theorem dL_law_440 : decode cL_law 440 = .ok (.iaload, 1) := by decide +kernel
theorem dL_law_441 : decode cL_law 441 = .ok (.aload_n 0, 1) := by decide +kernel
theorem dL_law_442 : decode cL_law 442 = .ok (.iload_n 3, 1) := by decide +kernel
theorem dL_law_443 : decode cL_law 443 = .ok (.iconst 3, 1) := by decide +kernel
theorem dL_law_444 : decode cL_law 444 = .ok (.iadd, 1) := by decide +kernel
theorem dL_law_445 : decode cL_law 445 = .ok (.iaload, 1) := by decide +kernel
theorem dL_law_446 : decode cL_law 446 = .ok (.invokevirtual 48, 3) := by decide +kernel
theorem dL_law_449 : decode cL_law 449 = .ok (.if_icmp .eq 751, 3) := by decide +kernel
theorem dL_law_452 : decode cL_law 452 = .ok (.iconst 0, 1) := by decide +kernel
theorem dL_law_453 : decode cL_law 453 = .ok (.ireturn, 1) := by decide +kernel
theorem dL_law_454 : decode cL_law 454 = .ok (.aload_n 1, 1) := by decide +kernel
theorem dL_law_455 : decode cL_law 455 = .ok (.aload_n 0, 1) := by decide +kernel
theorem dL_law_456 : decode cL_law 456 = .ok (.iload_n 3, 1) := by decide +kernel
theorem dL_law_457 : decode cL_law 457 = .ok (.iconst 1, 1) := by decide +kernel
theorem dL_law_458 : decode cL_law 458 = .ok (.iadd, 1) := by decide +kernel
theorem dL_law_459 : decode cL_law 459 = .ok (.iaload, 1) := by decide +kernel
theorem dL_law_460 : decode cL_law 460 = .ok (.aload_n 0, 1) := by decide +kernel
theorem dL_law_461 : decode cL_law 461 = .ok (.iload_n 3, 1) := by decide +kernel
theorem dL_law_462 : decode cL_law 462 = .ok (.iconst 2, 1) := by decide +kernel
theorem dL_law_463 : decode cL_law 463 = .ok (.iadd, 1) := by decide +kernel
theorem dL_law_464 : decode cL_law 464 = .ok (.iaload, 1) := by decide +kernel
theorem dL_law_465 : decode cL_law 465 = .ok (.invokevirtual 49, 3) := by decide +kernel
theorem dL_law_468 : decode cL_law 468 = .ok (.aload_n 2, 1) := by decide +kernel
theorem dL_law_469 : decode cL_law 469 = .ok (.aload_n 0, 1) := by decide +kernel
theorem dL_law_470 : decode cL_law 470 = .ok (.iload_n 3, 1) := by decide +kernel
theorem dL_law_471 : decode cL_law 471 = .ok (.iconst 1, 1) := by decide +kernel
theorem dL_law_472 : decode cL_law 472 = .ok (.iadd, 1) := by decide +kernel
theorem dL_law_473 : decode cL_law 473 = .ok (.iaload, 1) := by decide +kernel
theorem dL_law_474 : decode cL_law 474 = .ok (.aload_n 0, 1) := by decide +kernel
theorem dL_law_475 : decode cL_law 475 = .ok (.iload_n 3, 1) := by decide +kernel
theorem dL_law_476 : decode cL_law 476 = .ok (.iconst 2, 1) := by decide +kernel
theorem dL_law_477 : decode cL_law 477 = .ok (.iadd, 1) := by decide +kernel
theorem dL_law_478 : decode cL_law 478 = .ok (.iaload, 1) := by decide +kernel
theorem dL_law_479 : decode cL_law 479 = .ok (.invokevirtual 52, 3) := by decide +kernel
theorem dL_law_482 : decode cL_law 482 = .ok (.if_icmp .eq 718, 3) := by decide +kernel
theorem dL_law_485 : decode cL_law 485 = .ok (.iconst 0, 1) := by decide +kernel
theorem dL_law_486 : decode cL_law 486 = .ok (.ireturn, 1) := by decide +kernel
theorem dL_law_487 : decode cL_law 487 = .ok (.aload_n 1, 1) := by decide +kernel
theorem dL_law_488 : decode cL_law 488 = .ok (.invokevirtual 53, 3) := by decide +kernel
theorem dL_law_491 : decode cL_law 491 = .ok (.aload_n 2, 1) := by decide +kernel
theorem dL_law_492 : decode cL_law 492 = .ok (.invokevirtual 57, 3) := by decide +kernel
theorem dL_law_495 : decode cL_law 495 = .ok (.if_icmp .eq 705, 3) := by decide +kernel
theorem dL_law_498 : decode cL_law 498 = .ok (.iconst 0, 1) := by decide +kernel
theorem dL_law_499 : decode cL_law 499 = .ok (.ireturn, 1) := by decide +kernel
theorem dL_law_500 : decode cL_law 500 = .ok (.aload_n 1, 1) := by decide +kernel
theorem dL_law_501 : decode cL_law 501 = .ok (.invokevirtual 58, 3) := by decide +kernel
theorem dL_law_504 : decode cL_law 504 = .ok (.aload_n 2, 1) := by decide +kernel
theorem dL_law_505 : decode cL_law 505 = .ok (.invokevirtual 61, 3) := by decide +kernel
theorem dL_law_508 : decode cL_law 508 = .ok (.if_icmp .eq 692, 3) := by decide +kernel
theorem dL_law_511 : decode cL_law 511 = .ok (.iconst 0, 1) := by decide +kernel
theorem dL_law_512 : decode cL_law 512 = .ok (.ireturn, 1) := by decide +kernel
theorem dL_law_513 : decode cL_law 513 = .ok (.aload_n 1, 1) := by decide +kernel
theorem dL_law_514 : decode cL_law 514 = .ok (.aload_n 0, 1) := by decide +kernel
theorem dL_law_515 : decode cL_law 515 = .ok (.iload_n 3, 1) := by decide +kernel
theorem dL_law_516 : decode cL_law 516 = .ok (.iconst 1, 1) := by decide +kernel
theorem dL_law_517 : decode cL_law 517 = .ok (.iadd, 1) := by decide +kernel
theorem dL_law_518 : decode cL_law 518 = .ok (.iaload, 1) := by decide +kernel
theorem dL_law_519 : decode cL_law 519 = .ok (.invokevirtual 62, 3) := by decide +kernel
theorem dL_law_522 : decode cL_law 522 = .ok (.aload_n 2, 1) := by decide +kernel
theorem dL_law_523 : decode cL_law 523 = .ok (.aload_n 0, 1) := by decide +kernel
theorem dL_law_524 : decode cL_law 524 = .ok (.iload_n 3, 1) := by decide +kernel
theorem dL_law_525 : decode cL_law 525 = .ok (.iconst 1, 1) := by decide +kernel
theorem dL_law_526 : decode cL_law 526 = .ok (.iadd, 1) := by decide +kernel
theorem dL_law_527 : decode cL_law 527 = .ok (.iaload, 1) := by decide +kernel
theorem dL_law_528 : decode cL_law 528 = .ok (.invokevirtual 65, 3) := by decide +kernel
theorem dL_law_531 : decode cL_law 531 = .ok (.if_icmp .eq 669, 3) := by decide +kernel
theorem dL_law_534 : decode cL_law 534 = .ok (.iconst 0, 1) := by decide +kernel
theorem dL_law_535 : decode cL_law 535 = .ok (.ireturn, 1) := by decide +kernel
theorem dL_law_536 : decode cL_law 536 = .ok (.aload_n 1, 1) := by decide +kernel
theorem dL_law_537 : decode cL_law 537 = .ok (.aload_n 0, 1) := by decide +kernel
theorem dL_law_538 : decode cL_law 538 = .ok (.iload_n 3, 1) := by decide +kernel
theorem dL_law_539 : decode cL_law 539 = .ok (.iconst 1, 1) := by decide +kernel
theorem dL_law_540 : decode cL_law 540 = .ok (.iadd, 1) := by decide +kernel
theorem dL_law_541 : decode cL_law 541 = .ok (.iaload, 1) := by decide +kernel
theorem dL_law_542 : decode cL_law 542 = .ok (.aload_n 0, 1) := by decide +kernel
theorem dL_law_543 : decode cL_law 543 = .ok (.iload_n 3, 1) := by decide +kernel
theorem dL_law_544 : decode cL_law 544 = .ok (.iconst 2, 1) := by decide +kernel
theorem dL_law_545 : decode cL_law 545 = .ok (.iadd, 1) := by decide +kernel
theorem dL_law_546 : decode cL_law 546 = .ok (.iaload, 1) := by decide +kernel
theorem dL_law_547 : decode cL_law 547 = .ok (.invokevirtual 66, 3) := by decide +kernel
theorem dL_law_550 : decode cL_law 550 = .ok (.aload_n 2, 1) := by decide +kernel
theorem dL_law_551 : decode cL_law 551 = .ok (.aload_n 0, 1) := by decide +kernel
theorem dL_law_552 : decode cL_law 552 = .ok (.iload_n 3, 1) := by decide +kernel
theorem dL_law_553 : decode cL_law 553 = .ok (.iconst 1, 1) := by decide +kernel
theorem dL_law_554 : decode cL_law 554 = .ok (.iadd, 1) := by decide +kernel
theorem dL_law_555 : decode cL_law 555 = .ok (.iaload, 1) := by decide +kernel
theorem dL_law_556 : decode cL_law 556 = .ok (.aload_n 0, 1) := by decide +kernel
theorem dL_law_557 : decode cL_law 557 = .ok (.iload_n 3, 1) := by decide +kernel
theorem dL_law_558 : decode cL_law 558 = .ok (.iconst 2, 1) := by decide +kernel
theorem dL_law_559 : decode cL_law 559 = .ok (.iadd, 1) := by decide +kernel
theorem dL_law_560 : decode cL_law 560 = .ok (.iaload, 1) := by decide +kernel
theorem dL_law_561 : decode cL_law 561 = .ok (.invokevirtual 69, 3) := by decide +kernel
theorem dL_law_564 : decode cL_law 564 = .ok (.if_icmp .eq 636, 3) := by decide +kernel
theorem dL_law_567 : decode cL_law 567 = .ok (.iconst 0, 1) := by decide +kernel
theorem dL_law_568 : decode cL_law 568 = .ok (.ireturn, 1) := by decide +kernel
theorem dL_law_569 : decode cL_law 569 = .ok (.aload_n 1, 1) := by decide +kernel
theorem dL_law_570 : decode cL_law 570 = .ok (.aload_n 0, 1) := by decide +kernel
theorem dL_law_571 : decode cL_law 571 = .ok (.iload_n 3, 1) := by decide +kernel
theorem dL_law_572 : decode cL_law 572 = .ok (.iconst 1, 1) := by decide +kernel
theorem dL_law_573 : decode cL_law 573 = .ok (.iadd, 1) := by decide +kernel
theorem dL_law_574 : decode cL_law 574 = .ok (.iaload, 1) := by decide +kernel
theorem dL_law_575 : decode cL_law 575 = .ok (.aload_n 0, 1) := by decide +kernel
theorem dL_law_576 : decode cL_law 576 = .ok (.iload_n 3, 1) := by decide +kernel
theorem dL_law_577 : decode cL_law 577 = .ok (.iconst 2, 1) := by decide +kernel
theorem dL_law_578 : decode cL_law 578 = .ok (.iadd, 1) := by decide +kernel
theorem dL_law_579 : decode cL_law 579 = .ok (.iaload, 1) := by decide +kernel
theorem dL_law_580 : decode cL_law 580 = .ok (.aload_n 0, 1) := by decide +kernel
theorem dL_law_581 : decode cL_law 581 = .ok (.iload_n 3, 1) := by decide +kernel
theorem dL_law_582 : decode cL_law 582 = .ok (.iconst 3, 1) := by decide +kernel
theorem dL_law_583 : decode cL_law 583 = .ok (.iadd, 1) := by decide +kernel
theorem dL_law_584 : decode cL_law 584 = .ok (.iaload, 1) := by decide +kernel
theorem dL_law_585 : decode cL_law 585 = .ok (.invokevirtual 70, 3) := by decide +kernel
theorem dL_law_588 : decode cL_law 588 = .ok (.aload_n 2, 1) := by decide +kernel
theorem dL_law_589 : decode cL_law 589 = .ok (.aload_n 0, 1) := by decide +kernel
theorem dL_law_590 : decode cL_law 590 = .ok (.iload_n 3, 1) := by decide +kernel
theorem dL_law_591 : decode cL_law 591 = .ok (.iconst 1, 1) := by decide +kernel
theorem dL_law_592 : decode cL_law 592 = .ok (.iadd, 1) := by decide +kernel
theorem dL_law_593 : decode cL_law 593 = .ok (.iaload, 1) := by decide +kernel
theorem dL_law_594 : decode cL_law 594 = .ok (.aload_n 0, 1) := by decide +kernel
theorem dL_law_595 : decode cL_law 595 = .ok (.iload_n 3, 1) := by decide +kernel
theorem dL_law_596 : decode cL_law 596 = .ok (.iconst 2, 1) := by decide +kernel
theorem dL_law_597 : decode cL_law 597 = .ok (.iadd, 1) := by decide +kernel
theorem dL_law_598 : decode cL_law 598 = .ok (.iaload, 1) := by decide +kernel
theorem dL_law_599 : decode cL_law 599 = .ok (.aload_n 0, 1) := by decide +kernel
theorem dL_law_600 : decode cL_law 600 = .ok (.iload_n 3, 1) := by decide +kernel
theorem dL_law_601 : decode cL_law 601 = .ok (.iconst 3, 1) := by decide +kernel
theorem dL_law_602 : decode cL_law 602 = .ok (.iadd, 1) := by decide +kernel
theorem dL_law_603 : decode cL_law 603 = .ok (.iaload, 1) := by decide +kernel
theorem dL_law_604 : decode cL_law 604 = .ok (.invokevirtual 73, 3) := by decide +kernel
theorem dL_law_607 : decode cL_law 607 = .ok (.if_icmp .eq 593, 3) := by decide +kernel
theorem dL_law_610 : decode cL_law 610 = .ok (.iconst 0, 1) := by decide +kernel
theorem dL_law_611 : decode cL_law 611 = .ok (.ireturn, 1) := by decide +kernel
theorem dL_law_612 : decode cL_law 612 = .ok (.aload_n 1, 1) := by decide +kernel
theorem dL_law_613 : decode cL_law 613 = .ok (.aload_n 0, 1) := by decide +kernel
theorem dL_law_614 : decode cL_law 614 = .ok (.iload_n 3, 1) := by decide +kernel
theorem dL_law_615 : decode cL_law 615 = .ok (.iconst 1, 1) := by decide +kernel
theorem dL_law_616 : decode cL_law 616 = .ok (.iadd, 1) := by decide +kernel
theorem dL_law_617 : decode cL_law 617 = .ok (.iaload, 1) := by decide +kernel
theorem dL_law_618 : decode cL_law 618 = .ok (.invokevirtual 74, 3) := by decide +kernel
theorem dL_law_621 : decode cL_law 621 = .ok (.aload_n 2, 1) := by decide +kernel
theorem dL_law_622 : decode cL_law 622 = .ok (.aload_n 0, 1) := by decide +kernel
theorem dL_law_623 : decode cL_law 623 = .ok (.iload_n 3, 1) := by decide +kernel
theorem dL_law_624 : decode cL_law 624 = .ok (.iconst 1, 1) := by decide +kernel
theorem dL_law_625 : decode cL_law 625 = .ok (.iadd, 1) := by decide +kernel
theorem dL_law_626 : decode cL_law 626 = .ok (.iaload, 1) := by decide +kernel
theorem dL_law_627 : decode cL_law 627 = .ok (.invokevirtual 77, 3) := by decide +kernel
theorem dL_law_630 : decode cL_law 630 = .ok (.if_icmp .eq 570, 3) := by decide +kernel
theorem dL_law_633 : decode cL_law 633 = .ok (.iconst 0, 1) := by decide +kernel
theorem dL_law_634 : decode cL_law 634 = .ok (.ireturn, 1) := by decide +kernel
theorem dL_law_635 : decode cL_law 635 = .ok (.aload_n 1, 1) := by decide +kernel
theorem dL_law_636 : decode cL_law 636 = .ok (.aload_n 0, 1) := by decide +kernel
theorem dL_law_637 : decode cL_law 637 = .ok (.iload_n 3, 1) := by decide +kernel
theorem dL_law_638 : decode cL_law 638 = .ok (.iconst 1, 1) := by decide +kernel
theorem dL_law_639 : decode cL_law 639 = .ok (.iadd, 1) := by decide +kernel
theorem dL_law_640 : decode cL_law 640 = .ok (.iaload, 1) := by decide +kernel
theorem dL_law_641 : decode cL_law 641 = .ok (.aload_n 0, 1) := by decide +kernel
theorem dL_law_642 : decode cL_law 642 = .ok (.iload_n 3, 1) := by decide +kernel
theorem dL_law_643 : decode cL_law 643 = .ok (.iconst 2, 1) := by decide +kernel
theorem dL_law_644 : decode cL_law 644 = .ok (.iadd, 1) := by decide +kernel
theorem dL_law_645 : decode cL_law 645 = .ok (.iaload, 1) := by decide +kernel
theorem dL_law_646 : decode cL_law 646 = .ok (.invokevirtual 78, 3) := by decide +kernel
theorem dL_law_649 : decode cL_law 649 = .ok (.aload_n 2, 1) := by decide +kernel
theorem dL_law_650 : decode cL_law 650 = .ok (.aload_n 0, 1) := by decide +kernel
theorem dL_law_651 : decode cL_law 651 = .ok (.iload_n 3, 1) := by decide +kernel
theorem dL_law_652 : decode cL_law 652 = .ok (.iconst 1, 1) := by decide +kernel
theorem dL_law_653 : decode cL_law 653 = .ok (.iadd, 1) := by decide +kernel
theorem dL_law_654 : decode cL_law 654 = .ok (.iaload, 1) := by decide +kernel
theorem dL_law_655 : decode cL_law 655 = .ok (.aload_n 0, 1) := by decide +kernel
theorem dL_law_656 : decode cL_law 656 = .ok (.iload_n 3, 1) := by decide +kernel
theorem dL_law_657 : decode cL_law 657 = .ok (.iconst 2, 1) := by decide +kernel
theorem dL_law_658 : decode cL_law 658 = .ok (.iadd, 1) := by decide +kernel
theorem dL_law_659 : decode cL_law 659 = .ok (.iaload, 1) := by decide +kernel
theorem dL_law_660 : decode cL_law 660 = .ok (.invokevirtual 81, 3) := by decide +kernel
theorem dL_law_663 : decode cL_law 663 = .ok (.if_icmp .eq 537, 3) := by decide +kernel
theorem dL_law_666 : decode cL_law 666 = .ok (.iconst 0, 1) := by decide +kernel
theorem dL_law_667 : decode cL_law 667 = .ok (.ireturn, 1) := by decide +kernel
theorem dL_law_668 : decode cL_law 668 = .ok (.aload_n 1, 1) := by decide +kernel
theorem dL_law_669 : decode cL_law 669 = .ok (.aload_n 0, 1) := by decide +kernel
theorem dL_law_670 : decode cL_law 670 = .ok (.iload_n 3, 1) := by decide +kernel
theorem dL_law_671 : decode cL_law 671 = .ok (.iconst 1, 1) := by decide +kernel
theorem dL_law_672 : decode cL_law 672 = .ok (.iadd, 1) := by decide +kernel
theorem dL_law_673 : decode cL_law 673 = .ok (.iaload, 1) := by decide +kernel
theorem dL_law_674 : decode cL_law 674 = .ok (.aload_n 0, 1) := by decide +kernel
theorem dL_law_675 : decode cL_law 675 = .ok (.iload_n 3, 1) := by decide +kernel
theorem dL_law_676 : decode cL_law 676 = .ok (.iconst 2, 1) := by decide +kernel
theorem dL_law_677 : decode cL_law 677 = .ok (.iadd, 1) := by decide +kernel
theorem dL_law_678 : decode cL_law 678 = .ok (.iaload, 1) := by decide +kernel
theorem dL_law_679 : decode cL_law 679 = .ok (.invokevirtual 82, 3) := by decide +kernel
theorem dL_law_682 : decode cL_law 682 = .ok (.aload_n 2, 1) := by decide +kernel
theorem dL_law_683 : decode cL_law 683 = .ok (.aload_n 0, 1) := by decide +kernel
theorem dL_law_684 : decode cL_law 684 = .ok (.iload_n 3, 1) := by decide +kernel
theorem dL_law_685 : decode cL_law 685 = .ok (.iconst 1, 1) := by decide +kernel
theorem dL_law_686 : decode cL_law 686 = .ok (.iadd, 1) := by decide +kernel
theorem dL_law_687 : decode cL_law 687 = .ok (.iaload, 1) := by decide +kernel
theorem dL_law_688 : decode cL_law 688 = .ok (.aload_n 0, 1) := by decide +kernel
theorem dL_law_689 : decode cL_law 689 = .ok (.iload_n 3, 1) := by decide +kernel
theorem dL_law_690 : decode cL_law 690 = .ok (.iconst 2, 1) := by decide +kernel
theorem dL_law_691 : decode cL_law 691 = .ok (.iadd, 1) := by decide +kernel
theorem dL_law_692 : decode cL_law 692 = .ok (.iaload, 1) := by decide +kernel
theorem dL_law_693 : decode cL_law 693 = .ok (.invokevirtual 85, 3) := by decide +kernel
theorem dL_law_696 : decode cL_law 696 = .ok (.if_icmp .eq 504, 3) := by decide +kernel
theorem dL_law_699 : decode cL_law 699 = .ok (.iconst 0, 1) := by decide +kernel
theorem dL_law_700 : decode cL_law 700 = .ok (.ireturn, 1) := by decide +kernel
theorem dL_law_701 : decode cL_law 701 = .ok (.aload_n 1, 1) := by decide +kernel
theorem dL_law_702 : decode cL_law 702 = .ok (.invokevirtual 86, 3) := by decide +kernel
theorem dL_law_705 : decode cL_law 705 = .ok (.aload_n 2, 1) := by decide +kernel
theorem dL_law_706 : decode cL_law 706 = .ok (.invokevirtual 89, 3) := by decide +kernel
theorem dL_law_709 : decode cL_law 709 = .ok (.if_icmp .eq 491, 3) := by decide +kernel
theorem dL_law_712 : decode cL_law 712 = .ok (.iconst 0, 1) := by decide +kernel
theorem dL_law_713 : decode cL_law 713 = .ok (.ireturn, 1) := by decide +kernel
theorem dL_law_714 : decode cL_law 714 = .ok (.aload_n 1, 1) := by decide +kernel
theorem dL_law_715 : decode cL_law 715 = .ok (.aload_n 0, 1) := by decide +kernel
theorem dL_law_716 : decode cL_law 716 = .ok (.iload_n 3, 1) := by decide +kernel
theorem dL_law_717 : decode cL_law 717 = .ok (.iconst 1, 1) := by decide +kernel
theorem dL_law_718 : decode cL_law 718 = .ok (.iadd, 1) := by decide +kernel
theorem dL_law_719 : decode cL_law 719 = .ok (.iaload, 1) := by decide +kernel
theorem dL_law_720 : decode cL_law 720 = .ok (.aload_n 0, 1) := by decide +kernel
theorem dL_law_721 : decode cL_law 721 = .ok (.iload_n 3, 1) := by decide +kernel
theorem dL_law_722 : decode cL_law 722 = .ok (.iconst 2, 1) := by decide +kernel
theorem dL_law_723 : decode cL_law 723 = .ok (.iadd, 1) := by decide +kernel
theorem dL_law_724 : decode cL_law 724 = .ok (.iaload, 1) := by decide +kernel
theorem dL_law_725 : decode cL_law 725 = .ok (.aload_n 0, 1) := by decide +kernel
theorem dL_law_726 : decode cL_law 726 = .ok (.iload_n 3, 1) := by decide +kernel
theorem dL_law_727 : decode cL_law 727 = .ok (.iconst 3, 1) := by decide +kernel
theorem dL_law_728 : decode cL_law 728 = .ok (.iadd, 1) := by decide +kernel
theorem dL_law_729 : decode cL_law 729 = .ok (.iaload, 1) := by decide +kernel
theorem dL_law_730 : decode cL_law 730 = .ok (.invokevirtual 90, 3) := by decide +kernel
theorem dL_law_733 : decode cL_law 733 = .ok (.aload_n 2, 1) := by decide +kernel
theorem dL_law_734 : decode cL_law 734 = .ok (.aload_n 0, 1) := by decide +kernel
theorem dL_law_735 : decode cL_law 735 = .ok (.iload_n 3, 1) := by decide +kernel
theorem dL_law_736 : decode cL_law 736 = .ok (.iconst 1, 1) := by decide +kernel
theorem dL_law_737 : decode cL_law 737 = .ok (.iadd, 1) := by decide +kernel
theorem dL_law_738 : decode cL_law 738 = .ok (.iaload, 1) := by decide +kernel
theorem dL_law_739 : decode cL_law 739 = .ok (.aload_n 0, 1) := by decide +kernel
theorem dL_law_740 : decode cL_law 740 = .ok (.iload_n 3, 1) := by decide +kernel
theorem dL_law_741 : decode cL_law 741 = .ok (.iconst 2, 1) := by decide +kernel
theorem dL_law_742 : decode cL_law 742 = .ok (.iadd, 1) := by decide +kernel
theorem dL_law_743 : decode cL_law 743 = .ok (.iaload, 1) := by decide +kernel
theorem dL_law_744 : decode cL_law 744 = .ok (.aload_n 0, 1) := by decide +kernel
theorem dL_law_745 : decode cL_law 745 = .ok (.iload_n 3, 1) := by decide +kernel
theorem dL_law_746 : decode cL_law 746 = .ok (.iconst 3, 1) := by decide +kernel
theorem dL_law_747 : decode cL_law 747 = .ok (.iadd, 1) := by decide +kernel
theorem dL_law_748 : decode cL_law 748 = .ok (.iaload, 1) := by decide +kernel
theorem dL_law_749 : decode cL_law 749 = .ok (.invokevirtual 93, 3) := by decide +kernel
theorem dL_law_752 : decode cL_law 752 = .ok (.if_icmp .eq 448, 3) := by decide +kernel
theorem dL_law_755 : decode cL_law 755 = .ok (.iconst 0, 1) := by decide +kernel
theorem dL_law_756 : decode cL_law 756 = .ok (.ireturn, 1) := by decide +kernel
theorem dL_law_757 : decode cL_law 757 = .ok (.aload_n 1, 1) := by decide +kernel
theorem dL_law_758 : decode cL_law 758 = .ok (.invokevirtual 94, 3) := by decide +kernel
theorem dL_law_761 : decode cL_law 761 = .ok (.aload_n 2, 1) := by decide +kernel
theorem dL_law_762 : decode cL_law 762 = .ok (.invokevirtual 97, 3) := by decide +kernel
theorem dL_law_765 : decode cL_law 765 = .ok (.if_icmp .eq 435, 3) := by decide +kernel
theorem dL_law_768 : decode cL_law 768 = .ok (.iconst 0, 1) := by decide +kernel
theorem dL_law_769 : decode cL_law 769 = .ok (.ireturn, 1) := by decide +kernel
theorem dL_law_770 : decode cL_law 770 = .ok (.aload_n 1, 1) := by decide +kernel
theorem dL_law_771 : decode cL_law 771 = .ok (.aload_n 0, 1) := by decide +kernel
theorem dL_law_772 : decode cL_law 772 = .ok (.iload_n 3, 1) := by decide +kernel
theorem dL_law_773 : decode cL_law 773 = .ok (.iconst 1, 1) := by decide +kernel
theorem dL_law_774 : decode cL_law 774 = .ok (.iadd, 1) := by decide +kernel
theorem dL_law_775 : decode cL_law 775 = .ok (.iaload, 1) := by decide +kernel
theorem dL_law_776 : decode cL_law 776 = .ok (.invokevirtual 98, 3) := by decide +kernel
theorem dL_law_779 : decode cL_law 779 = .ok (.aload_n 2, 1) := by decide +kernel
theorem dL_law_780 : decode cL_law 780 = .ok (.aload_n 0, 1) := by decide +kernel
theorem dL_law_781 : decode cL_law 781 = .ok (.iload_n 3, 1) := by decide +kernel
theorem dL_law_782 : decode cL_law 782 = .ok (.iconst 1, 1) := by decide +kernel
theorem dL_law_783 : decode cL_law 783 = .ok (.iadd, 1) := by decide +kernel
theorem dL_law_784 : decode cL_law 784 = .ok (.iaload, 1) := by decide +kernel
theorem dL_law_785 : decode cL_law 785 = .ok (.invokevirtual 101, 3) := by decide +kernel
theorem dL_law_788 : decode cL_law 788 = .ok (.if_icmp .eq 412, 3) := by decide +kernel
theorem dL_law_791 : decode cL_law 791 = .ok (.iconst 0, 1) := by decide +kernel
theorem dL_law_792 : decode cL_law 792 = .ok (.ireturn, 1) := by decide +kernel
theorem dL_law_793 : decode cL_law 793 = .ok (.aload_n 1, 1) := by decide +kernel
theorem dL_law_794 : decode cL_law 794 = .ok (.invokevirtual 102, 3) := by decide +kernel
theorem dL_law_797 : decode cL_law 797 = .ok (.aload_n 2, 1) := by decide +kernel
theorem dL_law_798 : decode cL_law 798 = .ok (.invokevirtual 105, 3) := by decide +kernel
theorem dL_law_801 : decode cL_law 801 = .ok (.if_icmp .eq 399, 3) := by decide +kernel
theorem dL_law_804 : decode cL_law 804 = .ok (.iconst 0, 1) := by decide +kernel
theorem dL_law_805 : decode cL_law 805 = .ok (.ireturn, 1) := by decide +kernel
theorem dL_law_806 : decode cL_law 806 = .ok (.aload_n 1, 1) := by decide +kernel
theorem dL_law_807 : decode cL_law 807 = .ok (.aload_n 0, 1) := by decide +kernel
theorem dL_law_808 : decode cL_law 808 = .ok (.iload_n 3, 1) := by decide +kernel
theorem dL_law_809 : decode cL_law 809 = .ok (.iconst 1, 1) := by decide +kernel
theorem dL_law_810 : decode cL_law 810 = .ok (.iadd, 1) := by decide +kernel
theorem dL_law_811 : decode cL_law 811 = .ok (.iaload, 1) := by decide +kernel
theorem dL_law_812 : decode cL_law 812 = .ok (.aload_n 0, 1) := by decide +kernel
theorem dL_law_813 : decode cL_law 813 = .ok (.iload_n 3, 1) := by decide +kernel
theorem dL_law_814 : decode cL_law 814 = .ok (.iconst 2, 1) := by decide +kernel
theorem dL_law_815 : decode cL_law 815 = .ok (.iadd, 1) := by decide +kernel
theorem dL_law_816 : decode cL_law 816 = .ok (.iaload, 1) := by decide +kernel
theorem dL_law_817 : decode cL_law 817 = .ok (.invokevirtual 106, 3) := by decide +kernel
theorem dL_law_820 : decode cL_law 820 = .ok (.aload_n 2, 1) := by decide +kernel
theorem dL_law_821 : decode cL_law 821 = .ok (.aload_n 0, 1) := by decide +kernel
theorem dL_law_822 : decode cL_law 822 = .ok (.iload_n 3, 1) := by decide +kernel
theorem dL_law_823 : decode cL_law 823 = .ok (.iconst 1, 1) := by decide +kernel
theorem dL_law_824 : decode cL_law 824 = .ok (.iadd, 1) := by decide +kernel
theorem dL_law_825 : decode cL_law 825 = .ok (.iaload, 1) := by decide +kernel
theorem dL_law_826 : decode cL_law 826 = .ok (.aload_n 0, 1) := by decide +kernel
theorem dL_law_827 : decode cL_law 827 = .ok (.iload_n 3, 1) := by decide +kernel
theorem dL_law_828 : decode cL_law 828 = .ok (.iconst 2, 1) := by decide +kernel
theorem dL_law_829 : decode cL_law 829 = .ok (.iadd, 1) := by decide +kernel
theorem dL_law_830 : decode cL_law 830 = .ok (.iaload, 1) := by decide +kernel
theorem dL_law_831 : decode cL_law 831 = .ok (.invokevirtual 109, 3) := by decide +kernel
theorem dL_law_834 : decode cL_law 834 = .ok (.if_icmp .eq 366, 3) := by decide +kernel
theorem dL_law_837 : decode cL_law 837 = .ok (.iconst 0, 1) := by decide +kernel
theorem dL_law_838 : decode cL_law 838 = .ok (.ireturn, 1) := by decide +kernel
theorem dL_law_839 : decode cL_law 839 = .ok (.aload_n 1, 1) := by decide +kernel
theorem dL_law_840 : decode cL_law 840 = .ok (.aload_n 0, 1) := by decide +kernel
theorem dL_law_841 : decode cL_law 841 = .ok (.iload_n 3, 1) := by decide +kernel
theorem dL_law_842 : decode cL_law 842 = .ok (.iconst 1, 1) := by decide +kernel
theorem dL_law_843 : decode cL_law 843 = .ok (.iadd, 1) := by decide +kernel
theorem dL_law_844 : decode cL_law 844 = .ok (.iaload, 1) := by decide +kernel
theorem dL_law_845 : decode cL_law 845 = .ok (.invokevirtual 110, 3) := by decide +kernel
theorem dL_law_848 : decode cL_law 848 = .ok (.aload_n 2, 1) := by decide +kernel
theorem dL_law_849 : decode cL_law 849 = .ok (.aload_n 0, 1) := by decide +kernel
theorem dL_law_850 : decode cL_law 850 = .ok (.iload_n 3, 1) := by decide +kernel
theorem dL_law_851 : decode cL_law 851 = .ok (.iconst 1, 1) := by decide +kernel
theorem dL_law_852 : decode cL_law 852 = .ok (.iadd, 1) := by decide +kernel
theorem dL_law_853 : decode cL_law 853 = .ok (.iaload, 1) := by decide +kernel
theorem dL_law_854 : decode cL_law 854 = .ok (.invokevirtual 113, 3) := by decide +kernel
theorem dL_law_857 : decode cL_law 857 = .ok (.if_icmp .eq 343, 3) := by decide +kernel
theorem dL_law_860 : decode cL_law 860 = .ok (.iconst 0, 1) := by decide +kernel
theorem dL_law_861 : decode cL_law 861 = .ok (.ireturn, 1) := by decide +kernel
theorem dL_law_862 : decode cL_law 862 = .ok (.aload_n 1, 1) := by decide +kernel
theorem dL_law_863 : decode cL_law 863 = .ok (.aload_n 0, 1) := by decide +kernel
theorem dL_law_864 : decode cL_law 864 = .ok (.iload_n 3, 1) := by decide +kernel
theorem dL_law_865 : decode cL_law 865 = .ok (.iconst 1, 1) := by decide +kernel
theorem dL_law_866 : decode cL_law 866 = .ok (.iadd, 1) := by decide +kernel
theorem dL_law_867 : decode cL_law 867 = .ok (.iaload, 1) := by decide +kernel
theorem dL_law_868 : decode cL_law 868 = .ok (.aload_n 0, 1) := by decide +kernel
theorem dL_law_869 : decode cL_law 869 = .ok (.iload_n 3, 1) := by decide +kernel
theorem dL_law_870 : decode cL_law 870 = .ok (.iconst 2, 1) := by decide +kernel
theorem dL_law_871 : decode cL_law 871 = .ok (.iadd, 1) := by decide +kernel
theorem dL_law_872 : decode cL_law 872 = .ok (.iaload, 1) := by decide +kernel
theorem dL_law_873 : decode cL_law 873 = .ok (.aload_n 0, 1) := by decide +kernel
theorem dL_law_874 : decode cL_law 874 = .ok (.iload_n 3, 1) := by decide +kernel
theorem dL_law_875 : decode cL_law 875 = .ok (.iconst 3, 1) := by decide +kernel
theorem dL_law_876 : decode cL_law 876 = .ok (.iadd, 1) := by decide +kernel
theorem dL_law_877 : decode cL_law 877 = .ok (.iaload, 1) := by decide +kernel
theorem dL_law_878 : decode cL_law 878 = .ok (.invokevirtual 114, 3) := by decide +kernel
theorem dL_law_881 : decode cL_law 881 = .ok (.aload_n 2, 1) := by decide +kernel
theorem dL_law_882 : decode cL_law 882 = .ok (.aload_n 0, 1) := by decide +kernel
theorem dL_law_883 : decode cL_law 883 = .ok (.iload_n 3, 1) := by decide +kernel
theorem dL_law_884 : decode cL_law 884 = .ok (.iconst 1, 1) := by decide +kernel
theorem dL_law_885 : decode cL_law 885 = .ok (.iadd, 1) := by decide +kernel
theorem dL_law_886 : decode cL_law 886 = .ok (.iaload, 1) := by decide +kernel
theorem dL_law_887 : decode cL_law 887 = .ok (.aload_n 0, 1) := by decide +kernel
theorem dL_law_888 : decode cL_law 888 = .ok (.iload_n 3, 1) := by decide +kernel
theorem dL_law_889 : decode cL_law 889 = .ok (.iconst 2, 1) := by decide +kernel
theorem dL_law_890 : decode cL_law 890 = .ok (.iadd, 1) := by decide +kernel
theorem dL_law_891 : decode cL_law 891 = .ok (.iaload, 1) := by decide +kernel
theorem dL_law_892 : decode cL_law 892 = .ok (.aload_n 0, 1) := by decide +kernel
theorem dL_law_893 : decode cL_law 893 = .ok (.iload_n 3, 1) := by decide +kernel
theorem dL_law_894 : decode cL_law 894 = .ok (.iconst 3, 1) := by decide +kernel
theorem dL_law_895 : decode cL_law 895 = .ok (.iadd, 1) := by decide +kernel
theorem dL_law_896 : decode cL_law 896 = .ok (.iaload, 1) := by decide +kernel
theorem dL_law_897 : decode cL_law 897 = .ok (.invokevirtual 117, 3) := by decide +kernel
theorem dL_law_900 : decode cL_law 900 = .ok (.if_icmp .eq 300, 3) := by decide +kernel
theorem dL_law_903 : decode cL_law 903 = .ok (.iconst 0, 1) := by decide +kernel
theorem dL_law_904 : decode cL_law 904 = .ok (.ireturn, 1) := by decide +kernel
theorem dL_law_905 : decode cL_law 905 = .ok (.aload_n 1, 1) := by decide +kernel
theorem dL_law_906 : decode cL_law 906 = .ok (.aload_n 0, 1) := by decide +kernel
theorem dL_law_907 : decode cL_law 907 = .ok (.iload_n 3, 1) := by decide +kernel
theorem dL_law_908 : decode cL_law 908 = .ok (.iconst 1, 1) := by decide +kernel
theorem dL_law_909 : decode cL_law 909 = .ok (.iadd, 1) := by decide +kernel
theorem dL_law_910 : decode cL_law 910 = .ok (.iaload, 1) := by decide +kernel
theorem dL_law_911 : decode cL_law 911 = .ok (.aload_n 0, 1) := by decide +kernel
theorem dL_law_912 : decode cL_law 912 = .ok (.iload_n 3, 1) := by decide +kernel
theorem dL_law_913 : decode cL_law 913 = .ok (.iconst 2, 1) := by decide +kernel
theorem dL_law_914 : decode cL_law 914 = .ok (.iadd, 1) := by decide +kernel
theorem dL_law_915 : decode cL_law 915 = .ok (.iaload, 1) := by decide +kernel
theorem dL_law_916 : decode cL_law 916 = .ok (.aload_n 0, 1) := by decide +kernel
theorem dL_law_917 : decode cL_law 917 = .ok (.iload_n 3, 1) := by decide +kernel
theorem dL_law_918 : decode cL_law 918 = .ok (.iconst 3, 1) := by decide +kernel
theorem dL_law_919 : decode cL_law 919 = .ok (.iadd, 1) := by decide +kernel
theorem dL_law_920 : decode cL_law 920 = .ok (.iaload, 1) := by decide +kernel
theorem dL_law_921 : decode cL_law 921 = .ok (.invokevirtual 118, 3) := by decide +kernel
theorem dL_law_924 : decode cL_law 924 = .ok (.aload_n 2, 1) := by decide +kernel
theorem dL_law_925 : decode cL_law 925 = .ok (.aload_n 0, 1) := by decide +kernel
theorem dL_law_926 : decode cL_law 926 = .ok (.iload_n 3, 1) := by decide +kernel
theorem dL_law_927 : decode cL_law 927 = .ok (.iconst 1, 1) := by decide +kernel
theorem dL_law_928 : decode cL_law 928 = .ok (.iadd, 1) := by decide +kernel
theorem dL_law_929 : decode cL_law 929 = .ok (.iaload, 1) := by decide +kernel
theorem dL_law_930 : decode cL_law 930 = .ok (.aload_n 0, 1) := by decide +kernel
theorem dL_law_931 : decode cL_law 931 = .ok (.iload_n 3, 1) := by decide +kernel
theorem dL_law_932 : decode cL_law 932 = .ok (.iconst 2, 1) := by decide +kernel
theorem dL_law_933 : decode cL_law 933 = .ok (.iadd, 1) := by decide +kernel
theorem dL_law_934 : decode cL_law 934 = .ok (.iaload, 1) := by decide +kernel
theorem dL_law_935 : decode cL_law 935 = .ok (.aload_n 0, 1) := by decide +kernel
theorem dL_law_936 : decode cL_law 936 = .ok (.iload_n 3, 1) := by decide +kernel
theorem dL_law_937 : decode cL_law 937 = .ok (.iconst 3, 1) := by decide +kernel
theorem dL_law_938 : decode cL_law 938 = .ok (.iadd, 1) := by decide +kernel
theorem dL_law_939 : decode cL_law 939 = .ok (.iaload, 1) := by decide +kernel
theorem dL_law_940 : decode cL_law 940 = .ok (.invokevirtual 121, 3) := by decide +kernel
theorem dL_law_943 : decode cL_law 943 = .ok (.if_icmp .eq 257, 3) := by decide +kernel
theorem dL_law_946 : decode cL_law 946 = .ok (.iconst 0, 1) := by decide +kernel
theorem dL_law_947 : decode cL_law 947 = .ok (.ireturn, 1) := by decide +kernel
theorem dL_law_948 : decode cL_law 948 = .ok (.aload_n 1, 1) := by decide +kernel
theorem dL_law_949 : decode cL_law 949 = .ok (.aload_n 0, 1) := by decide +kernel
theorem dL_law_950 : decode cL_law 950 = .ok (.iload_n 3, 1) := by decide +kernel
theorem dL_law_951 : decode cL_law 951 = .ok (.iconst 1, 1) := by decide +kernel
theorem dL_law_952 : decode cL_law 952 = .ok (.iadd, 1) := by decide +kernel
theorem dL_law_953 : decode cL_law 953 = .ok (.iaload, 1) := by decide +kernel
theorem dL_law_954 : decode cL_law 954 = .ok (.invokevirtual 122, 3) := by decide +kernel
theorem dL_law_957 : decode cL_law 957 = .ok (.aload_n 2, 1) := by decide +kernel
theorem dL_law_958 : decode cL_law 958 = .ok (.aload_n 0, 1) := by decide +kernel
theorem dL_law_959 : decode cL_law 959 = .ok (.iload_n 3, 1) := by decide +kernel
theorem dL_law_960 : decode cL_law 960 = .ok (.iconst 1, 1) := by decide +kernel
theorem dL_law_961 : decode cL_law 961 = .ok (.iadd, 1) := by decide +kernel
theorem dL_law_962 : decode cL_law 962 = .ok (.iaload, 1) := by decide +kernel
theorem dL_law_963 : decode cL_law 963 = .ok (.invokevirtual 125, 3) := by decide +kernel
theorem dL_law_966 : decode cL_law 966 = .ok (.if_icmp .eq 234, 3) := by decide +kernel
theorem dL_law_969 : decode cL_law 969 = .ok (.iconst 0, 1) := by decide +kernel
theorem dL_law_970 : decode cL_law 970 = .ok (.ireturn, 1) := by decide +kernel
theorem dL_law_971 : decode cL_law 971 = .ok (.aload_n 1, 1) := by decide +kernel
theorem dL_law_972 : decode cL_law 972 = .ok (.aload_n 0, 1) := by decide +kernel
theorem dL_law_973 : decode cL_law 973 = .ok (.iload_n 3, 1) := by decide +kernel
theorem dL_law_974 : decode cL_law 974 = .ok (.iconst 1, 1) := by decide +kernel
theorem dL_law_975 : decode cL_law 975 = .ok (.iadd, 1) := by decide +kernel
theorem dL_law_976 : decode cL_law 976 = .ok (.iaload, 1) := by decide +kernel
theorem dL_law_977 : decode cL_law 977 = .ok (.aload_n 0, 1) := by decide +kernel
theorem dL_law_978 : decode cL_law 978 = .ok (.iload_n 3, 1) := by decide +kernel
theorem dL_law_979 : decode cL_law 979 = .ok (.iconst 2, 1) := by decide +kernel
theorem dL_law_980 : decode cL_law 980 = .ok (.iadd, 1) := by decide +kernel
theorem dL_law_981 : decode cL_law 981 = .ok (.iaload, 1) := by decide +kernel
theorem dL_law_982 : decode cL_law 982 = .ok (.aload_n 0, 1) := by decide +kernel
theorem dL_law_983 : decode cL_law 983 = .ok (.iload_n 3, 1) := by decide +kernel
theorem dL_law_984 : decode cL_law 984 = .ok (.iconst 3, 1) := by decide +kernel
theorem dL_law_985 : decode cL_law 985 = .ok (.iadd, 1) := by decide +kernel
theorem dL_law_986 : decode cL_law 986 = .ok (.iaload, 1) := by decide +kernel
theorem dL_law_987 : decode cL_law 987 = .ok (.aload_n 0, 1) := by decide +kernel
theorem dL_law_988 : decode cL_law 988 = .ok (.iload_n 3, 1) := by decide +kernel
theorem dL_law_989 : decode cL_law 989 = .ok (.iconst 4, 1) := by decide +kernel
theorem dL_law_990 : decode cL_law 990 = .ok (.iadd, 1) := by decide +kernel
theorem dL_law_991 : decode cL_law 991 = .ok (.iaload, 1) := by decide +kernel
theorem dL_law_992 : decode cL_law 992 = .ok (.invokevirtual 126, 3) := by decide +kernel
theorem dL_law_995 : decode cL_law 995 = .ok (.aload_n 2, 1) := by decide +kernel
theorem dL_law_996 : decode cL_law 996 = .ok (.aload_n 0, 1) := by decide +kernel
theorem dL_law_997 : decode cL_law 997 = .ok (.iload_n 3, 1) := by decide +kernel
theorem dL_law_998 : decode cL_law 998 = .ok (.iconst 1, 1) := by decide +kernel
theorem dL_law_999 : decode cL_law 999 = .ok (.iadd, 1) := by decide +kernel
theorem dL_law_1000 : decode cL_law 1000 = .ok (.iaload, 1) := by decide +kernel
theorem dL_law_1001 : decode cL_law 1001 = .ok (.aload_n 0, 1) := by decide +kernel
theorem dL_law_1002 : decode cL_law 1002 = .ok (.iload_n 3, 1) := by decide +kernel
theorem dL_law_1003 : decode cL_law 1003 = .ok (.iconst 2, 1) := by decide +kernel
theorem dL_law_1004 : decode cL_law 1004 = .ok (.iadd, 1) := by decide +kernel
theorem dL_law_1005 : decode cL_law 1005 = .ok (.iaload, 1) := by decide +kernel
theorem dL_law_1006 : decode cL_law 1006 = .ok (.aload_n 0, 1) := by decide +kernel
theorem dL_law_1007 : decode cL_law 1007 = .ok (.iload_n 3, 1) := by decide +kernel
theorem dL_law_1008 : decode cL_law 1008 = .ok (.iconst 3, 1) := by decide +kernel
theorem dL_law_1009 : decode cL_law 1009 = .ok (.iadd, 1) := by decide +kernel
theorem dL_law_1010 : decode cL_law 1010 = .ok (.iaload, 1) := by decide +kernel
theorem dL_law_1011 : decode cL_law 1011 = .ok (.aload_n 0, 1) := by decide +kernel
theorem dL_law_1012 : decode cL_law 1012 = .ok (.iload_n 3, 1) := by decide +kernel
theorem dL_law_1013 : decode cL_law 1013 = .ok (.iconst 4, 1) := by decide +kernel
theorem dL_law_1014 : decode cL_law 1014 = .ok (.iadd, 1) := by decide +kernel
theorem dL_law_1015 : decode cL_law 1015 = .ok (.iaload, 1) := by decide +kernel
theorem dL_law_1016 : decode cL_law 1016 = .ok (.invokevirtual 129, 3) := by decide +kernel
theorem dL_law_1019 : decode cL_law 1019 = .ok (.if_icmp .eq 181, 3) := by decide +kernel
theorem dL_law_1022 : decode cL_law 1022 = .ok (.iconst 0, 1) := by decide +kernel
theorem dL_law_1023 : decode cL_law 1023 = .ok (.ireturn, 1) := by decide +kernel
theorem dL_law_1024 : decode cL_law 1024 = .ok (.aload_n 1, 1) := by decide +kernel
theorem dL_law_1025 : decode cL_law 1025 = .ok (.aload_n 0, 1) := by decide +kernel
theorem dL_law_1026 : decode cL_law 1026 = .ok (.iload_n 3, 1) := by decide +kernel
theorem dL_law_1027 : decode cL_law 1027 = .ok (.iconst 1, 1) := by decide +kernel
theorem dL_law_1028 : decode cL_law 1028 = .ok (.iadd, 1) := by decide +kernel
theorem dL_law_1029 : decode cL_law 1029 = .ok (.iaload, 1) := by decide +kernel
theorem dL_law_1030 : decode cL_law 1030 = .ok (.aload_n 0, 1) := by decide +kernel
theorem dL_law_1031 : decode cL_law 1031 = .ok (.iload_n 3, 1) := by decide +kernel
theorem dL_law_1032 : decode cL_law 1032 = .ok (.iconst 2, 1) := by decide +kernel
theorem dL_law_1033 : decode cL_law 1033 = .ok (.iadd, 1) := by decide +kernel
theorem dL_law_1034 : decode cL_law 1034 = .ok (.iaload, 1) := by decide +kernel
theorem dL_law_1035 : decode cL_law 1035 = .ok (.aload_n 0, 1) := by decide +kernel
theorem dL_law_1036 : decode cL_law 1036 = .ok (.iload_n 3, 1) := by decide +kernel
theorem dL_law_1037 : decode cL_law 1037 = .ok (.iconst 3, 1) := by decide +kernel
theorem dL_law_1038 : decode cL_law 1038 = .ok (.iadd, 1) := by decide +kernel
theorem dL_law_1039 : decode cL_law 1039 = .ok (.iaload, 1) := by decide +kernel
theorem dL_law_1040 : decode cL_law 1040 = .ok (.invokevirtual 130, 3) := by decide +kernel
theorem dL_law_1043 : decode cL_law 1043 = .ok (.aload_n 2, 1) := by decide +kernel
theorem dL_law_1044 : decode cL_law 1044 = .ok (.aload_n 0, 1) := by decide +kernel
theorem dL_law_1045 : decode cL_law 1045 = .ok (.iload_n 3, 1) := by decide +kernel
theorem dL_law_1046 : decode cL_law 1046 = .ok (.iconst 1, 1) := by decide +kernel
theorem dL_law_1047 : decode cL_law 1047 = .ok (.iadd, 1) := by decide +kernel
theorem dL_law_1048 : decode cL_law 1048 = .ok (.iaload, 1) := by decide +kernel
theorem dL_law_1049 : decode cL_law 1049 = .ok (.aload_n 0, 1) := by decide +kernel
theorem dL_law_1050 : decode cL_law 1050 = .ok (.iload_n 3, 1) := by decide +kernel
theorem dL_law_1051 : decode cL_law 1051 = .ok (.iconst 2, 1) := by decide +kernel
theorem dL_law_1052 : decode cL_law 1052 = .ok (.iadd, 1) := by decide +kernel
theorem dL_law_1053 : decode cL_law 1053 = .ok (.iaload, 1) := by decide +kernel
theorem dL_law_1054 : decode cL_law 1054 = .ok (.aload_n 0, 1) := by decide +kernel
theorem dL_law_1055 : decode cL_law 1055 = .ok (.iload_n 3, 1) := by decide +kernel
theorem dL_law_1056 : decode cL_law 1056 = .ok (.iconst 3, 1) := by decide +kernel
theorem dL_law_1057 : decode cL_law 1057 = .ok (.iadd, 1) := by decide +kernel
theorem dL_law_1058 : decode cL_law 1058 = .ok (.iaload, 1) := by decide +kernel
theorem dL_law_1059 : decode cL_law 1059 = .ok (.invokevirtual 133, 3) := by decide +kernel
theorem dL_law_1062 : decode cL_law 1062 = .ok (.if_icmp .eq 138, 3) := by decide +kernel
theorem dL_law_1065 : decode cL_law 1065 = .ok (.iconst 0, 1) := by decide +kernel
theorem dL_law_1066 : decode cL_law 1066 = .ok (.ireturn, 1) := by decide +kernel
theorem dL_law_1067 : decode cL_law 1067 = .ok (.aload_n 1, 1) := by decide +kernel
theorem dL_law_1068 : decode cL_law 1068 = .ok (.aload_n 0, 1) := by decide +kernel
theorem dL_law_1069 : decode cL_law 1069 = .ok (.iload_n 3, 1) := by decide +kernel
theorem dL_law_1070 : decode cL_law 1070 = .ok (.iconst 1, 1) := by decide +kernel
theorem dL_law_1071 : decode cL_law 1071 = .ok (.iadd, 1) := by decide +kernel
theorem dL_law_1072 : decode cL_law 1072 = .ok (.iaload, 1) := by decide +kernel
theorem dL_law_1073 : decode cL_law 1073 = .ok (.aload_n 0, 1) := by decide +kernel
theorem dL_law_1074 : decode cL_law 1074 = .ok (.iload_n 3, 1) := by decide +kernel
theorem dL_law_1075 : decode cL_law 1075 = .ok (.iconst 2, 1) := by decide +kernel
theorem dL_law_1076 : decode cL_law 1076 = .ok (.iadd, 1) := by decide +kernel
theorem dL_law_1077 : decode cL_law 1077 = .ok (.iaload, 1) := by decide +kernel
theorem dL_law_1078 : decode cL_law 1078 = .ok (.aload_n 0, 1) := by decide +kernel
theorem dL_law_1079 : decode cL_law 1079 = .ok (.iload_n 3, 1) := by decide +kernel
theorem dL_law_1080 : decode cL_law 1080 = .ok (.iconst 3, 1) := by decide +kernel
theorem dL_law_1081 : decode cL_law 1081 = .ok (.iadd, 1) := by decide +kernel
theorem dL_law_1082 : decode cL_law 1082 = .ok (.iaload, 1) := by decide +kernel
theorem dL_law_1083 : decode cL_law 1083 = .ok (.aload_n 0, 1) := by decide +kernel
theorem dL_law_1084 : decode cL_law 1084 = .ok (.iload_n 3, 1) := by decide +kernel
theorem dL_law_1085 : decode cL_law 1085 = .ok (.iconst 4, 1) := by decide +kernel
theorem dL_law_1086 : decode cL_law 1086 = .ok (.iadd, 1) := by decide +kernel
theorem dL_law_1087 : decode cL_law 1087 = .ok (.iaload, 1) := by decide +kernel
theorem dL_law_1088 : decode cL_law 1088 = .ok (.aload_n 0, 1) := by decide +kernel
theorem dL_law_1089 : decode cL_law 1089 = .ok (.iload_n 3, 1) := by decide +kernel
theorem dL_law_1090 : decode cL_law 1090 = .ok (.iconst 5, 1) := by decide +kernel
theorem dL_law_1091 : decode cL_law 1091 = .ok (.iadd, 1) := by decide +kernel
theorem dL_law_1092 : decode cL_law 1092 = .ok (.iaload, 1) := by decide +kernel
theorem dL_law_1093 : decode cL_law 1093 = .ok (.invokevirtual 134, 3) := by decide +kernel
theorem dL_law_1096 : decode cL_law 1096 = .ok (.aload_n 2, 1) := by decide +kernel
theorem dL_law_1097 : decode cL_law 1097 = .ok (.aload_n 0, 1) := by decide +kernel
theorem dL_law_1098 : decode cL_law 1098 = .ok (.iload_n 3, 1) := by decide +kernel
theorem dL_law_1099 : decode cL_law 1099 = .ok (.iconst 1, 1) := by decide +kernel
theorem dL_law_1100 : decode cL_law 1100 = .ok (.iadd, 1) := by decide +kernel
theorem dL_law_1101 : decode cL_law 1101 = .ok (.iaload, 1) := by decide +kernel
theorem dL_law_1102 : decode cL_law 1102 = .ok (.aload_n 0, 1) := by decide +kernel
theorem dL_law_1103 : decode cL_law 1103 = .ok (.iload_n 3, 1) := by decide +kernel
theorem dL_law_1104 : decode cL_law 1104 = .ok (.iconst 2, 1) := by decide +kernel
theorem dL_law_1105 : decode cL_law 1105 = .ok (.iadd, 1) := by decide +kernel
theorem dL_law_1106 : decode cL_law 1106 = .ok (.iaload, 1) := by decide +kernel
theorem dL_law_1107 : decode cL_law 1107 = .ok (.aload_n 0, 1) := by decide +kernel
theorem dL_law_1108 : decode cL_law 1108 = .ok (.iload_n 3, 1) := by decide +kernel
theorem dL_law_1109 : decode cL_law 1109 = .ok (.iconst 3, 1) := by decide +kernel
theorem dL_law_1110 : decode cL_law 1110 = .ok (.iadd, 1) := by decide +kernel
theorem dL_law_1111 : decode cL_law 1111 = .ok (.iaload, 1) := by decide +kernel
theorem dL_law_1112 : decode cL_law 1112 = .ok (.aload_n 0, 1) := by decide +kernel
theorem dL_law_1113 : decode cL_law 1113 = .ok (.iload_n 3, 1) := by decide +kernel
theorem dL_law_1114 : decode cL_law 1114 = .ok (.iconst 4, 1) := by decide +kernel
theorem dL_law_1115 : decode cL_law 1115 = .ok (.iadd, 1) := by decide +kernel
theorem dL_law_1116 : decode cL_law 1116 = .ok (.iaload, 1) := by decide +kernel
theorem dL_law_1117 : decode cL_law 1117 = .ok (.aload_n 0, 1) := by decide +kernel
theorem dL_law_1118 : decode cL_law 1118 = .ok (.iload_n 3, 1) := by decide +kernel
theorem dL_law_1119 : decode cL_law 1119 = .ok (.iconst 5, 1) := by decide +kernel
theorem dL_law_1120 : decode cL_law 1120 = .ok (.iadd, 1) := by decide +kernel
theorem dL_law_1121 : decode cL_law 1121 = .ok (.iaload, 1) := by decide +kernel
theorem dL_law_1122 : decode cL_law 1122 = .ok (.invokevirtual 138, 3) := by decide +kernel
theorem dL_law_1125 : decode cL_law 1125 = .ok (.if_icmp .eq 75, 3) := by decide +kernel
theorem dL_law_1128 : decode cL_law 1128 = .ok (.iconst 0, 1) := by decide +kernel
theorem dL_law_1129 : decode cL_law 1129 = .ok (.ireturn, 1) := by decide +kernel
theorem dL_law_1130 : decode cL_law 1130 = .ok (.aload_n 1, 1) := by decide +kernel
theorem dL_law_1131 : decode cL_law 1131 = .ok (.aload_n 0, 1) := by decide +kernel
theorem dL_law_1132 : decode cL_law 1132 = .ok (.iload_n 3, 1) := by decide +kernel
theorem dL_law_1133 : decode cL_law 1133 = .ok (.iconst 1, 1) := by decide +kernel
theorem dL_law_1134 : decode cL_law 1134 = .ok (.iadd, 1) := by decide +kernel
theorem dL_law_1135 : decode cL_law 1135 = .ok (.iaload, 1) := by decide +kernel
theorem dL_law_1136 : decode cL_law 1136 = .ok (.aload_n 0, 1) := by decide +kernel
theorem dL_law_1137 : decode cL_law 1137 = .ok (.iload_n 3, 1) := by decide +kernel
theorem dL_law_1138 : decode cL_law 1138 = .ok (.iconst 2, 1) := by decide +kernel
theorem dL_law_1139 : decode cL_law 1139 = .ok (.iadd, 1) := by decide +kernel
theorem dL_law_1140 : decode cL_law 1140 = .ok (.iaload, 1) := by decide +kernel
theorem dL_law_1141 : decode cL_law 1141 = .ok (.invokevirtual 139, 3) := by decide +kernel
theorem dL_law_1144 : decode cL_law 1144 = .ok (.aload_n 2, 1) := by decide +kernel
theorem dL_law_1145 : decode cL_law 1145 = .ok (.aload_n 0, 1) := by decide +kernel
theorem dL_law_1146 : decode cL_law 1146 = .ok (.iload_n 3, 1) := by decide +kernel
theorem dL_law_1147 : decode cL_law 1147 = .ok (.iconst 1, 1) := by decide +kernel
theorem dL_law_1148 : decode cL_law 1148 = .ok (.iadd, 1) := by decide +kernel
theorem dL_law_1149 : decode cL_law 1149 = .ok (.iaload, 1) := by decide +kernel
theorem dL_law_1150 : decode cL_law 1150 = .ok (.aload_n 0, 1) := by decide +kernel
theorem dL_law_1151 : decode cL_law 1151 = .ok (.iload_n 3, 1) := by decide +kernel
theorem dL_law_1152 : decode cL_law 1152 = .ok (.iconst 2, 1) := by decide +kernel
theorem dL_law_1153 : decode cL_law 1153 = .ok (.iadd, 1) := by decide +kernel
theorem dL_law_1154 : decode cL_law 1154 = .ok (.iaload, 1) := by decide +kernel
theorem dL_law_1155 : decode cL_law 1155 = .ok (.invokevirtual 142, 3) := by decide +kernel
theorem dL_law_1158 : decode cL_law 1158 = .ok (.if_icmp .eq 42, 3) := by decide +kernel
theorem dL_law_1161 : decode cL_law 1161 = .ok (.iconst 0, 1) := by decide +kernel
theorem dL_law_1162 : decode cL_law 1162 = .ok (.ireturn, 1) := by decide +kernel
theorem dL_law_1163 : decode cL_law 1163 = .ok (.aload_n 1, 1) := by decide +kernel
theorem dL_law_1164 : decode cL_law 1164 = .ok (.aload_n 0, 1) := by decide +kernel
theorem dL_law_1165 : decode cL_law 1165 = .ok (.iload_n 3, 1) := by decide +kernel
theorem dL_law_1166 : decode cL_law 1166 = .ok (.iconst 1, 1) := by decide +kernel
theorem dL_law_1167 : decode cL_law 1167 = .ok (.iadd, 1) := by decide +kernel
theorem dL_law_1168 : decode cL_law 1168 = .ok (.iaload, 1) := by decide +kernel
theorem dL_law_1169 : decode cL_law 1169 = .ok (.invokevirtual 143, 3) := by decide +kernel
theorem dL_law_1172 : decode cL_law 1172 = .ok (.aload_n 2, 1) := by decide +kernel
theorem dL_law_1173 : decode cL_law 1173 = .ok (.aload_n 0, 1) := by decide +kernel
theorem dL_law_1174 : decode cL_law 1174 = .ok (.iload_n 3, 1) := by decide +kernel
theorem dL_law_1175 : decode cL_law 1175 = .ok (.iconst 1, 1) := by decide +kernel
theorem dL_law_1176 : decode cL_law 1176 = .ok (.iadd, 1) := by decide +kernel
theorem dL_law_1177 : decode cL_law 1177 = .ok (.iaload, 1) := by decide +kernel
theorem dL_law_1178 : decode cL_law 1178 = .ok (.invokevirtual 146, 3) := by decide +kernel
theorem dL_law_1181 : decode cL_law 1181 = .ok (.if_icmp .eq 19, 3) := by decide +kernel
theorem dL_law_1184 : decode cL_law 1184 = .ok (.iconst 0, 1) := by decide +kernel
theorem dL_law_1185 : decode cL_law 1185 = .ok (.ireturn, 1) := by decide +kernel
theorem dL_law_1186 : decode cL_law 1186 = .ok (.aload_n 1, 1) := by decide +kernel
theorem dL_law_1187 : decode cL_law 1187 = .ok (.invokevirtual 147, 3) := by decide +kernel
theorem dL_law_1190 : decode cL_law 1190 = .ok (.aload_n 2, 1) := by decide +kernel
theorem dL_law_1191 : decode cL_law 1191 = .ok (.invokevirtual 151, 3) := by decide +kernel
theorem dL_law_1194 : decode cL_law 1194 = .ok (.lcmp, 1) := by decide +kernel
theorem dL_law_1195 : decode cL_law 1195 = .ok (.ifCond .eq 5, 3) := by decide +kernel
theorem dL_law_1198 : decode cL_law 1198 = .ok (.iconst 0, 1) := by decide +kernel
theorem dL_law_1199 : decode cL_law 1199 = .ok (.ireturn, 1) := by decide +kernel
theorem dL_law_1200 : decode cL_law 1200 = .ok (.iinc 3 6, 3) := by decide +kernel
theorem dL_law_1203 : decode cL_law 1203 = .ok (.goto (-1185), 3) := by decide +kernel
theorem dL_law_1206 : decode cL_law 1206 = .ok (.iconst 1, 1) := by decide +kernel
theorem dL_law_1207 : decode cL_law 1207 = .ok (.ireturn, 1) := by decide +kernel
end
section
/-! The world in abstract words. A value: .ref c is the cell number c (it lies at base + c), .float stands for the script, .double for a local of which nothing is known. -/
def mm_v (base bb : Nat) : Value → Value
  | .ref c => .ref (base + c)
  | .float _ => .ref bb
  | .int x => .int x
  | .long x => .long x
  | .double x => .double x
  | .null => .null
  | .retAddr x => .retAddr x
theorem mm_v_cat (base bb : Nat) (v : Value) : (mm_v base bb v).category = v.category := by cases v <;> rfl
theorem mm_v_sum (base bb : Nat) (st : List Value) : ((st.map (mm_v base bb)).map fun v => v.category).sum = (st.map fun v => v.category).sum := by
  rw [List.map_map]
  congr 1
  apply List.map_congr_left
  intro v _
  exact mm_v_cat base bb v
/-- a cell: its kind (a class by its place in vwCl; 13 ints, 14 booleans, 15 sheets), its length, its references (none: an int) -/
abbrev mm_D : Type := Nat × Nat × List (Option (Option Nat))
abbrev mm_T : Type := List mm_D
abbrev mm_M : Type := Nat → Nat → Int32
def mm_up (M : mm_M) (c f : Nat) (v : Int32) : mm_M := va_up M c (upd (M c) f v)
def mm_fv (base : Nat) (row : Nat → Int32) (q : Option (Option Nat) × Nat) : Value := match q.1 with
  | none => .int (row q.2)
  | some r => va_rf (r.map (fun c => base + c))
def mm_fs (base : Nat) (row : Nat → Int32) (refs : List (Option (Option Nat))) : List Value := refs.zipIdx.map (mm_fv base row)
def mm_rw (base : Nat) (refs : List (Option (Option Nat))) (i : Nat) : Option Nat := match refs[i]? with
  | some (some (some c)) => some (base + c)
  | _ => none
def mm_e (base : Nat) (cy : Nat → ClassId) (d : mm_D) (row : Nat → Int32) : va_E :=
  if d.1 = 13 then .inl (cy 0, d.2.1, .inl row) else if d.1 = 14 then .inl (cy 1, d.2.1, .inl row) else if d.1 = 15 then .inl (cy 2, d.2.1, .inr (.inr (.inr (.inr (mm_rw base d.2.2))))) else .inr (d.1, mm_fs base row d.2.2)
def mm_ws (base : Nat) (cy : Nat → ClassId) (T : mm_T) (M : mm_M) : va_W := T.zipIdx.map (fun q => (base + q.2, mm_e base cy q.1 (M q.2)))
theorem mm_e_I (base : Nat) (cy : Nat → ClassId) (n : Nat) (rs : List (Option (Option Nat))) (row : Nat → Int32) : mm_e base cy (13, n, rs) row = .inl (cy 0, n, .inl row) := rfl
theorem mm_e_Z (base : Nat) (cy : Nat → ClassId) (n : Nat) (rs : List (Option (Option Nat))) (row : Nat → Int32) : mm_e base cy (14, n, rs) row = .inl (cy 1, n, .inl row) := rfl
theorem mm_e_Q (base : Nat) (cy : Nat → ClassId) (n : Nat) (rs : List (Option (Option Nat))) (row : Nat → Int32) : mm_e base cy (15, n, rs) row = .inl (cy 2, n, .inr (.inr (.inr (.inr (mm_rw base rs))))) := rfl
theorem mm_e_O (base : Nat) (cy : Nat → ClassId) {k : Nat} (hk : k < 13) (n : Nat) (rs : List (Option (Option Nat))) (row : Nat → Int32) : mm_e base cy (k, n, rs) row = .inr (k, mm_fs base row rs) := by
  unfold mm_e
  rw [if_neg (by show ¬ k = 13; omega), if_neg (by show ¬ k = 14; omega), if_neg (by show ¬ k = 15; omega)]
theorem mm_ws_get {base : Nat} {cy : Nat → ClassId} {T : mm_T} {M : mm_M} {c : Nat} {d : mm_D} (h : T[c]? = some d) : (mm_ws base cy T M)[c]? = some (base + c, mm_e base cy d (M c)) := by
  simp [mm_ws, List.getElem?_map, List.getElem?_zipIdx, h]
theorem mm_ws_len {base : Nat} {cy : Nat → ClassId} {T : mm_T} {M : mm_M} : (mm_ws base cy T M).length = T.length := by simp [mm_ws]
theorem mm_ws_get' {base : Nat} {cy : Nat → ClassId} {T : mm_T} {M : mm_M} {c : Nat} {q : Nat × va_E} (h : (mm_ws base cy T M)[c]? = some q) : ∃ d, T[c]? = some d ∧ q = (base + c, mm_e base cy d (M c)) := by
  cases hd : T[c]? with
  | none => simp [mm_ws, List.getElem?_map, List.getElem?_zipIdx, hd] at h
  | some d =>
    rw [mm_ws_get hd] at h
    exact ⟨d, rfl, (Option.some.inj h).symm⟩
theorem mm_ws_set {base : Nat} {cy : Nat → ClassId} {T : mm_T} {M : mm_M} {c : Nat} {d d' : mm_D} {row : Nat → Int32} (h : T[c]? = some d) : (mm_ws base cy T M).set c (base + c, mm_e base cy d' row) = mm_ws base cy (T.set c d') (va_up M c row) := by
  have hc : c < T.length := (List.getElem?_eq_some_iff.mp h).1
  apply List.ext_getElem?
  intro i
  by_cases hi : i = c
  · subst hi
    rw [List.getElem?_set_self (by rw [mm_ws_len]; exact hc), mm_ws_get (d := d') (by rw [List.getElem?_set_self hc])]
    simp [va_up]
  · rw [List.getElem?_set_ne (Ne.symm hi)]
    cases hd : T[i]? with
    | none => simp [mm_ws, List.getElem?_map, List.getElem?_zipIdx, hd, List.getElem?_set_ne (Ne.symm hi)]
    | some x =>
      rw [mm_ws_get hd, mm_ws_get (d := x) (by rw [List.getElem?_set_ne (Ne.symm hi)]; exact hd)]
      simp [va_up, hi]
theorem mm_set_same {T : mm_T} {c : Nat} {d : mm_D} (h : T[c]? = some d) : T.set c d = T := by
  have hc : c < T.length := (List.getElem?_eq_some_iff.mp h).1
  apply List.ext_getElem?
  intro i
  by_cases hi : i = c
  · subst hi; rw [List.getElem?_set_self hc, h]
  · rw [List.getElem?_set_ne (Ne.symm hi)]
theorem mm_ws_put {base : Nat} {cy : Nat → ClassId} {T : mm_T} {M : mm_M} {c : Nat} {d : mm_D} {row : Nat → Int32} (h : T[c]? = some d) : (mm_ws base cy T M).set c (base + c, mm_e base cy d row) = mm_ws base cy T (va_up M c row) := by
  rw [mm_ws_set h, mm_set_same h]
theorem mm_up_same (M : mm_M) (c : Nat) : va_up M c (M c) = M := by
  funext j
  by_cases h : j = c
  · subst h; simp [va_up]
  · simp [va_up, h]
theorem mm_ws_ref {base : Nat} {cy : Nat → ClassId} {T : mm_T} {M : mm_M} {c : Nat} {d d' : mm_D} (h : T[c]? = some d) : (mm_ws base cy T M).set c (base + c, mm_e base cy d' (M c)) = mm_ws base cy (T.set c d') M := by
  rw [mm_ws_set h, mm_up_same]
theorem mm_ws_push {base : Nat} {cy : Nat → ClassId} {T : mm_T} {M : mm_M} {d : mm_D} {row : Nat → Int32} : mm_ws base cy T M ++ [(base + T.length, mm_e base cy d row)] = mm_ws base cy (T ++ [d]) (va_up M T.length row) := by
  apply List.ext_getElem?
  intro i
  by_cases hi : i < T.length
  · rw [List.getElem?_append_left (by rw [mm_ws_len]; exact hi)]
    obtain ⟨x, hx⟩ : ∃ x, T[i]? = some x := ⟨_, List.getElem?_eq_getElem hi⟩
    rw [mm_ws_get hx, mm_ws_get (d := x) (by rw [List.getElem?_append_left hi]; exact hx)]
    simp [va_up, Nat.ne_of_lt hi]
  · by_cases he : i = T.length
    · subst he
      rw [List.getElem?_append_right (by rw [mm_ws_len]; exact Nat.le_refl _), mm_ws_get (d := d) (by simp)]
      simp [mm_ws_len, va_up]
    · have h1 : T.length < i := by omega
      rw [List.getElem?_eq_none (by simp [mm_ws_len]; omega), List.getElem?_eq_none (by simp [mm_ws_len]; omega)]
theorem mm_ws_D {base : Nat} {cy : Nat → ClassId} {T : mm_T} {M : mm_M} : va_D (fun q => base ≤ q) (mm_ws base cy T M) := by
  refine ⟨fun i j p q hp hq he => ?_, fun k q hq => ?_⟩
  · obtain ⟨_, _, rfl⟩ := mm_ws_get' hp
    obtain ⟨_, _, rfl⟩ := mm_ws_get' hq
    have : base + i = base + j := he
    omega
  · obtain ⟨_, _, rfl⟩ := mm_ws_get' hq
    exact Nat.le_add_right _ _
theorem mm_fs_int {base : Nat} {row : Nat → Int32} {rs : List (Option (Option Nat))} {f : Nat} (h : rs[f]? = some none) : (mm_fs base row rs)[f]? = some (.int (row f)) := by
  simp [mm_fs, List.getElem?_map, List.getElem?_zipIdx, h, mm_fv]
theorem mm_fs_ref {base : Nat} {row : Nat → Int32} {rs : List (Option (Option Nat))} {f r : Nat} (h : rs[f]? = some (some (some r))) : (mm_fs base row rs)[f]? = some (.ref (base + r)) := by
  simp [mm_fs, List.getElem?_map, List.getElem?_zipIdx, h, mm_fv, va_rf]
theorem mm_fs_len {base : Nat} {row : Nat → Int32} {rs : List (Option (Option Nat))} : (mm_fs base row rs).length = rs.length := by simp [mm_fs]
theorem mm_fs_setI {base : Nat} {row : Nat → Int32} {rs : List (Option (Option Nat))} {f : Nat} {v : Int32} (h : rs[f]? = some none) : (mm_fs base row rs).set f (.int v) = mm_fs base (upd row f v) rs := by
  have hf : f < rs.length := (List.getElem?_eq_some_iff.mp h).1
  apply List.ext_getElem?
  intro i
  by_cases hi : i = f
  · subst hi
    rw [List.getElem?_set_self (by rw [mm_fs_len]; exact hf), mm_fs_int h]
    simp [upd]
  · rw [List.getElem?_set_ne (Ne.symm hi)]
    cases hd : rs[i]? with
    | none => simp [mm_fs, List.getElem?_map, List.getElem?_zipIdx, hd]
    | some x => cases x <;> simp [mm_fs, List.getElem?_map, List.getElem?_zipIdx, hd, mm_fv, upd, hi]
theorem mm_fs_setR {base : Nat} {row : Nat → Int32} {rs : List (Option (Option Nat))} {f r : Nat} (hf : f < rs.length) : (mm_fs base row rs).set f (.ref (base + r)) = mm_fs base row (rs.set f (some (some r))) := by
  apply List.ext_getElem?
  intro i
  by_cases hi : i = f
  · subst hi
    rw [List.getElem?_set_self (by rw [mm_fs_len]; exact hf), mm_fs_ref (r := r) (by rw [List.getElem?_set_self hf])]
  · rw [List.getElem?_set_ne (Ne.symm hi)]
    simp [mm_fs, List.getElem?_map, List.getElem?_zipIdx, List.getElem?_set_ne (Ne.symm hi)]
def mm_dv (x : Option (Option (Option Nat))) : Value := match x with
  | some none => .int 0
  | _ => .null
theorem mm_fs_new {base : Nat} {rs : List (Option (Option Nat))} (h : ∀ f : Nat, ∀ x, rs[f]? = some x → x = none ∨ x = some none) : ∀ j, vp_V (mm_fs base (fun _ => 0) rs) j = mm_dv rs[j]? := by
  intro j
  cases hd : rs[j]? with
  | none => simp [mm_dv, vp_V, mm_fs, List.getD_eq_getElem?_getD, List.getElem?_map, List.getElem?_zipIdx, hd]
  | some x => rcases h j x hd with rfl | rfl <;> simp [mm_dv, vp_V, mm_fs, List.getD_eq_getElem?_getD, List.getElem?_map, List.getElem?_zipIdx, hd, mm_fv, va_rf]
/-- the tables' words that stay as the tables warm; the links to a nest mate's private methods are carried apart -/
def mm_tb : List Cond := lw_tbl.filter goodWord
def mm_isN : Cond → Bool
  | .methodLinkNest _ _ _ _ => true
  | _ => false
def mm_nest : List Cond := lw_tbl.filter mm_isN
theorem mm_tb_in {w : Cond} (h : w ∈ mm_tb) : w ∈ lw_tbl := (List.mem_filter.mp h).1
theorem mm_nest_in {w : Cond} (h : w ∈ mm_nest) : w ∈ lw_tbl := (List.mem_filter.mp h).1
/-! The launch's own numbers: where the world begins, the script, the classes -/
abbrev mm_G : Type := Nat × Nat × Nat × (Nat → Int32) × (Nat → ClassId) × (Nat → ClassId) × (Nat → Nat → Nat)
abbrev mm_G.ba (G : mm_G) : Nat := G.1
abbrev mm_G.bb (G : mm_G) : Nat := G.2.1
abbrev mm_G.len (G : mm_G) : Nat := G.2.2.1
abbrev mm_G.xs (G : mm_G) : Nat → Int32 := G.2.2.2.1
abbrev mm_G.cy (G : mm_G) : Nat → ClassId := G.2.2.2.2.1
abbrev mm_G.dd (G : mm_G) : va_G := G.2.2.2.2.2
abbrev mm_tys (G : mm_G) : List (ClassId × FieldType) := [(G.cy 0, .int), (G.cy 1, .boolean), (G.cy 2, .object "MarriedMap$Sheet")]
def mm_A (G : mm_G) : Nat → Prop := fun q => G.ba ≤ q
def mm_H (G : mm_G) (T : mm_T) (M : mm_M) (H : Heap) : Prop := va_P G.dd vwCl (mm_ws G.ba G.cy T M) H
def mm_U (G : mm_G) (U : State) : Prop := va_K G.dd vwCl (mm_tys G) U ∧ va_X G.bb G.len G.xs U U.heap ∧ G.bb < G.ba ∧ G.ba ≤ U.heap.size ∧ va_AO "MarriedMap$Sheet" U ∧ ∀ w ∈ mm_nest, va_Nw w U
theorem mm_U.blind {G : mm_G} {U : State} (h : mm_U G U) (g : JFrame) (mk : MethodId) (a : Array Value) : mm_U G (U.calling g mk a) :=
  ⟨va_K.moved (u := U) (U := U.calling g mk a) (Vm.Alike.refl U.vm) h.1, va_X.moved (u := U) (U := U.calling g mk a) (Vm.Alike.refl U.vm) h.2.1, h.2.2.1, h.2.2.2.1, va_AO.moved (u := U) (U := U.calling g mk a) (Vm.Alike.refl U.vm) h.2.2.2.2.1, fun w hw => by
    have hn := (List.mem_filter.mp hw).2
    cases w <;> first | exact va_Nw.same rfl (u := U) (U := U.calling g mk a) rfl (h.2.2.2.2.2 _ hw) | cases hn⟩
theorem mm_U.moved {G : mm_G} {s U : State} {H : Heap} {locs : List Loc} (h : mm_U G s) (hS : va_S (mm_A G) s.heap H locs) (hU : U.heap = H) (hW : s.WarmedH U.vm) : mm_U G U := by
  obtain ⟨h1, h2, h3, h4, h5, h6⟩ := h
  refine ⟨va_K.moved hW.alike h1, ?_, h3, ?_, va_AO.moved hW.alike h5, fun w hw => ?_⟩
  · refine va_X.moved hW.alike (va_X.kept (H := s.heap) h2 ?_)
    rw [hU]
    exact hS.2.1 _ (Nat.lt_of_lt_of_le h3 h4) (Nat.not_le.mpr h3)
  · rw [hU]; exact Nat.le_trans h4 hS.1
  · have hn := (List.mem_filter.mp hw).2
    cases w <;> first | exact va_Nw.warmM hW (h6 _ hw) | cases hn
theorem mm_hD {G : mm_G} {T : mm_T} {M : mm_M} : va_D (mm_A G) (mm_ws G.ba G.cy T M) := mm_ws_D
theorem mm_H.low {G : mm_G} {T : mm_T} {M : mm_M} {H : Heap} (h : mm_H G T M H) (hb : G.ba ≤ H.size) : G.ba + T.length ≤ H.size := by
  cases hT : T.length with
  | zero => exact hb
  | succ k =>
    obtain ⟨x, hx⟩ : ∃ x, T[k]? = some x := ⟨_, List.getElem?_eq_getElem (by omega)⟩
    have h1 := (h k _ (mm_ws_get hx)).lt
    have h2 : G.ba + k < H.size := h1
    omega
end
section
/-! The judgement. mm_R: a method (its name, code, locals, answer's type, how many cells and slots it makes). mm_wp: from here the method comes to its end with P; mm_met: a call of it does. -/
abbrev mm_P : Type := Option Value → mm_T → mm_M → Prop
abbrev mm_R : Type := MethodName × ByteArray × Nat × Option FieldType × Nat × Nat
abbrev mm_R.nm (K : mm_R) : MethodName := K.1
abbrev mm_R.cc (K : mm_R) : ByteArray := K.2.1
abbrev mm_R.ml (K : mm_R) : Nat := K.2.2.1
abbrev mm_R.rt (K : mm_R) : Option FieldType := K.2.2.2.1
abbrev mm_R.bc (K : mm_R) : Nat := K.2.2.2.2.1
abbrev mm_R.bs (K : mm_R) : Nat := K.2.2.2.2.2
def mm_rt (ret : Option FieldType) (cc : ByteArray) (pc : Nat) : Option Value → Prop
  | none => ret = none ∧ decode cc pc = .ok (.return_, 1)
  | some (.int x) => ∃ ty, ret = some ty ∧ narrow ty (.int x) = .int x ∧ decode cc pc = .ok (.ireturn, 1)
  | some (.long _) => ret = some .long ∧ decode cc pc = .ok (.lreturn, 1)
  | some (.ref _) => (∃ n, ret = some (.object n)) ∧ decode cc pc = .ok (.areturn, 1)
  | some .null => (∃ n, ret = some (.object n)) ∧ decode cc pc = .ok (.areturn, 1)
  | _ => False
def mm_C (l : Launch) (G : mm_G) (d : Nat) (K : mm_R) (P : mm_P) (p : Program) (e : Env) (R : Room) (s : State) (m : MethodId) (args : Array Value) (below : List Frame) (meth : Method) (c : Code) (Q : State → Prop) : Prop :=
  CallFix p m c K.cc K.ml s args mm_tb K.nm.cls ∧ meth.name = K.nm.name ∧ (d ≤ R.frames ∧ 40 * d ≤ R.locals ∧ K.bc ≤ R.cells ∧ K.bs ≤ R.slots) ∧ mm_U G s ∧
  (∀ (v : Option Value) (T : mm_T) (M : mm_M) (H : Heap) (locs : List Loc) (ls : Array Slot) (pc : Nat), P v T M → mm_H G T M H → va_S (mm_A G) s.heap H locs → s.heap.size + K.bc = G.ba + T.length → mm_rt K.rt K.cc pc v → W p l e R s m args below meth c H locs K.bc K.bs Q (F0 m pc ls ((v.map (mm_v G.ba G.bb)).toList)))
def mm_kn : Value → Bool
  | .double _ => false
  | _ => true
def mm_nl : Value → Bool
  | .long _ => false
  | _ => true
def mm_al (ba bb : Nat) (ls : List Value) : List (Nat × Value) := (ls.zipIdx.filter (fun q => mm_kn q.1)).map (fun q => (q.2, mm_v ba bb q.1))
theorem mm_al_mem {ba bb : Nat} {ls : List Value} {i : Nat} {v : Value} (h : ls[i]? = some v) (hk : mm_kn v = true) : (i, mm_v ba bb v) ∈ mm_al ba bb ls := by
  refine List.mem_map.mpr ⟨(v, i), List.mem_filter.mpr ⟨?_, hk⟩, rfl⟩
  exact List.mem_of_getElem? (i := i) (by rw [List.getElem?_zipIdx, h]; simp)
theorem mm_al_of {ba bb : Nat} {ls : List Value} {q : Nat × Value} (h : q ∈ mm_al ba bb ls) : ∃ v, ls[q.1]? = some v ∧ mm_kn v = true ∧ q.2 = mm_v ba bb v := by
  obtain ⟨⟨v, i⟩, h1, rfl⟩ := List.mem_map.mp h
  obtain ⟨h2, h3⟩ := List.mem_filter.mp h1
  obtain ⟨j, hj⟩ := List.mem_iff_getElem?.mp h2
  rw [List.getElem?_zipIdx] at hj
  cases hv : ls[j]? with
  | none => rw [hv] at hj; simp at hj
  | some w =>
    rw [hv] at hj
    simp at hj
    obtain ⟨rfl, rfl⟩ := hj
    exact ⟨w, hv, h3, rfl⟩
def mm_ls (G : mm_G) (n : Nat) (ls : List Value) (lsm : Array Slot) : Prop := ls.length = n ∧ lv_has lsm n (mm_al G.ba G.bb ls)
theorem mm_ls.at {G : mm_G} {n : Nat} {ls : List Value} {lsm : Array Slot} (h : mm_ls G n ls lsm) {i : Nat} {v : Value} (hi : ls[i]? = some v) (hk : mm_kn v = true) : lsm[i]? = some (.val (mm_v G.ba G.bb v)) := h.2.2.2 (i, mm_v G.ba G.bb v) (mm_al_mem hi hk)
def mm_np (ls : List Value) : Nat → Bool
  | 0 => true
  | j + 1 => match ls[j]? with
    | some v => mm_nl v
    | none => true
theorem mm_ls_st1 {G : mm_G} {n : Nat} {ls : List Value} {lsm' : Array Slot} {i : Nat} {v : Value} (hn : ls.length = n) (hp : mm_np ls i = true)
    (h : lv_has lsm' n ((i, mm_v G.ba G.bb v) :: (mm_al G.ba G.bb ls).filter (fun q => !(q.1 == i) && !(q.1 + 1 == i && q.2.category == 2)))) : mm_ls G n (ls.set i v) lsm' := by
  refine ⟨by rw [List.length_set]; exact hn, h.1, h.2.1, fun q hq => ?_⟩
  obtain ⟨w, h1, h2, h3⟩ := mm_al_of hq
  obtain ⟨j, x⟩ := q
  simp only at h1 h3
  subst h3
  by_cases hj : j = i
  · subst hj
    have hl : j < ls.length := by
      have := (List.getElem?_eq_some_iff.mp h1).1
      simpa using this
    rw [List.getElem?_set_self hl] at h1
    cases h1
    exact h.2.2 _ List.mem_cons_self
  · rw [List.getElem?_set_ne (Ne.symm hj)] at h1
    refine h.2.2 _ (List.mem_cons_of_mem _ (List.mem_filter.mpr ⟨mm_al_mem h1 h2, ?_⟩))
    have e1 : (j == i) = false := by simpa using hj
    by_cases hji : j + 1 = i
    · subst hji
      have hq2 : mm_nl w = true := by
        have hp' : (match ls[j]? with | some v => mm_nl v | none => true) = true := hp
        rw [h1] at hp'
        exact hp'
      have hc : w.category = 1 := by cases w <;> simp_all [mm_nl, mm_kn, Value.category]
      simp [mm_v_cat, hc]
    · have e2 : (j + 1 == i) = false := by simpa using hji
      simp [e1, e2]
theorem mm_ls_st2 {G : mm_G} {n : Nat} {ls : List Value} {lsm' : Array Slot} {i : Nat} {x : Int64} {z : UInt64} (hn : ls.length = n) (hp : mm_np ls i = true)
    (h : lv_has lsm' n ((i, Value.long x) :: (mm_al G.ba G.bb ls).filter (fun q => !(q.1 == i) && (!(q.1 == i + 1) && !(q.1 + 1 == i && q.2.category == 2))))) : mm_ls G n ((ls.set i (.long x)).set (i + 1) (.double z)) lsm' := by
  refine ⟨by rw [List.length_set, List.length_set]; exact hn, h.1, h.2.1, fun q hq => ?_⟩
  obtain ⟨w, h1, h2, h3⟩ := mm_al_of hq
  obtain ⟨j, y⟩ := q
  simp only at h1 h3
  subst h3
  have hj1 : j ≠ i + 1 := by
    intro e
    subst e
    have hl : i + 1 < (ls.set i (.long x)).length := by
      have := (List.getElem?_eq_some_iff.mp h1).1
      simpa using this
    rw [List.getElem?_set_self hl] at h1
    cases h1
    cases h2
  rw [List.getElem?_set_ne (Ne.symm hj1)] at h1
  by_cases hj : j = i
  · subst hj
    have hl : j < ls.length := by
      have := (List.getElem?_eq_some_iff.mp h1).1
      simpa using this
    rw [List.getElem?_set_self hl] at h1
    cases h1
    exact h.2.2 _ List.mem_cons_self
  · rw [List.getElem?_set_ne (Ne.symm hj)] at h1
    refine h.2.2 _ (List.mem_cons_of_mem _ (List.mem_filter.mpr ⟨mm_al_mem h1 h2, ?_⟩))
    have e1 : (j == i) = false := by simpa using hj
    have e3 : (j == i + 1) = false := by simpa using hj1
    by_cases hji : j + 1 = i
    · subst hji
      have hq2 : mm_nl w = true := by
        have hp' : (match ls[j]? with | some v => mm_nl v | none => true) = true := hp
        rw [h1] at hp'
        exact hp'
      have hc : w.category = 1 := by cases w <;> simp_all [mm_nl, mm_kn, Value.category]
      simp [mm_v_cat, hc]
      omega
    · have e2 : (j + 1 == i) = false := by simpa using hji
      simp [e1, e2, e3]
def mm_wp (l : Launch) (G : mm_G) (d : Nat) (K : mm_R) (P : mm_P) (pc : Nat) (ls st : List Value) (T : mm_T) (M : mm_M) (uc us : Nat) : Prop :=
  ∀ p e R s m args below meth c Q, mm_C l G d K P p e R s m args below meth c Q → ∀ H locs lsm, mm_H G T M H → va_S (mm_A G) s.heap H locs → mm_ls G K.ml ls lsm → s.heap.size + uc = G.ba + T.length →
    W p l e R s m args below meth c H locs uc us Q (F0 m pc lsm (st.map (mm_v G.ba G.bb)))
section MM
variable {l : Launch} {G : mm_G} {d : Nat} {K : mm_R} {P : mm_P} {pc : Nat} {ls st : List Value} {T : mm_T} {M : mm_M} {uc us : Nat}

theorem mm_iadd (n : Nat) {x y : Int32} (hd : decode K.cc pc = .ok (.iadd, 1)) (hn : pc + 1 = n) (k : mm_wp l G d K P n ls (.int (x + y) :: st) T M uc us) : mm_wp l G d K P pc ls (.int y :: .int x :: st) T M uc us := by
  subst hn
  intro p e R s m args below meth c Q C H locs lsm hH hS hl hz
  exact lv_iadd C.1.1 C.1.2.1 hd (k p e R s m args below meth c Q C H locs lsm hH hS hl hz)

theorem mm_isub (n : Nat) {x y : Int32} (hd : decode K.cc pc = .ok (.isub, 1)) (hn : pc + 1 = n) (k : mm_wp l G d K P n ls (.int (x - y) :: st) T M uc us) : mm_wp l G d K P pc ls (.int y :: .int x :: st) T M uc us := by
  subst hn
  intro p e R s m args below meth c Q C H locs lsm hH hS hl hz
  exact lv_isub C.1.1 C.1.2.1 hd (k p e R s m args below meth c Q C H locs lsm hH hS hl hz)

theorem mm_imul (n : Nat) {x y : Int32} (hd : decode K.cc pc = .ok (.imul, 1)) (hn : pc + 1 = n) (k : mm_wp l G d K P n ls (.int (x * y) :: st) T M uc us) : mm_wp l G d K P pc ls (.int y :: .int x :: st) T M uc us := by
  subst hn
  intro p e R s m args below meth c Q C H locs lsm hH hS hl hz
  exact lv_imul C.1.1 C.1.2.1 hd (k p e R s m args below meth c Q C H locs lsm hH hS hl hz)

theorem mm_iand (n : Nat) {x y : Int32} (hd : decode K.cc pc = .ok (.iand, 1)) (hn : pc + 1 = n) (k : mm_wp l G d K P n ls (.int (x &&& y) :: st) T M uc us) : mm_wp l G d K P pc ls (.int y :: .int x :: st) T M uc us := by
  subst hn
  intro p e R s m args below meth c Q C H locs lsm hH hS hl hz
  exact lv_iand C.1.1 C.1.2.1 hd (k p e R s m args below meth c Q C H locs lsm hH hS hl hz)

theorem mm_ior (n : Nat) {x y : Int32} (hd : decode K.cc pc = .ok (.ior, 1)) (hn : pc + 1 = n) (k : mm_wp l G d K P n ls (.int (x ||| y) :: st) T M uc us) : mm_wp l G d K P pc ls (.int y :: .int x :: st) T M uc us := by
  subst hn
  intro p e R s m args below meth c Q C H locs lsm hH hS hl hz
  exact lv_ior C.1.1 C.1.2.1 hd (k p e R s m args below meth c Q C H locs lsm hH hS hl hz)

theorem mm_ixor (n : Nat) {x y : Int32} (hd : decode K.cc pc = .ok (.ixor, 1)) (hn : pc + 1 = n) (k : mm_wp l G d K P n ls (.int (x ^^^ y) :: st) T M uc us) : mm_wp l G d K P pc ls (.int y :: .int x :: st) T M uc us := by
  subst hn
  intro p e R s m args below meth c Q C H locs lsm hH hS hl hz
  exact lv_ixor C.1.1 C.1.2.1 hd (k p e R s m args below meth c Q C H locs lsm hH hS hl hz)

theorem mm_ishl (n : Nat) {x y : Int32} (hd : decode K.cc pc = .ok (.ishl, 1)) (hn : pc + 1 = n) (k : mm_wp l G d K P n ls (.int (x <<< (y &&& 31)) :: st) T M uc us) : mm_wp l G d K P pc ls (.int y :: .int x :: st) T M uc us := by
  subst hn
  intro p e R s m args below meth c Q C H locs lsm hH hS hl hz
  exact lv_ishl C.1.1 C.1.2.1 hd (k p e R s m args below meth c Q C H locs lsm hH hS hl hz)

theorem mm_ishr (n : Nat) {x y : Int32} (hd : decode K.cc pc = .ok (.ishr, 1)) (hn : pc + 1 = n) (k : mm_wp l G d K P n ls (.int (x >>> (y &&& 31)) :: st) T M uc us) : mm_wp l G d K P pc ls (.int y :: .int x :: st) T M uc us := by
  subst hn
  intro p e R s m args below meth c Q C H locs lsm hH hS hl hz
  exact lv_ishr C.1.1 C.1.2.1 hd (k p e R s m args below meth c Q C H locs lsm hH hS hl hz)

theorem mm_idiv (n : Nat) {x y : Int32} (hd : decode K.cc pc = .ok (.idiv, 1)) (hn : pc + 1 = n) (h0 : ¬ y = 0) (k : mm_wp l G d K P n ls (.int (x / y) :: st) T M uc us) : mm_wp l G d K P pc ls (.int y :: .int x :: st) T M uc us := by
  subst hn
  intro p e R s m args below meth c Q C H locs lsm hH hS hl hz
  exact lv_idiv C.1.1 C.1.2.1 hd h0 (k p e R s m args below meth c Q C H locs lsm hH hS hl hz)

theorem mm_irem (n : Nat) {x y : Int32} (hd : decode K.cc pc = .ok (.irem, 1)) (hn : pc + 1 = n) (h0 : ¬ y = 0) (k : mm_wp l G d K P n ls (.int (x - x / y * y) :: st) T M uc us) : mm_wp l G d K P pc ls (.int y :: .int x :: st) T M uc us := by
  subst hn
  intro p e R s m args below meth c Q C H locs lsm hH hS hl hz
  exact lv_irem C.1.1 C.1.2.1 hd h0 (k p e R s m args below meth c Q C H locs lsm hH hS hl hz)

theorem mm_ineg (n : Nat) {x : Int32} (hd : decode K.cc pc = .ok (.ineg, 1)) (hn : pc + 1 = n) (k : mm_wp l G d K P n ls (.int (-x) :: st) T M uc us) : mm_wp l G d K P pc ls (.int x :: st) T M uc us := by
  subst hn
  intro p e R s m args below meth c Q C H locs lsm hH hS hl hz
  exact lv_ineg C.1.1 C.1.2.1 hd (k p e R s m args below meth c Q C H locs lsm hH hS hl hz)

theorem mm_ladd (n : Nat) {x y : Int64} (hd : decode K.cc pc = .ok (.ladd, 1)) (hn : pc + 1 = n) (k : mm_wp l G d K P n ls (.long (x + y) :: st) T M uc us) : mm_wp l G d K P pc ls (.long y :: .long x :: st) T M uc us := by
  subst hn
  intro p e R s m args below meth c Q C H locs lsm hH hS hl hz
  exact lv_ladd C.1.1 C.1.2.1 hd (k p e R s m args below meth c Q C H locs lsm hH hS hl hz)

theorem mm_lmul (n : Nat) {x y : Int64} (hd : decode K.cc pc = .ok (.lmul, 1)) (hn : pc + 1 = n) (k : mm_wp l G d K P n ls (.long (x * y) :: st) T M uc us) : mm_wp l G d K P pc ls (.long y :: .long x :: st) T M uc us := by
  subst hn
  intro p e R s m args below meth c Q C H locs lsm hH hS hl hz
  exact lv_lmul C.1.1 C.1.2.1 hd (k p e R s m args below meth c Q C H locs lsm hH hS hl hz)

theorem mm_lcmp (n : Nat) {x y : Int64} (hd : decode K.cc pc = .ok (.lcmp, 1)) (hn : pc + 1 = n) (k : mm_wp l G d K P n ls (.int (lg_cmp x y) :: st) T M uc us) : mm_wp l G d K P pc ls (.long y :: .long x :: st) T M uc us := by
  subst hn
  intro p e R s m args below meth c Q C H locs lsm hH hS hl hz
  exact W.lcmp C.1.1 C.1.2.1 hd (k p e R s m args below meth c Q C H locs lsm hH hS hl hz)

theorem mm_i2l (n : Nat) {x : Int32} (hd : decode K.cc pc = .ok (.i2l, 1)) (hn : pc + 1 = n) (k : mm_wp l G d K P n ls (.long x.toInt64 :: st) T M uc us) : mm_wp l G d K P pc ls (.int x :: st) T M uc us := by
  subst hn
  intro p e R s m args below meth c Q C H locs lsm hH hS hl hz
  exact lv_i2l C.1.1 C.1.2.1 hd rfl (k p e R s m args below meth c Q C H locs lsm hH hS hl hz)

theorem mm_i2b (n : Nat) {x : Int32} (hd : decode K.cc pc = .ok (.i2b, 1)) (hn : pc + 1 = n) (k : mm_wp l G d K P n ls (.int x.toInt8.toInt32 :: st) T M uc us) : mm_wp l G d K P pc ls (.int x :: st) T M uc us := by
  subst hn
  intro p e R s m args below meth c Q C H locs lsm hH hS hl hz
  exact lv_i2b C.1.1 C.1.2.1 hd rfl (k p e R s m args below meth c Q C H locs lsm hH hS hl hz)

theorem mm_i2s (n : Nat) {x : Int32} (hd : decode K.cc pc = .ok (.i2s, 1)) (hn : pc + 1 = n) (k : mm_wp l G d K P n ls (.int x.toInt16.toInt32 :: st) T M uc us) : mm_wp l G d K P pc ls (.int x :: st) T M uc us := by
  subst hn
  intro p e R s m args below meth c Q C H locs lsm hH hS hl hz
  exact lv_i2s C.1.1 C.1.2.1 hd rfl (k p e R s m args below meth c Q C H locs lsm hH hS hl hz)

theorem mm_iconst (n : Nat) {i : Int} (v : Int32) (hd : decode K.cc pc = .ok (.iconst i, 1)) (hn : pc + 1 = n) (hv : Int32.ofInt i = v) (k : mm_wp l G d K P n ls (.int v :: st) T M uc us) : mm_wp l G d K P pc ls st T M uc us := by
  subst hn
  intro p e R s m args below meth c Q C H locs lsm hH hS hl hz
  exact lv_iconst C.1.1 C.1.2.1 hd hv (k p e R s m args below meth c Q C H locs lsm hH hS hl hz)

theorem mm_bipush (n : Nat) {i : Int} (v : Int32) (hd : decode K.cc pc = .ok (.bipush i, 2)) (hn : pc + 2 = n) (hv : (Int8.ofInt i).toInt32 = v) (k : mm_wp l G d K P n ls (.int v :: st) T M uc us) : mm_wp l G d K P pc ls st T M uc us := by
  subst hn
  intro p e R s m args below meth c Q C H locs lsm hH hS hl hz
  exact lv_bipush C.1.1 C.1.2.1 hd hv (k p e R s m args below meth c Q C H locs lsm hH hS hl hz)

theorem mm_sipush (n : Nat) {i : Int} (v : Int32) (hd : decode K.cc pc = .ok (.sipush i, 3)) (hn : pc + 3 = n) (hv : (Int16.ofInt i).toInt32 = v) (k : mm_wp l G d K P n ls (.int v :: st) T M uc us) : mm_wp l G d K P pc ls st T M uc us := by
  subst hn
  intro p e R s m args below meth c Q C H locs lsm hH hS hl hz
  exact lv_sipush C.1.1 C.1.2.1 hd hv (k p e R s m args below meth c Q C H locs lsm hH hS hl hz)

theorem mm_lconst (n : Nat) {i : Fin 2} (v : Int64) (hd : decode K.cc pc = .ok (.lconst i, 1)) (hn : pc + 1 = n) (hv : Int64.ofNat (i : Nat) = v) (k : mm_wp l G d K P n ls (.long v :: st) T M uc us) : mm_wp l G d K P pc ls st T M uc us := by
  subst hn
  intro p e R s m args below meth c Q C H locs lsm hH hS hl hz
  exact lv_lconst C.1.1 C.1.2.1 hd hv (k p e R s m args below meth c Q C H locs lsm hH hS hl hz)

theorem mm_ldc (n : Nat) {i : Nat} (v : Int32) (hd : decode K.cc pc = .ok (.ldc i, 2)) (hn : pc + 2 = n) (hv : Cond.constant K.nm.cls i v ∈ mm_tb) (k : mm_wp l G d K P n ls (.int v :: st) T M uc us) : mm_wp l G d K P pc ls st T M uc us := by
  subst hn
  intro p e R s m args below meth c Q C H locs lsm hH hS hl hz
  exact lv_ldc C.1.1 C.1.2.1 C.1.2.2.2.1 (C.1.2.2.2.2 _ hv) hd (k p e R s m args below meth c Q C H locs lsm hH hS hl hz)

theorem mm_ldcw (n : Nat) {i : Nat} (v : Int32) (hd : decode K.cc pc = .ok (.ldc_w i, 3)) (hn : pc + 3 = n) (hv : Cond.constant K.nm.cls i v ∈ mm_tb) (k : mm_wp l G d K P n ls (.int v :: st) T M uc us) : mm_wp l G d K P pc ls st T M uc us := by
  subst hn
  intro p e R s m args below meth c Q C H locs lsm hH hS hl hz
  exact lv_ldcw C.1.1 C.1.2.1 C.1.2.2.2.1 (C.1.2.2.2.2 _ hv) hd (k p e R s m args below meth c Q C H locs lsm hH hS hl hz)

theorem mm_ldc2 (n : Nat) {i : Nat} (v : Int64) (hd : decode K.cc pc = .ok (.ldc2_w i, 3)) (hn : pc + 3 = n) (hv : Cond.constantLong K.nm.cls i v ∈ mm_tb) (k : mm_wp l G d K P n ls (.long v :: st) T M uc us) : mm_wp l G d K P pc ls st T M uc us := by
  subst hn
  intro p e R s m args below meth c Q C H locs lsm hH hS hl hz
  exact lv_ldc2 C.1.1 C.1.2.1 C.1.2.2.2.1 (C.1.2.2.2.2 _ hv) hd (k p e R s m args below meth c Q C H locs lsm hH hS hl hz)

theorem mm_dup (n : Nat) {v : Value} (hd : decode K.cc pc = .ok (.dup, 1)) (hn : pc + 1 = n) (hc : v.category = 1) (k : mm_wp l G d K P n ls (v :: v :: st) T M uc us) : mm_wp l G d K P pc ls (v :: st) T M uc us := by
  subst hn
  intro p e R s m args below meth c Q C H locs lsm hH hS hl hz
  exact lv_dup C.1.1 C.1.2.1 hd (by rw [mm_v_cat]; exact hc) (k p e R s m args below meth c Q C H locs lsm hH hS hl hz)

theorem mm_pop (n : Nat) {v : Value} (hd : decode K.cc pc = .ok (.pop, 1)) (hn : pc + 1 = n) (hc : v.category = 1) (k : mm_wp l G d K P n ls st T M uc us) : mm_wp l G d K P pc ls (v :: st) T M uc us := by
  subst hn
  intro p e R s m args below meth c Q C H locs lsm hH hS hl hz
  exact lv_pop C.1.1 C.1.2.1 hd (va := mm_v G.ba G.bb v) (by rw [mm_v_cat]; exact hc) (k p e R s m args below meth c Q C H locs lsm hH hS hl hz)

theorem mm_dup2 (n : Nat) {v w : Value} (hd : decode K.cc pc = .ok (.dup2, 1)) (hn : pc + 1 = n) (hc : v.category = 1) (hw : w.category = 1) (k : mm_wp l G d K P n ls (v :: w :: v :: w :: st) T M uc us) : mm_wp l G d K P pc ls (v :: w :: st) T M uc us := by
  subst hn
  intro p e R s m args below meth c Q C H locs lsm hH hS hl hz
  exact lv_dup2_11 C.1.1 C.1.2.1 hd (by rw [mm_v_cat]; exact hc) (by rw [mm_v_cat]; exact hw) (k p e R s m args below meth c Q C H locs lsm hH hS hl hz)

theorem mm_null (n : Nat) (hd : decode K.cc pc = .ok (.aconst_null, 1)) (hn : pc + 1 = n) (k : mm_wp l G d K P n ls (.null :: st) T M uc us) : mm_wp l G d K P pc ls st T M uc us := by
  subst hn
  intro p e R s m args below meth c Q C H locs lsm hH hS hl hz
  exact lv_null C.1.1 C.1.2.1 hd (k p e R s m args below meth c Q C H locs lsm hH hS hl hz)

theorem mm_goto (t : Nat) {off : Int} (hd : decode K.cc pc = .ok (.goto off, 3)) (ht : (pc : Int) + off = (t : Int)) (k : mm_wp l G d K P t ls st T M uc us) : mm_wp l G d K P pc ls st T M uc us := by
  intro p e R s m args below meth c Q C H locs lsm hH hS hl hz
  exact lv_goto C.1.1 C.1.2.1 hd ht (k p e R s m args below meth c Q C H locs lsm hH hS hl hz)

theorem mm_if_eq (t n : Nat) {x : Int32} {off : Int} (hd : decode K.cc pc = .ok (.ifCond .eq off, 3)) (ht : (pc : Int) + off = (t : Int)) (hn : pc + 3 = n) (kt : x = 0 → mm_wp l G d K P t ls st T M uc us) (kf : ¬ x = 0 → mm_wp l G d K P n ls st T M uc us) : mm_wp l G d K P pc ls (.int x :: st) T M uc us := by
  subst hn
  intro p e R s m args below meth c Q C H locs lsm hH hS hl hz
  exact lv_if_eq C.1.1 C.1.2.1 hd ht (fun h => kt h p e R s m args below meth c Q C H locs lsm hH hS hl hz) (fun h => kf h p e R s m args below meth c Q C H locs lsm hH hS hl hz)

theorem mm_ic_eq (t n : Nat) {x y : Int32} {off : Int} (hd : decode K.cc pc = .ok (.if_icmp .eq off, 3)) (ht : (pc : Int) + off = (t : Int)) (hn : pc + 3 = n) (kt : x = y → mm_wp l G d K P t ls st T M uc us) (kf : ¬ x = y → mm_wp l G d K P n ls st T M uc us) : mm_wp l G d K P pc ls (.int y :: .int x :: st) T M uc us := by
  subst hn
  intro p e R s m args below meth c Q C H locs lsm hH hS hl hz
  exact lv_icmp_eq C.1.1 C.1.2.1 hd ht (fun h => kt h p e R s m args below meth c Q C H locs lsm hH hS hl hz) (fun h => kf h p e R s m args below meth c Q C H locs lsm hH hS hl hz)

theorem mm_if_ne (t n : Nat) {x : Int32} {off : Int} (hd : decode K.cc pc = .ok (.ifCond .ne off, 3)) (ht : (pc : Int) + off = (t : Int)) (hn : pc + 3 = n) (kt : ¬ x = 0 → mm_wp l G d K P t ls st T M uc us) (kf : x = 0 → mm_wp l G d K P n ls st T M uc us) : mm_wp l G d K P pc ls (.int x :: st) T M uc us := by
  subst hn
  intro p e R s m args below meth c Q C H locs lsm hH hS hl hz
  exact lv_if_ne C.1.1 C.1.2.1 hd ht (fun h => kt h p e R s m args below meth c Q C H locs lsm hH hS hl hz) (fun h => kf h p e R s m args below meth c Q C H locs lsm hH hS hl hz)

theorem mm_ic_ne (t n : Nat) {x y : Int32} {off : Int} (hd : decode K.cc pc = .ok (.if_icmp .ne off, 3)) (ht : (pc : Int) + off = (t : Int)) (hn : pc + 3 = n) (kt : ¬ x = y → mm_wp l G d K P t ls st T M uc us) (kf : x = y → mm_wp l G d K P n ls st T M uc us) : mm_wp l G d K P pc ls (.int y :: .int x :: st) T M uc us := by
  subst hn
  intro p e R s m args below meth c Q C H locs lsm hH hS hl hz
  exact lv_icmp_ne C.1.1 C.1.2.1 hd ht (fun h => kt h p e R s m args below meth c Q C H locs lsm hH hS hl hz) (fun h => kf h p e R s m args below meth c Q C H locs lsm hH hS hl hz)

theorem mm_if_lt (t n : Nat) {x : Int32} {off : Int} (hd : decode K.cc pc = .ok (.ifCond .lt off, 3)) (ht : (pc : Int) + off = (t : Int)) (hn : pc + 3 = n) (kt : x < 0 → mm_wp l G d K P t ls st T M uc us) (kf : ¬ x < 0 → mm_wp l G d K P n ls st T M uc us) : mm_wp l G d K P pc ls (.int x :: st) T M uc us := by
  subst hn
  intro p e R s m args below meth c Q C H locs lsm hH hS hl hz
  exact lv_if_lt C.1.1 C.1.2.1 hd ht (fun h => kt h p e R s m args below meth c Q C H locs lsm hH hS hl hz) (fun h => kf h p e R s m args below meth c Q C H locs lsm hH hS hl hz)

theorem mm_ic_lt (t n : Nat) {x y : Int32} {off : Int} (hd : decode K.cc pc = .ok (.if_icmp .lt off, 3)) (ht : (pc : Int) + off = (t : Int)) (hn : pc + 3 = n) (kt : x < y → mm_wp l G d K P t ls st T M uc us) (kf : ¬ x < y → mm_wp l G d K P n ls st T M uc us) : mm_wp l G d K P pc ls (.int y :: .int x :: st) T M uc us := by
  subst hn
  intro p e R s m args below meth c Q C H locs lsm hH hS hl hz
  exact lv_icmp_lt C.1.1 C.1.2.1 hd ht (fun h => kt h p e R s m args below meth c Q C H locs lsm hH hS hl hz) (fun h => kf h p e R s m args below meth c Q C H locs lsm hH hS hl hz)

theorem mm_if_ge (t n : Nat) {x : Int32} {off : Int} (hd : decode K.cc pc = .ok (.ifCond .ge off, 3)) (ht : (pc : Int) + off = (t : Int)) (hn : pc + 3 = n) (kt : 0 ≤ x → mm_wp l G d K P t ls st T M uc us) (kf : ¬ 0 ≤ x → mm_wp l G d K P n ls st T M uc us) : mm_wp l G d K P pc ls (.int x :: st) T M uc us := by
  subst hn
  intro p e R s m args below meth c Q C H locs lsm hH hS hl hz
  exact lv_if_ge C.1.1 C.1.2.1 hd ht (fun h => kt h p e R s m args below meth c Q C H locs lsm hH hS hl hz) (fun h => kf h p e R s m args below meth c Q C H locs lsm hH hS hl hz)

theorem mm_ic_ge (t n : Nat) {x y : Int32} {off : Int} (hd : decode K.cc pc = .ok (.if_icmp .ge off, 3)) (ht : (pc : Int) + off = (t : Int)) (hn : pc + 3 = n) (kt : y ≤ x → mm_wp l G d K P t ls st T M uc us) (kf : ¬ y ≤ x → mm_wp l G d K P n ls st T M uc us) : mm_wp l G d K P pc ls (.int y :: .int x :: st) T M uc us := by
  subst hn
  intro p e R s m args below meth c Q C H locs lsm hH hS hl hz
  exact lv_icmp_ge C.1.1 C.1.2.1 hd ht (fun h => kt h p e R s m args below meth c Q C H locs lsm hH hS hl hz) (fun h => kf h p e R s m args below meth c Q C H locs lsm hH hS hl hz)

theorem mm_if_gt (t n : Nat) {x : Int32} {off : Int} (hd : decode K.cc pc = .ok (.ifCond .gt off, 3)) (ht : (pc : Int) + off = (t : Int)) (hn : pc + 3 = n) (kt : 0 < x → mm_wp l G d K P t ls st T M uc us) (kf : ¬ 0 < x → mm_wp l G d K P n ls st T M uc us) : mm_wp l G d K P pc ls (.int x :: st) T M uc us := by
  subst hn
  intro p e R s m args below meth c Q C H locs lsm hH hS hl hz
  exact lv_if_gt C.1.1 C.1.2.1 hd ht (fun h => kt h p e R s m args below meth c Q C H locs lsm hH hS hl hz) (fun h => kf h p e R s m args below meth c Q C H locs lsm hH hS hl hz)

theorem mm_ic_gt (t n : Nat) {x y : Int32} {off : Int} (hd : decode K.cc pc = .ok (.if_icmp .gt off, 3)) (ht : (pc : Int) + off = (t : Int)) (hn : pc + 3 = n) (kt : y < x → mm_wp l G d K P t ls st T M uc us) (kf : ¬ y < x → mm_wp l G d K P n ls st T M uc us) : mm_wp l G d K P pc ls (.int y :: .int x :: st) T M uc us := by
  subst hn
  intro p e R s m args below meth c Q C H locs lsm hH hS hl hz
  exact lv_icmp_gt C.1.1 C.1.2.1 hd ht (fun h => kt h p e R s m args below meth c Q C H locs lsm hH hS hl hz) (fun h => kf h p e R s m args below meth c Q C H locs lsm hH hS hl hz)

theorem mm_if_le (t n : Nat) {x : Int32} {off : Int} (hd : decode K.cc pc = .ok (.ifCond .le off, 3)) (ht : (pc : Int) + off = (t : Int)) (hn : pc + 3 = n) (kt : x ≤ 0 → mm_wp l G d K P t ls st T M uc us) (kf : ¬ x ≤ 0 → mm_wp l G d K P n ls st T M uc us) : mm_wp l G d K P pc ls (.int x :: st) T M uc us := by
  subst hn
  intro p e R s m args below meth c Q C H locs lsm hH hS hl hz
  exact lv_if_le C.1.1 C.1.2.1 hd ht (fun h => kt h p e R s m args below meth c Q C H locs lsm hH hS hl hz) (fun h => kf h p e R s m args below meth c Q C H locs lsm hH hS hl hz)

theorem mm_ic_le (t n : Nat) {x y : Int32} {off : Int} (hd : decode K.cc pc = .ok (.if_icmp .le off, 3)) (ht : (pc : Int) + off = (t : Int)) (hn : pc + 3 = n) (kt : x ≤ y → mm_wp l G d K P t ls st T M uc us) (kf : ¬ x ≤ y → mm_wp l G d K P n ls st T M uc us) : mm_wp l G d K P pc ls (.int y :: .int x :: st) T M uc us := by
  subst hn
  intro p e R s m args below meth c Q C H locs lsm hH hS hl hz
  exact lv_icmp_le C.1.1 C.1.2.1 hd ht (fun h => kt h p e R s m args below meth c Q C H locs lsm hH hS hl hz) (fun h => kf h p e R s m args below meth c Q C H locs lsm hH hS hl hz)

theorem mm_nonnullR (t : Nat) {x : Nat} {off : Int} (hd : decode K.cc pc = .ok (.ifnonnull off, 3)) (ht : (pc : Int) + off = (t : Int)) (k : mm_wp l G d K P t ls st T M uc us) : mm_wp l G d K P pc ls (.ref x :: st) T M uc us := by
  intro p e R s m args below meth c Q C H locs lsm hH hS hl hz
  exact lv_ifnonnull C.1.1 C.1.2.1 hd ht (k p e R s m args below meth c Q C H locs lsm hH hS hl hz)

theorem mm_nonnullN (n : Nat) {off : Int} (hd : decode K.cc pc = .ok (.ifnonnull off, 3)) (hn : pc + 3 = n) (k : mm_wp l G d K P n ls st T M uc us) : mm_wp l G d K P pc ls (.null :: st) T M uc us := by
  subst hn
  intro p e R s m args below meth c Q C H locs lsm hH hS hl hz
  exact lv_ifnonnullN C.1.1 C.1.2.1 hd (k p e R s m args below meth c Q C H locs lsm hH hS hl hz)

theorem mm_nullR (n : Nat) {x : Nat} {off : Int} (hd : decode K.cc pc = .ok (.ifnull off, 3)) (hn : pc + 3 = n) (k : mm_wp l G d K P n ls st T M uc us) : mm_wp l G d K P pc ls (.ref x :: st) T M uc us := by
  subst hn
  intro p e R s m args below meth c Q C H locs lsm hH hS hl hz
  exact lv_ifnull C.1.1 C.1.2.1 hd (k p e R s m args below meth c Q C H locs lsm hH hS hl hz)

theorem mm_nullN (t : Nat) {off : Int} (hd : decode K.cc pc = .ok (.ifnull off, 3)) (ht : (pc : Int) + off = (t : Int)) (k : mm_wp l G d K P t ls st T M uc us) : mm_wp l G d K P pc ls (.null :: st) T M uc us := by
  intro p e R s m args below meth c Q C H locs lsm hH hS hl hz
  exact lv_ifnullN C.1.1 C.1.2.1 hd ht (k p e R s m args below meth c Q C H locs lsm hH hS hl hz)

theorem mm_tabOut (t : Nat) {dflt lo hi : Int} {offs : Array Int} {len : Nat} {x : Int32} (hd : decode K.cc pc = .ok (.tableswitch dflt lo hi offs, len)) (h : x.toInt < lo ∨ hi < x.toInt) (ht : (pc : Int) + dflt = (t : Int)) (k : mm_wp l G d K P t ls st T M uc us) : mm_wp l G d K P pc ls (.int x :: st) T M uc us := by
  intro p e R s m args below meth c Q C H locs lsm hH hS hl hz
  exact lv_tableOut C.1.1 C.1.2.1 hd h ht (k p e R s m args below meth c Q C H locs lsm hH hS hl hz)

theorem mm_tabIn (t : Nat) {dflt lo hi off : Int} {offs : Array Int} {len : Nat} {x : Int32} (hd : decode K.cc pc = .ok (.tableswitch dflt lo hi offs, len)) (h1 : ¬ x.toInt < lo) (h2 : ¬ hi < x.toInt) (ho : offs[(x.toInt - lo).toNat]? = some off) (ht : (pc : Int) + off = (t : Int)) (k : mm_wp l G d K P t ls st T M uc us) : mm_wp l G d K P pc ls (.int x :: st) T M uc us := by
  intro p e R s m args below meth c Q C H locs lsm hH hS hl hz
  exact lv_tableIn C.1.1 C.1.2.1 hd h1 h2 ho ht (k p e R s m args below meth c Q C H locs lsm hH hS hl hz)

theorem mm_lookup (t : Nat) {dflt off : Int} {ps : Array (Int × Int)} {len : Nat} {x : Int32} (hd : decode K.cc pc = .ok (.lookupswitch dflt ps, len)) (hp : (ps.toList.zip (ps.toList.drop 1)).all (fun (a, next) => a.1 < next.1) = true) (ho : Op.lookupswitch.offset ps.toList dflt x.toInt = off) (ht : (pc : Int) + off = (t : Int)) (k : mm_wp l G d K P t ls st T M uc us) : mm_wp l G d K P pc ls (.int x :: st) T M uc us := by
  intro p e R s m args below meth c Q C H locs lsm hH hS hl hz
  exact lv_lookup C.1.1 C.1.2.1 hd hp ho ht (k p e R s m args below meth c Q C H locs lsm hH hS hl hz)

theorem mm_iloadN (n i : Nat) {q : Fin 4} {x : Int32} (hd : decode K.cc pc = .ok (.iload_n q, 1)) (hq : (q : Nat) = i) (hx : ls[i]? = some (.int x)) (hn : pc + 1 = n) (k : mm_wp l G d K P n ls (.int x :: st) T M uc us) : mm_wp l G d K P pc ls st T M uc us := by
  subst hn
  intro p e R s m args below meth c Q C H locs lsm hH hS hl hz
  exact lv_iload_n C.1.1 C.1.2.1 hd hq (hl.at hx rfl) (k p e R s m args below meth c Q C H locs lsm hH hS hl hz)

theorem mm_iloadW (n i : Nat) {x : Int32} (hd : decode K.cc pc = .ok (.iload i, 2)) (hx : ls[i]? = some (.int x)) (hn : pc + 2 = n) (k : mm_wp l G d K P n ls (.int x :: st) T M uc us) : mm_wp l G d K P pc ls st T M uc us := by
  subst hn
  intro p e R s m args below meth c Q C H locs lsm hH hS hl hz
  exact lv_iload C.1.1 C.1.2.1 hd (hl.at hx rfl) (k p e R s m args below meth c Q C H locs lsm hH hS hl hz)

theorem mm_lloadN (n i : Nat) {q : Fin 4} {x : Int64} (hd : decode K.cc pc = .ok (.lload_n q, 1)) (hq : (q : Nat) = i) (hx : ls[i]? = some (.long x)) (hn : pc + 1 = n) (k : mm_wp l G d K P n ls (.long x :: st) T M uc us) : mm_wp l G d K P pc ls st T M uc us := by
  subst hn
  intro p e R s m args below meth c Q C H locs lsm hH hS hl hz
  exact lv_lload_n C.1.1 C.1.2.1 hd hq (hl.at hx rfl) (k p e R s m args below meth c Q C H locs lsm hH hS hl hz)

theorem mm_lloadW (n i : Nat) {x : Int64} (hd : decode K.cc pc = .ok (.lload i, 2)) (hx : ls[i]? = some (.long x)) (hn : pc + 2 = n) (k : mm_wp l G d K P n ls (.long x :: st) T M uc us) : mm_wp l G d K P pc ls st T M uc us := by
  subst hn
  intro p e R s m args below meth c Q C H locs lsm hH hS hl hz
  exact lv_lload C.1.1 C.1.2.1 hd (hl.at hx rfl) (k p e R s m args below meth c Q C H locs lsm hH hS hl hz)

theorem mm_aloadN (n i : Nat) {q : Fin 4} {x : Nat} (hd : decode K.cc pc = .ok (.aload_n q, 1)) (hq : (q : Nat) = i) (hx : ls[i]? = some (.ref x)) (hn : pc + 1 = n) (k : mm_wp l G d K P n ls ((.ref x) :: st) T M uc us) : mm_wp l G d K P pc ls st T M uc us := by
  subst hn
  intro p e R s m args below meth c Q C H locs lsm hH hS hl hz
  exact lv_aload_n C.1.1 C.1.2.1 hd hq (hl.at hx rfl) (k p e R s m args below meth c Q C H locs lsm hH hS hl hz)

theorem mm_aloadNS (n i : Nat) {q : Fin 4} {x : UInt32} (hd : decode K.cc pc = .ok (.aload_n q, 1)) (hq : (q : Nat) = i) (hx : ls[i]? = some (.float x)) (hn : pc + 1 = n) (k : mm_wp l G d K P n ls ((.float x) :: st) T M uc us) : mm_wp l G d K P pc ls st T M uc us := by
  subst hn
  intro p e R s m args below meth c Q C H locs lsm hH hS hl hz
  exact lv_aload_n C.1.1 C.1.2.1 hd hq (hl.at hx rfl) (k p e R s m args below meth c Q C H locs lsm hH hS hl hz)

theorem mm_aloadW (n i : Nat) {x : Nat} (hd : decode K.cc pc = .ok (.aload i, 2)) (hx : ls[i]? = some (.ref x)) (hn : pc + 2 = n) (k : mm_wp l G d K P n ls (.ref x :: st) T M uc us) : mm_wp l G d K P pc ls st T M uc us := by
  subst hn
  intro p e R s m args below meth c Q C H locs lsm hH hS hl hz
  exact lv_aload C.1.1 C.1.2.1 hd (hl.at hx rfl) (k p e R s m args below meth c Q C H locs lsm hH hS hl hz)

theorem mm_aloadNN (n i : Nat) {q : Fin 4} (hd : decode K.cc pc = .ok (.aload_n q, 1)) (hq : (q : Nat) = i) (hx : ls[i]? = some .null) (hn : pc + 1 = n) (k : mm_wp l G d K P n ls (.null :: st) T M uc us) : mm_wp l G d K P pc ls st T M uc us := by
  subst hn
  intro p e R s m args below meth c Q C H locs lsm hH hS hl hz
  exact lv_aload_nN C.1.1 C.1.2.1 hd hq (hl.at hx rfl) (k p e R s m args below meth c Q C H locs lsm hH hS hl hz)

theorem mm_aloadWN (n i : Nat) (hd : decode K.cc pc = .ok (.aload i, 2)) (hx : ls[i]? = some .null) (hn : pc + 2 = n) (k : mm_wp l G d K P n ls (.null :: st) T M uc us) : mm_wp l G d K P pc ls st T M uc us := by
  subst hn
  intro p e R s m args below meth c Q C H locs lsm hH hS hl hz
  exact lv_aloadN C.1.1 C.1.2.1 hd (hl.at hx rfl) (k p e R s m args below meth c Q C H locs lsm hH hS hl hz)

theorem mm_istoreN (n i : Nat) {q : Fin 4} {x : Int32} (hd : decode K.cc pc = .ok (.istore_n q, 1)) (hq : (q : Nat) = i) (hi : i < ls.length) (hp : mm_np ls i = true) (hn : pc + 1 = n) (k : mm_wp l G d K P n (ls.set i (.int x)) st T M uc us) : mm_wp l G d K P pc ls (.int x :: st) T M uc us := by
  subst hn
  intro p e R s m args below meth c Q C H locs lsm hH hS hl hz
  exact lv_istore_n C.1.1 C.1.2.1 hd hq hl.2 (by rw [← hl.1]; exact hi) rfl (fun lsm2 h2 => k p e R s m args below meth c Q C H locs lsm2 hH hS (mm_ls_st1 (v := .int x) hl.1 hp h2) hz)

theorem mm_istoreW (n i : Nat) {x : Int32} (hd : decode K.cc pc = .ok (.istore i, 2)) (hi : i < ls.length) (hp : mm_np ls i = true) (hn : pc + 2 = n) (k : mm_wp l G d K P n (ls.set i (.int x)) st T M uc us) : mm_wp l G d K P pc ls (.int x :: st) T M uc us := by
  subst hn
  intro p e R s m args below meth c Q C H locs lsm hH hS hl hz
  exact lv_istore C.1.1 C.1.2.1 hd hl.2 (by rw [← hl.1]; exact hi) rfl (fun lsm2 h2 => k p e R s m args below meth c Q C H locs lsm2 hH hS (mm_ls_st1 (v := .int x) hl.1 hp h2) hz)

theorem mm_astoreN (n i : Nat) {q : Fin 4} {x : Nat} (hd : decode K.cc pc = .ok (.astore_n q, 1)) (hq : (q : Nat) = i) (hi : i < ls.length) (hp : mm_np ls i = true) (hn : pc + 1 = n) (k : mm_wp l G d K P n (ls.set i (.ref x)) st T M uc us) : mm_wp l G d K P pc ls (.ref x :: st) T M uc us := by
  subst hn
  intro p e R s m args below meth c Q C H locs lsm hH hS hl hz
  exact lv_astore_n C.1.1 C.1.2.1 hd hq hl.2 (by rw [← hl.1]; exact hi) rfl (fun lsm2 h2 => k p e R s m args below meth c Q C H locs lsm2 hH hS (mm_ls_st1 (v := .ref x) hl.1 hp h2) hz)

theorem mm_astoreW (n i : Nat) {x : Nat} (hd : decode K.cc pc = .ok (.astore i, 2)) (hi : i < ls.length) (hp : mm_np ls i = true) (hn : pc + 2 = n) (k : mm_wp l G d K P n (ls.set i (.ref x)) st T M uc us) : mm_wp l G d K P pc ls (.ref x :: st) T M uc us := by
  subst hn
  intro p e R s m args below meth c Q C H locs lsm hH hS hl hz
  exact lv_astore C.1.1 C.1.2.1 hd hl.2 (by rw [← hl.1]; exact hi) rfl (fun lsm2 h2 => k p e R s m args below meth c Q C H locs lsm2 hH hS (mm_ls_st1 (v := .ref x) hl.1 hp h2) hz)

theorem mm_astoreNN (n i : Nat) {q : Fin 4} (hd : decode K.cc pc = .ok (.astore_n q, 1)) (hq : (q : Nat) = i) (hi : i < ls.length) (hp : mm_np ls i = true) (hn : pc + 1 = n) (k : mm_wp l G d K P n (ls.set i .null) st T M uc us) : mm_wp l G d K P pc ls (.null :: st) T M uc us := by
  subst hn
  intro p e R s m args below meth c Q C H locs lsm hH hS hl hz
  exact lv_astore_nN C.1.1 C.1.2.1 hd hq hl.2 (by rw [← hl.1]; exact hi) rfl (fun lsm2 h2 => k p e R s m args below meth c Q C H locs lsm2 hH hS (mm_ls_st1 (v := .null) hl.1 hp h2) hz)

theorem mm_astoreWN (n i : Nat) (hd : decode K.cc pc = .ok (.astore i, 2)) (hi : i < ls.length) (hp : mm_np ls i = true) (hn : pc + 2 = n) (k : mm_wp l G d K P n (ls.set i .null) st T M uc us) : mm_wp l G d K P pc ls (.null :: st) T M uc us := by
  subst hn
  intro p e R s m args below meth c Q C H locs lsm hH hS hl hz
  exact lv_astoreN C.1.1 C.1.2.1 hd hl.2 (by rw [← hl.1]; exact hi) rfl (fun lsm2 h2 => k p e R s m args below meth c Q C H locs lsm2 hH hS (mm_ls_st1 (v := .null) hl.1 hp h2) hz)

theorem mm_lstoreN (n i : Nat) {q : Fin 4} {x : Int64} (hd : decode K.cc pc = .ok (.lstore_n q, 1)) (hq : (q : Nat) = i) (hi : i + 1 < ls.length) (hp : mm_np ls i = true) (hn : pc + 1 = n) (k : mm_wp l G d K P n ((ls.set i (.long x)).set (i + 1) (.double 0)) st T M uc us) : mm_wp l G d K P pc ls (.long x :: st) T M uc us := by
  subst hn
  intro p e R s m args below meth c Q C H locs lsm hH hS hl hz
  exact lv_lstore_n C.1.1 C.1.2.1 hd hq hl.2 (by rw [← hl.1]; exact hi) rfl (fun lsm2 h2 => k p e R s m args below meth c Q C H locs lsm2 hH hS (mm_ls_st2 hl.1 hp h2) hz)

theorem mm_iincG (n i : Nat) {j : Int} {x : Int32} (w : Int32) (hd : decode K.cc pc = .ok (.iinc i j, 3)) (hw : Int32.ofInt j = w) (hx : ls[i]? = some (.int x)) (hp : mm_np ls i = true) (hn : pc + 3 = n) (k : mm_wp l G d K P n (ls.set i (.int (x + w))) st T M uc us) : mm_wp l G d K P pc ls st T M uc us := by
  subst hn
  subst hw
  intro p e R s m args below meth c Q C H locs lsm hH hS hl hz
  obtain ⟨q, hq⟩ := List.mem_iff_getElem?.mp (mm_al_mem (ba := G.ba) (bb := G.bb) hx rfl)
  exact lv_iinc C.1.1 C.1.2.1 hd hl.2 hq rfl (by rw [← hl.1]; exact (List.getElem?_eq_some_iff.mp hx).1) rfl (fun lsm2 h2 => k p e R s m args below meth c Q C H locs lsm2 hH hS (mm_ls_st1 (v := .int (x + Int32.ofInt j)) hl.1 hp h2) hz)

theorem mm_iload_0 (n : Nat) {x : Int32} {r : List Value} (hd : decode K.cc pc = .ok (.iload_n 0, 1)) (hn : pc + 1 = n) (k : mm_wp l G d K P n (.int x :: r) (.int x :: st) T M uc us) : mm_wp l G d K P pc (.int x :: r) st T M uc us := mm_iloadN n 0 hd rfl rfl hn k

theorem mm_aload_0 (n : Nat) {x : Nat} {r : List Value} (hd : decode K.cc pc = .ok (.aload_n 0, 1)) (hn : pc + 1 = n) (k : mm_wp l G d K P n (.ref x :: r) (.ref x :: st) T M uc us) : mm_wp l G d K P pc (.ref x :: r) st T M uc us := mm_aloadN n 0 hd rfl rfl hn k

theorem mm_lload_0 (n : Nat) {x : Int64} {r : List Value} (hd : decode K.cc pc = .ok (.lload_n 0, 1)) (hn : pc + 1 = n) (k : mm_wp l G d K P n (.long x :: r) (.long x :: st) T M uc us) : mm_wp l G d K P pc (.long x :: r) st T M uc us := mm_lloadN n 0 hd rfl rfl hn k

theorem mm_sload_0 (n : Nat) {x : UInt32} {r : List Value} (hd : decode K.cc pc = .ok (.aload_n 0, 1)) (hn : pc + 1 = n) (k : mm_wp l G d K P n (.float x :: r) (.float x :: st) T M uc us) : mm_wp l G d K P pc (.float x :: r) st T M uc us := mm_aloadNS n 0 hd rfl rfl hn k

theorem mm_nload_0 (n : Nat) {r : List Value} (hd : decode K.cc pc = .ok (.aload_n 0, 1)) (hn : pc + 1 = n) (k : mm_wp l G d K P n (.null :: r) (.null :: st) T M uc us) : mm_wp l G d K P pc (.null :: r) st T M uc us := mm_aloadNN n 0 hd rfl rfl hn k

theorem mm_istore_0 (n : Nat) {b : Value} {x : Int32} {r : List Value} (hd : decode K.cc pc = .ok (.istore_n 0, 1)) (hn : pc + 1 = n) (k : mm_wp l G d K P n (.int x :: r) st T M uc us) : mm_wp l G d K P pc (b :: r) (.int x :: st) T M uc us := mm_istoreN n 0 hd rfl (by simp) rfl hn k

theorem mm_astore_0 (n : Nat) {b : Value} {x : Nat} {r : List Value} (hd : decode K.cc pc = .ok (.astore_n 0, 1)) (hn : pc + 1 = n) (k : mm_wp l G d K P n (.ref x :: r) st T M uc us) : mm_wp l G d K P pc (b :: r) (.ref x :: st) T M uc us := mm_astoreN n 0 hd rfl (by simp) rfl hn k

theorem mm_nstore_0 (n : Nat) {b : Value} {r : List Value} (hd : decode K.cc pc = .ok (.astore_n 0, 1)) (hn : pc + 1 = n) (k : mm_wp l G d K P n (.null :: r) st T M uc us) : mm_wp l G d K P pc (b :: r) (.null :: st) T M uc us := mm_astoreNN n 0 hd rfl (by simp) rfl hn k

theorem mm_iinc_0 (n : Nat) {j : Int} {x : Int32} {r : List Value} (w : Int32) (hd : decode K.cc pc = .ok (.iinc 0 j, 3)) (hn : pc + 3 = n) (hw : Int32.ofInt j = w) (k : mm_wp l G d K P n (.int (x + w) :: r) st T M uc us) : mm_wp l G d K P pc (.int x :: r) st T M uc us := mm_iincG n 0 w hd hw rfl rfl hn k

theorem mm_iload_1 (n : Nat) {a0 : Value} {x : Int32} {r : List Value} (hd : decode K.cc pc = .ok (.iload_n 1, 1)) (hn : pc + 1 = n) (k : mm_wp l G d K P n (a0 :: .int x :: r) (.int x :: st) T M uc us) : mm_wp l G d K P pc (a0 :: .int x :: r) st T M uc us := mm_iloadN n 1 hd rfl rfl hn k

theorem mm_aload_1 (n : Nat) {a0 : Value} {x : Nat} {r : List Value} (hd : decode K.cc pc = .ok (.aload_n 1, 1)) (hn : pc + 1 = n) (k : mm_wp l G d K P n (a0 :: .ref x :: r) (.ref x :: st) T M uc us) : mm_wp l G d K P pc (a0 :: .ref x :: r) st T M uc us := mm_aloadN n 1 hd rfl rfl hn k

theorem mm_lload_1 (n : Nat) {a0 : Value} {x : Int64} {r : List Value} (hd : decode K.cc pc = .ok (.lload_n 1, 1)) (hn : pc + 1 = n) (k : mm_wp l G d K P n (a0 :: .long x :: r) (.long x :: st) T M uc us) : mm_wp l G d K P pc (a0 :: .long x :: r) st T M uc us := mm_lloadN n 1 hd rfl rfl hn k

theorem mm_nload_1 (n : Nat) {a0 : Value} {r : List Value} (hd : decode K.cc pc = .ok (.aload_n 1, 1)) (hn : pc + 1 = n) (k : mm_wp l G d K P n (a0 :: .null :: r) (.null :: st) T M uc us) : mm_wp l G d K P pc (a0 :: .null :: r) st T M uc us := mm_aloadNN n 1 hd rfl rfl hn k

theorem mm_istore_1 (n : Nat) {a0 : Value} {b : Value} {x : Int32} {r : List Value} (hd : decode K.cc pc = .ok (.istore_n 1, 1)) (hn : pc + 1 = n) (hp : mm_nl a0 = true) (k : mm_wp l G d K P n (a0 :: .int x :: r) st T M uc us) : mm_wp l G d K P pc (a0 :: b :: r) (.int x :: st) T M uc us := mm_istoreN n 1 hd rfl (by simp) hp hn k

theorem mm_astore_1 (n : Nat) {a0 : Value} {b : Value} {x : Nat} {r : List Value} (hd : decode K.cc pc = .ok (.astore_n 1, 1)) (hn : pc + 1 = n) (hp : mm_nl a0 = true) (k : mm_wp l G d K P n (a0 :: .ref x :: r) st T M uc us) : mm_wp l G d K P pc (a0 :: b :: r) (.ref x :: st) T M uc us := mm_astoreN n 1 hd rfl (by simp) hp hn k

theorem mm_nstore_1 (n : Nat) {a0 : Value} {b : Value} {r : List Value} (hd : decode K.cc pc = .ok (.astore_n 1, 1)) (hn : pc + 1 = n) (hp : mm_nl a0 = true) (k : mm_wp l G d K P n (a0 :: .null :: r) st T M uc us) : mm_wp l G d K P pc (a0 :: b :: r) (.null :: st) T M uc us := mm_astoreNN n 1 hd rfl (by simp) hp hn k

theorem mm_iinc_1 (n : Nat) {a0 : Value} {j : Int} {x : Int32} {r : List Value} (w : Int32) (hd : decode K.cc pc = .ok (.iinc 1 j, 3)) (hn : pc + 3 = n) (hw : Int32.ofInt j = w) (hp : mm_nl a0 = true) (k : mm_wp l G d K P n (a0 :: .int (x + w) :: r) st T M uc us) : mm_wp l G d K P pc (a0 :: .int x :: r) st T M uc us := mm_iincG n 1 w hd hw rfl hp hn k

theorem mm_iload_2 (n : Nat) {a0 a1 : Value} {x : Int32} {r : List Value} (hd : decode K.cc pc = .ok (.iload_n 2, 1)) (hn : pc + 1 = n) (k : mm_wp l G d K P n (a0 :: a1 :: .int x :: r) (.int x :: st) T M uc us) : mm_wp l G d K P pc (a0 :: a1 :: .int x :: r) st T M uc us := mm_iloadN n 2 hd rfl rfl hn k

theorem mm_aload_2 (n : Nat) {a0 a1 : Value} {x : Nat} {r : List Value} (hd : decode K.cc pc = .ok (.aload_n 2, 1)) (hn : pc + 1 = n) (k : mm_wp l G d K P n (a0 :: a1 :: .ref x :: r) (.ref x :: st) T M uc us) : mm_wp l G d K P pc (a0 :: a1 :: .ref x :: r) st T M uc us := mm_aloadN n 2 hd rfl rfl hn k

theorem mm_lload_2 (n : Nat) {a0 a1 : Value} {x : Int64} {r : List Value} (hd : decode K.cc pc = .ok (.lload_n 2, 1)) (hn : pc + 1 = n) (k : mm_wp l G d K P n (a0 :: a1 :: .long x :: r) (.long x :: st) T M uc us) : mm_wp l G d K P pc (a0 :: a1 :: .long x :: r) st T M uc us := mm_lloadN n 2 hd rfl rfl hn k

theorem mm_nload_2 (n : Nat) {a0 a1 : Value} {r : List Value} (hd : decode K.cc pc = .ok (.aload_n 2, 1)) (hn : pc + 1 = n) (k : mm_wp l G d K P n (a0 :: a1 :: .null :: r) (.null :: st) T M uc us) : mm_wp l G d K P pc (a0 :: a1 :: .null :: r) st T M uc us := mm_aloadNN n 2 hd rfl rfl hn k

theorem mm_istore_2 (n : Nat) {a0 a1 : Value} {b : Value} {x : Int32} {r : List Value} (hd : decode K.cc pc = .ok (.istore_n 2, 1)) (hn : pc + 1 = n) (hp : mm_nl a1 = true) (k : mm_wp l G d K P n (a0 :: a1 :: .int x :: r) st T M uc us) : mm_wp l G d K P pc (a0 :: a1 :: b :: r) (.int x :: st) T M uc us := mm_istoreN n 2 hd rfl (by simp) hp hn k

theorem mm_astore_2 (n : Nat) {a0 a1 : Value} {b : Value} {x : Nat} {r : List Value} (hd : decode K.cc pc = .ok (.astore_n 2, 1)) (hn : pc + 1 = n) (hp : mm_nl a1 = true) (k : mm_wp l G d K P n (a0 :: a1 :: .ref x :: r) st T M uc us) : mm_wp l G d K P pc (a0 :: a1 :: b :: r) (.ref x :: st) T M uc us := mm_astoreN n 2 hd rfl (by simp) hp hn k

theorem mm_nstore_2 (n : Nat) {a0 a1 : Value} {b : Value} {r : List Value} (hd : decode K.cc pc = .ok (.astore_n 2, 1)) (hn : pc + 1 = n) (hp : mm_nl a1 = true) (k : mm_wp l G d K P n (a0 :: a1 :: .null :: r) st T M uc us) : mm_wp l G d K P pc (a0 :: a1 :: b :: r) (.null :: st) T M uc us := mm_astoreNN n 2 hd rfl (by simp) hp hn k

theorem mm_iinc_2 (n : Nat) {a0 a1 : Value} {j : Int} {x : Int32} {r : List Value} (w : Int32) (hd : decode K.cc pc = .ok (.iinc 2 j, 3)) (hn : pc + 3 = n) (hw : Int32.ofInt j = w) (hp : mm_nl a1 = true) (k : mm_wp l G d K P n (a0 :: a1 :: .int (x + w) :: r) st T M uc us) : mm_wp l G d K P pc (a0 :: a1 :: .int x :: r) st T M uc us := mm_iincG n 2 w hd hw rfl hp hn k

theorem mm_iload_3 (n : Nat) {a0 a1 a2 : Value} {x : Int32} {r : List Value} (hd : decode K.cc pc = .ok (.iload_n 3, 1)) (hn : pc + 1 = n) (k : mm_wp l G d K P n (a0 :: a1 :: a2 :: .int x :: r) (.int x :: st) T M uc us) : mm_wp l G d K P pc (a0 :: a1 :: a2 :: .int x :: r) st T M uc us := mm_iloadN n 3 hd rfl rfl hn k

theorem mm_aload_3 (n : Nat) {a0 a1 a2 : Value} {x : Nat} {r : List Value} (hd : decode K.cc pc = .ok (.aload_n 3, 1)) (hn : pc + 1 = n) (k : mm_wp l G d K P n (a0 :: a1 :: a2 :: .ref x :: r) (.ref x :: st) T M uc us) : mm_wp l G d K P pc (a0 :: a1 :: a2 :: .ref x :: r) st T M uc us := mm_aloadN n 3 hd rfl rfl hn k

theorem mm_lload_3 (n : Nat) {a0 a1 a2 : Value} {x : Int64} {r : List Value} (hd : decode K.cc pc = .ok (.lload_n 3, 1)) (hn : pc + 1 = n) (k : mm_wp l G d K P n (a0 :: a1 :: a2 :: .long x :: r) (.long x :: st) T M uc us) : mm_wp l G d K P pc (a0 :: a1 :: a2 :: .long x :: r) st T M uc us := mm_lloadN n 3 hd rfl rfl hn k

theorem mm_nload_3 (n : Nat) {a0 a1 a2 : Value} {r : List Value} (hd : decode K.cc pc = .ok (.aload_n 3, 1)) (hn : pc + 1 = n) (k : mm_wp l G d K P n (a0 :: a1 :: a2 :: .null :: r) (.null :: st) T M uc us) : mm_wp l G d K P pc (a0 :: a1 :: a2 :: .null :: r) st T M uc us := mm_aloadNN n 3 hd rfl rfl hn k

theorem mm_istore_3 (n : Nat) {a0 a1 a2 : Value} {b : Value} {x : Int32} {r : List Value} (hd : decode K.cc pc = .ok (.istore_n 3, 1)) (hn : pc + 1 = n) (hp : mm_nl a2 = true) (k : mm_wp l G d K P n (a0 :: a1 :: a2 :: .int x :: r) st T M uc us) : mm_wp l G d K P pc (a0 :: a1 :: a2 :: b :: r) (.int x :: st) T M uc us := mm_istoreN n 3 hd rfl (by simp) hp hn k

theorem mm_astore_3 (n : Nat) {a0 a1 a2 : Value} {b : Value} {x : Nat} {r : List Value} (hd : decode K.cc pc = .ok (.astore_n 3, 1)) (hn : pc + 1 = n) (hp : mm_nl a2 = true) (k : mm_wp l G d K P n (a0 :: a1 :: a2 :: .ref x :: r) st T M uc us) : mm_wp l G d K P pc (a0 :: a1 :: a2 :: b :: r) (.ref x :: st) T M uc us := mm_astoreN n 3 hd rfl (by simp) hp hn k

theorem mm_nstore_3 (n : Nat) {a0 a1 a2 : Value} {b : Value} {r : List Value} (hd : decode K.cc pc = .ok (.astore_n 3, 1)) (hn : pc + 1 = n) (hp : mm_nl a2 = true) (k : mm_wp l G d K P n (a0 :: a1 :: a2 :: .null :: r) st T M uc us) : mm_wp l G d K P pc (a0 :: a1 :: a2 :: b :: r) (.null :: st) T M uc us := mm_astoreNN n 3 hd rfl (by simp) hp hn k

theorem mm_iinc_3 (n : Nat) {a0 a1 a2 : Value} {j : Int} {x : Int32} {r : List Value} (w : Int32) (hd : decode K.cc pc = .ok (.iinc 3 j, 3)) (hn : pc + 3 = n) (hw : Int32.ofInt j = w) (hp : mm_nl a2 = true) (k : mm_wp l G d K P n (a0 :: a1 :: a2 :: .int (x + w) :: r) st T M uc us) : mm_wp l G d K P pc (a0 :: a1 :: a2 :: .int x :: r) st T M uc us := mm_iincG n 3 w hd hw rfl hp hn k

theorem mm_iload_4 (n : Nat) {a0 a1 a2 a3 : Value} {x : Int32} {r : List Value} (hd : decode K.cc pc = .ok (.iload 4, 2)) (hn : pc + 2 = n) (k : mm_wp l G d K P n (a0 :: a1 :: a2 :: a3 :: .int x :: r) (.int x :: st) T M uc us) : mm_wp l G d K P pc (a0 :: a1 :: a2 :: a3 :: .int x :: r) st T M uc us := mm_iloadW n 4 hd rfl hn k

theorem mm_aload_4 (n : Nat) {a0 a1 a2 a3 : Value} {x : Nat} {r : List Value} (hd : decode K.cc pc = .ok (.aload 4, 2)) (hn : pc + 2 = n) (k : mm_wp l G d K P n (a0 :: a1 :: a2 :: a3 :: .ref x :: r) (.ref x :: st) T M uc us) : mm_wp l G d K P pc (a0 :: a1 :: a2 :: a3 :: .ref x :: r) st T M uc us := mm_aloadW n 4 hd rfl hn k

theorem mm_lload_4 (n : Nat) {a0 a1 a2 a3 : Value} {x : Int64} {r : List Value} (hd : decode K.cc pc = .ok (.lload 4, 2)) (hn : pc + 2 = n) (k : mm_wp l G d K P n (a0 :: a1 :: a2 :: a3 :: .long x :: r) (.long x :: st) T M uc us) : mm_wp l G d K P pc (a0 :: a1 :: a2 :: a3 :: .long x :: r) st T M uc us := mm_lloadW n 4 hd rfl hn k

theorem mm_nload_4 (n : Nat) {a0 a1 a2 a3 : Value} {r : List Value} (hd : decode K.cc pc = .ok (.aload 4, 2)) (hn : pc + 2 = n) (k : mm_wp l G d K P n (a0 :: a1 :: a2 :: a3 :: .null :: r) (.null :: st) T M uc us) : mm_wp l G d K P pc (a0 :: a1 :: a2 :: a3 :: .null :: r) st T M uc us := mm_aloadWN n 4 hd rfl hn k

theorem mm_istore_4 (n : Nat) {a0 a1 a2 a3 : Value} {b : Value} {x : Int32} {r : List Value} (hd : decode K.cc pc = .ok (.istore 4, 2)) (hn : pc + 2 = n) (hp : mm_nl a3 = true) (k : mm_wp l G d K P n (a0 :: a1 :: a2 :: a3 :: .int x :: r) st T M uc us) : mm_wp l G d K P pc (a0 :: a1 :: a2 :: a3 :: b :: r) (.int x :: st) T M uc us := mm_istoreW n 4 hd (by simp) hp hn k

theorem mm_astore_4 (n : Nat) {a0 a1 a2 a3 : Value} {b : Value} {x : Nat} {r : List Value} (hd : decode K.cc pc = .ok (.astore 4, 2)) (hn : pc + 2 = n) (hp : mm_nl a3 = true) (k : mm_wp l G d K P n (a0 :: a1 :: a2 :: a3 :: .ref x :: r) st T M uc us) : mm_wp l G d K P pc (a0 :: a1 :: a2 :: a3 :: b :: r) (.ref x :: st) T M uc us := mm_astoreW n 4 hd (by simp) hp hn k

theorem mm_nstore_4 (n : Nat) {a0 a1 a2 a3 : Value} {b : Value} {r : List Value} (hd : decode K.cc pc = .ok (.astore 4, 2)) (hn : pc + 2 = n) (hp : mm_nl a3 = true) (k : mm_wp l G d K P n (a0 :: a1 :: a2 :: a3 :: .null :: r) st T M uc us) : mm_wp l G d K P pc (a0 :: a1 :: a2 :: a3 :: b :: r) (.null :: st) T M uc us := mm_astoreWN n 4 hd (by simp) hp hn k

theorem mm_iinc_4 (n : Nat) {a0 a1 a2 a3 : Value} {j : Int} {x : Int32} {r : List Value} (w : Int32) (hd : decode K.cc pc = .ok (.iinc 4 j, 3)) (hn : pc + 3 = n) (hw : Int32.ofInt j = w) (hp : mm_nl a3 = true) (k : mm_wp l G d K P n (a0 :: a1 :: a2 :: a3 :: .int (x + w) :: r) st T M uc us) : mm_wp l G d K P pc (a0 :: a1 :: a2 :: a3 :: .int x :: r) st T M uc us := mm_iincG n 4 w hd hw rfl hp hn k

theorem mm_iload_5 (n : Nat) {a0 a1 a2 a3 a4 : Value} {x : Int32} {r : List Value} (hd : decode K.cc pc = .ok (.iload 5, 2)) (hn : pc + 2 = n) (k : mm_wp l G d K P n (a0 :: a1 :: a2 :: a3 :: a4 :: .int x :: r) (.int x :: st) T M uc us) : mm_wp l G d K P pc (a0 :: a1 :: a2 :: a3 :: a4 :: .int x :: r) st T M uc us := mm_iloadW n 5 hd rfl hn k

theorem mm_aload_5 (n : Nat) {a0 a1 a2 a3 a4 : Value} {x : Nat} {r : List Value} (hd : decode K.cc pc = .ok (.aload 5, 2)) (hn : pc + 2 = n) (k : mm_wp l G d K P n (a0 :: a1 :: a2 :: a3 :: a4 :: .ref x :: r) (.ref x :: st) T M uc us) : mm_wp l G d K P pc (a0 :: a1 :: a2 :: a3 :: a4 :: .ref x :: r) st T M uc us := mm_aloadW n 5 hd rfl hn k

theorem mm_lload_5 (n : Nat) {a0 a1 a2 a3 a4 : Value} {x : Int64} {r : List Value} (hd : decode K.cc pc = .ok (.lload 5, 2)) (hn : pc + 2 = n) (k : mm_wp l G d K P n (a0 :: a1 :: a2 :: a3 :: a4 :: .long x :: r) (.long x :: st) T M uc us) : mm_wp l G d K P pc (a0 :: a1 :: a2 :: a3 :: a4 :: .long x :: r) st T M uc us := mm_lloadW n 5 hd rfl hn k

theorem mm_nload_5 (n : Nat) {a0 a1 a2 a3 a4 : Value} {r : List Value} (hd : decode K.cc pc = .ok (.aload 5, 2)) (hn : pc + 2 = n) (k : mm_wp l G d K P n (a0 :: a1 :: a2 :: a3 :: a4 :: .null :: r) (.null :: st) T M uc us) : mm_wp l G d K P pc (a0 :: a1 :: a2 :: a3 :: a4 :: .null :: r) st T M uc us := mm_aloadWN n 5 hd rfl hn k

theorem mm_istore_5 (n : Nat) {a0 a1 a2 a3 a4 : Value} {b : Value} {x : Int32} {r : List Value} (hd : decode K.cc pc = .ok (.istore 5, 2)) (hn : pc + 2 = n) (hp : mm_nl a4 = true) (k : mm_wp l G d K P n (a0 :: a1 :: a2 :: a3 :: a4 :: .int x :: r) st T M uc us) : mm_wp l G d K P pc (a0 :: a1 :: a2 :: a3 :: a4 :: b :: r) (.int x :: st) T M uc us := mm_istoreW n 5 hd (by simp) hp hn k

theorem mm_astore_5 (n : Nat) {a0 a1 a2 a3 a4 : Value} {b : Value} {x : Nat} {r : List Value} (hd : decode K.cc pc = .ok (.astore 5, 2)) (hn : pc + 2 = n) (hp : mm_nl a4 = true) (k : mm_wp l G d K P n (a0 :: a1 :: a2 :: a3 :: a4 :: .ref x :: r) st T M uc us) : mm_wp l G d K P pc (a0 :: a1 :: a2 :: a3 :: a4 :: b :: r) (.ref x :: st) T M uc us := mm_astoreW n 5 hd (by simp) hp hn k

theorem mm_nstore_5 (n : Nat) {a0 a1 a2 a3 a4 : Value} {b : Value} {r : List Value} (hd : decode K.cc pc = .ok (.astore 5, 2)) (hn : pc + 2 = n) (hp : mm_nl a4 = true) (k : mm_wp l G d K P n (a0 :: a1 :: a2 :: a3 :: a4 :: .null :: r) st T M uc us) : mm_wp l G d K P pc (a0 :: a1 :: a2 :: a3 :: a4 :: b :: r) (.null :: st) T M uc us := mm_astoreWN n 5 hd (by simp) hp hn k

theorem mm_iinc_5 (n : Nat) {a0 a1 a2 a3 a4 : Value} {j : Int} {x : Int32} {r : List Value} (w : Int32) (hd : decode K.cc pc = .ok (.iinc 5 j, 3)) (hn : pc + 3 = n) (hw : Int32.ofInt j = w) (hp : mm_nl a4 = true) (k : mm_wp l G d K P n (a0 :: a1 :: a2 :: a3 :: a4 :: .int (x + w) :: r) st T M uc us) : mm_wp l G d K P pc (a0 :: a1 :: a2 :: a3 :: a4 :: .int x :: r) st T M uc us := mm_iincG n 5 w hd hw rfl hp hn k

theorem mm_iload_6 (n : Nat) {a0 a1 a2 a3 a4 a5 : Value} {x : Int32} {r : List Value} (hd : decode K.cc pc = .ok (.iload 6, 2)) (hn : pc + 2 = n) (k : mm_wp l G d K P n (a0 :: a1 :: a2 :: a3 :: a4 :: a5 :: .int x :: r) (.int x :: st) T M uc us) : mm_wp l G d K P pc (a0 :: a1 :: a2 :: a3 :: a4 :: a5 :: .int x :: r) st T M uc us := mm_iloadW n 6 hd rfl hn k

theorem mm_aload_6 (n : Nat) {a0 a1 a2 a3 a4 a5 : Value} {x : Nat} {r : List Value} (hd : decode K.cc pc = .ok (.aload 6, 2)) (hn : pc + 2 = n) (k : mm_wp l G d K P n (a0 :: a1 :: a2 :: a3 :: a4 :: a5 :: .ref x :: r) (.ref x :: st) T M uc us) : mm_wp l G d K P pc (a0 :: a1 :: a2 :: a3 :: a4 :: a5 :: .ref x :: r) st T M uc us := mm_aloadW n 6 hd rfl hn k

theorem mm_nload_6 (n : Nat) {a0 a1 a2 a3 a4 a5 : Value} {r : List Value} (hd : decode K.cc pc = .ok (.aload 6, 2)) (hn : pc + 2 = n) (k : mm_wp l G d K P n (a0 :: a1 :: a2 :: a3 :: a4 :: a5 :: .null :: r) (.null :: st) T M uc us) : mm_wp l G d K P pc (a0 :: a1 :: a2 :: a3 :: a4 :: a5 :: .null :: r) st T M uc us := mm_aloadWN n 6 hd rfl hn k

theorem mm_istore_6 (n : Nat) {a0 a1 a2 a3 a4 a5 : Value} {b : Value} {x : Int32} {r : List Value} (hd : decode K.cc pc = .ok (.istore 6, 2)) (hn : pc + 2 = n) (hp : mm_nl a5 = true) (k : mm_wp l G d K P n (a0 :: a1 :: a2 :: a3 :: a4 :: a5 :: .int x :: r) st T M uc us) : mm_wp l G d K P pc (a0 :: a1 :: a2 :: a3 :: a4 :: a5 :: b :: r) (.int x :: st) T M uc us := mm_istoreW n 6 hd (by simp) hp hn k

theorem mm_astore_6 (n : Nat) {a0 a1 a2 a3 a4 a5 : Value} {b : Value} {x : Nat} {r : List Value} (hd : decode K.cc pc = .ok (.astore 6, 2)) (hn : pc + 2 = n) (hp : mm_nl a5 = true) (k : mm_wp l G d K P n (a0 :: a1 :: a2 :: a3 :: a4 :: a5 :: .ref x :: r) st T M uc us) : mm_wp l G d K P pc (a0 :: a1 :: a2 :: a3 :: a4 :: a5 :: b :: r) (.ref x :: st) T M uc us := mm_astoreW n 6 hd (by simp) hp hn k

theorem mm_nstore_6 (n : Nat) {a0 a1 a2 a3 a4 a5 : Value} {b : Value} {r : List Value} (hd : decode K.cc pc = .ok (.astore 6, 2)) (hn : pc + 2 = n) (hp : mm_nl a5 = true) (k : mm_wp l G d K P n (a0 :: a1 :: a2 :: a3 :: a4 :: a5 :: .null :: r) st T M uc us) : mm_wp l G d K P pc (a0 :: a1 :: a2 :: a3 :: a4 :: a5 :: b :: r) (.null :: st) T M uc us := mm_astoreWN n 6 hd (by simp) hp hn k

theorem mm_iinc_6 (n : Nat) {a0 a1 a2 a3 a4 a5 : Value} {j : Int} {x : Int32} {r : List Value} (w : Int32) (hd : decode K.cc pc = .ok (.iinc 6 j, 3)) (hn : pc + 3 = n) (hw : Int32.ofInt j = w) (hp : mm_nl a5 = true) (k : mm_wp l G d K P n (a0 :: a1 :: a2 :: a3 :: a4 :: a5 :: .int (x + w) :: r) st T M uc us) : mm_wp l G d K P pc (a0 :: a1 :: a2 :: a3 :: a4 :: a5 :: .int x :: r) st T M uc us := mm_iincG n 6 w hd hw rfl hp hn k

theorem mm_iload_7 (n : Nat) {a0 a1 a2 a3 a4 a5 a6 : Value} {x : Int32} {r : List Value} (hd : decode K.cc pc = .ok (.iload 7, 2)) (hn : pc + 2 = n) (k : mm_wp l G d K P n (a0 :: a1 :: a2 :: a3 :: a4 :: a5 :: a6 :: .int x :: r) (.int x :: st) T M uc us) : mm_wp l G d K P pc (a0 :: a1 :: a2 :: a3 :: a4 :: a5 :: a6 :: .int x :: r) st T M uc us := mm_iloadW n 7 hd rfl hn k

theorem mm_aload_7 (n : Nat) {a0 a1 a2 a3 a4 a5 a6 : Value} {x : Nat} {r : List Value} (hd : decode K.cc pc = .ok (.aload 7, 2)) (hn : pc + 2 = n) (k : mm_wp l G d K P n (a0 :: a1 :: a2 :: a3 :: a4 :: a5 :: a6 :: .ref x :: r) (.ref x :: st) T M uc us) : mm_wp l G d K P pc (a0 :: a1 :: a2 :: a3 :: a4 :: a5 :: a6 :: .ref x :: r) st T M uc us := mm_aloadW n 7 hd rfl hn k

theorem mm_nload_7 (n : Nat) {a0 a1 a2 a3 a4 a5 a6 : Value} {r : List Value} (hd : decode K.cc pc = .ok (.aload 7, 2)) (hn : pc + 2 = n) (k : mm_wp l G d K P n (a0 :: a1 :: a2 :: a3 :: a4 :: a5 :: a6 :: .null :: r) (.null :: st) T M uc us) : mm_wp l G d K P pc (a0 :: a1 :: a2 :: a3 :: a4 :: a5 :: a6 :: .null :: r) st T M uc us := mm_aloadWN n 7 hd rfl hn k

theorem mm_istore_7 (n : Nat) {a0 a1 a2 a3 a4 a5 a6 : Value} {b : Value} {x : Int32} {r : List Value} (hd : decode K.cc pc = .ok (.istore 7, 2)) (hn : pc + 2 = n) (hp : mm_nl a6 = true) (k : mm_wp l G d K P n (a0 :: a1 :: a2 :: a3 :: a4 :: a5 :: a6 :: .int x :: r) st T M uc us) : mm_wp l G d K P pc (a0 :: a1 :: a2 :: a3 :: a4 :: a5 :: a6 :: b :: r) (.int x :: st) T M uc us := mm_istoreW n 7 hd (by simp) hp hn k

theorem mm_astore_7 (n : Nat) {a0 a1 a2 a3 a4 a5 a6 : Value} {b : Value} {x : Nat} {r : List Value} (hd : decode K.cc pc = .ok (.astore 7, 2)) (hn : pc + 2 = n) (hp : mm_nl a6 = true) (k : mm_wp l G d K P n (a0 :: a1 :: a2 :: a3 :: a4 :: a5 :: a6 :: .ref x :: r) st T M uc us) : mm_wp l G d K P pc (a0 :: a1 :: a2 :: a3 :: a4 :: a5 :: a6 :: b :: r) (.ref x :: st) T M uc us := mm_astoreW n 7 hd (by simp) hp hn k

theorem mm_nstore_7 (n : Nat) {a0 a1 a2 a3 a4 a5 a6 : Value} {b : Value} {r : List Value} (hd : decode K.cc pc = .ok (.astore 7, 2)) (hn : pc + 2 = n) (hp : mm_nl a6 = true) (k : mm_wp l G d K P n (a0 :: a1 :: a2 :: a3 :: a4 :: a5 :: a6 :: .null :: r) st T M uc us) : mm_wp l G d K P pc (a0 :: a1 :: a2 :: a3 :: a4 :: a5 :: a6 :: b :: r) (.null :: st) T M uc us := mm_astoreWN n 7 hd (by simp) hp hn k

theorem mm_iinc_7 (n : Nat) {a0 a1 a2 a3 a4 a5 a6 : Value} {j : Int} {x : Int32} {r : List Value} (w : Int32) (hd : decode K.cc pc = .ok (.iinc 7 j, 3)) (hn : pc + 3 = n) (hw : Int32.ofInt j = w) (hp : mm_nl a6 = true) (k : mm_wp l G d K P n (a0 :: a1 :: a2 :: a3 :: a4 :: a5 :: a6 :: .int (x + w) :: r) st T M uc us) : mm_wp l G d K P pc (a0 :: a1 :: a2 :: a3 :: a4 :: a5 :: a6 :: .int x :: r) st T M uc us := mm_iincG n 7 w hd hw rfl hp hn k

theorem mm_iload_8 (n : Nat) {a0 a1 a2 a3 a4 a5 a6 a7 : Value} {x : Int32} {r : List Value} (hd : decode K.cc pc = .ok (.iload 8, 2)) (hn : pc + 2 = n) (k : mm_wp l G d K P n (a0 :: a1 :: a2 :: a3 :: a4 :: a5 :: a6 :: a7 :: .int x :: r) (.int x :: st) T M uc us) : mm_wp l G d K P pc (a0 :: a1 :: a2 :: a3 :: a4 :: a5 :: a6 :: a7 :: .int x :: r) st T M uc us := mm_iloadW n 8 hd rfl hn k

theorem mm_aload_8 (n : Nat) {a0 a1 a2 a3 a4 a5 a6 a7 : Value} {x : Nat} {r : List Value} (hd : decode K.cc pc = .ok (.aload 8, 2)) (hn : pc + 2 = n) (k : mm_wp l G d K P n (a0 :: a1 :: a2 :: a3 :: a4 :: a5 :: a6 :: a7 :: .ref x :: r) (.ref x :: st) T M uc us) : mm_wp l G d K P pc (a0 :: a1 :: a2 :: a3 :: a4 :: a5 :: a6 :: a7 :: .ref x :: r) st T M uc us := mm_aloadW n 8 hd rfl hn k

theorem mm_nload_8 (n : Nat) {a0 a1 a2 a3 a4 a5 a6 a7 : Value} {r : List Value} (hd : decode K.cc pc = .ok (.aload 8, 2)) (hn : pc + 2 = n) (k : mm_wp l G d K P n (a0 :: a1 :: a2 :: a3 :: a4 :: a5 :: a6 :: a7 :: .null :: r) (.null :: st) T M uc us) : mm_wp l G d K P pc (a0 :: a1 :: a2 :: a3 :: a4 :: a5 :: a6 :: a7 :: .null :: r) st T M uc us := mm_aloadWN n 8 hd rfl hn k

theorem mm_istore_8 (n : Nat) {a0 a1 a2 a3 a4 a5 a6 a7 : Value} {b : Value} {x : Int32} {r : List Value} (hd : decode K.cc pc = .ok (.istore 8, 2)) (hn : pc + 2 = n) (hp : mm_nl a7 = true) (k : mm_wp l G d K P n (a0 :: a1 :: a2 :: a3 :: a4 :: a5 :: a6 :: a7 :: .int x :: r) st T M uc us) : mm_wp l G d K P pc (a0 :: a1 :: a2 :: a3 :: a4 :: a5 :: a6 :: a7 :: b :: r) (.int x :: st) T M uc us := mm_istoreW n 8 hd (by simp) hp hn k

theorem mm_astore_8 (n : Nat) {a0 a1 a2 a3 a4 a5 a6 a7 : Value} {b : Value} {x : Nat} {r : List Value} (hd : decode K.cc pc = .ok (.astore 8, 2)) (hn : pc + 2 = n) (hp : mm_nl a7 = true) (k : mm_wp l G d K P n (a0 :: a1 :: a2 :: a3 :: a4 :: a5 :: a6 :: a7 :: .ref x :: r) st T M uc us) : mm_wp l G d K P pc (a0 :: a1 :: a2 :: a3 :: a4 :: a5 :: a6 :: a7 :: b :: r) (.ref x :: st) T M uc us := mm_astoreW n 8 hd (by simp) hp hn k

theorem mm_nstore_8 (n : Nat) {a0 a1 a2 a3 a4 a5 a6 a7 : Value} {b : Value} {r : List Value} (hd : decode K.cc pc = .ok (.astore 8, 2)) (hn : pc + 2 = n) (hp : mm_nl a7 = true) (k : mm_wp l G d K P n (a0 :: a1 :: a2 :: a3 :: a4 :: a5 :: a6 :: a7 :: .null :: r) st T M uc us) : mm_wp l G d K P pc (a0 :: a1 :: a2 :: a3 :: a4 :: a5 :: a6 :: a7 :: b :: r) (.null :: st) T M uc us := mm_astoreWN n 8 hd (by simp) hp hn k

theorem mm_iinc_8 (n : Nat) {a0 a1 a2 a3 a4 a5 a6 a7 : Value} {j : Int} {x : Int32} {r : List Value} (w : Int32) (hd : decode K.cc pc = .ok (.iinc 8 j, 3)) (hn : pc + 3 = n) (hw : Int32.ofInt j = w) (hp : mm_nl a7 = true) (k : mm_wp l G d K P n (a0 :: a1 :: a2 :: a3 :: a4 :: a5 :: a6 :: a7 :: .int (x + w) :: r) st T M uc us) : mm_wp l G d K P pc (a0 :: a1 :: a2 :: a3 :: a4 :: a5 :: a6 :: a7 :: .int x :: r) st T M uc us := mm_iincG n 8 w hd hw rfl hp hn k

theorem mm_iload_9 (n : Nat) {a0 a1 a2 a3 a4 a5 a6 a7 a8 : Value} {x : Int32} {r : List Value} (hd : decode K.cc pc = .ok (.iload 9, 2)) (hn : pc + 2 = n) (k : mm_wp l G d K P n (a0 :: a1 :: a2 :: a3 :: a4 :: a5 :: a6 :: a7 :: a8 :: .int x :: r) (.int x :: st) T M uc us) : mm_wp l G d K P pc (a0 :: a1 :: a2 :: a3 :: a4 :: a5 :: a6 :: a7 :: a8 :: .int x :: r) st T M uc us := mm_iloadW n 9 hd rfl hn k

theorem mm_aload_9 (n : Nat) {a0 a1 a2 a3 a4 a5 a6 a7 a8 : Value} {x : Nat} {r : List Value} (hd : decode K.cc pc = .ok (.aload 9, 2)) (hn : pc + 2 = n) (k : mm_wp l G d K P n (a0 :: a1 :: a2 :: a3 :: a4 :: a5 :: a6 :: a7 :: a8 :: .ref x :: r) (.ref x :: st) T M uc us) : mm_wp l G d K P pc (a0 :: a1 :: a2 :: a3 :: a4 :: a5 :: a6 :: a7 :: a8 :: .ref x :: r) st T M uc us := mm_aloadW n 9 hd rfl hn k

theorem mm_nload_9 (n : Nat) {a0 a1 a2 a3 a4 a5 a6 a7 a8 : Value} {r : List Value} (hd : decode K.cc pc = .ok (.aload 9, 2)) (hn : pc + 2 = n) (k : mm_wp l G d K P n (a0 :: a1 :: a2 :: a3 :: a4 :: a5 :: a6 :: a7 :: a8 :: .null :: r) (.null :: st) T M uc us) : mm_wp l G d K P pc (a0 :: a1 :: a2 :: a3 :: a4 :: a5 :: a6 :: a7 :: a8 :: .null :: r) st T M uc us := mm_aloadWN n 9 hd rfl hn k

theorem mm_istore_9 (n : Nat) {a0 a1 a2 a3 a4 a5 a6 a7 a8 : Value} {b : Value} {x : Int32} {r : List Value} (hd : decode K.cc pc = .ok (.istore 9, 2)) (hn : pc + 2 = n) (hp : mm_nl a8 = true) (k : mm_wp l G d K P n (a0 :: a1 :: a2 :: a3 :: a4 :: a5 :: a6 :: a7 :: a8 :: .int x :: r) st T M uc us) : mm_wp l G d K P pc (a0 :: a1 :: a2 :: a3 :: a4 :: a5 :: a6 :: a7 :: a8 :: b :: r) (.int x :: st) T M uc us := mm_istoreW n 9 hd (by simp) hp hn k

theorem mm_astore_9 (n : Nat) {a0 a1 a2 a3 a4 a5 a6 a7 a8 : Value} {b : Value} {x : Nat} {r : List Value} (hd : decode K.cc pc = .ok (.astore 9, 2)) (hn : pc + 2 = n) (hp : mm_nl a8 = true) (k : mm_wp l G d K P n (a0 :: a1 :: a2 :: a3 :: a4 :: a5 :: a6 :: a7 :: a8 :: .ref x :: r) st T M uc us) : mm_wp l G d K P pc (a0 :: a1 :: a2 :: a3 :: a4 :: a5 :: a6 :: a7 :: a8 :: b :: r) (.ref x :: st) T M uc us := mm_astoreW n 9 hd (by simp) hp hn k

theorem mm_nstore_9 (n : Nat) {a0 a1 a2 a3 a4 a5 a6 a7 a8 : Value} {b : Value} {r : List Value} (hd : decode K.cc pc = .ok (.astore 9, 2)) (hn : pc + 2 = n) (hp : mm_nl a8 = true) (k : mm_wp l G d K P n (a0 :: a1 :: a2 :: a3 :: a4 :: a5 :: a6 :: a7 :: a8 :: .null :: r) st T M uc us) : mm_wp l G d K P pc (a0 :: a1 :: a2 :: a3 :: a4 :: a5 :: a6 :: a7 :: a8 :: b :: r) (.null :: st) T M uc us := mm_astoreWN n 9 hd (by simp) hp hn k

theorem mm_iinc_9 (n : Nat) {a0 a1 a2 a3 a4 a5 a6 a7 a8 : Value} {j : Int} {x : Int32} {r : List Value} (w : Int32) (hd : decode K.cc pc = .ok (.iinc 9 j, 3)) (hn : pc + 3 = n) (hw : Int32.ofInt j = w) (hp : mm_nl a8 = true) (k : mm_wp l G d K P n (a0 :: a1 :: a2 :: a3 :: a4 :: a5 :: a6 :: a7 :: a8 :: .int (x + w) :: r) st T M uc us) : mm_wp l G d K P pc (a0 :: a1 :: a2 :: a3 :: a4 :: a5 :: a6 :: a7 :: a8 :: .int x :: r) st T M uc us := mm_iincG n 9 w hd hw rfl hp hn k

theorem mm_iload_10 (n : Nat) {a0 a1 a2 a3 a4 a5 a6 a7 a8 a9 : Value} {x : Int32} {r : List Value} (hd : decode K.cc pc = .ok (.iload 10, 2)) (hn : pc + 2 = n) (k : mm_wp l G d K P n (a0 :: a1 :: a2 :: a3 :: a4 :: a5 :: a6 :: a7 :: a8 :: a9 :: .int x :: r) (.int x :: st) T M uc us) : mm_wp l G d K P pc (a0 :: a1 :: a2 :: a3 :: a4 :: a5 :: a6 :: a7 :: a8 :: a9 :: .int x :: r) st T M uc us := mm_iloadW n 10 hd rfl hn k

theorem mm_aload_10 (n : Nat) {a0 a1 a2 a3 a4 a5 a6 a7 a8 a9 : Value} {x : Nat} {r : List Value} (hd : decode K.cc pc = .ok (.aload 10, 2)) (hn : pc + 2 = n) (k : mm_wp l G d K P n (a0 :: a1 :: a2 :: a3 :: a4 :: a5 :: a6 :: a7 :: a8 :: a9 :: .ref x :: r) (.ref x :: st) T M uc us) : mm_wp l G d K P pc (a0 :: a1 :: a2 :: a3 :: a4 :: a5 :: a6 :: a7 :: a8 :: a9 :: .ref x :: r) st T M uc us := mm_aloadW n 10 hd rfl hn k

theorem mm_nload_10 (n : Nat) {a0 a1 a2 a3 a4 a5 a6 a7 a8 a9 : Value} {r : List Value} (hd : decode K.cc pc = .ok (.aload 10, 2)) (hn : pc + 2 = n) (k : mm_wp l G d K P n (a0 :: a1 :: a2 :: a3 :: a4 :: a5 :: a6 :: a7 :: a8 :: a9 :: .null :: r) (.null :: st) T M uc us) : mm_wp l G d K P pc (a0 :: a1 :: a2 :: a3 :: a4 :: a5 :: a6 :: a7 :: a8 :: a9 :: .null :: r) st T M uc us := mm_aloadWN n 10 hd rfl hn k

theorem mm_istore_10 (n : Nat) {a0 a1 a2 a3 a4 a5 a6 a7 a8 a9 : Value} {b : Value} {x : Int32} {r : List Value} (hd : decode K.cc pc = .ok (.istore 10, 2)) (hn : pc + 2 = n) (hp : mm_nl a9 = true) (k : mm_wp l G d K P n (a0 :: a1 :: a2 :: a3 :: a4 :: a5 :: a6 :: a7 :: a8 :: a9 :: .int x :: r) st T M uc us) : mm_wp l G d K P pc (a0 :: a1 :: a2 :: a3 :: a4 :: a5 :: a6 :: a7 :: a8 :: a9 :: b :: r) (.int x :: st) T M uc us := mm_istoreW n 10 hd (by simp) hp hn k

theorem mm_astore_10 (n : Nat) {a0 a1 a2 a3 a4 a5 a6 a7 a8 a9 : Value} {b : Value} {x : Nat} {r : List Value} (hd : decode K.cc pc = .ok (.astore 10, 2)) (hn : pc + 2 = n) (hp : mm_nl a9 = true) (k : mm_wp l G d K P n (a0 :: a1 :: a2 :: a3 :: a4 :: a5 :: a6 :: a7 :: a8 :: a9 :: .ref x :: r) st T M uc us) : mm_wp l G d K P pc (a0 :: a1 :: a2 :: a3 :: a4 :: a5 :: a6 :: a7 :: a8 :: a9 :: b :: r) (.ref x :: st) T M uc us := mm_astoreW n 10 hd (by simp) hp hn k

theorem mm_nstore_10 (n : Nat) {a0 a1 a2 a3 a4 a5 a6 a7 a8 a9 : Value} {b : Value} {r : List Value} (hd : decode K.cc pc = .ok (.astore 10, 2)) (hn : pc + 2 = n) (hp : mm_nl a9 = true) (k : mm_wp l G d K P n (a0 :: a1 :: a2 :: a3 :: a4 :: a5 :: a6 :: a7 :: a8 :: a9 :: .null :: r) st T M uc us) : mm_wp l G d K P pc (a0 :: a1 :: a2 :: a3 :: a4 :: a5 :: a6 :: a7 :: a8 :: a9 :: b :: r) (.null :: st) T M uc us := mm_astoreWN n 10 hd (by simp) hp hn k

theorem mm_iinc_10 (n : Nat) {a0 a1 a2 a3 a4 a5 a6 a7 a8 a9 : Value} {j : Int} {x : Int32} {r : List Value} (w : Int32) (hd : decode K.cc pc = .ok (.iinc 10 j, 3)) (hn : pc + 3 = n) (hw : Int32.ofInt j = w) (hp : mm_nl a9 = true) (k : mm_wp l G d K P n (a0 :: a1 :: a2 :: a3 :: a4 :: a5 :: a6 :: a7 :: a8 :: a9 :: .int (x + w) :: r) st T M uc us) : mm_wp l G d K P pc (a0 :: a1 :: a2 :: a3 :: a4 :: a5 :: a6 :: a7 :: a8 :: a9 :: .int x :: r) st T M uc us := mm_iincG n 10 w hd hw rfl hp hn k

theorem mm_iload_11 (n : Nat) {a0 a1 a2 a3 a4 a5 a6 a7 a8 a9 a10 : Value} {x : Int32} {r : List Value} (hd : decode K.cc pc = .ok (.iload 11, 2)) (hn : pc + 2 = n) (k : mm_wp l G d K P n (a0 :: a1 :: a2 :: a3 :: a4 :: a5 :: a6 :: a7 :: a8 :: a9 :: a10 :: .int x :: r) (.int x :: st) T M uc us) : mm_wp l G d K P pc (a0 :: a1 :: a2 :: a3 :: a4 :: a5 :: a6 :: a7 :: a8 :: a9 :: a10 :: .int x :: r) st T M uc us := mm_iloadW n 11 hd rfl hn k

theorem mm_aload_11 (n : Nat) {a0 a1 a2 a3 a4 a5 a6 a7 a8 a9 a10 : Value} {x : Nat} {r : List Value} (hd : decode K.cc pc = .ok (.aload 11, 2)) (hn : pc + 2 = n) (k : mm_wp l G d K P n (a0 :: a1 :: a2 :: a3 :: a4 :: a5 :: a6 :: a7 :: a8 :: a9 :: a10 :: .ref x :: r) (.ref x :: st) T M uc us) : mm_wp l G d K P pc (a0 :: a1 :: a2 :: a3 :: a4 :: a5 :: a6 :: a7 :: a8 :: a9 :: a10 :: .ref x :: r) st T M uc us := mm_aloadW n 11 hd rfl hn k

theorem mm_nload_11 (n : Nat) {a0 a1 a2 a3 a4 a5 a6 a7 a8 a9 a10 : Value} {r : List Value} (hd : decode K.cc pc = .ok (.aload 11, 2)) (hn : pc + 2 = n) (k : mm_wp l G d K P n (a0 :: a1 :: a2 :: a3 :: a4 :: a5 :: a6 :: a7 :: a8 :: a9 :: a10 :: .null :: r) (.null :: st) T M uc us) : mm_wp l G d K P pc (a0 :: a1 :: a2 :: a3 :: a4 :: a5 :: a6 :: a7 :: a8 :: a9 :: a10 :: .null :: r) st T M uc us := mm_aloadWN n 11 hd rfl hn k

theorem mm_istore_11 (n : Nat) {a0 a1 a2 a3 a4 a5 a6 a7 a8 a9 a10 : Value} {b : Value} {x : Int32} {r : List Value} (hd : decode K.cc pc = .ok (.istore 11, 2)) (hn : pc + 2 = n) (hp : mm_nl a10 = true) (k : mm_wp l G d K P n (a0 :: a1 :: a2 :: a3 :: a4 :: a5 :: a6 :: a7 :: a8 :: a9 :: a10 :: .int x :: r) st T M uc us) : mm_wp l G d K P pc (a0 :: a1 :: a2 :: a3 :: a4 :: a5 :: a6 :: a7 :: a8 :: a9 :: a10 :: b :: r) (.int x :: st) T M uc us := mm_istoreW n 11 hd (by simp) hp hn k

theorem mm_astore_11 (n : Nat) {a0 a1 a2 a3 a4 a5 a6 a7 a8 a9 a10 : Value} {b : Value} {x : Nat} {r : List Value} (hd : decode K.cc pc = .ok (.astore 11, 2)) (hn : pc + 2 = n) (hp : mm_nl a10 = true) (k : mm_wp l G d K P n (a0 :: a1 :: a2 :: a3 :: a4 :: a5 :: a6 :: a7 :: a8 :: a9 :: a10 :: .ref x :: r) st T M uc us) : mm_wp l G d K P pc (a0 :: a1 :: a2 :: a3 :: a4 :: a5 :: a6 :: a7 :: a8 :: a9 :: a10 :: b :: r) (.ref x :: st) T M uc us := mm_astoreW n 11 hd (by simp) hp hn k

theorem mm_nstore_11 (n : Nat) {a0 a1 a2 a3 a4 a5 a6 a7 a8 a9 a10 : Value} {b : Value} {r : List Value} (hd : decode K.cc pc = .ok (.astore 11, 2)) (hn : pc + 2 = n) (hp : mm_nl a10 = true) (k : mm_wp l G d K P n (a0 :: a1 :: a2 :: a3 :: a4 :: a5 :: a6 :: a7 :: a8 :: a9 :: a10 :: .null :: r) st T M uc us) : mm_wp l G d K P pc (a0 :: a1 :: a2 :: a3 :: a4 :: a5 :: a6 :: a7 :: a8 :: a9 :: a10 :: b :: r) (.null :: st) T M uc us := mm_astoreWN n 11 hd (by simp) hp hn k

theorem mm_iinc_11 (n : Nat) {a0 a1 a2 a3 a4 a5 a6 a7 a8 a9 a10 : Value} {j : Int} {x : Int32} {r : List Value} (w : Int32) (hd : decode K.cc pc = .ok (.iinc 11 j, 3)) (hn : pc + 3 = n) (hw : Int32.ofInt j = w) (hp : mm_nl a10 = true) (k : mm_wp l G d K P n (a0 :: a1 :: a2 :: a3 :: a4 :: a5 :: a6 :: a7 :: a8 :: a9 :: a10 :: .int (x + w) :: r) st T M uc us) : mm_wp l G d K P pc (a0 :: a1 :: a2 :: a3 :: a4 :: a5 :: a6 :: a7 :: a8 :: a9 :: a10 :: .int x :: r) st T M uc us := mm_iincG n 11 w hd hw rfl hp hn k

theorem mm_lstore_1 (n : Nat) {a0 b0 b1 : Value} {x : Int64} {r : List Value} (hd : decode K.cc pc = .ok (.lstore_n 1, 1)) (hn : pc + 1 = n) (hp : mm_nl a0 = true) (k : mm_wp l G d K P n (a0 :: .long x :: .double 0 :: r) st T M uc us) : mm_wp l G d K P pc (a0 :: b0 :: b1 :: r) (.long x :: st) T M uc us := mm_lstoreN n 1 hd rfl (by simp) hp hn k

end MM
end
section
theorem mm_size {p : Program} {l : Launch} {e : Env} {R : Room} {s : State} {m : MethodId} {args : Array Value} {below : List Frame} {meth : Method} {c : Code} {H : Heap} {locs : List Loc} {cells slots : Nat} {Q : State → Prop} {g : JFrame} (k : H.size ≤ s.heap.size + cells → W p l e R s m args below meth c H locs cells slots Q g) : W p l e R s m args below meth c H locs cells slots Q g :=
  fun T hT X => k (by rw [← hT]; exact X.same.2.2.1) T hT X
/-- a field by a link: class ci, its name B, table F of N, field f -/
def mm_fl (own : String) (idx ci : Nat) (B : String) (F : u_T) (N f : Nat) : Prop := vwCl[ci]? = some (B, F, N) ∧ ci < 13 ∧ f < N ∧ Cond.fieldLink own idx (F f).1 (F f).2.1 (F f).2.2.1 ∈ mm_tb ∧ ∀ w ∈ u_ws B F N, w ∈ mm_tb
def mm_fp (own : String) (idx ci : Nat) (B : String) (F : u_T) (N f : Nat) (ty : Nat → FieldType) : Prop := mm_fl own idx ci B F N f ∧ (∀ k, k < N → parseFieldDescriptor (F k).2.2.1 = some (ty k)) ∧ (∀ a, a < N → ∀ b, b < N → a ≠ b → (F a).2.1 ≠ (F b).2.1)
section MH
variable {l : Launch} {G : mm_G} {d : Nat} {K : mm_R} {P : mm_P} {pc : Nat} {ls st : List Value} {T : mm_T} {M : mm_M} {uc us : Nat}
theorem mm_getI (n : Nat) {idx ci len f c N : Nat} {B : String} {F : u_T} {rs : List (Option (Option Nat))} (hd : decode K.cc pc = .ok (.getfield idx, 3)) (hf : mm_fl K.nm.cls idx ci B F N f) (hn : pc + 3 = n) (hT : T[c]? = some (ci, len, rs)) (hr : rs[f]? = some none) (k : mm_wp l G d K P n ls (.int (M c f) :: st) T M uc us) : mm_wp l G d K P pc ls (.ref c :: st) T M uc us := by
  subst hn
  intro p e R s m args below meth c0 Q C H locs lsm hH hS hl hz
  obtain ⟨h1, h2, h3, h4, h5⟩ := hf
  exact va_get (D := G.dd) (ci := ci) (v := .int (M c f)) (C := B) (T := F) (N := N) C.1.1 C.1.2.1 C.1.2.2.2.2 h5 C.1.2.2.2.1 C.2.2.2.1.1 hH c (by rw [mm_ws_get hT, mm_e_O _ _ h2]) h1 f h3 (C.1.2.2.2.2 _ h4) (fun _ h => h) (mm_fs_int hr) hd (k p e R s m args below meth c0 Q C H locs lsm hH hS hl hz)
theorem mm_getR (n : Nat) {idx ci len f c r N : Nat} {B : String} {F : u_T} {rs : List (Option (Option Nat))} (hd : decode K.cc pc = .ok (.getfield idx, 3)) (hf : mm_fl K.nm.cls idx ci B F N f) (hn : pc + 3 = n) (hT : T[c]? = some (ci, len, rs)) (hr : rs[f]? = some (some (some r))) (k : mm_wp l G d K P n ls (.ref r :: st) T M uc us) : mm_wp l G d K P pc ls (.ref c :: st) T M uc us := by
  subst hn
  intro p e R s m args below meth c0 Q C H locs lsm hH hS hl hz
  obtain ⟨h1, h2, h3, h4, h5⟩ := hf
  exact va_get (D := G.dd) (ci := ci) (v := .ref (G.ba + r)) (C := B) (T := F) (N := N) C.1.1 C.1.2.1 C.1.2.2.2.2 h5 C.1.2.2.2.1 C.2.2.2.1.1 hH c (by rw [mm_ws_get hT, mm_e_O _ _ h2]) h1 f h3 (C.1.2.2.2.2 _ h4) (fun _ h => h) (mm_fs_ref hr) hd (k p e R s m args below meth c0 Q C H locs lsm hH hS hl hz)
theorem mm_putI (n : Nat) {idx ci len f c N : Nat} {B : String} {F : u_T} {ty : Nat → FieldType} {rs : List (Option (Option Nat))} {x : Int32} (hd : decode K.cc pc = .ok (.putfield idx, 3)) (hf : mm_fp K.nm.cls idx ci B F N f ty) (hi : (F f).2.2.2 = false ∧ ty f = .int) (hn : pc + 3 = n) (hT : T[c]? = some (ci, len, rs)) (hr : rs[f]? = some none) (k : mm_wp l G d K P n ls st T (mm_up M c f x) uc us) : mm_wp l G d K P pc ls (.int x :: .ref c :: st) T M uc us := by
  subst hn
  intro p e R s m args below meth c0 Q C H locs lsm hH hS hl hz
  obtain ⟨⟨h1, h2, h3, h4, h5⟩, h6, h7⟩ := hf
  have he : (mm_ws G.ba G.cy T M)[c]? = some (G.ba + c, .inr (ci, mm_fs G.ba (M c) rs)) := by rw [mm_ws_get hT, mm_e_O _ _ h2]
  refine va_put (D := G.dd) (ci := ci) (v := .int x) (ty := .int) (C := B) (T := F) (N := N) C.1.1 C.1.2.1 C.1.2.2.2.2 h5 ty h6 h7 C.1.2.2.2.1 C.2.2.2.1.1 hH mm_hD hS c he h1 f h3 (C.1.2.2.2.2 _ h4) (fun _ h => h) hi.1 (by rw [h6 f h3, hi.2]) rfl rfl (by rw [mm_fs_len]; exact (List.getElem?_eq_some_iff.mp hr).1) hd (fun H1 locs1 hP1 hD1 hS1 => ?_)
  refine k p e R s m args below meth c0 Q C H1 locs1 lsm ?_ hS1 hl hz
  rw [mm_fs_setI hr, ← mm_e_O G.ba G.cy h2 len, mm_ws_put hT] at hP1
  exact hP1
theorem mm_putR (n : Nat) {idx ci len f c r N : Nat} {B : String} {F : u_T} {ty : Nat → FieldType} {rs : List (Option (Option Nat))} (hd : decode K.cc pc = .ok (.putfield idx, 3)) (hf : mm_fp K.nm.cls idx ci B F N f ty) (hi : (F f).2.2.2 = true ∧ (F f).1 = K.nm.cls ∧ narrow (ty f) (.ref 0) = .ref 0 ∧ fits (ty f) (.ref 0) = true ∧ K.nm.name = "<init>") (hn : pc + 3 = n) (hT : T[c]? = some (ci, len, rs)) (hr : f < rs.length) (k : mm_wp l G d K P n ls st (T.set c (ci, len, rs.set f (some (some r)))) M uc us) : mm_wp l G d K P pc ls (.ref r :: .ref c :: st) T M uc us := by
  subst hn
  intro p e R s m args below meth c0 Q C H locs lsm hH hS hl hz
  obtain ⟨⟨h1, h2, h3, h4, h5⟩, h6, h7⟩ := hf
  obtain ⟨i1, i2, i3, i4, i5⟩ := hi
  have he : (mm_ws G.ba G.cy T M)[c]? = some (G.ba + c, .inr (ci, mm_fs G.ba (M c) rs)) := by rw [mm_ws_get hT, mm_e_O _ _ h2]
  refine va_putF (D := G.dd) (ci := ci) (v := .ref (G.ba + r)) (ty := ty f) (C := B) (T := F) (N := N) C.1.1 C.1.2.1 C.1.2.2.2.2 h5 ty h6 h7 C.1.2.2.2.1 C.2.2.2.1.1 hH mm_hD hS c he h1 f h3 (C.1.2.2.2.2 _ h4) (fun _ h => h) i1 (by rw [C.2.1]; exact i5) i2 (h6 f h3) ?_ ?_ (by rw [mm_fs_len]; exact hr) hd (fun H1 locs1 hP1 hD1 hS1 => ?_)
  · revert i3 i4; cases ty f <;> intro i3 i4 <;> first | rfl | cases i4
  · revert i3 i4; cases ty f <;> intro i3 i4 <;> first | rfl | cases i4
  refine k p e R s m args below meth c0 Q C H1 locs1 lsm ?_ hS1 hl (by rw [List.length_set]; exact hz)
  rw [mm_fs_setR hr, ← mm_e_O G.ba G.cy h2 len, mm_ws_ref hT] at hP1
  exact hP1
theorem mm_iaload (n : Nat) {len c : Nat} {rs : List (Option (Option Nat))} {i : Int32} (hd : decode K.cc pc = .ok (.iaload, 1)) (hn : pc + 1 = n) (hT : T[c]? = some (13, len, rs)) (hi : vp_in i len) (k : mm_wp l G d K P n ls (.int (M c i.toNatClampNeg) :: st) T M uc us) : mm_wp l G d K P pc ls (.int i :: .ref c :: st) T M uc us := by
  subst hn
  intro p e R s m args below meth c0 Q C H locs lsm hH hS hl hz
  exact va_iald C.1.1 C.1.2.1 C.2.2.2.1.1 hH c 0 (mm_ws_get hT) rfl hi hd (k p e R s m args below meth c0 Q C H locs lsm hH hS hl hz)
theorem mm_baload (n : Nat) {len c : Nat} {rs : List (Option (Option Nat))} {i : Int32} (hd : decode K.cc pc = .ok (.baload, 1)) (hn : pc + 1 = n) (hT : T[c]? = some (14, len, rs)) (hi : vp_in i len) (k : mm_wp l G d K P n ls (.int (M c i.toNatClampNeg) :: st) T M uc us) : mm_wp l G d K P pc ls (.int i :: .ref c :: st) T M uc us := by
  subst hn
  intro p e R s m args below meth c0 Q C H locs lsm hH hS hl hz
  exact va_zald C.1.1 C.1.2.1 C.2.2.2.1.1 hH c 1 (mm_ws_get hT) rfl hi hd (k p e R s m args below meth c0 Q C H locs lsm hH hS hl hz)
theorem mm_iastore (n : Nat) {len c : Nat} {rs : List (Option (Option Nat))} {i x : Int32} (hd : decode K.cc pc = .ok (.iastore, 1)) (hn : pc + 1 = n) (hT : T[c]? = some (13, len, rs)) (hi : vp_in i len) (k : mm_wp l G d K P n ls st T (mm_up M c i.toNatClampNeg x) uc us) : mm_wp l G d K P pc ls (.int x :: .int i :: .ref c :: st) T M uc us := by
  subst hn
  intro p e R s m args below meth c0 Q C H locs lsm hH hS hl hz
  refine va_iast C.1.1 C.1.2.1 C.2.2.2.1.1 hH mm_hD hS c 0 (mm_ws_get hT) rfl hi hd (fun H1 locs1 hP1 hD1 hS1 => ?_)
  refine k p e R s m args below meth c0 Q C H1 locs1 lsm ?_ hS1 hl hz
  rw [← mm_e_I G.ba G.cy len rs, mm_ws_put hT] at hP1
  exact hP1
theorem mm_bastore (n : Nat) {len c : Nat} {rs : List (Option (Option Nat))} {i x : Int32} (hd : decode K.cc pc = .ok (.bastore, 1)) (hn : pc + 1 = n) (hT : T[c]? = some (14, len, rs)) (hi : vp_in i len) (hx : vp_nar .boolean x = x) (k : mm_wp l G d K P n ls st T (mm_up M c i.toNatClampNeg x) uc us) : mm_wp l G d K P pc ls (.int x :: .int i :: .ref c :: st) T M uc us := by
  subst hn
  intro p e R s m args below meth c0 Q C H locs lsm hH hS hl hz
  refine va_zast C.1.1 C.1.2.1 C.2.2.2.1.1 hH mm_hD hS c 1 (mm_ws_get hT) rfl hi hd (fun H1 locs1 hP1 hD1 hS1 => ?_)
  refine k p e R s m args below meth c0 Q C H1 locs1 lsm ?_ hS1 hl hz
  rw [hx, ← mm_e_Z G.ba G.cy len rs, mm_ws_put hT] at hP1
  exact hP1
theorem mm_alenI (n : Nat) {len c : Nat} {rs : List (Option (Option Nat))} (hd : decode K.cc pc = .ok (.arraylength, 1)) (hn : pc + 1 = n) (hT : T[c]? = some (13, len, rs)) (k : mm_wp l G d K P n ls (.int (nI len) :: st) T M uc us) : mm_wp l G d K P pc ls (.ref c :: st) T M uc us := by
  subst hn
  intro p e R s m args below meth c0 Q C H locs lsm hH hS hl hz
  exact va_alen C.1.1 C.1.2.1 C.2.2.2.1.1 hH c 0 (mm_ws_get hT) rfl rfl hd (k p e R s m args below meth c0 Q C H locs lsm hH hS hl hz)
theorem mm_aaload (n : Nat) {len c r : Nat} {rs : List (Option (Option Nat))} {i : Int32} (hd : decode K.cc pc = .ok (.aaload, 1)) (hn : pc + 1 = n) (hT : T[c]? = some (15, len, rs)) (hi : vp_in i len) (hr : rs[i.toNatClampNeg]? = some (some (some r))) (k : mm_wp l G d K P n ls (.ref r :: st) T M uc us) : mm_wp l G d K P pc ls (.int i :: .ref c :: st) T M uc us := by
  subst hn
  intro p e R s m args below meth c0 Q C H locs lsm hH hS hl hz
  refine va_aldq (C := "MarriedMap$Sheet") C.1.1 C.1.2.1 C.2.2.2.1.1 hH c 2 (mm_ws_get hT) rfl hi hd ?_
  have e1 : va_rf (mm_rw G.ba rs i.toNatClampNeg) = .ref (G.ba + r) := by simp [mm_rw, hr, va_rf]
  show W p l e R s m args below meth c0 H locs uc us Q (F0 m (pc + 1) lsm (va_rf (mm_rw G.ba rs i.toNatClampNeg) :: _))
  rw [e1]
  exact k p e R s m args below meth c0 Q C H locs lsm hH hS hl hz
theorem mm_rw_set {ba i r : Nat} {rs : List (Option (Option Nat))} (hi : i < rs.length) : va_up (mm_rw ba rs) i (some (ba + r)) = mm_rw ba (rs.set i (some (some r))) := by
  funext j
  by_cases h : j = i
  · subst h; simp [va_up, mm_rw, hi]
  · simp [va_up, mm_rw, h, List.getElem?_set_ne (Ne.symm h)]
theorem mm_aastore (n : Nat) {len len2 c r : Nat} {rs rs2 : List (Option (Option Nat))} {i : Int32} (hd : decode K.cc pc = .ok (.aastore, 1)) (hn : pc + 1 = n) (hT : T[c]? = some (15, len, rs)) (hr : T[r]? = some (5, len2, rs2)) (hi : vp_in i len) (hl2 : rs.length = len) (k : mm_wp l G d K P n ls st (T.set c (15, len, rs.set i.toNatClampNeg (some (some r)))) M uc us) : mm_wp l G d K P pc ls (.ref r :: .int i :: .ref c :: st) T M uc us := by
  subst hn
  intro p e R s m args below meth c0 Q C H locs lsm hH hS hl hz
  have hlt : i.toNatClampNeg < len := Nat.not_le.mp fun q => hi (Or.inr q)
  refine va_astq (r := (RX5, TX5, 3)) C.1.1 C.1.2.1 C.2.2.2.1.1 hH mm_hD hS c 2 r 5 (mm_ws_get hT) rfl (by rw [mm_ws_get hr, mm_e_O _ _ (by decide)]) rfl hi hd (fun H1 locs1 hP1 hD1 hS1 => ?_)
  refine k p e R s m args below meth c0 Q C H1 locs1 lsm ?_ hS1 hl (by rw [List.length_set]; exact hz)
  rw [mm_rw_set (rs := rs) (by omega), ← mm_e_Q G.ba G.cy len _ (M c), mm_ws_ref hT] at hP1
  exact hP1
theorem mm_sload (n : Nat) {z : UInt32} {i : Int32} (hd : decode K.cc pc = .ok (.iaload, 1)) (hn : pc + 1 = n) (hi : vp_in i G.len) (k : mm_wp l G d K P n ls (.int (G.xs i.toNatClampNeg) :: st) T M uc us) : mm_wp l G d K P pc ls (.int i :: .float z :: st) T M uc us := by
  subst hn
  intro p e R s m args below meth c0 Q C H locs lsm hH hS hl hz
  have hU := C.2.2.2.1
  exact va_sld C.1.1 C.1.2.1 hU.2.1 (Nat.lt_of_lt_of_le hU.2.2.1 hU.2.2.2.1) (Nat.not_le.mpr hU.2.2.1) hS hi hd (k p e R s m args below meth c0 Q C H locs lsm hH hS hl hz)
theorem mm_slen (n : Nat) {z : UInt32} (hd : decode K.cc pc = .ok (.arraylength, 1)) (hn : pc + 1 = n) (k : mm_wp l G d K P n ls (.int (nI G.len) :: st) T M uc us) : mm_wp l G d K P pc ls (.float z :: st) T M uc us := by
  subst hn
  intro p e R s m args below meth c0 Q C H locs lsm hH hS hl hz
  have hU := C.2.2.2.1
  exact va_slen C.1.1 C.1.2.1 hU.2.1 (Nat.lt_of_lt_of_le hU.2.2.1 hU.2.2.2.1) (Nat.not_le.mpr hU.2.2.1) hS hd (k p e R s m args below meth c0 Q C H locs lsm hH hS hl hz)
/-! new cells -/
theorem mm_addr {G : mm_G} {T : mm_T} {M : mm_M} {H1 : Heap} {q z : Nat} {E : va_E} (hP : va_P G.dd vwCl (mm_ws G.ba G.cy T M ++ [(q, E)]) H1) (hD : va_D (mm_A G) (mm_ws G.ba G.cy T M ++ [(q, E)])) (hz : H1.size ≤ G.ba + T.length + 1) : q = G.ba + T.length := by
  have h0 : (mm_ws G.ba G.cy T M ++ [(q, E)])[T.length]? = some (q, E) := by rw [List.getElem?_append_right (by rw [mm_ws_len]; exact Nat.le_refl _)]; simp [mm_ws_len]
  have h1 : q < H1.size := (hP T.length _ h0).lt
  have h2 : G.ba ≤ q := hD.2 T.length _ h0
  by_cases h3 : q = G.ba + T.length
  · exact h3
  · exfalso
    have h4 : q - G.ba < T.length := by omega
    obtain ⟨x, hx⟩ : ∃ x, T[q - G.ba]? = some x := ⟨_, List.getElem?_eq_getElem h4⟩
    have h5 : (mm_ws G.ba G.cy T M ++ [(q, E)])[q - G.ba]? = some (G.ba + (q - G.ba), mm_e G.ba G.cy x (M (q - G.ba))) := by rw [List.getElem?_append_left (by rw [mm_ws_len]; exact h4), mm_ws_get hx]
    have := hD.1 (q - G.ba) T.length _ _ h5 h0 (by show G.ba + (q - G.ba) = q; omega)
    omega
def mm_nw (own : String) (idx ci : Nat) (B : String) (F : u_T) (N : Nat) (ty : Nat → FieldType) (rs : List (Option (Option Nat))) : Prop := vwCl[ci]? = some (B, F, N) ∧ ci < 13 ∧ Cond.classLink own idx B ∈ mm_tb ∧ Cond.instantiable B N ∈ mm_tb ∧ Cond.initialized B ∈ mm_tb ∧ (∀ w ∈ u_ws B F N, w ∈ mm_tb) ∧ (∀ k, k < N → parseFieldDescriptor (F k).2.2.1 = some (ty k)) ∧ (∀ j, j < N → defaultValue (ty j) = mm_dv rs[j]?) ∧ rs.all (fun x => x == none || x == some none) = true
theorem mm_new (n : Nat) {idx ci N : Nat} {B : String} {F : u_T} {ty : Nat → FieldType} {rs : List (Option (Option Nat))} (hd : decode K.cc pc = .ok (.new idx, 3)) (hf : mm_nw K.nm.cls idx ci B F N ty rs) (hn : pc + 3 = n) (hc : uc + 1 ≤ K.bc) (hs : us + N ≤ K.bs) (k : mm_wp l G d K P n ls (.ref T.length :: st) (T ++ [(ci, 0, rs)]) (va_up M T.length (fun _ => 0)) (uc + 1) (us + N)) : mm_wp l G d K P pc ls st T M uc us := by
  subst hn
  intro p e R s m args below meth c0 Q C H locs lsm hH hS hl hz
  obtain ⟨h1, h2, h3, h4, h5, h6, h7, h8, h9⟩ := hf
  have hU := C.2.2.2.1
  have hR := C.2.2.1
  have hrs : ∀ f : Nat, ∀ x, rs[f]? = some x → x = none ∨ x = some none := by
    intro f x hx
    have := List.all_eq_true.mp h9 x (List.mem_of_getElem? hx)
    simpa using this
  refine va_new (D := G.dd) (ci := ci) (fs := mm_fs G.ba (fun _ => 0) rs) (C := B) (T := F) (N := N) C.1.1 C.1.2.1 C.1.2.2.2.2 h6 ty h7 C.1.2.2.2.1 (C.1.2.2.2.2 _ h3) (C.1.2.2.2.2 _ h4) (C.1.2.2.2.2 _ h5) hU.1 hH mm_hD hS (fun q hq => Nat.le_trans hU.2.2.2.1 hq) h1 (fun j hj => by rw [mm_fs_new hrs, h8 j hj]) (Nat.le_trans hc hR.2.2.1) (Nat.le_trans hs hR.2.2.2) hd (fun q H1 hP1 hD1 hS1 => ?_)
  refine mm_size fun hsz => ?_
  have hq := mm_addr (z := 0) hP1 hD1 (by omega)
  subst hq
  refine k p e R s m args below meth c0 Q C H1 locs lsm ?_ hS1 hl (by rw [List.length_append, List.length_singleton]; omega)
  rw [← mm_e_O G.ba G.cy h2 0, mm_ws_push] at hP1
  exact hP1
theorem mm_newI (n : Nat) (N : Nat) {x : Int32} (hd : decode K.cc pc = .ok (.newarray .int, 2)) (hn : pc + 2 = n) (h0 : ¬ x < 0) (hx : x.toNatClampNeg = N) (hb : N * 4 ≤ 536870912) (hc : uc + 1 ≤ K.bc) (hs : us + N ≤ K.bs) (hw : Cond.arrayClass .int ∈ mm_tb) (k : mm_wp l G d K P n ls (.ref T.length :: st) (T ++ [(13, N, [])]) (va_up M T.length (fun _ => 0)) (uc + 1) (us + N)) : mm_wp l G d K P pc ls (.int x :: st) T M uc us := by
  subst hn
  intro p e R s m args below meth c0 Q C H locs lsm hH hS hl hz
  have hU := C.2.2.2.1
  have hR := C.2.2.1
  refine va_newa (atype := .int) (ty := .int) (a0 := (N, .inl (fun _ => 0))) C.1.1 C.1.2.1 (C.1.2.2.2.2 _ hw) rfl hU.1 hH mm_hD hS (fun q hq => Nat.le_trans hU.2.2.2.1 hq) (fun cA => rfl) h0 hx hb (Nat.le_trans hc hR.2.2.1) (Nat.le_trans hs hR.2.2.2) hd (fun q cA H1 hK1 hP1 hD1 hS1 => ?_)
  refine mm_size fun hsz => ?_
  have hq := mm_addr (z := 0) hP1 hD1 (by omega)
  subst hq
  have e1 : s.vm.findClass ("[" ++ FieldType.int.toString) = some cA := (hK1.2 3 (cA, .int) rfl).2
  have e2 : s.vm.findClass ("[" ++ FieldType.int.toString) = some (G.cy 0) := (hU.1.2 0 _ rfl).2
  have e3 : cA = G.cy 0 := Option.some.inj (e1.symm.trans e2)
  subst e3
  refine k p e R s m args below meth c0 Q C H1 locs lsm ?_ hS1 hl (by rw [List.length_append, List.length_singleton]; omega)
  rw [← mm_e_I G.ba G.cy N [], mm_ws_push] at hP1
  exact hP1
theorem mm_newZ (n : Nat) (N : Nat) {x : Int32} (hd : decode K.cc pc = .ok (.newarray .boolean, 2)) (hn : pc + 2 = n) (h0 : ¬ x < 0) (hx : x.toNatClampNeg = N) (hb : N ≤ 536870912) (hc : uc + 1 ≤ K.bc) (hs : us + N ≤ K.bs) (hw : Cond.arrayClass .boolean ∈ mm_tb) (k : mm_wp l G d K P n ls (.ref T.length :: st) (T ++ [(14, N, [])]) (va_up M T.length (fun _ => 0)) (uc + 1) (us + N)) : mm_wp l G d K P pc ls (.int x :: st) T M uc us := by
  subst hn
  intro p e R s m args below meth c0 Q C H locs lsm hH hS hl hz
  have hU := C.2.2.2.1
  have hR := C.2.2.1
  refine va_newa (atype := .boolean) (ty := .boolean) (a0 := (N, .inl (fun _ => 0))) C.1.1 C.1.2.1 (C.1.2.2.2.2 _ hw) rfl hU.1 hH mm_hD hS (fun q hq => Nat.le_trans hU.2.2.2.1 hq) (fun cA => rfl) h0 hx (by simpa [componentBytes] using hb) (Nat.le_trans hc hR.2.2.1) (Nat.le_trans hs hR.2.2.2) hd (fun q cA H1 hK1 hP1 hD1 hS1 => ?_)
  refine mm_size fun hsz => ?_
  have hq := mm_addr (z := 0) hP1 hD1 (by omega)
  subst hq
  have e1 : s.vm.findClass ("[" ++ FieldType.boolean.toString) = some cA := (hK1.2 3 (cA, .boolean) rfl).2
  have e2 : s.vm.findClass ("[" ++ FieldType.boolean.toString) = some (G.cy 1) := (hU.1.2 1 _ rfl).2
  have e3 : cA = G.cy 1 := Option.some.inj (e1.symm.trans e2)
  subst e3
  refine k p e R s m args below meth c0 Q C H1 locs lsm ?_ hS1 hl (by rw [List.length_append, List.length_singleton]; omega)
  rw [← mm_e_Z G.ba G.cy N [], mm_ws_push] at hP1
  exact hP1
theorem mm_newQ (n : Nat) (N : Nat) {idx : Nat} {x : Int32} (hd : decode K.cc pc = .ok (.anewarray idx, 3)) (hn : pc + 3 = n) (h0 : ¬ x < 0) (hx : x.toNatClampNeg = N) (hb : N * 4 ≤ 536870912) (hc : uc + 1 ≤ K.bc) (hs : us + N ≤ K.bs) (hw : Cond.classLink K.nm.cls idx "MarriedMap$Sheet" ∈ mm_tb) (k : mm_wp l G d K P n ls (.ref T.length :: st) (T ++ [(15, N, List.replicate N (some none))]) (va_up M T.length (fun _ => 0)) (uc + 1) (us + N)) : mm_wp l G d K P pc ls (.int x :: st) T M uc us := by
  subst hn
  intro p e R s m args below meth c0 Q C H locs lsm hH hS hl hz
  have hU := C.2.2.2.1
  have hR := C.2.2.1
  refine va_newq (C := "MarriedMap$Sheet") C.1.1 C.1.2.1 C.1.2.2.2.1 (C.1.2.2.2.2 _ hw) hU.2.2.2.2.1 hU.1 hH mm_hD hS (fun q hq => Nat.le_trans hU.2.2.2.1 hq) h0 hx hb (Nat.le_trans hc hR.2.2.1) (Nat.le_trans hs hR.2.2.2) hd (fun q cA H1 hK1 hP1 hD1 hS1 => ?_)
  refine mm_size fun hsz => ?_
  have hq := mm_addr (z := 0) hP1 hD1 (by omega)
  subst hq
  obtain ⟨_, _, _, _, _, e1⟩ := (hK1.2 3 (cA, .object "MarriedMap$Sheet") rfl).2
  obtain ⟨_, _, _, _, _, e2⟩ := (hU.1.2 2 _ rfl).2
  have e3 : cA = G.cy 2 := Option.some.inj (e1.symm.trans e2)
  subst e3
  refine k p e R s m args below meth c0 Q C H1 locs lsm ?_ hS1 hl (by rw [List.length_append, List.length_singleton]; omega)
  have e4 : (fun _ : Nat => (none : Option Nat)) = mm_rw G.ba (List.replicate N (some none)) := by
    funext j
    by_cases hj : j < N
    · simp [mm_rw, List.getElem?_replicate, hj]
    · simp [mm_rw, List.getElem?_replicate, hj]
  rw [e4, ← mm_e_Q G.ba G.cy N _ (fun _ => 0), mm_ws_push] at hP1
  exact hP1
end MH
end
section
theorem mm_gi {ws : List Cond} (h : ∀ w ∈ ws, w ∈ mm_tb) : GoodIn mm_tb ws := fun w hw => ⟨h w hw, good_of_word (List.mem_filter.mp (h w hw)).2⟩
abbrev mm_wy (Y : mm_R) : List Cond := Cond.code Y.nm Y.cc Y.ml Y.rt :: mm_tb
abbrev mm_rm (d : Nat) (Y : mm_R) : Room := { frames := d, cells := Y.bc, slots := Y.bs, locals := 40 * d }
def mm_ok (Y : mm_R) : Prop := plainName Y.nm.cls = true ∧ (Y.nm.cls ≠ "java/lang/invoke/MethodHandle" ∧ Y.nm.cls ≠ "java/lang/invoke/VarHandle") ∧ Cond.code Y.nm Y.cc Y.ml Y.rt ∈ mm_tb ∧ Cond.initialized Y.nm.cls ∈ mm_tb ∧ Y.ml ≤ 21
def mm_Pc (G : mm_G) (av : List Value) (T : mm_T) (M : mm_M) : Array Value → State → Prop := fun v U => v = (av.map (mm_v G.ba G.bb)).toArray ∧ U.heap.size = G.ba + T.length ∧ mm_U G U ∧ mm_H G T M U.heap
def mm_Qc (G : mm_G) (Y : mm_R) (P : mm_P) : Array Value → State → Outcome → State → Prop := fun _ st o t => (∃ (v : Option Value) (T : mm_T) (M : mm_M), o = .returned (v.map (mm_v G.ba G.bb)) ∧ P v T M ∧ mm_H G T M t.heap ∧ st.heap.size + Y.bc = G.ba + T.length) ∧ va_F (mm_A G) st t
def mm_met (l : Launch) (G : mm_G) (d : Nat) (Y : mm_R) (av : List Value) (T : mm_T) (M : mm_M) (P : mm_P) : Prop := Met l Y.nm (mm_wy Y) (mm_rm d Y) (mm_Pc G av T M) (mm_Qc G Y P) Y.bc Y.bs (mm_A G)
def mm_in : List Value → List Value
  | [] => []
  | v :: vs => if v.category = 2 then v :: .double 0 :: mm_in vs else v :: mm_in vs
theorem mm_in_at {ba bb k : Nat} : ∀ (av : List Value) (i j : Nat) (v : Value), (mm_in av ++ List.replicate k (.double 0))[j]? = some v → mm_kn v = true → (i + j, mm_v ba bb v) ∈ lv_args i (av.map (mm_v ba bb))
  | [], i, j, v, h, hk => by
    simp only [mm_in, List.nil_append, List.getElem?_replicate] at h
    by_cases hj : j < k
    · rw [if_pos hj] at h; cases h; cases hk
    · rw [if_neg hj] at h; cases h
  | a :: av, i, j, v, h, hk => by
    show _ ∈ (i, mm_v ba bb a) :: lv_args (if (mm_v ba bb a).category = 2 then i + 2 else i + 1) (av.map (mm_v ba bb))
    rw [mm_v_cat]
    by_cases hc : a.category = 2
    · rw [if_pos hc]
      simp only [mm_in, if_pos hc] at h
      match j, h with
      | 0, h => cases h; exact List.mem_cons_self
      | 1, h => cases h; cases hk
      | j + 2, h =>
        have := mm_in_at (ba := ba) (bb := bb) av (i + 2) j v h hk
        rw [show i + (j + 2) = i + 2 + j by omega]
        exact List.mem_cons_of_mem _ this
    · rw [if_neg hc]
      simp only [mm_in, if_neg hc] at h
      match j, h with
      | 0, h => cases h; exact List.mem_cons_self
      | j + 1, h =>
        have := mm_in_at (ba := ba) (bb := bb) av (i + 1) j v h hk
        rw [show i + (j + 1) = i + 1 + j by omega]
        exact List.mem_cons_of_mem _ this
theorem mm_in_len {ba bb : Nat} : ∀ (av : List Value), (lg_sl (av.map (mm_v ba bb))).length = (mm_in av).length
  | [] => rfl
  | a :: av => by
    have ih := mm_in_len (ba := ba) (bb := bb) av
    unfold lg_sl at ih ⊢
    rw [List.map_cons, List.flatMap_cons, List.length_append, ih, mm_v_cat]
    by_cases hc : a.category = 2
    · simp only [mm_in, if_pos hc, List.length_cons, List.length_nil]; omega
    · simp only [mm_in, if_neg hc, List.length_cons, List.length_nil]; omega
/-- a method's contract out of its walk from the entry -/
theorem mm_enter {l : Launch} {G : mm_G} {d : Nat} {Y : mm_R} {P : mm_P} {av : List Value} {T : mm_T} {M : mm_M} (k : Nat) (ls : List Value) (ho : mm_ok Y) (hls : mm_in av ++ List.replicate k (.double 0) = ls) (hlen : ls.length = Y.ml) (h : mm_wp l G d Y P 0 ls [] T M 0 0) : mm_met l G d Y av T M P := by
  obtain ⟨o1, o2, o3, o4, o5⟩ := ho
  refine Met.ofW (cc := Y.cc) (maxL := Y.ml) (ret := Y.rt) o1 rfl ?_
  intro p e s m args below meth c s₁ B hml hv
  obtain ⟨rfl, hsz, hU, hH⟩ := hv
  have hts := atoms_spec (ws := mm_wy Y) B.pre
  have C : mm_C l G d Y P p e (mm_rm d Y) s m (av.map (mm_v G.ba G.bb)).toArray below meth c (MQ below (mm_Qc G Y P) (av.map (mm_v G.ba G.bb)).toArray s Y.bc Y.bs (mm_A G)) := by
    refine ⟨⟨B.exec, B.bytes, hml, findClass_of_methodNamed B.named, fun w hw => hts w (List.mem_cons_of_mem _ hw)⟩, (name_of_methodNamed B.named B.method).1, ⟨Nat.le_refl _, Nat.le_refl _, Nat.le_refl _, Nat.le_refl _⟩, hU, ?_⟩
    intro v T1 M1 H locs ls1 pc hP1 hH1 hS1 hz1 hrt
    have hq : ∀ t : State, t.heap = H → s.WarmedH t.vm → mm_Qc G Y P (av.map (mm_v G.ba G.bb)).toArray s (.returned (v.map (mm_v G.ba G.bb))) t := fun t ht _ => ⟨⟨v, T1, M1, rfl, hP1, by rw [ht]; exact hH1, hz1⟩, hS1.F ht⟩
    have hr := B.returns
    match v, hrt, hq with
    | none, hrt, hq => exact W.vret B.exec B.bytes (hr.trans hrt.1) hq hS1.2.2 hrt.2 B.notSynchronized
    | some (.int x), ⟨ty, h1, h2, h3⟩, hq => exact W.zret B.exec B.bytes (hr.trans h1) h2 hq hS1.2.2 h3 B.notSynchronized
    | some (.long x), hrt, hq => exact W.lret B.exec B.bytes (hr.trans hrt.1) hq hS1.2.2 hrt.2 B.notSynchronized
    | some (.ref x), ⟨⟨nm, h1⟩, h2⟩, hq => exact W.aret B.exec B.bytes (hr.trans h1) (Or.inl ⟨_, rfl⟩) (Or.inr ⟨_, rfl⟩) hq hS1.2.2 h2 B.notSynchronized
    | some .null, ⟨⟨nm, h1⟩, h2⟩, hq => exact W.aret B.exec B.bytes (hr.trans h1) (Or.inl ⟨_, rfl⟩) (Or.inl rfl) hq hS1.2.2 h2 B.notSynchronized
  have hlen2 : (lg_sl (av.map (mm_v G.ba G.bb))).length ≤ Y.ml := by
    rw [mm_in_len, ← hlen, ← hls, List.length_append]
    omega
  have hl := lv_entry (av.map (mm_v G.ba G.bb)) (n := Y.ml) hlen2
  rw [lg_entry_eq]
  refine h p e _ s m _ below meth c _ C s.heap [] _ hH va_S.rf ⟨hlen, hl.1, hl.2.1, fun q hq => ?_⟩ (by omega)
  obtain ⟨v, h1, h2, h3⟩ := mm_al_of hq
  rw [← hls] at h1
  have h4 := mm_in_at (ba := G.ba) (bb := G.bb) av 0 q.1 v h1 h2
  rw [Nat.zero_add, ← h3] at h4
  exact hl.2.2 _ h4
/-! answers -/
def mm_pi (Q : Int32 → mm_T → mm_M → Prop) : mm_P := fun v T M => ∃ r : Int32, v = some (.int r) ∧ Q r T M
def mm_pl (Q : Int64 → mm_T → mm_M → Prop) : mm_P := fun v T M => ∃ r : Int64, v = some (.long r) ∧ Q r T M
def mm_pv (Q : mm_T → mm_M → Prop) : mm_P := fun v T M => v = none ∧ Q T M
def mm_pr (Q : Option Nat → mm_T → mm_M → Prop) : mm_P := fun v T M => ∃ r : Option Nat, v = some (va_rf r) ∧ Q r T M
section MR
variable {l : Launch} {G : mm_G} {d : Nat} {K Y : mm_R} {P : mm_P} {pc : Nat} {ls st : List Value} {T : mm_T} {M : mm_M} {uc us : Nat}
theorem mm_ret {v : Option Value} (hu : uc = K.bc ∧ us ≤ K.bs) (hP : P v T M) (hr : mm_rt K.rt K.cc pc v) : mm_wp l G d K P pc ls v.toList T M uc us := by
  intro p e R s m args below meth c Q C H locs lsm hH hS hl hz
  obtain ⟨hu, hs⟩ := hu
  subst hu
  refine W.widen (k := K.bc) (n := K.bs) (Nat.le_refl _) hs ?_
  have := C.2.2.2.2 v T M H locs lsm pc hP hH hS hz hr
  cases v <;> exact this
theorem mm_iret {Q : Int32 → mm_T → mm_M → Prop} {x : Int32} (hd : decode K.cc pc = .ok (.ireturn, 1)) (hr : K.rt = some .int) (hu : uc = K.bc ∧ us ≤ K.bs) (hq : Q x T M) : mm_wp l G d K (mm_pi Q) pc ls [.int x] T M uc us := mm_ret (v := some (.int x)) hu ⟨x, rfl, hq⟩ ⟨.int, hr, rfl, hd⟩
theorem mm_zret {Q : Int32 → mm_T → mm_M → Prop} {x : Int32} (hd : decode K.cc pc = .ok (.ireturn, 1)) (hr : K.rt = some .boolean) (hu : uc = K.bc ∧ us ≤ K.bs) (hx : x = 0 ∨ x = 1) (hq : Q x T M) : mm_wp l G d K (mm_pi Q) pc ls [.int x] T M uc us := mm_ret (v := some (.int x)) hu ⟨x, rfl, hq⟩ ⟨.boolean, hr, by rcases hx with rfl | rfl <;> rfl, hd⟩
theorem mm_lret {Q : Int64 → mm_T → mm_M → Prop} {x : Int64} (hd : decode K.cc pc = .ok (.lreturn, 1)) (hr : K.rt = some .long) (hu : uc = K.bc ∧ us ≤ K.bs) (hq : Q x T M) : mm_wp l G d K (mm_pl Q) pc ls [.long x] T M uc us := mm_ret (v := some (.long x)) hu ⟨x, rfl, hq⟩ ⟨hr, hd⟩
theorem mm_vret {Q : mm_T → mm_M → Prop} (hd : decode K.cc pc = .ok (.return_, 1)) (hr : K.rt = none) (hu : uc = K.bc ∧ us ≤ K.bs) (hq : Q T M) : mm_wp l G d K (mm_pv Q) pc ls [] T M uc us := mm_ret (v := none) hu ⟨rfl, hq⟩ ⟨hr, hd⟩
theorem mm_aret {Q : Option Nat → mm_T → mm_M → Prop} {x : Nat} (nm : String) (hd : decode K.cc pc = .ok (.areturn, 1)) (hr : K.rt = some (.object nm)) (hu : uc = K.bc ∧ us ≤ K.bs) (hq : Q (some x) T M) : mm_wp l G d K (mm_pr Q) pc ls [.ref x] T M uc us := mm_ret (v := some (.ref x)) hu ⟨some x, rfl, hq⟩ ⟨⟨nm, hr⟩, hd⟩
theorem mm_nret {Q : Option Nat → mm_T → mm_M → Prop} (nm : String) (hd : decode K.cc pc = .ok (.areturn, 1)) (hr : K.rt = some (.object nm)) (hu : uc = K.bc ∧ us ≤ K.bs) (hq : Q none T M) : mm_wp l G d K (mm_pr Q) pc ls [.null] T M uc us := mm_ret (v := some .null) hu ⟨none, rfl, hq⟩ ⟨⟨nm, hr⟩, hd⟩
/-! calls -/
theorem mm_run {p : Program} {e : Env} {R : Room} {s : State} {m : MethodId} {args : Array Value} {below : List Frame} {meth : Method} {c : Code} {Q : State → Prop} {H : Heap} {locs : List Loc} {lsm : Array Slot} {st0 rest : List Value} {a : Array Value} (hr : va_Run p l e R s m args below meth c H locs uc us Y.bc Y.bs (F0 m pc lsm st0) rest (mm_Qc G Y P a) (mm_A G)) (hS : va_S (mm_A G) s.heap H locs)
    (kk : ∀ (v : Option Value) (T1 : mm_T) (M1 : mm_M) (H1 : Heap) (locs1 : List Loc), P v T1 M1 → mm_H G T1 M1 H1 → va_S (mm_A G) s.heap H1 locs1 → H.size + Y.bc = G.ba + T1.length → W p l e R s m args below meth c H1 locs1 (uc + Y.bc) (us + Y.bs) Q (F0 m (pc + 3) lsm ((v.map (mm_v G.ba G.bb)).toList ++ rest))) : W p l e R s m args below meth c H locs uc us Q (F0 m pc lsm st0) := by
  intro T0 hT X
  obtain ⟨v, st₀, t, T', L, h0, X', hL, e1, e2, ⟨⟨v1, T1, M1, hv, hP, hH1, hz⟩, hF⟩, st⟩ := hr T0 hT X
  cases hv
  rw [h0] at hz
  obtain ⟨hF1, hF2⟩ := hF
  rw [h0] at hF1 hF2
  obtain ⟨t2, a1, b1⟩ := kk v1 T1 M1 T'.heap (locs ++ L) hP (by rw [e1]; exact hH1)
    ⟨Nat.le_trans hS.1 (by rw [e1]; exact hF1), fun q h1 h2 => by rw [e1, hF2 q (Nat.lt_of_lt_of_le h1 hS.1) h2]; exact hS.2.1 q h1 h2, fun q hq => by
      rcases List.mem_append.mp hq with h | h
      · exact hS.2.2 q h
      · exact hL q h⟩ hz T' rfl X'
  exact ⟨t2, st t2 a1, b1⟩
theorem mm_blind {av : List Value} : FrameBlind (mm_Pc G av T M) := fun a U g mk h => ⟨h.1, h.2.1, h.2.2.1.blind g mk a, h.2.2.2⟩
theorem mm_pre {s : State} {H : Heap} {locs : List Loc} {av : List Value} (hU : mm_U G s) (hS : va_S (mm_A G) s.heap H locs) (hz : H.size = G.ba + T.length) (hH : mm_H G T M H) : ∀ U : State, U.heap = H → s.WarmedH U.vm → mm_Pc G av T M (av.map (mm_v G.ba G.bb)).toArray U := fun U hU2 hW => ⟨rfl, by rw [hU2]; exact hz, hU.moved hS hU2 hW, by rw [hU2]; exact hH⟩
theorem mm_eqz {s : State} {H : Heap} {locs : List Loc} (hU : mm_U G s) (hS : va_S (mm_A G) s.heap H locs) (hH : mm_H G T M H) (hz : s.heap.size + uc = G.ba + T.length) (h : H.size ≤ s.heap.size + uc) : H.size = G.ba + T.length := by
  have := hH.low (Nat.le_trans hU.2.2.2.1 hS.1)
  omega
theorem mm_rooms {R : Room} (ho : mm_ok Y) (h : (d + 1) ≤ R.frames ∧ 40 * (d + 1) ≤ R.locals) : (mm_rm d Y).frames + 1 ≤ R.frames ∧ 8 + (Y.ml + 11) + (mm_rm d Y).locals ≤ R.locals := by
  have := ho.2.2.2.2
  refine ⟨h.1, ?_⟩
  show 8 + (Y.ml + 11) + 40 * d ≤ R.locals
  omega
theorem mm_gy (ho : mm_ok Y) : ∀ w ∈ mm_wy Y, w ∈ mm_tb := fun w hw => (List.mem_cons.mp hw).elim (fun e => by rw [e]; exact ho.2.2.1) id
def mm_lV (own : String) (idx : Nat) (Y : mm_R) (n : Nat) : Prop := mm_ok Y ∧ Cond.methodLink own idx Y.nm ∈ mm_tb ∧ Cond.instanceMethod Y.nm ∈ mm_tb ∧ Cond.selects Y.nm.cls Y.nm Y.nm ∈ mm_tb ∧ (parseMethodDescriptor Y.nm.desc).map (fun d => d.parameters.length) = some n
def mm_lS (own : String) (idx : Nat) (Y : mm_R) (n : Nat) : Prop := mm_ok Y ∧ Cond.methodLink own idx Y.nm ∈ mm_tb ∧ Cond.static Y.nm ∈ mm_tb ∧ (parseMethodDescriptor Y.nm.desc).map (fun d => d.parameters.length) = some n
def mm_lSN (own : String) (idx : Nat) (Y : mm_R) (n : Nat) (host : String) : Prop := mm_ok Y ∧ Cond.methodLinkNest own idx Y.nm host ∈ mm_nest ∧ Cond.static Y.nm ∈ mm_tb ∧ (parseMethodDescriptor Y.nm.desc).map (fun d => d.parameters.length) = some n
def mm_lI (own : String) (idx : Nat) (Y : mm_R) (n : Nat) : Prop := mm_ok Y ∧ Cond.methodLink own idx Y.nm ∈ mm_tb ∧ Cond.instanceMethod Y.nm ∈ mm_tb ∧ Y.nm.name = "<init>" ∧ Y.rt = none ∧ (parseMethodDescriptor Y.nm.desc).map (fun d => d.parameters.length) = some n
def mm_lIN (own : String) (idx : Nat) (Y : mm_R) (n : Nat) (host : String) : Prop := mm_ok Y ∧ Cond.methodLinkNest own idx Y.nm host ∈ mm_nest ∧ Cond.instanceMethod Y.nm ∈ mm_tb ∧ Y.nm.name = "<init>" ∧ Y.rt = none ∧ (parseMethodDescriptor Y.nm.desc).map (fun d => d.parameters.length) = some n
theorem mm_callV (n : Nat) {idx c ci len k : Nat} {B : String} {F : u_T} {N : Nat} {rs : List (Option (Option Nat))} {As : List Value} (hd : decode K.cc pc = .ok (.invokevirtual idx, 3)) (hk : mm_lV K.nm.cls idx Y k) (hn : pc + 3 = n) (hlen : As.length = k) (hT : T[c]? = some (ci, len, rs)) (hci : ci < 13) (hcl : vwCl[ci]? = some (B, F, N)) (hB : Y.nm.cls = B) (hw : (st.map fun v => v.category).sum ≤ 8) (hu : uc + Y.bc ≤ K.bc ∧ us + Y.bs ≤ K.bs)
    (h : mm_met l G d Y (.ref c :: As) T M (fun v T1 M1 => mm_wp l G (d + 1) K P n ls (v.toList ++ st) T1 M1 (uc + Y.bc) (us + Y.bs))) : mm_wp l G (d + 1) K P pc ls (As.reverse ++ .ref c :: st) T M uc us := by
  subst hn
  subst hlen
  intro p e R s m args below meth c0 Q C H locs lsm hH hS hl hz
  refine mm_size fun hsz => ?_
  have hU := C.2.2.2.1
  have hR := C.2.2.1
  have hz2 := mm_eqz hU hS hH hz hsz
  obtain ⟨k1, k2, k3, k4, k5⟩ := hk
  subst hB
  have hG : GoodIn mm_tb (wsV K.nm.cls idx Y.nm.cls Y.nm (mm_wy Y)) := mm_gi (fun w hw => by
    rcases List.mem_append.mp hw with h1 | h1
    · simp only [List.mem_cons, List.not_mem_nil, or_false] at h1
      rcases h1 with rfl | rfl | rfl | rfl
      · exact k2
      · exact k3
      · exact k4
      · exact k1.2.2.2.1
    · exact mm_gy k1 w h1)
  have cw := cwV (R := R) (C := Y.nm.cls) (rm := mm_rm d Y) (mc := Y.bc) (ms := Y.bs) As.length C.1.2.2.2.2 hG rfl rfl rfl ⟨rfl, k1.2.1.1, k1.2.1.2, k5⟩ (mm_rooms k1 ⟨hR.1, hR.2.1⟩)
  have he : (mm_ws G.ba G.cy T M)[c]? = some (G.ba + c, .inr (ci, mm_fs G.ba (M c) rs)) := by rw [mm_ws_get hT, mm_e_O _ _ hci]
  have hrun := va_runV (g := F0 m pc lsm ((As.reverse ++ .ref c :: st).map (mm_v G.ba G.bb))) (b := G.ba + c) (As := As.map (mm_v G.ba G.bb)) (rest := st.map (mm_v G.ba G.bb)) (locs := locs) (e := e) (below := below) (meth := meth) (cells := uc) (slots := us) C.1 h cw ⟨mm_blind, va_recv hU.1 hH hcl he, mm_pre (av := .ref c :: As) hU hS hz2 hH⟩ rfl (by simp) hl.2.1 (by simp [mm_v]) (lv_room (by rw [mm_v_sum]; exact hw)) hd ⟨by omega, by omega⟩
  refine mm_run hrun hS (fun v T1 M1 H1 locs1 hP1 hH1 hS1 hz1 => ?_)
  have := hP1 p e R s m args below meth c0 Q C H1 locs1 lsm hH1 hS1 hl (by omega)
  cases v <;> exact this
theorem mm_callS (n : Nat) {idx k : Nat} {As : List Value} (hd : decode K.cc pc = .ok (.invokestatic idx, 3)) (hk : mm_lS K.nm.cls idx Y k) (hn : pc + 3 = n) (hlen : As.length = k) (hw : (st.map fun v => v.category).sum ≤ 8) (hu : uc + Y.bc ≤ K.bc ∧ us + Y.bs ≤ K.bs)
    (h : mm_met l G d Y As T M (fun v T1 M1 => mm_wp l G (d + 1) K P n ls (v.toList ++ st) T1 M1 (uc + Y.bc) (us + Y.bs))) : mm_wp l G (d + 1) K P pc ls (As.reverse ++ st) T M uc us := by
  subst hn
  subst hlen
  intro p e R s m args below meth c0 Q C H locs lsm hH hS hl hz
  refine mm_size fun hsz => ?_
  have hU := C.2.2.2.1
  have hR := C.2.2.1
  have hz2 := mm_eqz hU hS hH hz hsz
  obtain ⟨k1, k2, k3, k5⟩ := hk
  have hG : GoodIn mm_tb (va_wsS K.nm.cls idx Y.nm (mm_wy Y)) := mm_gi (fun w hw => by
    rcases List.mem_append.mp hw with h1 | h1
    · simp only [List.mem_cons, List.not_mem_nil, or_false] at h1
      rcases h1 with rfl | rfl | rfl
      · exact k2
      · exact k3
      · exact k1.2.2.2.1
    · exact mm_gy k1 w h1)
  have cw := va_cwS (R := R) (rm := mm_rm d Y) (mc := Y.bc) (ms := Y.bs) As.length C.1.2.2.2.2 hG rfl rfl rfl ⟨k1.2.1.1, k1.2.1.2, k5⟩ (mm_rooms k1 ⟨hR.1, hR.2.1⟩)
  have hrun := va_runS (g := F0 m pc lsm ((As.reverse ++ st).map (mm_v G.ba G.bb))) (As := As.map (mm_v G.ba G.bb)) (rest := st.map (mm_v G.ba G.bb)) (locs := locs) (e := e) (below := below) (meth := meth) (cells := uc) (slots := us) C.1 h cw ⟨mm_blind, mm_pre (av := As) hU hS hz2 hH⟩ rfl (by simp) hl.2.1 (by simp) (lv_room (by rw [mm_v_sum]; exact hw)) hd ⟨by omega, by omega⟩
  refine mm_run hrun hS (fun v T1 M1 H1 locs1 hP1 hH1 hS1 hz1 => ?_)
  have := hP1 p e R s m args below meth c0 Q C H1 locs1 lsm hH1 hS1 hl (by omega)
  cases v <;> exact this
theorem mm_callSN (n : Nat) {idx k : Nat} {host : String} {As : List Value} (hd : decode K.cc pc = .ok (.invokestatic idx, 3)) (hk : mm_lSN K.nm.cls idx Y k host) (hn : pc + 3 = n) (hlen : As.length = k) (hw : (st.map fun v => v.category).sum ≤ 8) (hu : uc + Y.bc ≤ K.bc ∧ us + Y.bs ≤ K.bs)
    (h : mm_met l G d Y As T M (fun v T1 M1 => mm_wp l G (d + 1) K P n ls (v.toList ++ st) T1 M1 (uc + Y.bc) (us + Y.bs))) : mm_wp l G (d + 1) K P pc ls (As.reverse ++ st) T M uc us := by
  subst hn
  subst hlen
  intro p e R s m args below meth c0 Q C H locs lsm hH hS hl hz
  refine mm_size fun hsz => ?_
  have hU := C.2.2.2.1
  have hR := C.2.2.1
  have hz2 := mm_eqz hU hS hH hz hsz
  obtain ⟨k1, k2, k3, k5⟩ := hk
  have cw := va_cnB (R := R) (rm := mm_rm d Y) (mc := Y.bc) (ms := Y.bs) As.length C.1.2.2.2.2 (mm_gi (mm_gy k1)) rfl rfl rfl (hU.2.2.2.2.2 _ k2) (C.1.2.2.2.2 _ k1.2.2.2.1) ⟨k1.2.1.1, k1.2.1.2, k5⟩ (mm_rooms k1 ⟨hR.1, hR.2.1⟩)
  have hrun := va_runSN (g := F0 m pc lsm ((As.reverse ++ st).map (mm_v G.ba G.bb))) (As := As.map (mm_v G.ba G.bb)) (rest := st.map (mm_v G.ba G.bb)) (locs := locs) (e := e) (below := below) (meth := meth) (cells := uc) (slots := us) C.1 h ⟨cw, C.1.2.2.2.2 _ k3, trivial⟩ ⟨mm_blind, mm_pre (av := As) hU hS hz2 hH⟩ rfl (by simp) hl.2.1 (by simp) (lv_room (by rw [mm_v_sum]; exact hw)) hd ⟨by omega, by omega⟩
  refine mm_run hrun hS (fun v T1 M1 H1 locs1 hP1 hH1 hS1 hz1 => ?_)
  have := hP1 p e R s m args below meth c0 Q C H1 locs1 lsm hH1 hS1 hl (by omega)
  cases v <;> exact this
theorem mm_callI (n : Nat) {idx c k : Nat} {As : List Value} (hd : decode K.cc pc = .ok (.invokespecial idx, 3)) (hk : mm_lI K.nm.cls idx Y k) (hn : pc + 3 = n) (hlen : As.length = k) (hw : (st.map fun v => v.category).sum ≤ 8) (hu : uc + Y.bc ≤ K.bc ∧ us + Y.bs ≤ K.bs)
    (h : mm_met l G d Y (.ref c :: As) T M (fun v T1 M1 => mm_wp l G (d + 1) K P n ls (v.toList ++ st) T1 M1 (uc + Y.bc) (us + Y.bs))) : mm_wp l G (d + 1) K P pc ls (As.reverse ++ .ref c :: st) T M uc us := by
  subst hn
  subst hlen
  intro p e R s m args below meth c0 Q C H locs lsm hH hS hl hz
  refine mm_size fun hsz => ?_
  have hU := C.2.2.2.1
  have hR := C.2.2.1
  have hz2 := mm_eqz hU hS hH hz hsz
  obtain ⟨k1, k2, k3, k4, k4b, k5⟩ := hk
  have cw := cwI (R := R) (rm := mm_rm d Y) (mc := Y.bc) (ms := Y.bs) (ws := mm_wy Y) (bytes := Y.cc) (maxL := Y.ml) (ws' := mm_tb) As.length C.1.2.2.2.2 (mm_gi (mm_gy k1)) (by rw [mm_wy, k4b]) rfl rfl (C.1.2.2.2.2 _ k1.2.2.2.1) (C.1.2.2.2.2 _ k2) (C.1.2.2.2.2 _ k3) k4 ⟨k1.2.1.1, k1.2.1.2, k5⟩ (mm_rooms k1 ⟨hR.1, hR.2.1⟩)
  have hrun := va_runI (g := F0 m pc lsm ((As.reverse ++ .ref c :: st).map (mm_v G.ba G.bb))) (b := G.ba + c) (As := As.map (mm_v G.ba G.bb)) (rest := st.map (mm_v G.ba G.bb)) (locs := locs) (e := e) (below := below) (meth := meth) (cells := uc) (slots := us) C.1 h cw ⟨mm_blind, mm_pre (av := .ref c :: As) hU hS hz2 hH⟩ rfl (by simp) hl.2.1 (by simp [mm_v]) (lv_room (by rw [mm_v_sum]; exact hw)) hd ⟨by omega, by omega⟩
  refine mm_run hrun hS (fun v T1 M1 H1 locs1 hP1 hH1 hS1 hz1 => ?_)
  have := hP1 p e R s m args below meth c0 Q C H1 locs1 lsm hH1 hS1 hl (by omega)
  cases v <;> exact this
theorem mm_callIN (n : Nat) {idx c k : Nat} {host : String} {As : List Value} (hd : decode K.cc pc = .ok (.invokespecial idx, 3)) (hk : mm_lIN K.nm.cls idx Y k host) (hn : pc + 3 = n) (hlen : As.length = k) (hw : (st.map fun v => v.category).sum ≤ 8) (hu : uc + Y.bc ≤ K.bc ∧ us + Y.bs ≤ K.bs)
    (h : mm_met l G d Y (.ref c :: As) T M (fun v T1 M1 => mm_wp l G (d + 1) K P n ls (v.toList ++ st) T1 M1 (uc + Y.bc) (us + Y.bs))) : mm_wp l G (d + 1) K P pc ls (As.reverse ++ .ref c :: st) T M uc us := by
  subst hn
  subst hlen
  intro p e R s m args below meth c0 Q C H locs lsm hH hS hl hz
  refine mm_size fun hsz => ?_
  have hU := C.2.2.2.1
  have hR := C.2.2.1
  have hz2 := mm_eqz hU hS hH hz hsz
  obtain ⟨k1, k2, k3, k4, k4b, k5⟩ := hk
  have cw := va_cnB (R := R) (rm := mm_rm d Y) (mc := Y.bc) (ms := Y.bs) (ws := mm_wy Y) (bytes := Y.cc) (maxL := Y.ml) (ret := none) (ws' := mm_tb) As.length C.1.2.2.2.2 (mm_gi (mm_gy k1)) (by rw [mm_wy, k4b]) rfl rfl (hU.2.2.2.2.2 _ k2) (C.1.2.2.2.2 _ k1.2.2.2.1) ⟨k1.2.1.1, k1.2.1.2, k5⟩ (mm_rooms k1 ⟨hR.1, hR.2.1⟩)
  have hrun := va_runIN (g := F0 m pc lsm ((As.reverse ++ .ref c :: st).map (mm_v G.ba G.bb))) (b := G.ba + c) (As := As.map (mm_v G.ba G.bb)) (rest := st.map (mm_v G.ba G.bb)) (locs := locs) (e := e) (below := below) (meth := meth) (cells := uc) (slots := us) C.1 h ⟨cw, k4, C.1.2.2.2.2 _ k3⟩ ⟨mm_blind, mm_pre (av := .ref c :: As) hU hS hz2 hH⟩ rfl (by simp) hl.2.1 (by simp [mm_v]) (lv_room (by rw [mm_v_sum]; exact hw)) hd ⟨by omega, by omega⟩
  refine mm_run hrun hS (fun v T1 M1 H1 locs1 hP1 hH1 hS1 hz1 => ?_)
  have := hP1 p e R s m args below meth c0 Q C H1 locs1 lsm hH1 hS1 hl (by omega)
  cases v <;> exact this
/-! the JDK's own -/
theorem mm_fMath : Cond.initialized "java/lang/Math" ∈ mm_tb ∧ (Cond.static Lib.Math.max.name ∈ mm_tb ∧ Cond.code Lib.Math.max.name Lib.Math.max.code 2 (some .int) ∈ mm_tb) ∧ (Cond.static Lib.Math.min.name ∈ mm_tb ∧ Cond.code Lib.Math.min.name Lib.Math.min.code 2 (some .int) ∈ mm_tb) ∧ Cond.static Lib.Math.abs.name ∈ mm_tb ∧ Cond.code Lib.Math.abs.name Lib.Math.abs.code 1 (some .int) ∈ mm_tb := by decide +kernel
theorem mm_fObj : Cond.instanceMethod Lib.objectInit ∈ mm_tb ∧ Cond.code Lib.objectInit ⟨#[0xb1]⟩ 1 none ∈ mm_tb := by decide +kernel
theorem mm_fCopy : Cond.native arraycopyName ∈ mm_tb ∧ Cond.static arraycopyName ∈ mm_tb ∧ Cond.initialized "java/lang/System" ∈ mm_tb := by decide +kernel
theorem mm_mmax (n : Nat) {idx : Nat} {x y : Int32} (hd : decode K.cc pc = .ok (.invokestatic idx, 3)) (hk : Cond.methodLink K.nm.cls idx Lib.Math.max.name ∈ mm_tb) (hn : pc + 3 = n) (hw : (st.map fun v => v.category).sum ≤ 8) (hu : uc ≤ K.bc ∧ us ≤ K.bs) (k : mm_wp l G (d + 1) K P n ls (.int (if x < y then y else x) :: st) T M uc us) : mm_wp l G (d + 1) K P pc ls (.int y :: .int x :: st) T M uc us := by
  subst hn
  intro p e R s m args below meth c0 Q C H locs lsm hH hS hl hz
  have hR := C.2.2.1
  have t := C.1.2.2.2.2
  exact va_mmax C.1.1 C.1.2.1 (C.1.2.2.1.trans hl.2.1.symm) C.1.2.2.2.1 (t _ hk) (t _ mm_fMath.2.1.1) (t _ mm_fMath.1) (t _ mm_fMath.2.1.2) (by omega) (by rw [mm_v_sum]; omega) (by omega) (by omega) hd (k p e R s m args below meth c0 Q C H locs lsm hH hS hl hz)
theorem mm_mmin (n : Nat) {idx : Nat} {x y : Int32} (hd : decode K.cc pc = .ok (.invokestatic idx, 3)) (hk : Cond.methodLink K.nm.cls idx Lib.Math.min.name ∈ mm_tb) (hn : pc + 3 = n) (hw : (st.map fun v => v.category).sum ≤ 8) (hu : uc ≤ K.bc ∧ us ≤ K.bs) (k : mm_wp l G (d + 1) K P n ls (.int (if y < x then y else x) :: st) T M uc us) : mm_wp l G (d + 1) K P pc ls (.int y :: .int x :: st) T M uc us := by
  subst hn
  intro p e R s m args below meth c0 Q C H locs lsm hH hS hl hz
  have hR := C.2.2.1
  have t := C.1.2.2.2.2
  exact va_mmin C.1.1 C.1.2.1 (C.1.2.2.1.trans hl.2.1.symm) C.1.2.2.2.1 (t _ hk) (t _ mm_fMath.2.2.1.1) (t _ mm_fMath.1) (t _ mm_fMath.2.2.1.2) (by omega) (by rw [mm_v_sum]; omega) (by omega) (by omega) hd (k p e R s m args below meth c0 Q C H locs lsm hH hS hl hz)
theorem mm_mabs (n : Nat) {idx : Nat} {x : Int32} (hd : decode K.cc pc = .ok (.invokestatic idx, 3)) (hk : Cond.methodLink K.nm.cls idx Lib.Math.abs.name ∈ mm_tb) (hn : pc + 3 = n) (hw : (st.map fun v => v.category).sum ≤ 8) (hu : uc ≤ K.bc ∧ us ≤ K.bs) (k : mm_wp l G (d + 1) K P n ls (.int (if 0 ≤ x then x else 0 - x) :: st) T M uc us) : mm_wp l G (d + 1) K P pc ls (.int x :: st) T M uc us := by
  subst hn
  intro p e R s m args below meth c0 Q C H locs lsm hH hS hl hz
  have hR := C.2.2.1
  have t := C.1.2.2.2.2
  exact va_mabs C.1.1 C.1.2.1 (C.1.2.2.1.trans hl.2.1.symm) C.1.2.2.2.1 (t _ hk) (t _ mm_fMath.2.2.2.1) (t _ mm_fMath.1) (t _ mm_fMath.2.2.2.2) (by omega) (by rw [mm_v_sum]; omega) (by omega) (by omega) hd (k p e R s m args below meth c0 Q C H locs lsm hH hS hl hz)
theorem mm_oinit (n : Nat) {idx c : Nat} (hd : decode K.cc pc = .ok (.invokespecial idx, 3)) (hk : Cond.methodLink K.nm.cls idx Lib.objectInit ∈ mm_tb) (hn : pc + 3 = n) (hw : (st.map fun v => v.category).sum ≤ 8) (k : mm_wp l G (d + 1) K P n ls st T M uc us) : mm_wp l G (d + 1) K P pc ls (.ref c :: st) T M uc us := by
  subst hn
  intro p e R s m args below meth c0 Q C H locs lsm hH hS hl hz
  have hR := C.2.2.1
  have t := C.1.2.2.2.2
  refine W.objInit C.1.1 C.1.2.1 C.1.2.2.2.1 (t _ hk) (t _ mm_fObj.1) (t _ mm_fObj.2) rfl (hl.2.1.trans C.1.2.2.1.symm) rfl hd (by omega) ?_ (k p e R s m args below meth c0 Q C H locs lsm hH hS hl hz)
  have h8 : 2 * (F0 m pc lsm (mm_v G.ba G.bb (.ref c) :: st.map (mm_v G.ba G.bb))).monitorRoom + ((st.map (mm_v G.ba G.bb)).map fun v => v.category).sum ≤ 8 := lv_room (by rw [mm_v_sum]; exact hw)
  exact Nat.le_trans (Nat.add_le_add_right h8 12) (by omega)
theorem mm_copy (n : Nat) {idx c0 c1 n0 n1 : Nat} {r0 r1 : List (Option (Option Nat))} {sp dp z : Int32} (hd : decode K.cc pc = .ok (.invokestatic idx, 3)) (hk : Cond.methodLink K.nm.cls idx arraycopyName ∈ mm_tb) (hn : pc + 3 = n) (hw : (st.map fun v => v.category).sum ≤ 8) (h0 : T[c0]? = some (13, n0, r0)) (h1 : T[c1]? = some (13, n1, r1)) (i1 : ¬ sp < 0) (i2 : ¬ dp < 0) (i3 : ¬ z < 0) (i4 : sp.toNatClampNeg + z.toNatClampNeg ≤ n0) (i5 : dp.toNatClampNeg + z.toNatClampNeg ≤ n1)
    (k : mm_wp l G (d + 1) K P n ls st T (va_up M c1 (va_cpy (M c0) (M c1) sp.toNatClampNeg dp.toNatClampNeg z.toNatClampNeg)) uc us) : mm_wp l G (d + 1) K P pc ls (.int z :: .int dp :: .ref c1 :: .int sp :: .ref c0 :: st) T M uc us := by
  subst hn
  intro p e R s m args below meth cd Q C H locs lsm hH hS hl hz
  have hR := C.2.2.1
  have t := C.1.2.2.2.2
  refine va_copyi (ty := .int) C.1.1 C.1.2.1 (C.1.2.2.1.trans hl.2.1.symm) C.1.2.2.2.1 (t _ hk) (t _ mm_fCopy.1) (t _ mm_fCopy.2.1) (t _ mm_fCopy.2.2) C.2.2.2.1.1 hH mm_hD hS c0 c1 0 0 (mm_ws_get h0) (mm_ws_get h1) rfl rfl rfl i1 i2 i3 i4 i5 (fun _ _ => rfl) (by omega) ?_ hd (fun H1 locs1 hP1 hD1 hS1 => ?_)
  · rw [mm_v_sum]
    have : nativeFrameWords "java/lang/System" "arraycopy" 5 = 7 := by decide
    rw [this]
    omega
  · refine k p e R s m args below meth cd Q C H1 locs1 lsm ?_ hS1 hl hz
    rw [← mm_e_I G.ba G.cy n1 r1, mm_ws_put h1] at hP1
    exact hP1
end MR
end
section
theorem mm_met.mono {l : Launch} {G : mm_G} {d : Nat} {Y : mm_R} {av : List Value} {T : mm_T} {M : mm_M} {P P' : mm_P} (h : mm_met l G d Y av T M P) (hp : ∀ v T1 M1, P v T1 M1 → P' v T1 M1) : mm_met l G d Y av T M P' := by
  intro p e ha hc hk s m args below hf happ hP hK
  obtain ⟨n, o, h1, h2, h3, ⟨⟨v, T1, M1, q1, q2, q3⟩, q4⟩, h5⟩ := h p e ha hc hk s m args below hf happ hP hK
  exact ⟨n, o, h1, h2, h3, ⟨⟨v, T1, M1, q1, hp _ _ _ q2, q3⟩, q4⟩, h5⟩
theorem mm_pi_mono {Q Q' : Int32 → mm_T → mm_M → Prop} (h : ∀ r T M, Q r T M → Q' r T M) : ∀ v T M, mm_pi Q v T M → mm_pi Q' v T M := fun _ _ _ ⟨r, e, q⟩ => ⟨r, e, h _ _ _ q⟩
theorem mm_pv_mono {Q Q' : mm_T → mm_M → Prop} (h : ∀ T M, Q T M → Q' T M) : ∀ v T M, mm_pv Q v T M → mm_pv Q' v T M := fun _ _ _ ⟨e, q⟩ => ⟨e, h _ _ q⟩
def mm_q (r : Option Nat) : Value := va_rf r
section MT
variable {l : Launch} {G : mm_G} {d : Nat} {K Y : mm_R} {P : mm_P} {pc : Nat} {ls st : List Value} {T : mm_T} {M : mm_M} {uc us : Nat}


theorem mm_cV0i (n : Nat) {idx c ci len : Nat} {B : String} {F : u_T} {N : Nat} {rs : List (Option (Option Nat))} (hd : decode K.cc pc = .ok (.invokevirtual idx, 3)) (hk : mm_lV K.nm.cls idx Y 0) (hn : pc + 3 = n) (hT : T[c]? = some (ci, len, rs)) (hci : ci < 13) (hcl : vwCl[ci]? = some (B, F, N)) (hB : Y.nm.cls = B) (hw : (st.map fun v => v.category).sum ≤ 8) (hb : Y.bc = 0 ∧ Y.bs = 0) (hu : uc ≤ K.bc ∧ us ≤ K.bs) (h : mm_met l G d Y [.ref c] T M (mm_pi (fun r T1 M1 => mm_wp l G (d + 1) K P n ls (.int r :: st) T1 M1 uc us))) : mm_wp l G (d + 1) K P pc ls (.ref c :: st) T M uc us :=
  mm_callV (As := []) n hd hk hn rfl hT hci hcl hB hw (by rw [hb.1, hb.2]; exact hu) (h.mono (fun v T1 M1 q => by
    rw [hb.1, hb.2]
    obtain ⟨r, e, q⟩ := q
    subst e
    exact q))

theorem mm_cV0l (n : Nat) {idx c ci len : Nat} {B : String} {F : u_T} {N : Nat} {rs : List (Option (Option Nat))} (hd : decode K.cc pc = .ok (.invokevirtual idx, 3)) (hk : mm_lV K.nm.cls idx Y 0) (hn : pc + 3 = n) (hT : T[c]? = some (ci, len, rs)) (hci : ci < 13) (hcl : vwCl[ci]? = some (B, F, N)) (hB : Y.nm.cls = B) (hw : (st.map fun v => v.category).sum ≤ 8) (hb : Y.bc = 0 ∧ Y.bs = 0) (hu : uc ≤ K.bc ∧ us ≤ K.bs) (h : mm_met l G d Y [.ref c] T M (mm_pl (fun r T1 M1 => mm_wp l G (d + 1) K P n ls (.long r :: st) T1 M1 uc us))) : mm_wp l G (d + 1) K P pc ls (.ref c :: st) T M uc us :=
  mm_callV (As := []) n hd hk hn rfl hT hci hcl hB hw (by rw [hb.1, hb.2]; exact hu) (h.mono (fun v T1 M1 q => by
    rw [hb.1, hb.2]
    obtain ⟨r, e, q⟩ := q
    subst e
    exact q))

theorem mm_cV0v (n : Nat) {idx c ci len : Nat} {B : String} {F : u_T} {N : Nat} {rs : List (Option (Option Nat))} (hd : decode K.cc pc = .ok (.invokevirtual idx, 3)) (hk : mm_lV K.nm.cls idx Y 0) (hn : pc + 3 = n) (hT : T[c]? = some (ci, len, rs)) (hci : ci < 13) (hcl : vwCl[ci]? = some (B, F, N)) (hB : Y.nm.cls = B) (hw : (st.map fun v => v.category).sum ≤ 8) (hb : Y.bc = 0 ∧ Y.bs = 0) (hu : uc ≤ K.bc ∧ us ≤ K.bs) (h : mm_met l G d Y [.ref c] T M (mm_pv (fun T1 M1 => mm_wp l G (d + 1) K P n ls st T1 M1 uc us))) : mm_wp l G (d + 1) K P pc ls (.ref c :: st) T M uc us :=
  mm_callV (As := []) n hd hk hn rfl hT hci hcl hB hw (by rw [hb.1, hb.2]; exact hu) (h.mono (fun v T1 M1 q => by
    rw [hb.1, hb.2]
    obtain ⟨e, q⟩ := q
    subst e
    exact q))

theorem mm_cV0r (n : Nat) {idx c ci len : Nat} {B : String} {F : u_T} {N : Nat} {rs : List (Option (Option Nat))} (hd : decode K.cc pc = .ok (.invokevirtual idx, 3)) (hk : mm_lV K.nm.cls idx Y 0) (hn : pc + 3 = n) (hT : T[c]? = some (ci, len, rs)) (hci : ci < 13) (hcl : vwCl[ci]? = some (B, F, N)) (hB : Y.nm.cls = B) (hw : (st.map fun v => v.category).sum ≤ 8) (hb : Y.bc = 0 ∧ Y.bs = 0) (hu : uc ≤ K.bc ∧ us ≤ K.bs) (h : mm_met l G d Y [.ref c] T M (mm_pr (fun r T1 M1 => mm_wp l G (d + 1) K P n ls (mm_q r :: st) T1 M1 uc us))) : mm_wp l G (d + 1) K P pc ls (.ref c :: st) T M uc us :=
  mm_callV (As := []) n hd hk hn rfl hT hci hcl hB hw (by rw [hb.1, hb.2]; exact hu) (h.mono (fun v T1 M1 q => by
    rw [hb.1, hb.2]
    obtain ⟨r, e, q⟩ := q
    subst e
    exact q))

theorem mm_cV1i (n : Nat) {idx c ci len : Nat} {B : String} {F : u_T} {N : Nat} {rs : List (Option (Option Nat))} {a1 : Value} (hd : decode K.cc pc = .ok (.invokevirtual idx, 3)) (hk : mm_lV K.nm.cls idx Y 1) (hn : pc + 3 = n) (hT : T[c]? = some (ci, len, rs)) (hci : ci < 13) (hcl : vwCl[ci]? = some (B, F, N)) (hB : Y.nm.cls = B) (hw : (st.map fun v => v.category).sum ≤ 8) (hb : Y.bc = 0 ∧ Y.bs = 0) (hu : uc ≤ K.bc ∧ us ≤ K.bs) (h : mm_met l G d Y [.ref c, a1] T M (mm_pi (fun r T1 M1 => mm_wp l G (d + 1) K P n ls (.int r :: st) T1 M1 uc us))) : mm_wp l G (d + 1) K P pc ls (a1 :: .ref c :: st) T M uc us :=
  mm_callV (As := [a1]) n hd hk hn rfl hT hci hcl hB hw (by rw [hb.1, hb.2]; exact hu) (h.mono (fun v T1 M1 q => by
    rw [hb.1, hb.2]
    obtain ⟨r, e, q⟩ := q
    subst e
    exact q))

theorem mm_cV1l (n : Nat) {idx c ci len : Nat} {B : String} {F : u_T} {N : Nat} {rs : List (Option (Option Nat))} {a1 : Value} (hd : decode K.cc pc = .ok (.invokevirtual idx, 3)) (hk : mm_lV K.nm.cls idx Y 1) (hn : pc + 3 = n) (hT : T[c]? = some (ci, len, rs)) (hci : ci < 13) (hcl : vwCl[ci]? = some (B, F, N)) (hB : Y.nm.cls = B) (hw : (st.map fun v => v.category).sum ≤ 8) (hb : Y.bc = 0 ∧ Y.bs = 0) (hu : uc ≤ K.bc ∧ us ≤ K.bs) (h : mm_met l G d Y [.ref c, a1] T M (mm_pl (fun r T1 M1 => mm_wp l G (d + 1) K P n ls (.long r :: st) T1 M1 uc us))) : mm_wp l G (d + 1) K P pc ls (a1 :: .ref c :: st) T M uc us :=
  mm_callV (As := [a1]) n hd hk hn rfl hT hci hcl hB hw (by rw [hb.1, hb.2]; exact hu) (h.mono (fun v T1 M1 q => by
    rw [hb.1, hb.2]
    obtain ⟨r, e, q⟩ := q
    subst e
    exact q))

theorem mm_cV1v (n : Nat) {idx c ci len : Nat} {B : String} {F : u_T} {N : Nat} {rs : List (Option (Option Nat))} {a1 : Value} (hd : decode K.cc pc = .ok (.invokevirtual idx, 3)) (hk : mm_lV K.nm.cls idx Y 1) (hn : pc + 3 = n) (hT : T[c]? = some (ci, len, rs)) (hci : ci < 13) (hcl : vwCl[ci]? = some (B, F, N)) (hB : Y.nm.cls = B) (hw : (st.map fun v => v.category).sum ≤ 8) (hb : Y.bc = 0 ∧ Y.bs = 0) (hu : uc ≤ K.bc ∧ us ≤ K.bs) (h : mm_met l G d Y [.ref c, a1] T M (mm_pv (fun T1 M1 => mm_wp l G (d + 1) K P n ls st T1 M1 uc us))) : mm_wp l G (d + 1) K P pc ls (a1 :: .ref c :: st) T M uc us :=
  mm_callV (As := [a1]) n hd hk hn rfl hT hci hcl hB hw (by rw [hb.1, hb.2]; exact hu) (h.mono (fun v T1 M1 q => by
    rw [hb.1, hb.2]
    obtain ⟨e, q⟩ := q
    subst e
    exact q))

theorem mm_cV1r (n : Nat) {idx c ci len : Nat} {B : String} {F : u_T} {N : Nat} {rs : List (Option (Option Nat))} {a1 : Value} (hd : decode K.cc pc = .ok (.invokevirtual idx, 3)) (hk : mm_lV K.nm.cls idx Y 1) (hn : pc + 3 = n) (hT : T[c]? = some (ci, len, rs)) (hci : ci < 13) (hcl : vwCl[ci]? = some (B, F, N)) (hB : Y.nm.cls = B) (hw : (st.map fun v => v.category).sum ≤ 8) (hb : Y.bc = 0 ∧ Y.bs = 0) (hu : uc ≤ K.bc ∧ us ≤ K.bs) (h : mm_met l G d Y [.ref c, a1] T M (mm_pr (fun r T1 M1 => mm_wp l G (d + 1) K P n ls (mm_q r :: st) T1 M1 uc us))) : mm_wp l G (d + 1) K P pc ls (a1 :: .ref c :: st) T M uc us :=
  mm_callV (As := [a1]) n hd hk hn rfl hT hci hcl hB hw (by rw [hb.1, hb.2]; exact hu) (h.mono (fun v T1 M1 q => by
    rw [hb.1, hb.2]
    obtain ⟨r, e, q⟩ := q
    subst e
    exact q))

theorem mm_cV2i (n : Nat) {idx c ci len : Nat} {B : String} {F : u_T} {N : Nat} {rs : List (Option (Option Nat))} {a1 a2 : Value} (hd : decode K.cc pc = .ok (.invokevirtual idx, 3)) (hk : mm_lV K.nm.cls idx Y 2) (hn : pc + 3 = n) (hT : T[c]? = some (ci, len, rs)) (hci : ci < 13) (hcl : vwCl[ci]? = some (B, F, N)) (hB : Y.nm.cls = B) (hw : (st.map fun v => v.category).sum ≤ 8) (hb : Y.bc = 0 ∧ Y.bs = 0) (hu : uc ≤ K.bc ∧ us ≤ K.bs) (h : mm_met l G d Y [.ref c, a1, a2] T M (mm_pi (fun r T1 M1 => mm_wp l G (d + 1) K P n ls (.int r :: st) T1 M1 uc us))) : mm_wp l G (d + 1) K P pc ls (a2 :: a1 :: .ref c :: st) T M uc us :=
  mm_callV (As := [a1, a2]) n hd hk hn rfl hT hci hcl hB hw (by rw [hb.1, hb.2]; exact hu) (h.mono (fun v T1 M1 q => by
    rw [hb.1, hb.2]
    obtain ⟨r, e, q⟩ := q
    subst e
    exact q))

theorem mm_cV2l (n : Nat) {idx c ci len : Nat} {B : String} {F : u_T} {N : Nat} {rs : List (Option (Option Nat))} {a1 a2 : Value} (hd : decode K.cc pc = .ok (.invokevirtual idx, 3)) (hk : mm_lV K.nm.cls idx Y 2) (hn : pc + 3 = n) (hT : T[c]? = some (ci, len, rs)) (hci : ci < 13) (hcl : vwCl[ci]? = some (B, F, N)) (hB : Y.nm.cls = B) (hw : (st.map fun v => v.category).sum ≤ 8) (hb : Y.bc = 0 ∧ Y.bs = 0) (hu : uc ≤ K.bc ∧ us ≤ K.bs) (h : mm_met l G d Y [.ref c, a1, a2] T M (mm_pl (fun r T1 M1 => mm_wp l G (d + 1) K P n ls (.long r :: st) T1 M1 uc us))) : mm_wp l G (d + 1) K P pc ls (a2 :: a1 :: .ref c :: st) T M uc us :=
  mm_callV (As := [a1, a2]) n hd hk hn rfl hT hci hcl hB hw (by rw [hb.1, hb.2]; exact hu) (h.mono (fun v T1 M1 q => by
    rw [hb.1, hb.2]
    obtain ⟨r, e, q⟩ := q
    subst e
    exact q))

theorem mm_cV2v (n : Nat) {idx c ci len : Nat} {B : String} {F : u_T} {N : Nat} {rs : List (Option (Option Nat))} {a1 a2 : Value} (hd : decode K.cc pc = .ok (.invokevirtual idx, 3)) (hk : mm_lV K.nm.cls idx Y 2) (hn : pc + 3 = n) (hT : T[c]? = some (ci, len, rs)) (hci : ci < 13) (hcl : vwCl[ci]? = some (B, F, N)) (hB : Y.nm.cls = B) (hw : (st.map fun v => v.category).sum ≤ 8) (hb : Y.bc = 0 ∧ Y.bs = 0) (hu : uc ≤ K.bc ∧ us ≤ K.bs) (h : mm_met l G d Y [.ref c, a1, a2] T M (mm_pv (fun T1 M1 => mm_wp l G (d + 1) K P n ls st T1 M1 uc us))) : mm_wp l G (d + 1) K P pc ls (a2 :: a1 :: .ref c :: st) T M uc us :=
  mm_callV (As := [a1, a2]) n hd hk hn rfl hT hci hcl hB hw (by rw [hb.1, hb.2]; exact hu) (h.mono (fun v T1 M1 q => by
    rw [hb.1, hb.2]
    obtain ⟨e, q⟩ := q
    subst e
    exact q))

theorem mm_cV3i (n : Nat) {idx c ci len : Nat} {B : String} {F : u_T} {N : Nat} {rs : List (Option (Option Nat))} {a1 a2 a3 : Value} (hd : decode K.cc pc = .ok (.invokevirtual idx, 3)) (hk : mm_lV K.nm.cls idx Y 3) (hn : pc + 3 = n) (hT : T[c]? = some (ci, len, rs)) (hci : ci < 13) (hcl : vwCl[ci]? = some (B, F, N)) (hB : Y.nm.cls = B) (hw : (st.map fun v => v.category).sum ≤ 8) (hb : Y.bc = 0 ∧ Y.bs = 0) (hu : uc ≤ K.bc ∧ us ≤ K.bs) (h : mm_met l G d Y [.ref c, a1, a2, a3] T M (mm_pi (fun r T1 M1 => mm_wp l G (d + 1) K P n ls (.int r :: st) T1 M1 uc us))) : mm_wp l G (d + 1) K P pc ls (a3 :: a2 :: a1 :: .ref c :: st) T M uc us :=
  mm_callV (As := [a1, a2, a3]) n hd hk hn rfl hT hci hcl hB hw (by rw [hb.1, hb.2]; exact hu) (h.mono (fun v T1 M1 q => by
    rw [hb.1, hb.2]
    obtain ⟨r, e, q⟩ := q
    subst e
    exact q))

theorem mm_cV3v (n : Nat) {idx c ci len : Nat} {B : String} {F : u_T} {N : Nat} {rs : List (Option (Option Nat))} {a1 a2 a3 : Value} (hd : decode K.cc pc = .ok (.invokevirtual idx, 3)) (hk : mm_lV K.nm.cls idx Y 3) (hn : pc + 3 = n) (hT : T[c]? = some (ci, len, rs)) (hci : ci < 13) (hcl : vwCl[ci]? = some (B, F, N)) (hB : Y.nm.cls = B) (hw : (st.map fun v => v.category).sum ≤ 8) (hb : Y.bc = 0 ∧ Y.bs = 0) (hu : uc ≤ K.bc ∧ us ≤ K.bs) (h : mm_met l G d Y [.ref c, a1, a2, a3] T M (mm_pv (fun T1 M1 => mm_wp l G (d + 1) K P n ls st T1 M1 uc us))) : mm_wp l G (d + 1) K P pc ls (a3 :: a2 :: a1 :: .ref c :: st) T M uc us :=
  mm_callV (As := [a1, a2, a3]) n hd hk hn rfl hT hci hcl hB hw (by rw [hb.1, hb.2]; exact hu) (h.mono (fun v T1 M1 q => by
    rw [hb.1, hb.2]
    obtain ⟨e, q⟩ := q
    subst e
    exact q))

theorem mm_cV4i (n : Nat) {idx c ci len : Nat} {B : String} {F : u_T} {N : Nat} {rs : List (Option (Option Nat))} {a1 a2 a3 a4 : Value} (hd : decode K.cc pc = .ok (.invokevirtual idx, 3)) (hk : mm_lV K.nm.cls idx Y 4) (hn : pc + 3 = n) (hT : T[c]? = some (ci, len, rs)) (hci : ci < 13) (hcl : vwCl[ci]? = some (B, F, N)) (hB : Y.nm.cls = B) (hw : (st.map fun v => v.category).sum ≤ 8) (hb : Y.bc = 0 ∧ Y.bs = 0) (hu : uc ≤ K.bc ∧ us ≤ K.bs) (h : mm_met l G d Y [.ref c, a1, a2, a3, a4] T M (mm_pi (fun r T1 M1 => mm_wp l G (d + 1) K P n ls (.int r :: st) T1 M1 uc us))) : mm_wp l G (d + 1) K P pc ls (a4 :: a3 :: a2 :: a1 :: .ref c :: st) T M uc us :=
  mm_callV (As := [a1, a2, a3, a4]) n hd hk hn rfl hT hci hcl hB hw (by rw [hb.1, hb.2]; exact hu) (h.mono (fun v T1 M1 q => by
    rw [hb.1, hb.2]
    obtain ⟨r, e, q⟩ := q
    subst e
    exact q))

theorem mm_cV4v (n : Nat) {idx c ci len : Nat} {B : String} {F : u_T} {N : Nat} {rs : List (Option (Option Nat))} {a1 a2 a3 a4 : Value} (hd : decode K.cc pc = .ok (.invokevirtual idx, 3)) (hk : mm_lV K.nm.cls idx Y 4) (hn : pc + 3 = n) (hT : T[c]? = some (ci, len, rs)) (hci : ci < 13) (hcl : vwCl[ci]? = some (B, F, N)) (hB : Y.nm.cls = B) (hw : (st.map fun v => v.category).sum ≤ 8) (hb : Y.bc = 0 ∧ Y.bs = 0) (hu : uc ≤ K.bc ∧ us ≤ K.bs) (h : mm_met l G d Y [.ref c, a1, a2, a3, a4] T M (mm_pv (fun T1 M1 => mm_wp l G (d + 1) K P n ls st T1 M1 uc us))) : mm_wp l G (d + 1) K P pc ls (a4 :: a3 :: a2 :: a1 :: .ref c :: st) T M uc us :=
  mm_callV (As := [a1, a2, a3, a4]) n hd hk hn rfl hT hci hcl hB hw (by rw [hb.1, hb.2]; exact hu) (h.mono (fun v T1 M1 q => by
    rw [hb.1, hb.2]
    obtain ⟨e, q⟩ := q
    subst e
    exact q))

theorem mm_cV5i (n : Nat) {idx c ci len : Nat} {B : String} {F : u_T} {N : Nat} {rs : List (Option (Option Nat))} {a1 a2 a3 a4 a5 : Value} (hd : decode K.cc pc = .ok (.invokevirtual idx, 3)) (hk : mm_lV K.nm.cls idx Y 5) (hn : pc + 3 = n) (hT : T[c]? = some (ci, len, rs)) (hci : ci < 13) (hcl : vwCl[ci]? = some (B, F, N)) (hB : Y.nm.cls = B) (hw : (st.map fun v => v.category).sum ≤ 8) (hb : Y.bc = 0 ∧ Y.bs = 0) (hu : uc ≤ K.bc ∧ us ≤ K.bs) (h : mm_met l G d Y [.ref c, a1, a2, a3, a4, a5] T M (mm_pi (fun r T1 M1 => mm_wp l G (d + 1) K P n ls (.int r :: st) T1 M1 uc us))) : mm_wp l G (d + 1) K P pc ls (a5 :: a4 :: a3 :: a2 :: a1 :: .ref c :: st) T M uc us :=
  mm_callV (As := [a1, a2, a3, a4, a5]) n hd hk hn rfl hT hci hcl hB hw (by rw [hb.1, hb.2]; exact hu) (h.mono (fun v T1 M1 q => by
    rw [hb.1, hb.2]
    obtain ⟨r, e, q⟩ := q
    subst e
    exact q))

theorem mm_cV5v (n : Nat) {idx c ci len : Nat} {B : String} {F : u_T} {N : Nat} {rs : List (Option (Option Nat))} {a1 a2 a3 a4 a5 : Value} (hd : decode K.cc pc = .ok (.invokevirtual idx, 3)) (hk : mm_lV K.nm.cls idx Y 5) (hn : pc + 3 = n) (hT : T[c]? = some (ci, len, rs)) (hci : ci < 13) (hcl : vwCl[ci]? = some (B, F, N)) (hB : Y.nm.cls = B) (hw : (st.map fun v => v.category).sum ≤ 8) (hb : Y.bc = 0 ∧ Y.bs = 0) (hu : uc ≤ K.bc ∧ us ≤ K.bs) (h : mm_met l G d Y [.ref c, a1, a2, a3, a4, a5] T M (mm_pv (fun T1 M1 => mm_wp l G (d + 1) K P n ls st T1 M1 uc us))) : mm_wp l G (d + 1) K P pc ls (a5 :: a4 :: a3 :: a2 :: a1 :: .ref c :: st) T M uc us :=
  mm_callV (As := [a1, a2, a3, a4, a5]) n hd hk hn rfl hT hci hcl hB hw (by rw [hb.1, hb.2]; exact hu) (h.mono (fun v T1 M1 q => by
    rw [hb.1, hb.2]
    obtain ⟨e, q⟩ := q
    subst e
    exact q))

theorem mm_cV6i (n : Nat) {idx c ci len : Nat} {B : String} {F : u_T} {N : Nat} {rs : List (Option (Option Nat))} {a1 a2 a3 a4 a5 a6 : Value} (hd : decode K.cc pc = .ok (.invokevirtual idx, 3)) (hk : mm_lV K.nm.cls idx Y 6) (hn : pc + 3 = n) (hT : T[c]? = some (ci, len, rs)) (hci : ci < 13) (hcl : vwCl[ci]? = some (B, F, N)) (hB : Y.nm.cls = B) (hw : (st.map fun v => v.category).sum ≤ 8) (hb : Y.bc = 0 ∧ Y.bs = 0) (hu : uc ≤ K.bc ∧ us ≤ K.bs) (h : mm_met l G d Y [.ref c, a1, a2, a3, a4, a5, a6] T M (mm_pi (fun r T1 M1 => mm_wp l G (d + 1) K P n ls (.int r :: st) T1 M1 uc us))) : mm_wp l G (d + 1) K P pc ls (a6 :: a5 :: a4 :: a3 :: a2 :: a1 :: .ref c :: st) T M uc us :=
  mm_callV (As := [a1, a2, a3, a4, a5, a6]) n hd hk hn rfl hT hci hcl hB hw (by rw [hb.1, hb.2]; exact hu) (h.mono (fun v T1 M1 q => by
    rw [hb.1, hb.2]
    obtain ⟨r, e, q⟩ := q
    subst e
    exact q))

theorem mm_cV6v (n : Nat) {idx c ci len : Nat} {B : String} {F : u_T} {N : Nat} {rs : List (Option (Option Nat))} {a1 a2 a3 a4 a5 a6 : Value} (hd : decode K.cc pc = .ok (.invokevirtual idx, 3)) (hk : mm_lV K.nm.cls idx Y 6) (hn : pc + 3 = n) (hT : T[c]? = some (ci, len, rs)) (hci : ci < 13) (hcl : vwCl[ci]? = some (B, F, N)) (hB : Y.nm.cls = B) (hw : (st.map fun v => v.category).sum ≤ 8) (hb : Y.bc = 0 ∧ Y.bs = 0) (hu : uc ≤ K.bc ∧ us ≤ K.bs) (h : mm_met l G d Y [.ref c, a1, a2, a3, a4, a5, a6] T M (mm_pv (fun T1 M1 => mm_wp l G (d + 1) K P n ls st T1 M1 uc us))) : mm_wp l G (d + 1) K P pc ls (a6 :: a5 :: a4 :: a3 :: a2 :: a1 :: .ref c :: st) T M uc us :=
  mm_callV (As := [a1, a2, a3, a4, a5, a6]) n hd hk hn rfl hT hci hcl hB hw (by rw [hb.1, hb.2]; exact hu) (h.mono (fun v T1 M1 q => by
    rw [hb.1, hb.2]
    obtain ⟨e, q⟩ := q
    subst e
    exact q))

theorem mm_cS0i (n : Nat) {idx : Nat} (hd : decode K.cc pc = .ok (.invokestatic idx, 3)) (hk : mm_lS K.nm.cls idx Y 0) (hn : pc + 3 = n) (hw : (st.map fun v => v.category).sum ≤ 8) (hb : Y.bc = 0 ∧ Y.bs = 0) (hu : uc ≤ K.bc ∧ us ≤ K.bs) (h : mm_met l G d Y [] T M (mm_pi (fun r T1 M1 => mm_wp l G (d + 1) K P n ls (.int r :: st) T1 M1 uc us))) : mm_wp l G (d + 1) K P pc ls (st) T M uc us :=
  mm_callS (As := []) n hd hk hn rfl hw (by rw [hb.1, hb.2]; exact hu) (h.mono (fun v T1 M1 q => by
    rw [hb.1, hb.2]
    obtain ⟨r, e, q⟩ := q
    subst e
    exact q))

theorem mm_cS0l (n : Nat) {idx : Nat} (hd : decode K.cc pc = .ok (.invokestatic idx, 3)) (hk : mm_lS K.nm.cls idx Y 0) (hn : pc + 3 = n) (hw : (st.map fun v => v.category).sum ≤ 8) (hb : Y.bc = 0 ∧ Y.bs = 0) (hu : uc ≤ K.bc ∧ us ≤ K.bs) (h : mm_met l G d Y [] T M (mm_pl (fun r T1 M1 => mm_wp l G (d + 1) K P n ls (.long r :: st) T1 M1 uc us))) : mm_wp l G (d + 1) K P pc ls (st) T M uc us :=
  mm_callS (As := []) n hd hk hn rfl hw (by rw [hb.1, hb.2]; exact hu) (h.mono (fun v T1 M1 q => by
    rw [hb.1, hb.2]
    obtain ⟨r, e, q⟩ := q
    subst e
    exact q))

theorem mm_cS0v (n : Nat) {idx : Nat} (hd : decode K.cc pc = .ok (.invokestatic idx, 3)) (hk : mm_lS K.nm.cls idx Y 0) (hn : pc + 3 = n) (hw : (st.map fun v => v.category).sum ≤ 8) (hb : Y.bc = 0 ∧ Y.bs = 0) (hu : uc ≤ K.bc ∧ us ≤ K.bs) (h : mm_met l G d Y [] T M (mm_pv (fun T1 M1 => mm_wp l G (d + 1) K P n ls st T1 M1 uc us))) : mm_wp l G (d + 1) K P pc ls (st) T M uc us :=
  mm_callS (As := []) n hd hk hn rfl hw (by rw [hb.1, hb.2]; exact hu) (h.mono (fun v T1 M1 q => by
    rw [hb.1, hb.2]
    obtain ⟨e, q⟩ := q
    subst e
    exact q))

theorem mm_cS0r (n : Nat) {idx : Nat} (hd : decode K.cc pc = .ok (.invokestatic idx, 3)) (hk : mm_lS K.nm.cls idx Y 0) (hn : pc + 3 = n) (hw : (st.map fun v => v.category).sum ≤ 8) (hb : Y.bc = 0 ∧ Y.bs = 0) (hu : uc ≤ K.bc ∧ us ≤ K.bs) (h : mm_met l G d Y [] T M (mm_pr (fun r T1 M1 => mm_wp l G (d + 1) K P n ls (mm_q r :: st) T1 M1 uc us))) : mm_wp l G (d + 1) K P pc ls (st) T M uc us :=
  mm_callS (As := []) n hd hk hn rfl hw (by rw [hb.1, hb.2]; exact hu) (h.mono (fun v T1 M1 q => by
    rw [hb.1, hb.2]
    obtain ⟨r, e, q⟩ := q
    subst e
    exact q))

theorem mm_cS1i (n : Nat) {idx : Nat} {a1 : Value} (hd : decode K.cc pc = .ok (.invokestatic idx, 3)) (hk : mm_lS K.nm.cls idx Y 1) (hn : pc + 3 = n) (hw : (st.map fun v => v.category).sum ≤ 8) (hb : Y.bc = 0 ∧ Y.bs = 0) (hu : uc ≤ K.bc ∧ us ≤ K.bs) (h : mm_met l G d Y [a1] T M (mm_pi (fun r T1 M1 => mm_wp l G (d + 1) K P n ls (.int r :: st) T1 M1 uc us))) : mm_wp l G (d + 1) K P pc ls (a1 :: st) T M uc us :=
  mm_callS (As := [a1]) n hd hk hn rfl hw (by rw [hb.1, hb.2]; exact hu) (h.mono (fun v T1 M1 q => by
    rw [hb.1, hb.2]
    obtain ⟨r, e, q⟩ := q
    subst e
    exact q))

theorem mm_cS1l (n : Nat) {idx : Nat} {a1 : Value} (hd : decode K.cc pc = .ok (.invokestatic idx, 3)) (hk : mm_lS K.nm.cls idx Y 1) (hn : pc + 3 = n) (hw : (st.map fun v => v.category).sum ≤ 8) (hb : Y.bc = 0 ∧ Y.bs = 0) (hu : uc ≤ K.bc ∧ us ≤ K.bs) (h : mm_met l G d Y [a1] T M (mm_pl (fun r T1 M1 => mm_wp l G (d + 1) K P n ls (.long r :: st) T1 M1 uc us))) : mm_wp l G (d + 1) K P pc ls (a1 :: st) T M uc us :=
  mm_callS (As := [a1]) n hd hk hn rfl hw (by rw [hb.1, hb.2]; exact hu) (h.mono (fun v T1 M1 q => by
    rw [hb.1, hb.2]
    obtain ⟨r, e, q⟩ := q
    subst e
    exact q))

theorem mm_cS1v (n : Nat) {idx : Nat} {a1 : Value} (hd : decode K.cc pc = .ok (.invokestatic idx, 3)) (hk : mm_lS K.nm.cls idx Y 1) (hn : pc + 3 = n) (hw : (st.map fun v => v.category).sum ≤ 8) (hb : Y.bc = 0 ∧ Y.bs = 0) (hu : uc ≤ K.bc ∧ us ≤ K.bs) (h : mm_met l G d Y [a1] T M (mm_pv (fun T1 M1 => mm_wp l G (d + 1) K P n ls st T1 M1 uc us))) : mm_wp l G (d + 1) K P pc ls (a1 :: st) T M uc us :=
  mm_callS (As := [a1]) n hd hk hn rfl hw (by rw [hb.1, hb.2]; exact hu) (h.mono (fun v T1 M1 q => by
    rw [hb.1, hb.2]
    obtain ⟨e, q⟩ := q
    subst e
    exact q))

theorem mm_cS1r (n : Nat) {idx : Nat} {a1 : Value} (hd : decode K.cc pc = .ok (.invokestatic idx, 3)) (hk : mm_lS K.nm.cls idx Y 1) (hn : pc + 3 = n) (hw : (st.map fun v => v.category).sum ≤ 8) (hb : Y.bc = 0 ∧ Y.bs = 0) (hu : uc ≤ K.bc ∧ us ≤ K.bs) (h : mm_met l G d Y [a1] T M (mm_pr (fun r T1 M1 => mm_wp l G (d + 1) K P n ls (mm_q r :: st) T1 M1 uc us))) : mm_wp l G (d + 1) K P pc ls (a1 :: st) T M uc us :=
  mm_callS (As := [a1]) n hd hk hn rfl hw (by rw [hb.1, hb.2]; exact hu) (h.mono (fun v T1 M1 q => by
    rw [hb.1, hb.2]
    obtain ⟨r, e, q⟩ := q
    subst e
    exact q))

theorem mm_cS2i (n : Nat) {idx : Nat} {a1 a2 : Value} (hd : decode K.cc pc = .ok (.invokestatic idx, 3)) (hk : mm_lS K.nm.cls idx Y 2) (hn : pc + 3 = n) (hw : (st.map fun v => v.category).sum ≤ 8) (hb : Y.bc = 0 ∧ Y.bs = 0) (hu : uc ≤ K.bc ∧ us ≤ K.bs) (h : mm_met l G d Y [a1, a2] T M (mm_pi (fun r T1 M1 => mm_wp l G (d + 1) K P n ls (.int r :: st) T1 M1 uc us))) : mm_wp l G (d + 1) K P pc ls (a2 :: a1 :: st) T M uc us :=
  mm_callS (As := [a1, a2]) n hd hk hn rfl hw (by rw [hb.1, hb.2]; exact hu) (h.mono (fun v T1 M1 q => by
    rw [hb.1, hb.2]
    obtain ⟨r, e, q⟩ := q
    subst e
    exact q))

theorem mm_cS2l (n : Nat) {idx : Nat} {a1 a2 : Value} (hd : decode K.cc pc = .ok (.invokestatic idx, 3)) (hk : mm_lS K.nm.cls idx Y 2) (hn : pc + 3 = n) (hw : (st.map fun v => v.category).sum ≤ 8) (hb : Y.bc = 0 ∧ Y.bs = 0) (hu : uc ≤ K.bc ∧ us ≤ K.bs) (h : mm_met l G d Y [a1, a2] T M (mm_pl (fun r T1 M1 => mm_wp l G (d + 1) K P n ls (.long r :: st) T1 M1 uc us))) : mm_wp l G (d + 1) K P pc ls (a2 :: a1 :: st) T M uc us :=
  mm_callS (As := [a1, a2]) n hd hk hn rfl hw (by rw [hb.1, hb.2]; exact hu) (h.mono (fun v T1 M1 q => by
    rw [hb.1, hb.2]
    obtain ⟨r, e, q⟩ := q
    subst e
    exact q))

theorem mm_cS2v (n : Nat) {idx : Nat} {a1 a2 : Value} (hd : decode K.cc pc = .ok (.invokestatic idx, 3)) (hk : mm_lS K.nm.cls idx Y 2) (hn : pc + 3 = n) (hw : (st.map fun v => v.category).sum ≤ 8) (hb : Y.bc = 0 ∧ Y.bs = 0) (hu : uc ≤ K.bc ∧ us ≤ K.bs) (h : mm_met l G d Y [a1, a2] T M (mm_pv (fun T1 M1 => mm_wp l G (d + 1) K P n ls st T1 M1 uc us))) : mm_wp l G (d + 1) K P pc ls (a2 :: a1 :: st) T M uc us :=
  mm_callS (As := [a1, a2]) n hd hk hn rfl hw (by rw [hb.1, hb.2]; exact hu) (h.mono (fun v T1 M1 q => by
    rw [hb.1, hb.2]
    obtain ⟨e, q⟩ := q
    subst e
    exact q))

theorem mm_cS3i (n : Nat) {idx : Nat} {a1 a2 a3 : Value} (hd : decode K.cc pc = .ok (.invokestatic idx, 3)) (hk : mm_lS K.nm.cls idx Y 3) (hn : pc + 3 = n) (hw : (st.map fun v => v.category).sum ≤ 8) (hb : Y.bc = 0 ∧ Y.bs = 0) (hu : uc ≤ K.bc ∧ us ≤ K.bs) (h : mm_met l G d Y [a1, a2, a3] T M (mm_pi (fun r T1 M1 => mm_wp l G (d + 1) K P n ls (.int r :: st) T1 M1 uc us))) : mm_wp l G (d + 1) K P pc ls (a3 :: a2 :: a1 :: st) T M uc us :=
  mm_callS (As := [a1, a2, a3]) n hd hk hn rfl hw (by rw [hb.1, hb.2]; exact hu) (h.mono (fun v T1 M1 q => by
    rw [hb.1, hb.2]
    obtain ⟨r, e, q⟩ := q
    subst e
    exact q))

theorem mm_cS3v (n : Nat) {idx : Nat} {a1 a2 a3 : Value} (hd : decode K.cc pc = .ok (.invokestatic idx, 3)) (hk : mm_lS K.nm.cls idx Y 3) (hn : pc + 3 = n) (hw : (st.map fun v => v.category).sum ≤ 8) (hb : Y.bc = 0 ∧ Y.bs = 0) (hu : uc ≤ K.bc ∧ us ≤ K.bs) (h : mm_met l G d Y [a1, a2, a3] T M (mm_pv (fun T1 M1 => mm_wp l G (d + 1) K P n ls st T1 M1 uc us))) : mm_wp l G (d + 1) K P pc ls (a3 :: a2 :: a1 :: st) T M uc us :=
  mm_callS (As := [a1, a2, a3]) n hd hk hn rfl hw (by rw [hb.1, hb.2]; exact hu) (h.mono (fun v T1 M1 q => by
    rw [hb.1, hb.2]
    obtain ⟨e, q⟩ := q
    subst e
    exact q))

theorem mm_cS4i (n : Nat) {idx : Nat} {a1 a2 a3 a4 : Value} (hd : decode K.cc pc = .ok (.invokestatic idx, 3)) (hk : mm_lS K.nm.cls idx Y 4) (hn : pc + 3 = n) (hw : (st.map fun v => v.category).sum ≤ 8) (hb : Y.bc = 0 ∧ Y.bs = 0) (hu : uc ≤ K.bc ∧ us ≤ K.bs) (h : mm_met l G d Y [a1, a2, a3, a4] T M (mm_pi (fun r T1 M1 => mm_wp l G (d + 1) K P n ls (.int r :: st) T1 M1 uc us))) : mm_wp l G (d + 1) K P pc ls (a4 :: a3 :: a2 :: a1 :: st) T M uc us :=
  mm_callS (As := [a1, a2, a3, a4]) n hd hk hn rfl hw (by rw [hb.1, hb.2]; exact hu) (h.mono (fun v T1 M1 q => by
    rw [hb.1, hb.2]
    obtain ⟨r, e, q⟩ := q
    subst e
    exact q))

theorem mm_cS4v (n : Nat) {idx : Nat} {a1 a2 a3 a4 : Value} (hd : decode K.cc pc = .ok (.invokestatic idx, 3)) (hk : mm_lS K.nm.cls idx Y 4) (hn : pc + 3 = n) (hw : (st.map fun v => v.category).sum ≤ 8) (hb : Y.bc = 0 ∧ Y.bs = 0) (hu : uc ≤ K.bc ∧ us ≤ K.bs) (h : mm_met l G d Y [a1, a2, a3, a4] T M (mm_pv (fun T1 M1 => mm_wp l G (d + 1) K P n ls st T1 M1 uc us))) : mm_wp l G (d + 1) K P pc ls (a4 :: a3 :: a2 :: a1 :: st) T M uc us :=
  mm_callS (As := [a1, a2, a3, a4]) n hd hk hn rfl hw (by rw [hb.1, hb.2]; exact hu) (h.mono (fun v T1 M1 q => by
    rw [hb.1, hb.2]
    obtain ⟨e, q⟩ := q
    subst e
    exact q))

theorem mm_cS5i (n : Nat) {idx : Nat} {a1 a2 a3 a4 a5 : Value} (hd : decode K.cc pc = .ok (.invokestatic idx, 3)) (hk : mm_lS K.nm.cls idx Y 5) (hn : pc + 3 = n) (hw : (st.map fun v => v.category).sum ≤ 8) (hb : Y.bc = 0 ∧ Y.bs = 0) (hu : uc ≤ K.bc ∧ us ≤ K.bs) (h : mm_met l G d Y [a1, a2, a3, a4, a5] T M (mm_pi (fun r T1 M1 => mm_wp l G (d + 1) K P n ls (.int r :: st) T1 M1 uc us))) : mm_wp l G (d + 1) K P pc ls (a5 :: a4 :: a3 :: a2 :: a1 :: st) T M uc us :=
  mm_callS (As := [a1, a2, a3, a4, a5]) n hd hk hn rfl hw (by rw [hb.1, hb.2]; exact hu) (h.mono (fun v T1 M1 q => by
    rw [hb.1, hb.2]
    obtain ⟨r, e, q⟩ := q
    subst e
    exact q))

theorem mm_cS5v (n : Nat) {idx : Nat} {a1 a2 a3 a4 a5 : Value} (hd : decode K.cc pc = .ok (.invokestatic idx, 3)) (hk : mm_lS K.nm.cls idx Y 5) (hn : pc + 3 = n) (hw : (st.map fun v => v.category).sum ≤ 8) (hb : Y.bc = 0 ∧ Y.bs = 0) (hu : uc ≤ K.bc ∧ us ≤ K.bs) (h : mm_met l G d Y [a1, a2, a3, a4, a5] T M (mm_pv (fun T1 M1 => mm_wp l G (d + 1) K P n ls st T1 M1 uc us))) : mm_wp l G (d + 1) K P pc ls (a5 :: a4 :: a3 :: a2 :: a1 :: st) T M uc us :=
  mm_callS (As := [a1, a2, a3, a4, a5]) n hd hk hn rfl hw (by rw [hb.1, hb.2]; exact hu) (h.mono (fun v T1 M1 q => by
    rw [hb.1, hb.2]
    obtain ⟨e, q⟩ := q
    subst e
    exact q))

theorem mm_cS6i (n : Nat) {idx : Nat} {a1 a2 a3 a4 a5 a6 : Value} (hd : decode K.cc pc = .ok (.invokestatic idx, 3)) (hk : mm_lS K.nm.cls idx Y 6) (hn : pc + 3 = n) (hw : (st.map fun v => v.category).sum ≤ 8) (hb : Y.bc = 0 ∧ Y.bs = 0) (hu : uc ≤ K.bc ∧ us ≤ K.bs) (h : mm_met l G d Y [a1, a2, a3, a4, a5, a6] T M (mm_pi (fun r T1 M1 => mm_wp l G (d + 1) K P n ls (.int r :: st) T1 M1 uc us))) : mm_wp l G (d + 1) K P pc ls (a6 :: a5 :: a4 :: a3 :: a2 :: a1 :: st) T M uc us :=
  mm_callS (As := [a1, a2, a3, a4, a5, a6]) n hd hk hn rfl hw (by rw [hb.1, hb.2]; exact hu) (h.mono (fun v T1 M1 q => by
    rw [hb.1, hb.2]
    obtain ⟨r, e, q⟩ := q
    subst e
    exact q))

theorem mm_cS6v (n : Nat) {idx : Nat} {a1 a2 a3 a4 a5 a6 : Value} (hd : decode K.cc pc = .ok (.invokestatic idx, 3)) (hk : mm_lS K.nm.cls idx Y 6) (hn : pc + 3 = n) (hw : (st.map fun v => v.category).sum ≤ 8) (hb : Y.bc = 0 ∧ Y.bs = 0) (hu : uc ≤ K.bc ∧ us ≤ K.bs) (h : mm_met l G d Y [a1, a2, a3, a4, a5, a6] T M (mm_pv (fun T1 M1 => mm_wp l G (d + 1) K P n ls st T1 M1 uc us))) : mm_wp l G (d + 1) K P pc ls (a6 :: a5 :: a4 :: a3 :: a2 :: a1 :: st) T M uc us :=
  mm_callS (As := [a1, a2, a3, a4, a5, a6]) n hd hk hn rfl hw (by rw [hb.1, hb.2]; exact hu) (h.mono (fun v T1 M1 q => by
    rw [hb.1, hb.2]
    obtain ⟨e, q⟩ := q
    subst e
    exact q))

theorem mm_cSN0i (n : Nat) {idx : Nat} {host : String} (hd : decode K.cc pc = .ok (.invokestatic idx, 3)) (hk : mm_lSN K.nm.cls idx Y 0 host) (hn : pc + 3 = n) (hw : (st.map fun v => v.category).sum ≤ 8) (hb : Y.bc = 0 ∧ Y.bs = 0) (hu : uc ≤ K.bc ∧ us ≤ K.bs) (h : mm_met l G d Y [] T M (mm_pi (fun r T1 M1 => mm_wp l G (d + 1) K P n ls (.int r :: st) T1 M1 uc us))) : mm_wp l G (d + 1) K P pc ls (st) T M uc us :=
  mm_callSN (As := []) n hd hk hn rfl hw (by rw [hb.1, hb.2]; exact hu) (h.mono (fun v T1 M1 q => by
    rw [hb.1, hb.2]
    obtain ⟨r, e, q⟩ := q
    subst e
    exact q))

theorem mm_cSN0l (n : Nat) {idx : Nat} {host : String} (hd : decode K.cc pc = .ok (.invokestatic idx, 3)) (hk : mm_lSN K.nm.cls idx Y 0 host) (hn : pc + 3 = n) (hw : (st.map fun v => v.category).sum ≤ 8) (hb : Y.bc = 0 ∧ Y.bs = 0) (hu : uc ≤ K.bc ∧ us ≤ K.bs) (h : mm_met l G d Y [] T M (mm_pl (fun r T1 M1 => mm_wp l G (d + 1) K P n ls (.long r :: st) T1 M1 uc us))) : mm_wp l G (d + 1) K P pc ls (st) T M uc us :=
  mm_callSN (As := []) n hd hk hn rfl hw (by rw [hb.1, hb.2]; exact hu) (h.mono (fun v T1 M1 q => by
    rw [hb.1, hb.2]
    obtain ⟨r, e, q⟩ := q
    subst e
    exact q))

theorem mm_cSN0v (n : Nat) {idx : Nat} {host : String} (hd : decode K.cc pc = .ok (.invokestatic idx, 3)) (hk : mm_lSN K.nm.cls idx Y 0 host) (hn : pc + 3 = n) (hw : (st.map fun v => v.category).sum ≤ 8) (hb : Y.bc = 0 ∧ Y.bs = 0) (hu : uc ≤ K.bc ∧ us ≤ K.bs) (h : mm_met l G d Y [] T M (mm_pv (fun T1 M1 => mm_wp l G (d + 1) K P n ls st T1 M1 uc us))) : mm_wp l G (d + 1) K P pc ls (st) T M uc us :=
  mm_callSN (As := []) n hd hk hn rfl hw (by rw [hb.1, hb.2]; exact hu) (h.mono (fun v T1 M1 q => by
    rw [hb.1, hb.2]
    obtain ⟨e, q⟩ := q
    subst e
    exact q))

theorem mm_cSN0r (n : Nat) {idx : Nat} {host : String} (hd : decode K.cc pc = .ok (.invokestatic idx, 3)) (hk : mm_lSN K.nm.cls idx Y 0 host) (hn : pc + 3 = n) (hw : (st.map fun v => v.category).sum ≤ 8) (hb : Y.bc = 0 ∧ Y.bs = 0) (hu : uc ≤ K.bc ∧ us ≤ K.bs) (h : mm_met l G d Y [] T M (mm_pr (fun r T1 M1 => mm_wp l G (d + 1) K P n ls (mm_q r :: st) T1 M1 uc us))) : mm_wp l G (d + 1) K P pc ls (st) T M uc us :=
  mm_callSN (As := []) n hd hk hn rfl hw (by rw [hb.1, hb.2]; exact hu) (h.mono (fun v T1 M1 q => by
    rw [hb.1, hb.2]
    obtain ⟨r, e, q⟩ := q
    subst e
    exact q))

theorem mm_cSN1i (n : Nat) {idx : Nat} {host : String} {a1 : Value} (hd : decode K.cc pc = .ok (.invokestatic idx, 3)) (hk : mm_lSN K.nm.cls idx Y 1 host) (hn : pc + 3 = n) (hw : (st.map fun v => v.category).sum ≤ 8) (hb : Y.bc = 0 ∧ Y.bs = 0) (hu : uc ≤ K.bc ∧ us ≤ K.bs) (h : mm_met l G d Y [a1] T M (mm_pi (fun r T1 M1 => mm_wp l G (d + 1) K P n ls (.int r :: st) T1 M1 uc us))) : mm_wp l G (d + 1) K P pc ls (a1 :: st) T M uc us :=
  mm_callSN (As := [a1]) n hd hk hn rfl hw (by rw [hb.1, hb.2]; exact hu) (h.mono (fun v T1 M1 q => by
    rw [hb.1, hb.2]
    obtain ⟨r, e, q⟩ := q
    subst e
    exact q))

theorem mm_cSN1l (n : Nat) {idx : Nat} {host : String} {a1 : Value} (hd : decode K.cc pc = .ok (.invokestatic idx, 3)) (hk : mm_lSN K.nm.cls idx Y 1 host) (hn : pc + 3 = n) (hw : (st.map fun v => v.category).sum ≤ 8) (hb : Y.bc = 0 ∧ Y.bs = 0) (hu : uc ≤ K.bc ∧ us ≤ K.bs) (h : mm_met l G d Y [a1] T M (mm_pl (fun r T1 M1 => mm_wp l G (d + 1) K P n ls (.long r :: st) T1 M1 uc us))) : mm_wp l G (d + 1) K P pc ls (a1 :: st) T M uc us :=
  mm_callSN (As := [a1]) n hd hk hn rfl hw (by rw [hb.1, hb.2]; exact hu) (h.mono (fun v T1 M1 q => by
    rw [hb.1, hb.2]
    obtain ⟨r, e, q⟩ := q
    subst e
    exact q))

theorem mm_cSN1v (n : Nat) {idx : Nat} {host : String} {a1 : Value} (hd : decode K.cc pc = .ok (.invokestatic idx, 3)) (hk : mm_lSN K.nm.cls idx Y 1 host) (hn : pc + 3 = n) (hw : (st.map fun v => v.category).sum ≤ 8) (hb : Y.bc = 0 ∧ Y.bs = 0) (hu : uc ≤ K.bc ∧ us ≤ K.bs) (h : mm_met l G d Y [a1] T M (mm_pv (fun T1 M1 => mm_wp l G (d + 1) K P n ls st T1 M1 uc us))) : mm_wp l G (d + 1) K P pc ls (a1 :: st) T M uc us :=
  mm_callSN (As := [a1]) n hd hk hn rfl hw (by rw [hb.1, hb.2]; exact hu) (h.mono (fun v T1 M1 q => by
    rw [hb.1, hb.2]
    obtain ⟨e, q⟩ := q
    subst e
    exact q))

theorem mm_cSN1r (n : Nat) {idx : Nat} {host : String} {a1 : Value} (hd : decode K.cc pc = .ok (.invokestatic idx, 3)) (hk : mm_lSN K.nm.cls idx Y 1 host) (hn : pc + 3 = n) (hw : (st.map fun v => v.category).sum ≤ 8) (hb : Y.bc = 0 ∧ Y.bs = 0) (hu : uc ≤ K.bc ∧ us ≤ K.bs) (h : mm_met l G d Y [a1] T M (mm_pr (fun r T1 M1 => mm_wp l G (d + 1) K P n ls (mm_q r :: st) T1 M1 uc us))) : mm_wp l G (d + 1) K P pc ls (a1 :: st) T M uc us :=
  mm_callSN (As := [a1]) n hd hk hn rfl hw (by rw [hb.1, hb.2]; exact hu) (h.mono (fun v T1 M1 q => by
    rw [hb.1, hb.2]
    obtain ⟨r, e, q⟩ := q
    subst e
    exact q))

theorem mm_cSN2i (n : Nat) {idx : Nat} {host : String} {a1 a2 : Value} (hd : decode K.cc pc = .ok (.invokestatic idx, 3)) (hk : mm_lSN K.nm.cls idx Y 2 host) (hn : pc + 3 = n) (hw : (st.map fun v => v.category).sum ≤ 8) (hb : Y.bc = 0 ∧ Y.bs = 0) (hu : uc ≤ K.bc ∧ us ≤ K.bs) (h : mm_met l G d Y [a1, a2] T M (mm_pi (fun r T1 M1 => mm_wp l G (d + 1) K P n ls (.int r :: st) T1 M1 uc us))) : mm_wp l G (d + 1) K P pc ls (a2 :: a1 :: st) T M uc us :=
  mm_callSN (As := [a1, a2]) n hd hk hn rfl hw (by rw [hb.1, hb.2]; exact hu) (h.mono (fun v T1 M1 q => by
    rw [hb.1, hb.2]
    obtain ⟨r, e, q⟩ := q
    subst e
    exact q))

theorem mm_cSN2l (n : Nat) {idx : Nat} {host : String} {a1 a2 : Value} (hd : decode K.cc pc = .ok (.invokestatic idx, 3)) (hk : mm_lSN K.nm.cls idx Y 2 host) (hn : pc + 3 = n) (hw : (st.map fun v => v.category).sum ≤ 8) (hb : Y.bc = 0 ∧ Y.bs = 0) (hu : uc ≤ K.bc ∧ us ≤ K.bs) (h : mm_met l G d Y [a1, a2] T M (mm_pl (fun r T1 M1 => mm_wp l G (d + 1) K P n ls (.long r :: st) T1 M1 uc us))) : mm_wp l G (d + 1) K P pc ls (a2 :: a1 :: st) T M uc us :=
  mm_callSN (As := [a1, a2]) n hd hk hn rfl hw (by rw [hb.1, hb.2]; exact hu) (h.mono (fun v T1 M1 q => by
    rw [hb.1, hb.2]
    obtain ⟨r, e, q⟩ := q
    subst e
    exact q))

theorem mm_cSN2v (n : Nat) {idx : Nat} {host : String} {a1 a2 : Value} (hd : decode K.cc pc = .ok (.invokestatic idx, 3)) (hk : mm_lSN K.nm.cls idx Y 2 host) (hn : pc + 3 = n) (hw : (st.map fun v => v.category).sum ≤ 8) (hb : Y.bc = 0 ∧ Y.bs = 0) (hu : uc ≤ K.bc ∧ us ≤ K.bs) (h : mm_met l G d Y [a1, a2] T M (mm_pv (fun T1 M1 => mm_wp l G (d + 1) K P n ls st T1 M1 uc us))) : mm_wp l G (d + 1) K P pc ls (a2 :: a1 :: st) T M uc us :=
  mm_callSN (As := [a1, a2]) n hd hk hn rfl hw (by rw [hb.1, hb.2]; exact hu) (h.mono (fun v T1 M1 q => by
    rw [hb.1, hb.2]
    obtain ⟨e, q⟩ := q
    subst e
    exact q))

theorem mm_cSN3i (n : Nat) {idx : Nat} {host : String} {a1 a2 a3 : Value} (hd : decode K.cc pc = .ok (.invokestatic idx, 3)) (hk : mm_lSN K.nm.cls idx Y 3 host) (hn : pc + 3 = n) (hw : (st.map fun v => v.category).sum ≤ 8) (hb : Y.bc = 0 ∧ Y.bs = 0) (hu : uc ≤ K.bc ∧ us ≤ K.bs) (h : mm_met l G d Y [a1, a2, a3] T M (mm_pi (fun r T1 M1 => mm_wp l G (d + 1) K P n ls (.int r :: st) T1 M1 uc us))) : mm_wp l G (d + 1) K P pc ls (a3 :: a2 :: a1 :: st) T M uc us :=
  mm_callSN (As := [a1, a2, a3]) n hd hk hn rfl hw (by rw [hb.1, hb.2]; exact hu) (h.mono (fun v T1 M1 q => by
    rw [hb.1, hb.2]
    obtain ⟨r, e, q⟩ := q
    subst e
    exact q))

theorem mm_cSN3v (n : Nat) {idx : Nat} {host : String} {a1 a2 a3 : Value} (hd : decode K.cc pc = .ok (.invokestatic idx, 3)) (hk : mm_lSN K.nm.cls idx Y 3 host) (hn : pc + 3 = n) (hw : (st.map fun v => v.category).sum ≤ 8) (hb : Y.bc = 0 ∧ Y.bs = 0) (hu : uc ≤ K.bc ∧ us ≤ K.bs) (h : mm_met l G d Y [a1, a2, a3] T M (mm_pv (fun T1 M1 => mm_wp l G (d + 1) K P n ls st T1 M1 uc us))) : mm_wp l G (d + 1) K P pc ls (a3 :: a2 :: a1 :: st) T M uc us :=
  mm_callSN (As := [a1, a2, a3]) n hd hk hn rfl hw (by rw [hb.1, hb.2]; exact hu) (h.mono (fun v T1 M1 q => by
    rw [hb.1, hb.2]
    obtain ⟨e, q⟩ := q
    subst e
    exact q))

theorem mm_cSN4i (n : Nat) {idx : Nat} {host : String} {a1 a2 a3 a4 : Value} (hd : decode K.cc pc = .ok (.invokestatic idx, 3)) (hk : mm_lSN K.nm.cls idx Y 4 host) (hn : pc + 3 = n) (hw : (st.map fun v => v.category).sum ≤ 8) (hb : Y.bc = 0 ∧ Y.bs = 0) (hu : uc ≤ K.bc ∧ us ≤ K.bs) (h : mm_met l G d Y [a1, a2, a3, a4] T M (mm_pi (fun r T1 M1 => mm_wp l G (d + 1) K P n ls (.int r :: st) T1 M1 uc us))) : mm_wp l G (d + 1) K P pc ls (a4 :: a3 :: a2 :: a1 :: st) T M uc us :=
  mm_callSN (As := [a1, a2, a3, a4]) n hd hk hn rfl hw (by rw [hb.1, hb.2]; exact hu) (h.mono (fun v T1 M1 q => by
    rw [hb.1, hb.2]
    obtain ⟨r, e, q⟩ := q
    subst e
    exact q))

theorem mm_cSN4v (n : Nat) {idx : Nat} {host : String} {a1 a2 a3 a4 : Value} (hd : decode K.cc pc = .ok (.invokestatic idx, 3)) (hk : mm_lSN K.nm.cls idx Y 4 host) (hn : pc + 3 = n) (hw : (st.map fun v => v.category).sum ≤ 8) (hb : Y.bc = 0 ∧ Y.bs = 0) (hu : uc ≤ K.bc ∧ us ≤ K.bs) (h : mm_met l G d Y [a1, a2, a3, a4] T M (mm_pv (fun T1 M1 => mm_wp l G (d + 1) K P n ls st T1 M1 uc us))) : mm_wp l G (d + 1) K P pc ls (a4 :: a3 :: a2 :: a1 :: st) T M uc us :=
  mm_callSN (As := [a1, a2, a3, a4]) n hd hk hn rfl hw (by rw [hb.1, hb.2]; exact hu) (h.mono (fun v T1 M1 q => by
    rw [hb.1, hb.2]
    obtain ⟨e, q⟩ := q
    subst e
    exact q))

theorem mm_cSN5i (n : Nat) {idx : Nat} {host : String} {a1 a2 a3 a4 a5 : Value} (hd : decode K.cc pc = .ok (.invokestatic idx, 3)) (hk : mm_lSN K.nm.cls idx Y 5 host) (hn : pc + 3 = n) (hw : (st.map fun v => v.category).sum ≤ 8) (hb : Y.bc = 0 ∧ Y.bs = 0) (hu : uc ≤ K.bc ∧ us ≤ K.bs) (h : mm_met l G d Y [a1, a2, a3, a4, a5] T M (mm_pi (fun r T1 M1 => mm_wp l G (d + 1) K P n ls (.int r :: st) T1 M1 uc us))) : mm_wp l G (d + 1) K P pc ls (a5 :: a4 :: a3 :: a2 :: a1 :: st) T M uc us :=
  mm_callSN (As := [a1, a2, a3, a4, a5]) n hd hk hn rfl hw (by rw [hb.1, hb.2]; exact hu) (h.mono (fun v T1 M1 q => by
    rw [hb.1, hb.2]
    obtain ⟨r, e, q⟩ := q
    subst e
    exact q))

theorem mm_cSN5v (n : Nat) {idx : Nat} {host : String} {a1 a2 a3 a4 a5 : Value} (hd : decode K.cc pc = .ok (.invokestatic idx, 3)) (hk : mm_lSN K.nm.cls idx Y 5 host) (hn : pc + 3 = n) (hw : (st.map fun v => v.category).sum ≤ 8) (hb : Y.bc = 0 ∧ Y.bs = 0) (hu : uc ≤ K.bc ∧ us ≤ K.bs) (h : mm_met l G d Y [a1, a2, a3, a4, a5] T M (mm_pv (fun T1 M1 => mm_wp l G (d + 1) K P n ls st T1 M1 uc us))) : mm_wp l G (d + 1) K P pc ls (a5 :: a4 :: a3 :: a2 :: a1 :: st) T M uc us :=
  mm_callSN (As := [a1, a2, a3, a4, a5]) n hd hk hn rfl hw (by rw [hb.1, hb.2]; exact hu) (h.mono (fun v T1 M1 q => by
    rw [hb.1, hb.2]
    obtain ⟨e, q⟩ := q
    subst e
    exact q))

theorem mm_cSN6i (n : Nat) {idx : Nat} {host : String} {a1 a2 a3 a4 a5 a6 : Value} (hd : decode K.cc pc = .ok (.invokestatic idx, 3)) (hk : mm_lSN K.nm.cls idx Y 6 host) (hn : pc + 3 = n) (hw : (st.map fun v => v.category).sum ≤ 8) (hb : Y.bc = 0 ∧ Y.bs = 0) (hu : uc ≤ K.bc ∧ us ≤ K.bs) (h : mm_met l G d Y [a1, a2, a3, a4, a5, a6] T M (mm_pi (fun r T1 M1 => mm_wp l G (d + 1) K P n ls (.int r :: st) T1 M1 uc us))) : mm_wp l G (d + 1) K P pc ls (a6 :: a5 :: a4 :: a3 :: a2 :: a1 :: st) T M uc us :=
  mm_callSN (As := [a1, a2, a3, a4, a5, a6]) n hd hk hn rfl hw (by rw [hb.1, hb.2]; exact hu) (h.mono (fun v T1 M1 q => by
    rw [hb.1, hb.2]
    obtain ⟨r, e, q⟩ := q
    subst e
    exact q))

theorem mm_cSN6v (n : Nat) {idx : Nat} {host : String} {a1 a2 a3 a4 a5 a6 : Value} (hd : decode K.cc pc = .ok (.invokestatic idx, 3)) (hk : mm_lSN K.nm.cls idx Y 6 host) (hn : pc + 3 = n) (hw : (st.map fun v => v.category).sum ≤ 8) (hb : Y.bc = 0 ∧ Y.bs = 0) (hu : uc ≤ K.bc ∧ us ≤ K.bs) (h : mm_met l G d Y [a1, a2, a3, a4, a5, a6] T M (mm_pv (fun T1 M1 => mm_wp l G (d + 1) K P n ls st T1 M1 uc us))) : mm_wp l G (d + 1) K P pc ls (a6 :: a5 :: a4 :: a3 :: a2 :: a1 :: st) T M uc us :=
  mm_callSN (As := [a1, a2, a3, a4, a5, a6]) n hd hk hn rfl hw (by rw [hb.1, hb.2]; exact hu) (h.mono (fun v T1 M1 q => by
    rw [hb.1, hb.2]
    obtain ⟨e, q⟩ := q
    subst e
    exact q))

theorem mm_cI0 (n u1 s1 : Nat) {idx c : Nat} (hd : decode K.cc pc = .ok (.invokespecial idx, 3)) (hk : mm_lI K.nm.cls idx Y 0) (hn : pc + 3 = n) (hw : (st.map fun v => v.category).sum ≤ 8) (h1 : uc + Y.bc = u1) (h2 : us + Y.bs = s1) (hu : u1 ≤ K.bc ∧ s1 ≤ K.bs) (h : mm_met l G d Y [.ref c] T M (mm_pv (fun T1 M1 => mm_wp l G (d + 1) K P n ls st T1 M1 u1 s1))) : mm_wp l G (d + 1) K P pc ls (.ref c :: st) T M uc us :=
  mm_callI (As := []) n hd hk hn rfl hw (by rw [h1, h2]; exact hu) (h.mono (fun v T1 M1 q => by
    rw [h1, h2]
    obtain ⟨e, q⟩ := q
    subst e
    exact q))

theorem mm_cI1 (n u1 s1 : Nat) {idx c : Nat} {a1 : Value} (hd : decode K.cc pc = .ok (.invokespecial idx, 3)) (hk : mm_lI K.nm.cls idx Y 1) (hn : pc + 3 = n) (hw : (st.map fun v => v.category).sum ≤ 8) (h1 : uc + Y.bc = u1) (h2 : us + Y.bs = s1) (hu : u1 ≤ K.bc ∧ s1 ≤ K.bs) (h : mm_met l G d Y [.ref c, a1] T M (mm_pv (fun T1 M1 => mm_wp l G (d + 1) K P n ls st T1 M1 u1 s1))) : mm_wp l G (d + 1) K P pc ls (a1 :: .ref c :: st) T M uc us :=
  mm_callI (As := [a1]) n hd hk hn rfl hw (by rw [h1, h2]; exact hu) (h.mono (fun v T1 M1 q => by
    rw [h1, h2]
    obtain ⟨e, q⟩ := q
    subst e
    exact q))

theorem mm_cI2 (n u1 s1 : Nat) {idx c : Nat} {a1 a2 : Value} (hd : decode K.cc pc = .ok (.invokespecial idx, 3)) (hk : mm_lI K.nm.cls idx Y 2) (hn : pc + 3 = n) (hw : (st.map fun v => v.category).sum ≤ 8) (h1 : uc + Y.bc = u1) (h2 : us + Y.bs = s1) (hu : u1 ≤ K.bc ∧ s1 ≤ K.bs) (h : mm_met l G d Y [.ref c, a1, a2] T M (mm_pv (fun T1 M1 => mm_wp l G (d + 1) K P n ls st T1 M1 u1 s1))) : mm_wp l G (d + 1) K P pc ls (a2 :: a1 :: .ref c :: st) T M uc us :=
  mm_callI (As := [a1, a2]) n hd hk hn rfl hw (by rw [h1, h2]; exact hu) (h.mono (fun v T1 M1 q => by
    rw [h1, h2]
    obtain ⟨e, q⟩ := q
    subst e
    exact q))

theorem mm_cI3 (n u1 s1 : Nat) {idx c : Nat} {a1 a2 a3 : Value} (hd : decode K.cc pc = .ok (.invokespecial idx, 3)) (hk : mm_lI K.nm.cls idx Y 3) (hn : pc + 3 = n) (hw : (st.map fun v => v.category).sum ≤ 8) (h1 : uc + Y.bc = u1) (h2 : us + Y.bs = s1) (hu : u1 ≤ K.bc ∧ s1 ≤ K.bs) (h : mm_met l G d Y [.ref c, a1, a2, a3] T M (mm_pv (fun T1 M1 => mm_wp l G (d + 1) K P n ls st T1 M1 u1 s1))) : mm_wp l G (d + 1) K P pc ls (a3 :: a2 :: a1 :: .ref c :: st) T M uc us :=
  mm_callI (As := [a1, a2, a3]) n hd hk hn rfl hw (by rw [h1, h2]; exact hu) (h.mono (fun v T1 M1 q => by
    rw [h1, h2]
    obtain ⟨e, q⟩ := q
    subst e
    exact q))

theorem mm_cI4 (n u1 s1 : Nat) {idx c : Nat} {a1 a2 a3 a4 : Value} (hd : decode K.cc pc = .ok (.invokespecial idx, 3)) (hk : mm_lI K.nm.cls idx Y 4) (hn : pc + 3 = n) (hw : (st.map fun v => v.category).sum ≤ 8) (h1 : uc + Y.bc = u1) (h2 : us + Y.bs = s1) (hu : u1 ≤ K.bc ∧ s1 ≤ K.bs) (h : mm_met l G d Y [.ref c, a1, a2, a3, a4] T M (mm_pv (fun T1 M1 => mm_wp l G (d + 1) K P n ls st T1 M1 u1 s1))) : mm_wp l G (d + 1) K P pc ls (a4 :: a3 :: a2 :: a1 :: .ref c :: st) T M uc us :=
  mm_callI (As := [a1, a2, a3, a4]) n hd hk hn rfl hw (by rw [h1, h2]; exact hu) (h.mono (fun v T1 M1 q => by
    rw [h1, h2]
    obtain ⟨e, q⟩ := q
    subst e
    exact q))

theorem mm_cIN0 (n u1 s1 : Nat) {idx c : Nat} {host : String} (hd : decode K.cc pc = .ok (.invokespecial idx, 3)) (hk : mm_lIN K.nm.cls idx Y 0 host) (hn : pc + 3 = n) (hw : (st.map fun v => v.category).sum ≤ 8) (h1 : uc + Y.bc = u1) (h2 : us + Y.bs = s1) (hu : u1 ≤ K.bc ∧ s1 ≤ K.bs) (h : mm_met l G d Y [.ref c] T M (mm_pv (fun T1 M1 => mm_wp l G (d + 1) K P n ls st T1 M1 u1 s1))) : mm_wp l G (d + 1) K P pc ls (.ref c :: st) T M uc us :=
  mm_callIN (As := []) n hd hk hn rfl hw (by rw [h1, h2]; exact hu) (h.mono (fun v T1 M1 q => by
    rw [h1, h2]
    obtain ⟨e, q⟩ := q
    subst e
    exact q))

theorem mm_cIN1 (n u1 s1 : Nat) {idx c : Nat} {host : String} {a1 : Value} (hd : decode K.cc pc = .ok (.invokespecial idx, 3)) (hk : mm_lIN K.nm.cls idx Y 1 host) (hn : pc + 3 = n) (hw : (st.map fun v => v.category).sum ≤ 8) (h1 : uc + Y.bc = u1) (h2 : us + Y.bs = s1) (hu : u1 ≤ K.bc ∧ s1 ≤ K.bs) (h : mm_met l G d Y [.ref c, a1] T M (mm_pv (fun T1 M1 => mm_wp l G (d + 1) K P n ls st T1 M1 u1 s1))) : mm_wp l G (d + 1) K P pc ls (a1 :: .ref c :: st) T M uc us :=
  mm_callIN (As := [a1]) n hd hk hn rfl hw (by rw [h1, h2]; exact hu) (h.mono (fun v T1 M1 q => by
    rw [h1, h2]
    obtain ⟨e, q⟩ := q
    subst e
    exact q))

theorem mm_cIN2 (n u1 s1 : Nat) {idx c : Nat} {host : String} {a1 a2 : Value} (hd : decode K.cc pc = .ok (.invokespecial idx, 3)) (hk : mm_lIN K.nm.cls idx Y 2 host) (hn : pc + 3 = n) (hw : (st.map fun v => v.category).sum ≤ 8) (h1 : uc + Y.bc = u1) (h2 : us + Y.bs = s1) (hu : u1 ≤ K.bc ∧ s1 ≤ K.bs) (h : mm_met l G d Y [.ref c, a1, a2] T M (mm_pv (fun T1 M1 => mm_wp l G (d + 1) K P n ls st T1 M1 u1 s1))) : mm_wp l G (d + 1) K P pc ls (a2 :: a1 :: .ref c :: st) T M uc us :=
  mm_callIN (As := [a1, a2]) n hd hk hn rfl hw (by rw [h1, h2]; exact hu) (h.mono (fun v T1 M1 q => by
    rw [h1, h2]
    obtain ⟨e, q⟩ := q
    subst e
    exact q))

theorem mm_cIN3 (n u1 s1 : Nat) {idx c : Nat} {host : String} {a1 a2 a3 : Value} (hd : decode K.cc pc = .ok (.invokespecial idx, 3)) (hk : mm_lIN K.nm.cls idx Y 3 host) (hn : pc + 3 = n) (hw : (st.map fun v => v.category).sum ≤ 8) (h1 : uc + Y.bc = u1) (h2 : us + Y.bs = s1) (hu : u1 ≤ K.bc ∧ s1 ≤ K.bs) (h : mm_met l G d Y [.ref c, a1, a2, a3] T M (mm_pv (fun T1 M1 => mm_wp l G (d + 1) K P n ls st T1 M1 u1 s1))) : mm_wp l G (d + 1) K P pc ls (a3 :: a2 :: a1 :: .ref c :: st) T M uc us :=
  mm_callIN (As := [a1, a2, a3]) n hd hk hn rfl hw (by rw [h1, h2]; exact hu) (h.mono (fun v T1 M1 q => by
    rw [h1, h2]
    obtain ⟨e, q⟩ := q
    subst e
    exact q))

theorem mm_cIN4 (n u1 s1 : Nat) {idx c : Nat} {host : String} {a1 a2 a3 a4 : Value} (hd : decode K.cc pc = .ok (.invokespecial idx, 3)) (hk : mm_lIN K.nm.cls idx Y 4 host) (hn : pc + 3 = n) (hw : (st.map fun v => v.category).sum ≤ 8) (h1 : uc + Y.bc = u1) (h2 : us + Y.bs = s1) (hu : u1 ≤ K.bc ∧ s1 ≤ K.bs) (h : mm_met l G d Y [.ref c, a1, a2, a3, a4] T M (mm_pv (fun T1 M1 => mm_wp l G (d + 1) K P n ls st T1 M1 u1 s1))) : mm_wp l G (d + 1) K P pc ls (a4 :: a3 :: a2 :: a1 :: .ref c :: st) T M uc us :=
  mm_callIN (As := [a1, a2, a3, a4]) n hd hk hn rfl hw (by rw [h1, h2]; exact hu) (h.mono (fun v T1 M1 q => by
    rw [h1, h2]
    obtain ⟨e, q⟩ := q
    subst e
    exact q))

end MT
end
