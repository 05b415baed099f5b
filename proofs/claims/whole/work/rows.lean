section
-- ===== PART A: goes FIRST, ahead of the names: the tables' words, and 'selects' of the private methods out of them =====
/-- a private method of a class that the tables say can be made, by its rows of tables_1 -/
def lw_okq (q : MethodName × Nat) : Prop := (q.1.cls ≠ "java/lang/invoke/MethodHandle" ∧ q.1.cls ≠ "java/lang/invoke/VarHandle") ∧ Cond.instantiable q.1.cls q.2 ∈ tables_1 ∧ Cond.privateMethod q.1 ∈ tables_1 ∧ Cond.instanceMethod q.1 ∈ tables_1
theorem lw_p0 : lw_okq (⟨"CarpetReasons$Carpet", "walkTo", "(I)I"⟩, 15) := ⟨⟨by decide +kernel, by decide +kernel⟩, List.mem_of_getElem? (i := 27) (by decide +kernel), List.mem_of_getElem? (i := 317) (by decide +kernel), List.mem_of_getElem? (i := 318) (by decide +kernel)⟩
theorem lw_p1 : lw_okq (⟨"CarpetReasons", "learnYields", "(I)V"⟩, 9) := ⟨⟨by decide +kernel, by decide +kernel⟩, List.mem_of_getElem? (i := 19) (by decide +kernel), List.mem_of_getElem? (i := 341) (by decide +kernel), List.mem_of_getElem? (i := 342) (by decide +kernel)⟩
theorem lw_p2 : lw_okq (⟨"CarpetReasons$Rooms", "clause", "()V"⟩, 12) := ⟨⟨by decide +kernel, by decide +kernel⟩, List.mem_of_getElem? (i := 161) (by decide +kernel), List.mem_of_getElem? (i := 349) (by decide +kernel), List.mem_of_getElem? (i := 350) (by decide +kernel)⟩
theorem lw_p3 : lw_okq (⟨"CarpetReasons$Rooms", "sign", "()I"⟩, 12) := ⟨⟨by decide +kernel, by decide +kernel⟩, List.mem_of_getElem? (i := 161) (by decide +kernel), List.mem_of_getElem? (i := 353) (by decide +kernel), List.mem_of_getElem? (i := 354) (by decide +kernel)⟩
theorem lw_p4 : lw_okq (⟨"CarpetReasons$Rooms", "word", "(Ljava/lang/String;)V"⟩, 12) := ⟨⟨by decide +kernel, by decide +kernel⟩, List.mem_of_getElem? (i := 161) (by decide +kernel), List.mem_of_getElem? (i := 358) (by decide +kernel), List.mem_of_getElem? (i := 359) (by decide +kernel)⟩
theorem lw_p5 : lw_okq (⟨"CarpetReasons$Rooms", "fail", "()I"⟩, 12) := ⟨⟨by decide +kernel, by decide +kernel⟩, List.mem_of_getElem? (i := 161) (by decide +kernel), List.mem_of_getElem? (i := 410) (by decide +kernel), List.mem_of_getElem? (i := 411) (by decide +kernel)⟩
theorem lw_p6 : lw_okq (⟨"CarpetReasons$Rooms", "number", "()I"⟩, 12) := ⟨⟨by decide +kernel, by decide +kernel⟩, List.mem_of_getElem? (i := 161) (by decide +kernel), List.mem_of_getElem? (i := 414) (by decide +kernel), List.mem_of_getElem? (i := 415) (by decide +kernel)⟩
theorem lw_p7 : lw_okq (⟨"CarpetReasons$Rooms", "expression", "(I)I"⟩, 12) := ⟨⟨by decide +kernel, by decide +kernel⟩, List.mem_of_getElem? (i := 161) (by decide +kernel), List.mem_of_getElem? (i := 421) (by decide +kernel), List.mem_of_getElem? (i := 422) (by decide +kernel)⟩
theorem lw_p8 : lw_okq (⟨"CarpetReasons$Rooms", "factor", "(I)I"⟩, 12) := ⟨⟨by decide +kernel, by decide +kernel⟩, List.mem_of_getElem? (i := 161) (by decide +kernel), List.mem_of_getElem? (i := 426) (by decide +kernel), List.mem_of_getElem? (i := 427) (by decide +kernel)⟩
theorem lw_p9 : lw_okq (⟨"CarpetReasons$Rooms", "test", "()I"⟩, 12) := ⟨⟨by decide +kernel, by decide +kernel⟩, List.mem_of_getElem? (i := 161) (by decide +kernel), List.mem_of_getElem? (i := 431) (by decide +kernel), List.mem_of_getElem? (i := 432) (by decide +kernel)⟩
theorem lw_p10 : lw_okq (⟨"CarpetReasons$Rooms", "valueOf", "(II)I"⟩, 12) := ⟨⟨by decide +kernel, by decide +kernel⟩, List.mem_of_getElem? (i := 161) (by decide +kernel), List.mem_of_getElem? (i := 438) (by decide +kernel), List.mem_of_getElem? (i := 439) (by decide +kernel)⟩
theorem lw_p11 : lw_okq (⟨"CarpetReasons$Carpet", "treadsOnWay", "(II)I"⟩, 15) := ⟨⟨by decide +kernel, by decide +kernel⟩, List.mem_of_getElem? (i := 27) (by decide +kernel), List.mem_of_getElem? (i := 478) (by decide +kernel), List.mem_of_getElem? (i := 479) (by decide +kernel)⟩
theorem lw_p12 : lw_okq (⟨"CarpetReasons$Carpet", "treadsOfRow", "(II)I"⟩, 15) := ⟨⟨by decide +kernel, by decide +kernel⟩, List.mem_of_getElem? (i := 27) (by decide +kernel), List.mem_of_getElem? (i := 483) (by decide +kernel), List.mem_of_getElem? (i := 484) (by decide +kernel)⟩
theorem lw_p13 : lw_okq (⟨"CarpetReasons$Asked", "takePrints", "(I)V"⟩, 5) := ⟨⟨by decide +kernel, by decide +kernel⟩, List.mem_of_getElem? (i := 205) (by decide +kernel), List.mem_of_getElem? (i := 629) (by decide +kernel), List.mem_of_getElem? (i := 630) (by decide +kernel)⟩
theorem lw_p14 : lw_okq (⟨"CarpetReasons$Asked", "hasLeft", "(II)Z"⟩, 5) := ⟨⟨by decide +kernel, by decide +kernel⟩, List.mem_of_getElem? (i := 205) (by decide +kernel), List.mem_of_getElem? (i := 638) (by decide +kernel), List.mem_of_getElem? (i := 639) (by decide +kernel)⟩
theorem lw_p15 : lw_okq (⟨"CarpetReasons$Asked", "freeCells", "()I"⟩, 5) := ⟨⟨by decide +kernel, by decide +kernel⟩, List.mem_of_getElem? (i := 205) (by decide +kernel), List.mem_of_getElem? (i := 654) (by decide +kernel), List.mem_of_getElem? (i := 655) (by decide +kernel)⟩
def lw_privs_1 : List (MethodName × Nat) := [(⟨"CarpetReasons$Carpet", "walkTo", "(I)I"⟩, 15), (⟨"CarpetReasons", "learnYields", "(I)V"⟩, 9), (⟨"CarpetReasons$Rooms", "clause", "()V"⟩, 12), (⟨"CarpetReasons$Rooms", "sign", "()I"⟩, 12), (⟨"CarpetReasons$Rooms", "word", "(Ljava/lang/String;)V"⟩, 12), (⟨"CarpetReasons$Rooms", "fail", "()I"⟩, 12), (⟨"CarpetReasons$Rooms", "number", "()I"⟩, 12), (⟨"CarpetReasons$Rooms", "expression", "(I)I"⟩, 12), (⟨"CarpetReasons$Rooms", "factor", "(I)I"⟩, 12), (⟨"CarpetReasons$Rooms", "test", "()I"⟩, 12), (⟨"CarpetReasons$Rooms", "valueOf", "(II)I"⟩, 12), (⟨"CarpetReasons$Carpet", "treadsOnWay", "(II)I"⟩, 15), (⟨"CarpetReasons$Carpet", "treadsOfRow", "(II)I"⟩, 15), (⟨"CarpetReasons$Asked", "takePrints", "(I)V"⟩, 5), (⟨"CarpetReasons$Asked", "hasLeft", "(II)Z"⟩, 5), (⟨"CarpetReasons$Asked", "freeCells", "()I"⟩, 5)]
theorem lw_r1 : ∀ q ∈ lw_privs_1, lw_okq q := List.forall_mem_cons.mpr ⟨lw_p0, List.forall_mem_cons.mpr ⟨lw_p1, List.forall_mem_cons.mpr ⟨lw_p2, List.forall_mem_cons.mpr ⟨lw_p3, List.forall_mem_cons.mpr ⟨lw_p4, List.forall_mem_cons.mpr ⟨lw_p5, List.forall_mem_cons.mpr ⟨lw_p6, List.forall_mem_cons.mpr ⟨lw_p7, List.forall_mem_cons.mpr ⟨lw_p8, List.forall_mem_cons.mpr ⟨lw_p9, List.forall_mem_cons.mpr ⟨lw_p10, List.forall_mem_cons.mpr ⟨lw_p11, List.forall_mem_cons.mpr ⟨lw_p12, List.forall_mem_cons.mpr ⟨lw_p13, List.forall_mem_cons.mpr ⟨lw_p14, List.forall_mem_cons.mpr ⟨lw_p15, fun _ h => absurd h List.not_mem_nil⟩⟩⟩⟩⟩⟩⟩⟩⟩⟩⟩⟩⟩⟩⟩⟩
theorem lw_p16 : lw_okq (⟨"CarpetReasons$Acts", "perform", "(IIII)I"⟩, 5) := ⟨⟨by decide +kernel, by decide +kernel⟩, List.mem_of_getElem? (i := 229) (by decide +kernel), List.mem_of_getElem? (i := 825) (by decide +kernel), List.mem_of_getElem? (i := 826) (by decide +kernel)⟩
theorem lw_p17 : lw_okq (⟨"CarpetReasons$Acts", "run", "(III)I"⟩, 5) := ⟨⟨by decide +kernel, by decide +kernel⟩, List.mem_of_getElem? (i := 229) (by decide +kernel), List.mem_of_getElem? (i := 839) (by decide +kernel), List.mem_of_getElem? (i := 840) (by decide +kernel)⟩
theorem lw_p18 : lw_okq (⟨"CarpetReasonsModel", "in", "(III)Z"⟩, 77) := ⟨⟨by decide +kernel, by decide +kernel⟩, List.mem_of_getElem? (i := 906) (by decide +kernel), List.mem_of_getElem? (i := 1149) (by decide +kernel), List.mem_of_getElem? (i := 1150) (by decide +kernel)⟩
theorem lw_p19 : lw_okq (⟨"CarpetReasonsModel", "isCell", "(I)Z"⟩, 77) := ⟨⟨by decide +kernel, by decide +kernel⟩, List.mem_of_getElem? (i := 906) (by decide +kernel), List.mem_of_getElem? (i := 1153) (by decide +kernel), List.mem_of_getElem? (i := 1154) (by decide +kernel)⟩
theorem lw_p20 : lw_okq (⟨"CarpetReasonsModel", "isWear", "(I)Z"⟩, 77) := ⟨⟨by decide +kernel, by decide +kernel⟩, List.mem_of_getElem? (i := 906) (by decide +kernel), List.mem_of_getElem? (i := 1161) (by decide +kernel), List.mem_of_getElem? (i := 1162) (by decide +kernel)⟩
theorem lw_p21 : lw_okq (⟨"CarpetReasonsModel", "isGoer", "(I)Z"⟩, 77) := ⟨⟨by decide +kernel, by decide +kernel⟩, List.mem_of_getElem? (i := 906) (by decide +kernel), List.mem_of_getElem? (i := 1169) (by decide +kernel), List.mem_of_getElem? (i := 1170) (by decide +kernel)⟩
theorem lw_p22 : lw_okq (⟨"CarpetReasonsModel", "has", "(II)Z"⟩, 77) := ⟨⟨by decide +kernel, by decide +kernel⟩, List.mem_of_getElem? (i := 906) (by decide +kernel), List.mem_of_getElem? (i := 1177) (by decide +kernel), List.mem_of_getElem? (i := 1178) (by decide +kernel)⟩
theorem lw_p23 : lw_okq (⟨"CarpetReasonsModel", "goes", "(IZ)V"⟩, 77) := ⟨⟨by decide +kernel, by decide +kernel⟩, List.mem_of_getElem? (i := 906) (by decide +kernel), List.mem_of_getElem? (i := 1181) (by decide +kernel), List.mem_of_getElem? (i := 1182) (by decide +kernel)⟩
theorem lw_p24 : lw_okq (⟨"CarpetReasonsModel", "goesText", "(I)Z"⟩, 77) := ⟨⟨by decide +kernel, by decide +kernel⟩, List.mem_of_getElem? (i := 906) (by decide +kernel), List.mem_of_getElem? (i := 1201) (by decide +kernel), List.mem_of_getElem? (i := 1202) (by decide +kernel)⟩
theorem lw_p25 : lw_okq (⟨"CarpetReasonsModel", "takesClause", "(I)Z"⟩, 77) := ⟨⟨by decide +kernel, by decide +kernel⟩, List.mem_of_getElem? (i := 906) (by decide +kernel), List.mem_of_getElem? (i := 1205) (by decide +kernel), List.mem_of_getElem? (i := 1206) (by decide +kernel)⟩
theorem lw_p26 : lw_okq (⟨"CarpetReasonsModel", "takesHead", "(I)Z"⟩, 77) := ⟨⟨by decide +kernel, by decide +kernel⟩, List.mem_of_getElem? (i := 906) (by decide +kernel), List.mem_of_getElem? (i := 1209) (by decide +kernel), List.mem_of_getElem? (i := 1210) (by decide +kernel)⟩
theorem lw_p27 : lw_okq (⟨"CarpetReasonsModel", "next", "()I"⟩, 77) := ⟨⟨by decide +kernel, by decide +kernel⟩, List.mem_of_getElem? (i := 906) (by decide +kernel), List.mem_of_getElem? (i := 1213) (by decide +kernel), List.mem_of_getElem? (i := 1214) (by decide +kernel)⟩
theorem lw_p28 : lw_okq (⟨"CarpetReasonsModel", "takesWord", "(II)Z"⟩, 77) := ⟨⟨by decide +kernel, by decide +kernel⟩, List.mem_of_getElem? (i := 906) (by decide +kernel), List.mem_of_getElem? (i := 1217) (by decide +kernel), List.mem_of_getElem? (i := 1218) (by decide +kernel)⟩
theorem lw_p29 : lw_okq (⟨"CarpetReasonsModel", "takes", "(I)Z"⟩, 77) := ⟨⟨by decide +kernel, by decide +kernel⟩, List.mem_of_getElem? (i := 906) (by decide +kernel), List.mem_of_getElem? (i := 1221) (by decide +kernel), List.mem_of_getElem? (i := 1222) (by decide +kernel)⟩
theorem lw_p30 : lw_okq (⟨"CarpetReasonsModel", "takesNumber", "()Z"⟩, 77) := ⟨⟨by decide +kernel, by decide +kernel⟩, List.mem_of_getElem? (i := 906) (by decide +kernel), List.mem_of_getElem? (i := 1225) (by decide +kernel), List.mem_of_getElem? (i := 1226) (by decide +kernel)⟩
theorem lw_p31 : lw_okq (⟨"CarpetReasonsModel", "isDigit", "()Z"⟩, 77) := ⟨⟨by decide +kernel, by decide +kernel⟩, List.mem_of_getElem? (i := 906) (by decide +kernel), List.mem_of_getElem? (i := 1229) (by decide +kernel), List.mem_of_getElem? (i := 1230) (by decide +kernel)⟩
def lw_privs_2 : List (MethodName × Nat) := [(⟨"CarpetReasons$Acts", "perform", "(IIII)I"⟩, 5), (⟨"CarpetReasons$Acts", "run", "(III)I"⟩, 5), (⟨"CarpetReasonsModel", "in", "(III)Z"⟩, 77), (⟨"CarpetReasonsModel", "isCell", "(I)Z"⟩, 77), (⟨"CarpetReasonsModel", "isWear", "(I)Z"⟩, 77), (⟨"CarpetReasonsModel", "isGoer", "(I)Z"⟩, 77), (⟨"CarpetReasonsModel", "has", "(II)Z"⟩, 77), (⟨"CarpetReasonsModel", "goes", "(IZ)V"⟩, 77), (⟨"CarpetReasonsModel", "goesText", "(I)Z"⟩, 77), (⟨"CarpetReasonsModel", "takesClause", "(I)Z"⟩, 77), (⟨"CarpetReasonsModel", "takesHead", "(I)Z"⟩, 77), (⟨"CarpetReasonsModel", "next", "()I"⟩, 77), (⟨"CarpetReasonsModel", "takesWord", "(II)Z"⟩, 77), (⟨"CarpetReasonsModel", "takes", "(I)Z"⟩, 77), (⟨"CarpetReasonsModel", "takesNumber", "()Z"⟩, 77), (⟨"CarpetReasonsModel", "isDigit", "()Z"⟩, 77)]
theorem lw_r2 : ∀ q ∈ lw_privs_2, lw_okq q := List.forall_mem_cons.mpr ⟨lw_p16, List.forall_mem_cons.mpr ⟨lw_p17, List.forall_mem_cons.mpr ⟨lw_p18, List.forall_mem_cons.mpr ⟨lw_p19, List.forall_mem_cons.mpr ⟨lw_p20, List.forall_mem_cons.mpr ⟨lw_p21, List.forall_mem_cons.mpr ⟨lw_p22, List.forall_mem_cons.mpr ⟨lw_p23, List.forall_mem_cons.mpr ⟨lw_p24, List.forall_mem_cons.mpr ⟨lw_p25, List.forall_mem_cons.mpr ⟨lw_p26, List.forall_mem_cons.mpr ⟨lw_p27, List.forall_mem_cons.mpr ⟨lw_p28, List.forall_mem_cons.mpr ⟨lw_p29, List.forall_mem_cons.mpr ⟨lw_p30, List.forall_mem_cons.mpr ⟨lw_p31, fun _ h => absurd h List.not_mem_nil⟩⟩⟩⟩⟩⟩⟩⟩⟩⟩⟩⟩⟩⟩⟩⟩
theorem lw_p32 : lw_okq (⟨"CarpetReasonsModel", "takesE", "(I)Z"⟩, 77) := ⟨⟨by decide +kernel, by decide +kernel⟩, List.mem_of_getElem? (i := 906) (by decide +kernel), List.mem_of_getElem? (i := 1233) (by decide +kernel), List.mem_of_getElem? (i := 1234) (by decide +kernel)⟩
theorem lw_p33 : lw_okq (⟨"CarpetReasonsModel", "takesTest", "()Z"⟩, 77) := ⟨⟨by decide +kernel, by decide +kernel⟩, List.mem_of_getElem? (i := 906) (by decide +kernel), List.mem_of_getElem? (i := 1237) (by decide +kernel), List.mem_of_getElem? (i := 1238) (by decide +kernel)⟩
theorem lw_p34 : lw_okq (⟨"CarpetReasonsModel", "place", "(I)I"⟩, 77) := ⟨⟨by decide +kernel, by decide +kernel⟩, List.mem_of_getElem? (i := 906) (by decide +kernel), List.mem_of_getElem? (i := 1241) (by decide +kernel), List.mem_of_getElem? (i := 1242) (by decide +kernel)⟩
theorem lw_p35 : lw_okq (⟨"CarpetReasonsModel", "emits", "(I)V"⟩, 77) := ⟨⟨by decide +kernel, by decide +kernel⟩, List.mem_of_getElem? (i := 906) (by decide +kernel), List.mem_of_getElem? (i := 1245) (by decide +kernel), List.mem_of_getElem? (i := 1246) (by decide +kernel)⟩
theorem lw_p36 : lw_okq (⟨"CarpetReasonsModel", "whole", "()V"⟩, 77) := ⟨⟨by decide +kernel, by decide +kernel⟩, List.mem_of_getElem? (i := 906) (by decide +kernel), List.mem_of_getElem? (i := 1249) (by decide +kernel), List.mem_of_getElem? (i := 1250) (by decide +kernel)⟩
theorem lw_p37 : lw_okq (⟨"CarpetReasonsModel", "settle", "(I)V"⟩, 77) := ⟨⟨by decide +kernel, by decide +kernel⟩, List.mem_of_getElem? (i := 906) (by decide +kernel), List.mem_of_getElem? (i := 1253) (by decide +kernel), List.mem_of_getElem? (i := 1254) (by decide +kernel)⟩
theorem lw_p38 : lw_okq (⟨"CarpetReasonsModel", "isDays", "(I)Z"⟩, 77) := ⟨⟨by decide +kernel, by decide +kernel⟩, List.mem_of_getElem? (i := 906) (by decide +kernel), List.mem_of_getElem? (i := 1261) (by decide +kernel), List.mem_of_getElem? (i := 1262) (by decide +kernel)⟩
theorem lw_p39 : lw_okq (⟨"CarpetReasonsModel", "layWorn", "()V"⟩, 77) := ⟨⟨by decide +kernel, by decide +kernel⟩, List.mem_of_getElem? (i := 906) (by decide +kernel), List.mem_of_getElem? (i := 1265) (by decide +kernel), List.mem_of_getElem? (i := 1266) (by decide +kernel)⟩
theorem lw_p40 : lw_okq (⟨"CarpetReasonsModel", "waySet", "(I)I"⟩, 77) := ⟨⟨by decide +kernel, by decide +kernel⟩, List.mem_of_getElem? (i := 906) (by decide +kernel), List.mem_of_getElem? (i := 1269) (by decide +kernel), List.mem_of_getElem? (i := 1270) (by decide +kernel)⟩
theorem lw_p41 : lw_okq (⟨"CarpetReasonsModel", "layWay", "(I)V"⟩, 77) := ⟨⟨by decide +kernel, by decide +kernel⟩, List.mem_of_getElem? (i := 906) (by decide +kernel), List.mem_of_getElem? (i := 1273) (by decide +kernel), List.mem_of_getElem? (i := 1274) (by decide +kernel)⟩
theorem lw_p42 : lw_okq (⟨"CarpetReasonsModel", "layFar", "(I)V"⟩, 77) := ⟨⟨by decide +kernel, by decide +kernel⟩, List.mem_of_getElem? (i := 906) (by decide +kernel), List.mem_of_getElem? (i := 1277) (by decide +kernel), List.mem_of_getElem? (i := 1278) (by decide +kernel)⟩
theorem lw_p43 : lw_okq (⟨"CarpetReasonsModel", "isFree", "(II)Z"⟩, 77) := ⟨⟨by decide +kernel, by decide +kernel⟩, List.mem_of_getElem? (i := 906) (by decide +kernel), List.mem_of_getElem? (i := 1281) (by decide +kernel), List.mem_of_getElem? (i := 1282) (by decide +kernel)⟩
theorem lw_p44 : lw_okq (⟨"CarpetReasonsModel", "isNext", "(II)Z"⟩, 77) := ⟨⟨by decide +kernel, by decide +kernel⟩, List.mem_of_getElem? (i := 906) (by decide +kernel), List.mem_of_getElem? (i := 1285) (by decide +kernel), List.mem_of_getElem? (i := 1286) (by decide +kernel)⟩
theorem lw_p45 : lw_okq (⟨"CarpetReasonsModel", "apart", "(II)I"⟩, 77) := ⟨⟨by decide +kernel, by decide +kernel⟩, List.mem_of_getElem? (i := 906) (by decide +kernel), List.mem_of_getElem? (i := 1289) (by decide +kernel), List.mem_of_getElem? (i := 1290) (by decide +kernel)⟩
theorem lw_p46 : lw_okq (⟨"CarpetReasonsModel", "yieldsOf", "(II)I"⟩, 77) := ⟨⟨by decide +kernel, by decide +kernel⟩, List.mem_of_getElem? (i := 906) (by decide +kernel), List.mem_of_getElem? (i := 1293) (by decide +kernel), List.mem_of_getElem? (i := 1294) (by decide +kernel)⟩
theorem lw_p47 : lw_okq (⟨"CarpetReasonsModel", "begin", "()I"⟩, 77) := ⟨⟨by decide +kernel, by decide +kernel⟩, List.mem_of_getElem? (i := 906) (by decide +kernel), List.mem_of_getElem? (i := 1297) (by decide +kernel), List.mem_of_getElem? (i := 1298) (by decide +kernel)⟩
def lw_privs_3 : List (MethodName × Nat) := [(⟨"CarpetReasonsModel", "takesE", "(I)Z"⟩, 77), (⟨"CarpetReasonsModel", "takesTest", "()Z"⟩, 77), (⟨"CarpetReasonsModel", "place", "(I)I"⟩, 77), (⟨"CarpetReasonsModel", "emits", "(I)V"⟩, 77), (⟨"CarpetReasonsModel", "whole", "()V"⟩, 77), (⟨"CarpetReasonsModel", "settle", "(I)V"⟩, 77), (⟨"CarpetReasonsModel", "isDays", "(I)Z"⟩, 77), (⟨"CarpetReasonsModel", "layWorn", "()V"⟩, 77), (⟨"CarpetReasonsModel", "waySet", "(I)I"⟩, 77), (⟨"CarpetReasonsModel", "layWay", "(I)V"⟩, 77), (⟨"CarpetReasonsModel", "layFar", "(I)V"⟩, 77), (⟨"CarpetReasonsModel", "isFree", "(II)Z"⟩, 77), (⟨"CarpetReasonsModel", "isNext", "(II)Z"⟩, 77), (⟨"CarpetReasonsModel", "apart", "(II)I"⟩, 77), (⟨"CarpetReasonsModel", "yieldsOf", "(II)I"⟩, 77), (⟨"CarpetReasonsModel", "begin", "()I"⟩, 77)]
theorem lw_r3 : ∀ q ∈ lw_privs_3, lw_okq q := List.forall_mem_cons.mpr ⟨lw_p32, List.forall_mem_cons.mpr ⟨lw_p33, List.forall_mem_cons.mpr ⟨lw_p34, List.forall_mem_cons.mpr ⟨lw_p35, List.forall_mem_cons.mpr ⟨lw_p36, List.forall_mem_cons.mpr ⟨lw_p37, List.forall_mem_cons.mpr ⟨lw_p38, List.forall_mem_cons.mpr ⟨lw_p39, List.forall_mem_cons.mpr ⟨lw_p40, List.forall_mem_cons.mpr ⟨lw_p41, List.forall_mem_cons.mpr ⟨lw_p42, List.forall_mem_cons.mpr ⟨lw_p43, List.forall_mem_cons.mpr ⟨lw_p44, List.forall_mem_cons.mpr ⟨lw_p45, List.forall_mem_cons.mpr ⟨lw_p46, List.forall_mem_cons.mpr ⟨lw_p47, fun _ h => absurd h List.not_mem_nil⟩⟩⟩⟩⟩⟩⟩⟩⟩⟩⟩⟩⟩⟩⟩⟩
theorem lw_p48 : lw_okq (⟨"CarpetReasonsModel", "behind", "()I"⟩, 77) := ⟨⟨by decide +kernel, by decide +kernel⟩, List.mem_of_getElem? (i := 906) (by decide +kernel), List.mem_of_getElem? (i := 1301) (by decide +kernel), List.mem_of_getElem? (i := 1302) (by decide +kernel)⟩
theorem lw_p49 : lw_okq (⟨"CarpetReasonsModel", "holds", "(III)Z"⟩, 77) := ⟨⟨by decide +kernel, by decide +kernel⟩, List.mem_of_getElem? (i := 906) (by decide +kernel), List.mem_of_getElem? (i := 1305) (by decide +kernel), List.mem_of_getElem? (i := 1306) (by decide +kernel)⟩
theorem lw_p50 : lw_okq (⟨"CarpetReasonsModel", "factOf", "(III)I"⟩, 77) := ⟨⟨by decide +kernel, by decide +kernel⟩, List.mem_of_getElem? (i := 906) (by decide +kernel), List.mem_of_getElem? (i := 1309) (by decide +kernel), List.mem_of_getElem? (i := 1310) (by decide +kernel)⟩
theorem lw_p51 : lw_okq (⟨"CarpetReasonsModel", "treadsBy", "(IIII)I"⟩, 77) := ⟨⟨by decide +kernel, by decide +kernel⟩, List.mem_of_getElem? (i := 906) (by decide +kernel), List.mem_of_getElem? (i := 1313) (by decide +kernel), List.mem_of_getElem? (i := 1314) (by decide +kernel)⟩
theorem lw_p52 : lw_okq (⟨"CarpetReasonsModel", "here", "()I"⟩, 77) := ⟨⟨by decide +kernel, by decide +kernel⟩, List.mem_of_getElem? (i := 906) (by decide +kernel), List.mem_of_getElem? (i := 1317) (by decide +kernel), List.mem_of_getElem? (i := 1318) (by decide +kernel)⟩
theorem lw_p53 : lw_okq (⟨"CarpetReasonsModel", "goDays", "(II)V"⟩, 77) := ⟨⟨by decide +kernel, by decide +kernel⟩, List.mem_of_getElem? (i := 906) (by decide +kernel), List.mem_of_getElem? (i := 1321) (by decide +kernel), List.mem_of_getElem? (i := 1322) (by decide +kernel)⟩
theorem lw_p54 : lw_okq (⟨"CarpetReasonsModel", "goDay", "(I)V"⟩, 77) := ⟨⟨by decide +kernel, by decide +kernel⟩, List.mem_of_getElem? (i := 906) (by decide +kernel), List.mem_of_getElem? (i := 1325) (by decide +kernel), List.mem_of_getElem? (i := 1326) (by decide +kernel)⟩
theorem lw_p55 : lw_okq (⟨"CarpetReasonsModel", "least", "(II)I"⟩, 77) := ⟨⟨by decide +kernel, by decide +kernel⟩, List.mem_of_getElem? (i := 906) (by decide +kernel), List.mem_of_getElem? (i := 1329) (by decide +kernel), List.mem_of_getElem? (i := 1330) (by decide +kernel)⟩
theorem lw_p56 : lw_okq (⟨"CarpetReasonsModel", "laySoon", "()V"⟩, 77) := ⟨⟨by decide +kernel, by decide +kernel⟩, List.mem_of_getElem? (i := 906) (by decide +kernel), List.mem_of_getElem? (i := 1341) (by decide +kernel), List.mem_of_getElem? (i := 1342) (by decide +kernel)⟩
theorem lw_p57 : lw_okq (⟨"CarpetReasonsModel", "save", "()V"⟩, 77) := ⟨⟨by decide +kernel, by decide +kernel⟩, List.mem_of_getElem? (i := 906) (by decide +kernel), List.mem_of_getElem? (i := 1345) (by decide +kernel), List.mem_of_getElem? (i := 1346) (by decide +kernel)⟩
theorem lw_p58 : lw_okq (⟨"CarpetReasonsModel", "bald", "()I"⟩, 77) := ⟨⟨by decide +kernel, by decide +kernel⟩, List.mem_of_getElem? (i := 906) (by decide +kernel), List.mem_of_getElem? (i := 1350) (by decide +kernel), List.mem_of_getElem? (i := 1351) (by decide +kernel)⟩
theorem lw_p59 : lw_okq (⟨"CarpetReasonsModel", "putBack", "()V"⟩, 77) := ⟨⟨by decide +kernel, by decide +kernel⟩, List.mem_of_getElem? (i := 906) (by decide +kernel), List.mem_of_getElem? (i := 1354) (by decide +kernel), List.mem_of_getElem? (i := 1355) (by decide +kernel)⟩
theorem lw_p60 : lw_okq (⟨"CarpetReasonsModel", "baldSet", "()I"⟩, 77) := ⟨⟨by decide +kernel, by decide +kernel⟩, List.mem_of_getElem? (i := 906) (by decide +kernel), List.mem_of_getElem? (i := 1362) (by decide +kernel), List.mem_of_getElem? (i := 1363) (by decide +kernel)⟩
theorem lw_p61 : lw_okq (⟨"CarpetReasonsModel", "allWear", "()I"⟩, 77) := ⟨⟨by decide +kernel, by decide +kernel⟩, List.mem_of_getElem? (i := 906) (by decide +kernel), List.mem_of_getElem? (i := 1366) (by decide +kernel), List.mem_of_getElem? (i := 1367) (by decide +kernel)⟩
theorem lw_p62 : lw_okq (⟨"CarpetReasonsModel", "allWays", "()I"⟩, 77) := ⟨⟨by decide +kernel, by decide +kernel⟩, List.mem_of_getElem? (i := 906) (by decide +kernel), List.mem_of_getElem? (i := 1370) (by decide +kernel), List.mem_of_getElem? (i := 1371) (by decide +kernel)⟩
theorem lw_p63 : lw_okq (⟨"CarpetReasonsModel", "firstOf", "()I"⟩, 77) := ⟨⟨by decide +kernel, by decide +kernel⟩, List.mem_of_getElem? (i := 906) (by decide +kernel), List.mem_of_getElem? (i := 1374) (by decide +kernel), List.mem_of_getElem? (i := 1375) (by decide +kernel)⟩
def lw_privs_4 : List (MethodName × Nat) := [(⟨"CarpetReasonsModel", "behind", "()I"⟩, 77), (⟨"CarpetReasonsModel", "holds", "(III)Z"⟩, 77), (⟨"CarpetReasonsModel", "factOf", "(III)I"⟩, 77), (⟨"CarpetReasonsModel", "treadsBy", "(IIII)I"⟩, 77), (⟨"CarpetReasonsModel", "here", "()I"⟩, 77), (⟨"CarpetReasonsModel", "goDays", "(II)V"⟩, 77), (⟨"CarpetReasonsModel", "goDay", "(I)V"⟩, 77), (⟨"CarpetReasonsModel", "least", "(II)I"⟩, 77), (⟨"CarpetReasonsModel", "laySoon", "()V"⟩, 77), (⟨"CarpetReasonsModel", "save", "()V"⟩, 77), (⟨"CarpetReasonsModel", "bald", "()I"⟩, 77), (⟨"CarpetReasonsModel", "putBack", "()V"⟩, 77), (⟨"CarpetReasonsModel", "baldSet", "()I"⟩, 77), (⟨"CarpetReasonsModel", "allWear", "()I"⟩, 77), (⟨"CarpetReasonsModel", "allWays", "()I"⟩, 77), (⟨"CarpetReasonsModel", "firstOf", "()I"⟩, 77)]
theorem lw_r4 : ∀ q ∈ lw_privs_4, lw_okq q := List.forall_mem_cons.mpr ⟨lw_p48, List.forall_mem_cons.mpr ⟨lw_p49, List.forall_mem_cons.mpr ⟨lw_p50, List.forall_mem_cons.mpr ⟨lw_p51, List.forall_mem_cons.mpr ⟨lw_p52, List.forall_mem_cons.mpr ⟨lw_p53, List.forall_mem_cons.mpr ⟨lw_p54, List.forall_mem_cons.mpr ⟨lw_p55, List.forall_mem_cons.mpr ⟨lw_p56, List.forall_mem_cons.mpr ⟨lw_p57, List.forall_mem_cons.mpr ⟨lw_p58, List.forall_mem_cons.mpr ⟨lw_p59, List.forall_mem_cons.mpr ⟨lw_p60, List.forall_mem_cons.mpr ⟨lw_p61, List.forall_mem_cons.mpr ⟨lw_p62, List.forall_mem_cons.mpr ⟨lw_p63, fun _ h => absurd h List.not_mem_nil⟩⟩⟩⟩⟩⟩⟩⟩⟩⟩⟩⟩⟩⟩⟩⟩
theorem lw_p64 : lw_okq (⟨"CarpetReasonsModel", "isPrint", "(III)Z"⟩, 77) := ⟨⟨by decide +kernel, by decide +kernel⟩, List.mem_of_getElem? (i := 906) (by decide +kernel), List.mem_of_getElem? (i := 1391) (by decide +kernel), List.mem_of_getElem? (i := 1392) (by decide +kernel)⟩
theorem lw_p65 : lw_okq (⟨"CarpetReasonsModel", "bits", "(I)I"⟩, 77) := ⟨⟨by decide +kernel, by decide +kernel⟩, List.mem_of_getElem? (i := 906) (by decide +kernel), List.mem_of_getElem? (i := 1395) (by decide +kernel), List.mem_of_getElem? (i := 1396) (by decide +kernel)⟩
theorem lw_p66 : lw_okq (⟨"CarpetReasonsModel", "standOf", "()I"⟩, 77) := ⟨⟨by decide +kernel, by decide +kernel⟩, List.mem_of_getElem? (i := 906) (by decide +kernel), List.mem_of_getElem? (i := 1403) (by decide +kernel), List.mem_of_getElem? (i := 1404) (by decide +kernel)⟩
theorem lw_p67 : lw_okq (⟨"CarpetReasonsModel", "wearIf", "(I)I"⟩, 77) := ⟨⟨by decide +kernel, by decide +kernel⟩, List.mem_of_getElem? (i := 906) (by decide +kernel), List.mem_of_getElem? (i := 1407) (by decide +kernel), List.mem_of_getElem? (i := 1408) (by decide +kernel)⟩
theorem lw_p68 : lw_okq (⟨"CarpetReasonsModel", "busy", "()I"⟩, 77) := ⟨⟨by decide +kernel, by decide +kernel⟩, List.mem_of_getElem? (i := 906) (by decide +kernel), List.mem_of_getElem? (i := 1411) (by decide +kernel), List.mem_of_getElem? (i := 1412) (by decide +kernel)⟩
theorem lw_p69 : lw_okq (⟨"CarpetReasonsModel", "layOf", "()I"⟩, 77) := ⟨⟨by decide +kernel, by decide +kernel⟩, List.mem_of_getElem? (i := 906) (by decide +kernel), List.mem_of_getElem? (i := 1415) (by decide +kernel), List.mem_of_getElem? (i := 1416) (by decide +kernel)⟩
theorem lw_p70 : lw_okq (⟨"CarpetReasonsModel", "baldIf", "(I)I"⟩, 77) := ⟨⟨by decide +kernel, by decide +kernel⟩, List.mem_of_getElem? (i := 906) (by decide +kernel), List.mem_of_getElem? (i := 1419) (by decide +kernel), List.mem_of_getElem? (i := 1420) (by decide +kernel)⟩
theorem lw_p71 : lw_okq (⟨"CarpetReasonsModel", "isSeen", "(I)Z"⟩, 77) := ⟨⟨by decide +kernel, by decide +kernel⟩, List.mem_of_getElem? (i := 906) (by decide +kernel), List.mem_of_getElem? (i := 1431) (by decide +kernel), List.mem_of_getElem? (i := 1432) (by decide +kernel)⟩
theorem lw_p72 : lw_okq (⟨"CarpetReasonsModel", "lowest", "(III)J"⟩, 77) := ⟨⟨by decide +kernel, by decide +kernel⟩, List.mem_of_getElem? (i := 906) (by decide +kernel), List.mem_of_getElem? (i := 1448) (by decide +kernel), List.mem_of_getElem? (i := 1449) (by decide +kernel)⟩
theorem lw_p73 : lw_okq (⟨"CarpetReasonsModel", "divisor", "(II)I"⟩, 77) := ⟨⟨by decide +kernel, by decide +kernel⟩, List.mem_of_getElem? (i := 906) (by decide +kernel), List.mem_of_getElem? (i := 1452) (by decide +kernel), List.mem_of_getElem? (i := 1453) (by decide +kernel)⟩
theorem lw_p74 : lw_okq (⟨"CarpetReasonsModel", "goPlan", "(II)V"⟩, 77) := ⟨⟨by decide +kernel, by decide +kernel⟩, List.mem_of_getElem? (i := 906) (by decide +kernel), List.mem_of_getElem? (i := 1469) (by decide +kernel), List.mem_of_getElem? (i := 1470) (by decide +kernel)⟩
theorem lw_p75 : lw_okq (⟨"CarpetReasonsModel", "isTape", "(I)Z"⟩, 77) := ⟨⟨by decide +kernel, by decide +kernel⟩, List.mem_of_getElem? (i := 906) (by decide +kernel), List.mem_of_getElem? (i := 1485) (by decide +kernel), List.mem_of_getElem? (i := 1486) (by decide +kernel)⟩
theorem lw_p76 : lw_okq (⟨"CarpetReasonsModel", "stepsAct", "(II)I"⟩, 77) := ⟨⟨by decide +kernel, by decide +kernel⟩, List.mem_of_getElem? (i := 906) (by decide +kernel), List.mem_of_getElem? (i := 1501) (by decide +kernel), List.mem_of_getElem? (i := 1502) (by decide +kernel)⟩
theorem lw_p77 : lw_okq (⟨"CarpetReasonsModel", "body", "(I)V"⟩, 77) := ⟨⟨by decide +kernel, by decide +kernel⟩, List.mem_of_getElem? (i := 906) (by decide +kernel), List.mem_of_getElem? (i := 1505) (by decide +kernel), List.mem_of_getElem? (i := 1506) (by decide +kernel)⟩
theorem lw_p78 : lw_okq (⟨"CarpetReasonsModel", "goerSteps", "(II)I"⟩, 77) := ⟨⟨by decide +kernel, by decide +kernel⟩, List.mem_of_getElem? (i := 906) (by decide +kernel), List.mem_of_getElem? (i := 1509) (by decide +kernel), List.mem_of_getElem? (i := 1510) (by decide +kernel)⟩
theorem lw_p79 : lw_okq (⟨"CarpetReasonsModel", "turnsAct", "(II)I"⟩, 77) := ⟨⟨by decide +kernel, by decide +kernel⟩, List.mem_of_getElem? (i := 906) (by decide +kernel), List.mem_of_getElem? (i := 1513) (by decide +kernel), List.mem_of_getElem? (i := 1514) (by decide +kernel)⟩
def lw_privs_5 : List (MethodName × Nat) := [(⟨"CarpetReasonsModel", "isPrint", "(III)Z"⟩, 77), (⟨"CarpetReasonsModel", "bits", "(I)I"⟩, 77), (⟨"CarpetReasonsModel", "standOf", "()I"⟩, 77), (⟨"CarpetReasonsModel", "wearIf", "(I)I"⟩, 77), (⟨"CarpetReasonsModel", "busy", "()I"⟩, 77), (⟨"CarpetReasonsModel", "layOf", "()I"⟩, 77), (⟨"CarpetReasonsModel", "baldIf", "(I)I"⟩, 77), (⟨"CarpetReasonsModel", "isSeen", "(I)Z"⟩, 77), (⟨"CarpetReasonsModel", "lowest", "(III)J"⟩, 77), (⟨"CarpetReasonsModel", "divisor", "(II)I"⟩, 77), (⟨"CarpetReasonsModel", "goPlan", "(II)V"⟩, 77), (⟨"CarpetReasonsModel", "isTape", "(I)Z"⟩, 77), (⟨"CarpetReasonsModel", "stepsAct", "(II)I"⟩, 77), (⟨"CarpetReasonsModel", "body", "(I)V"⟩, 77), (⟨"CarpetReasonsModel", "goerSteps", "(II)I"⟩, 77), (⟨"CarpetReasonsModel", "turnsAct", "(II)I"⟩, 77)]
theorem lw_r5 : ∀ q ∈ lw_privs_5, lw_okq q := List.forall_mem_cons.mpr ⟨lw_p64, List.forall_mem_cons.mpr ⟨lw_p65, List.forall_mem_cons.mpr ⟨lw_p66, List.forall_mem_cons.mpr ⟨lw_p67, List.forall_mem_cons.mpr ⟨lw_p68, List.forall_mem_cons.mpr ⟨lw_p69, List.forall_mem_cons.mpr ⟨lw_p70, List.forall_mem_cons.mpr ⟨lw_p71, List.forall_mem_cons.mpr ⟨lw_p72, List.forall_mem_cons.mpr ⟨lw_p73, List.forall_mem_cons.mpr ⟨lw_p74, List.forall_mem_cons.mpr ⟨lw_p75, List.forall_mem_cons.mpr ⟨lw_p76, List.forall_mem_cons.mpr ⟨lw_p77, List.forall_mem_cons.mpr ⟨lw_p78, List.forall_mem_cons.mpr ⟨lw_p79, fun _ h => absurd h List.not_mem_nil⟩⟩⟩⟩⟩⟩⟩⟩⟩⟩⟩⟩⟩⟩⟩⟩
theorem lw_p80 : lw_okq (⟨"CarpetReasonsModel", "pacerTurns", "(II)I"⟩, 77) := ⟨⟨by decide +kernel, by decide +kernel⟩, List.mem_of_getElem? (i := 906) (by decide +kernel), List.mem_of_getElem? (i := 1517) (by decide +kernel), List.mem_of_getElem? (i := 1518) (by decide +kernel)⟩
theorem lw_p81 : lw_okq (⟨"CarpetReasonsModel", "goerTurns", "(II)I"⟩, 77) := ⟨⟨by decide +kernel, by decide +kernel⟩, List.mem_of_getElem? (i := 906) (by decide +kernel), List.mem_of_getElem? (i := 1521) (by decide +kernel), List.mem_of_getElem? (i := 1522) (by decide +kernel)⟩
theorem lw_p82 : lw_okq (⟨"CarpetReasonsModel", "tellsAct", "(II)I"⟩, 77) := ⟨⟨by decide +kernel, by decide +kernel⟩, List.mem_of_getElem? (i := 906) (by decide +kernel), List.mem_of_getElem? (i := 1525) (by decide +kernel), List.mem_of_getElem? (i := 1526) (by decide +kernel)⟩
theorem lw_p83 : lw_okq (⟨"CarpetReasonsModel", "goerTells", "(II)I"⟩, 77) := ⟨⟨by decide +kernel, by decide +kernel⟩, List.mem_of_getElem? (i := 906) (by decide +kernel), List.mem_of_getElem? (i := 1529) (by decide +kernel), List.mem_of_getElem? (i := 1530) (by decide +kernel)⟩
theorem lw_p84 : lw_okq (⟨"CarpetReasonsModel", "narrow", "(IJ)J"⟩, 77) := ⟨⟨by decide +kernel, by decide +kernel⟩, List.mem_of_getElem? (i := 906) (by decide +kernel), List.mem_of_getElem? (i := 1553) (by decide +kernel), List.mem_of_getElem? (i := 1554) (by decide +kernel)⟩
def lw_privs_6 : List (MethodName × Nat) := [(⟨"CarpetReasonsModel", "pacerTurns", "(II)I"⟩, 77), (⟨"CarpetReasonsModel", "goerTurns", "(II)I"⟩, 77), (⟨"CarpetReasonsModel", "tellsAct", "(II)I"⟩, 77), (⟨"CarpetReasonsModel", "goerTells", "(II)I"⟩, 77), (⟨"CarpetReasonsModel", "narrow", "(IJ)J"⟩, 77)]
theorem lw_r6 : ∀ q ∈ lw_privs_6, lw_okq q := List.forall_mem_cons.mpr ⟨lw_p80, List.forall_mem_cons.mpr ⟨lw_p81, List.forall_mem_cons.mpr ⟨lw_p82, List.forall_mem_cons.mpr ⟨lw_p83, List.forall_mem_cons.mpr ⟨lw_p84, fun _ h => absurd h List.not_mem_nil⟩⟩⟩⟩⟩
def lw_privs : List (MethodName × Nat) := lw_privs_1 ++ (lw_privs_2 ++ (lw_privs_3 ++ (lw_privs_4 ++ (lw_privs_5 ++ (lw_privs_6)))))
def lw_tbl : List Cond := k2_sels lw_privs ++ tables_1
theorem lw_privs_ok : ∀ q ∈ lw_privs, lw_okq q := by
  show ∀ q ∈ lw_privs_1 ++ (lw_privs_2 ++ (lw_privs_3 ++ (lw_privs_4 ++ (lw_privs_5 ++ (lw_privs_6))))), lw_okq q
  exact List.forall_mem_append.mpr ⟨lw_r1, List.forall_mem_append.mpr ⟨lw_r2, List.forall_mem_append.mpr ⟨lw_r3, List.forall_mem_append.mpr ⟨lw_r4, List.forall_mem_append.mpr ⟨lw_r5, lw_r6⟩⟩⟩⟩⟩

def RX0 : String := "CarpetReasons$Acts"
def TX0 : u_T := fun k => match k with
  | 0 => ("CarpetReasons$Acts", "trace", "[I", true)
  | 1 => ("CarpetReasons$Acts", "ran", "I", false)
  | 2 => ("CarpetReasons$Acts", "goer", "I", false)
  | 3 => ("CarpetReasons$Acts", "kind", "I", false)
  | _ => ("CarpetReasons$Acts", "v", "I", false)
def tyX0 : Nat → FieldType := fun k => match k with
  | 0 => .array .int
  | 1 => .int
  | 2 => .int
  | 3 => .int
  | _ => .int
abbrev wsX00 : List Cond := u_ws RX0 TX0 5
theorem nmX0 : ∀ a, a < 5 → ∀ b, b < 5 → a ≠ b → (TX0 a).2.1 ≠ (TX0 b).2.1 := by decide +kernel
theorem tyX0_ok : ∀ k, k < 5 → parseFieldDescriptor (TX0 k).2.2.1 = some (tyX0 k) := by decide +kernel
abbrev cX0_init : ByteArray := prog_2_method_1_code
def yX0_init : MethodName := ⟨RX0, "<init>", "()V"⟩
abbrev cX0_isAct : ByteArray := prog_2_method_2_code
def yX0_isAct : MethodName := ⟨RX0, "isAct", "(I)Z"⟩
abbrev cX0_forgetTrace : ByteArray := prog_2_method_3_code
def yX0_forgetTrace : MethodName := ⟨RX0, "forgetTrace", "()V"⟩
abbrev cX0_howManyRan : ByteArray := prog_2_method_4_code
def yX0_howManyRan : MethodName := ⟨RX0, "howManyRan", "()I"⟩
abbrev cX0_bodyAt : ByteArray := prog_2_method_5_code
def yX0_bodyAt : MethodName := ⟨RX0, "bodyAt", "(I)I"⟩
abbrev cX0_actOf : ByteArray := prog_2_method_6_code
def yX0_actOf : MethodName := ⟨RX0, "actOf", "(IIIII)I"⟩
abbrev cX0_perform : ByteArray := prog_2_method_7_code
def yX0_perform : MethodName := ⟨RX0, "perform", "(IIII)I"⟩
abbrev cX0_run : ByteArray := prog_2_method_8_code
def yX0_run : MethodName := ⟨RX0, "run", "(III)I"⟩
def RX1 : String := "CarpetReasons$Asked"
def TX1 : u_T := fun k => match k with
  | 0 => ("CarpetReasons$Asked", "now", "LCarpetReasons$Carpet;", true)
  | 1 => ("CarpetReasons$Asked", "notes", "LCarpetReasons$Notes;", true)
  | 2 => ("CarpetReasons$Asked", "rooms", "LCarpetReasons$Rooms;", true)
  | 3 => ("CarpetReasons$Asked", "trial", "LCarpetReasons$Carpet;", true)
  | _ => ("CarpetReasons$Asked", "prints", "[I", true)
def tyX1 : Nat → FieldType := fun k => match k with
  | 0 => .object "CarpetReasons$Carpet"
  | 1 => .object "CarpetReasons$Notes"
  | 2 => .object "CarpetReasons$Rooms"
  | 3 => .object "CarpetReasons$Carpet"
  | _ => .array .int
abbrev wsX10 : List Cond := u_ws RX1 TX1 5
theorem nmX1 : ∀ a, a < 5 → ∀ b, b < 5 → a ≠ b → (TX1 a).2.1 ≠ (TX1 b).2.1 := by decide +kernel
theorem tyX1_ok : ∀ k, k < 5 → parseFieldDescriptor (TX1 k).2.2.1 = some (tyX1 k) := by decide +kernel
abbrev cX1_init : ByteArray := prog_3_method_1_code
def yX1_init : MethodName := ⟨RX1, "<init>", "(LCarpetReasons$Carpet;LCarpetReasons$Notes;LCarpetReasons$Rooms;)V"⟩
abbrev cX1_behind : ByteArray := prog_3_method_2_code
def yX1_behind : MethodName := ⟨RX1, "behind", "(I)LCarpetReasons$Carpet;"⟩
abbrev cX1_behindPlan : ByteArray := prog_3_method_3_code
def yX1_behindPlan : MethodName := ⟨RX1, "behindPlan", "()LCarpetReasons$Carpet;"⟩
abbrev cX1_daysUntilBald : ByteArray := prog_3_method_4_code
def yX1_daysUntilBald : MethodName := ⟨RX1, "daysUntilBald", "(I)I"⟩
abbrev cX1_firstWorn : ByteArray := prog_3_method_5_code
def yX1_firstWorn : MethodName := ⟨RX1, "firstWorn", "()I"⟩
abbrev cX1_fewestWhoLeft : ByteArray := prog_3_method_6_code
def yX1_fewestWhoLeft : MethodName := ⟨RX1, "fewestWhoLeft", "(II)I"⟩
abbrev cX1_setsWhoLeft : ByteArray := prog_3_method_7_code
def yX1_setsWhoLeft : MethodName := ⟨RX1, "setsWhoLeft", "(II)I"⟩
abbrev cX1_takePrints : ByteArray := prog_3_method_8_code
def yX1_takePrints : MethodName := ⟨RX1, "takePrints", "(I)V"⟩
abbrev cX1_hasLeft : ByteArray := prog_3_method_9_code
def yX1_hasLeft : MethodName := ⟨RX1, "hasLeft", "(II)Z"⟩
abbrev cX1_bestFurniture : ByteArray := prog_3_method_10_code
def yX1_bestFurniture : MethodName := ⟨RX1, "bestFurniture", "()I"⟩
abbrev cX1_freeCells : ByteArray := prog_3_method_11_code
def yX1_freeCells : MethodName := ⟨RX1, "freeCells", "()I"⟩
abbrev cX1_cellToLay : ByteArray := prog_3_method_12_code
def yX1_cellToLay : MethodName := ⟨RX1, "cellToLay", "()I"⟩
abbrev cX1_startsOf : ByteArray := prog_3_method_13_code
def yX1_startsOf : MethodName := ⟨RX1, "startsOf", "(I)I"⟩
abbrev cX1_fittingNumbers : ByteArray := prog_3_method_14_code
def yX1_fittingNumbers : MethodName := ⟨RX1, "fittingNumbers", "(I)I"⟩
abbrev cX1_soleGoers : ByteArray := prog_3_method_15_code
def yX1_soleGoers : MethodName := ⟨RX1, "soleGoers", "()I"⟩
abbrev cX1_goersWithoutWhomBald : ByteArray := prog_3_method_16_code
def yX1_goersWithoutWhomBald : MethodName := ⟨RX1, "goersWithoutWhomBald", "(II)I"⟩
def RX2 : String := "CarpetReasons$Carpet"
def TX2 : u_T := fun k => match k with
  | 0 => ("CarpetReasons$Carpet", "wear", "[I", true)
  | 1 => ("CarpetReasons$Carpet", "kind", "[I", true)
  | 2 => ("CarpetReasons$Carpet", "v", "[I", true)
  | 3 => ("CarpetReasons$Carpet", "from", "[I", true)
  | 4 => ("CarpetReasons$Carpet", "to", "[I", true)
  | 5 => ("CarpetReasons$Carpet", "rows", "[I", true)
  | 6 => ("CarpetReasons$Carpet", "ways", "[I", true)
  | 7 => ("CarpetReasons$Carpet", "yields", "[I", true)
  | 8 => ("CarpetReasons$Carpet", "goers", "I", false)
  | 9 => ("CarpetReasons$Carpet", "away", "I", false)
  | 10 => ("CarpetReasons$Carpet", "furniture", "I", false)
  | 11 => ("CarpetReasons$Carpet", "day", "I", false)
  | 12 => ("CarpetReasons$Carpet", "room", "I", false)
  | 13 => ("CarpetReasons$Carpet", "baldAt", "I", false)
  | _ => ("CarpetReasons$Carpet", "search", "LCarpetReasons$Search;", true)
def tyX2 : Nat → FieldType := fun k => match k with
  | 0 => .array .int
  | 1 => .array .int
  | 2 => .array .int
  | 3 => .array .int
  | 4 => .array .int
  | 5 => .array .int
  | 6 => .array .int
  | 7 => .array .int
  | 8 => .int
  | 9 => .int
  | 10 => .int
  | 11 => .int
  | 12 => .int
  | 13 => .int
  | _ => .object "CarpetReasons$Search"
abbrev wsX20 : List Cond := u_ws RX2 TX2 15
theorem nmX2 : ∀ a, a < 15 → ∀ b, b < 15 → a ≠ b → (TX2 a).2.1 ≠ (TX2 b).2.1 := by decide +kernel
theorem tyX2_ok : ∀ k, k < 15 → parseFieldDescriptor (TX2 k).2.2.1 = some (tyX2 k) := by decide +kernel
abbrev cX2_init : ByteArray := prog_4_method_1_code
def yX2_init : MethodName := ⟨RX2, "<init>", "()V"⟩
abbrev cX2_become : ByteArray := prog_4_method_2_code
def yX2_become : MethodName := ⟨RX2, "become", "(LCarpetReasons$Carpet;)V"⟩
abbrev cX2_hasGoer : ByteArray := prog_4_method_3_code
def yX2_hasGoer : MethodName := ⟨RX2, "hasGoer", "(I)Z"⟩
abbrev cX2_isAway : ByteArray := prog_4_method_4_code
def yX2_isAway : MethodName := ⟨RX2, "isAway", "(I)Z"⟩
abbrev cX2_putAway : ByteArray := prog_4_method_5_code
def yX2_putAway : MethodName := ⟨RX2, "putAway", "(IZ)V"⟩
abbrev cX2_addGoer : ByteArray := prog_4_method_6_code
def yX2_addGoer : MethodName := ⟨RX2, "addGoer", "(IIII)I"⟩
abbrev cX2_furnish : ByteArray := prog_4_method_7_code
def yX2_furnish : MethodName := ⟨RX2, "furnish", "(I)V"⟩
abbrev cX2_findWay : ByteArray := prog_4_method_8_code
def yX2_findWay : MethodName := ⟨RX2, "findWay", "(I)V"⟩
abbrev cX2_cellOfWay : ByteArray := prog_4_method_9_code
def yX2_cellOfWay : MethodName := ⟨RX2, "cellOfWay", "(II)I"⟩
abbrev cX2_walkTo : ByteArray := prog_4_method_10_code
def yX2_walkTo : MethodName := ⟨RX2, "walkTo", "(I)I"⟩
abbrev cX2_treads : ByteArray := prog_4_method_11_code
def yX2_treads : MethodName := ⟨RX2, "treads", "(III)I"⟩
abbrev cX2_treadsOnWay : ByteArray := prog_4_method_12_code
def yX2_treadsOnWay : MethodName := ⟨RX2, "treadsOnWay", "(II)I"⟩
abbrev cX2_treadsOfRow : ByteArray := prog_4_method_13_code
def yX2_treadsOfRow : MethodName := ⟨RX2, "treadsOfRow", "(II)I"⟩
abbrev cX2_troddenCells : ByteArray := prog_4_method_14_code
def yX2_troddenCells : MethodName := ⟨RX2, "troddenCells", "()I"⟩
abbrev cX2_printOf : ByteArray := prog_4_method_15_code
def yX2_printOf : MethodName := ⟨RX2, "printOf", "(II)I"⟩
abbrev cX2_gain : ByteArray := prog_4_method_16_code
def yX2_gain : MethodName := ⟨RX2, "gain", "(II)I"⟩
abbrev cX2_spend : ByteArray := prog_4_method_17_code
def yX2_spend : MethodName := ⟨RX2, "spend", "(I)V"⟩
abbrev cX2_limitWear : ByteArray := prog_4_method_18_code
def yX2_limitWear : MethodName := ⟨RX2, "limitWear", "()V"⟩
abbrev cX2_wearOfAll : ByteArray := prog_4_method_19_code
def yX2_wearOfAll : MethodName := ⟨RX2, "wearOfAll", "()I"⟩
abbrev cX2_baldCells : ByteArray := prog_4_method_20_code
def yX2_baldCells : MethodName := ⟨RX2, "baldCells", "()I"⟩
def RX3 : String := "CarpetReasons$Cells"
def TX3 : u_T := fun k => match k with
  | _ => ("", "", "", false)
def tyX3 : Nat → FieldType := fun k => match k with
  | _ => .int
abbrev wsX30 : List Cond := u_ws RX3 TX3 0
theorem nmX3 : ∀ a, a < 0 → ∀ b, b < 0 → a ≠ b → (TX3 a).2.1 ≠ (TX3 b).2.1 := by decide +kernel
theorem tyX3_ok : ∀ k, k < 0 → parseFieldDescriptor (TX3 k).2.2.1 = some (tyX3 k) := by decide +kernel
abbrev cX3_isCell : ByteArray := prog_5_method_2_code
def yX3_isCell : MethodName := ⟨RX3, "isCell", "(I)Z"⟩
abbrev cX3_has : ByteArray := prog_5_method_3_code
def yX3_has : MethodName := ⟨RX3, "has", "(II)Z"⟩
abbrev cX3_nextTo : ByteArray := prog_5_method_4_code
def yX3_nextTo : MethodName := ⟨RX3, "nextTo", "(I)I"⟩
abbrev cX3_first : ByteArray := prog_5_method_5_code
def yX3_first : MethodName := ⟨RX3, "first", "(I)I"⟩
abbrev cX3_howMany : ByteArray := prog_5_method_6_code
def yX3_howMany : MethodName := ⟨RX3, "howMany", "(I)I"⟩
def RX4 : String := "CarpetReasons$Kinds"
def TX4 : u_T := fun k => match k with
  | _ => ("", "", "", false)
def tyX4 : Nat → FieldType := fun k => match k with
  | _ => .int
abbrev wsX40 : List Cond := u_ws RX4 TX4 0
theorem nmX4 : ∀ a, a < 0 → ∀ b, b < 0 → a ≠ b → (TX4 a).2.1 ≠ (TX4 b).2.1 := by decide +kernel
theorem tyX4_ok : ∀ k, k < 0 → parseFieldDescriptor (TX4 k).2.2.1 = some (tyX4 k) := by decide +kernel
abbrev cX4_isKind : ByteArray := prog_6_method_2_code
def yX4_isKind : MethodName := ⟨RX4, "isKind", "(I)Z"⟩
abbrev cX4_above : ByteArray := prog_6_method_3_code
def yX4_above : MethodName := ⟨RX4, "above", "(I)I"⟩
abbrev cX4_isUnder : ByteArray := prog_6_method_4_code
def yX4_isUnder : MethodName := ⟨RX4, "isUnder", "(II)Z"⟩
def RX5 : String := "CarpetReasons$Notes"
def TX5 : u_T := fun k => match k with
  | 0 => ("CarpetReasons$Notes", "seenCells", "[I", true)
  | 1 => ("CarpetReasons$Notes", "seenMore", "[I", true)
  | 2 => ("CarpetReasons$Notes", "seenDays", "[I", true)
  | 3 => ("CarpetReasons$Notes", "planWhats", "[I", true)
  | 4 => ("CarpetReasons$Notes", "planNumbers", "[I", true)
  | 5 => ("CarpetReasons$Notes", "bookCells", "[I", true)
  | 6 => ("CarpetReasons$Notes", "bookWears", "[I", true)
  | 7 => ("CarpetReasons$Notes", "seen", "I", false)
  | 8 => ("CarpetReasons$Notes", "planned", "I", false)
  | _ => ("CarpetReasons$Notes", "booked", "I", false)
def tyX5 : Nat → FieldType := fun k => match k with
  | 0 => .array .int
  | 1 => .array .int
  | 2 => .array .int
  | 3 => .array .int
  | 4 => .array .int
  | 5 => .array .int
  | 6 => .array .int
  | 7 => .int
  | 8 => .int
  | _ => .int
abbrev wsX50 : List Cond := u_ws RX5 TX5 10
theorem nmX5 : ∀ a, a < 10 → ∀ b, b < 10 → a ≠ b → (TX5 a).2.1 ≠ (TX5 b).2.1 := by decide +kernel
theorem tyX5_ok : ∀ k, k < 10 → parseFieldDescriptor (TX5 k).2.2.1 = some (tyX5 k) := by decide +kernel
abbrev cX5_init : ByteArray := prog_7_method_1_code
def yX5_init : MethodName := ⟨RX5, "<init>", "()V"⟩
abbrev cX5_become : ByteArray := prog_7_method_2_code
def yX5_become : MethodName := ⟨RX5, "become", "(LCarpetReasons$Notes;)V"⟩
abbrev cX5_forgetSeen : ByteArray := prog_7_method_3_code
def yX5_forgetSeen : MethodName := ⟨RX5, "forgetSeen", "()I"⟩
abbrev cX5_addSeen : ByteArray := prog_7_method_4_code
def yX5_addSeen : MethodName := ⟨RX5, "addSeen", "(III)Z"⟩
abbrev cX5_isAllSeenSo : ByteArray := prog_7_method_5_code
def yX5_isAllSeenSo : MethodName := ⟨RX5, "isAllSeenSo", "(LCarpetReasons$Carpet;)Z"⟩
abbrev cX5_forgetPlan : ByteArray := prog_7_method_6_code
def yX5_forgetPlan : MethodName := ⟨RX5, "forgetPlan", "()I"⟩
abbrev cX5_addToPlan : ByteArray := prog_7_method_7_code
def yX5_addToPlan : MethodName := ⟨RX5, "addToPlan", "(II)Z"⟩
abbrev cX5_forgetBook : ByteArray := prog_7_method_8_code
def yX5_forgetBook : MethodName := ⟨RX5, "forgetBook", "()I"⟩
abbrev cX5_addToBook : ByteArray := prog_7_method_9_code
def yX5_addToBook : MethodName := ⟨RX5, "addToBook", "(II)Z"⟩
abbrev cX5_firstOtherwise : ByteArray := prog_7_method_10_code
def yX5_firstOtherwise : MethodName := ⟨RX5, "firstOtherwise", "(LCarpetReasons$Carpet;)I"⟩
def RX6 : String := "CarpetReasons$Rooms"
def TX6 : u_T := fun k => match k with
  | 0 => ("CarpetReasons$Rooms", "signs", "[B", true)
  | 1 => ("CarpetReasons$Rooms", "lengths", "[I", true)
  | 2 => ("CarpetReasons$Rooms", "made", "I", false)
  | 3 => ("CarpetReasons$Rooms", "start", "I", false)
  | 4 => ("CarpetReasons$Rooms", "length", "I", false)
  | 5 => ("CarpetReasons$Rooms", "at", "I", false)
  | 6 => ("CarpetReasons$Rooms", "broken", "Z", false)
  | 7 => ("CarpetReasons$Rooms", "goer", "I", false)
  | 8 => ("CarpetReasons$Rooms", "kind", "I", false)
  | 9 => ("CarpetReasons$Rooms", "v", "I", false)
  | 10 => ("CarpetReasons$Rooms", "sums", "[I", true)
  | _ => ("CarpetReasons$Rooms", "bald", "I", false)
def tyX6 : Nat → FieldType := fun k => match k with
  | 0 => .array .byte
  | 1 => .array .int
  | 2 => .int
  | 3 => .int
  | 4 => .int
  | 5 => .int
  | 6 => .boolean
  | 7 => .int
  | 8 => .int
  | 9 => .int
  | 10 => .array .int
  | _ => .int
abbrev wsX60 : List Cond := u_ws RX6 TX6 12
theorem nmX6 : ∀ a, a < 12 → ∀ b, b < 12 → a ≠ b → (TX6 a).2.1 ≠ (TX6 b).2.1 := by decide +kernel
theorem tyX6_ok : ∀ k, k < 12 → parseFieldDescriptor (TX6 k).2.2.1 = some (tyX6 k) := by decide +kernel
abbrev cX6_init : ByteArray := prog_8_method_1_code
def yX6_init : MethodName := ⟨RX6, "<init>", "()V"⟩
abbrev cX6_howMany : ByteArray := prog_8_method_2_code
def yX6_howMany : MethodName := ⟨RX6, "howMany", "()I"⟩
abbrev cX6_textLength : ByteArray := prog_8_method_3_code
def yX6_textLength : MethodName := ⟨RX6, "textLength", "()I"⟩
abbrev cX6_addSign : ByteArray := prog_8_method_4_code
def yX6_addSign : MethodName := ⟨RX6, "addSign", "(B)Z"⟩
abbrev cX6_closeText : ByteArray := prog_8_method_5_code
def yX6_closeText : MethodName := ⟨RX6, "closeText", "()I"⟩
abbrev cX6_baldAt : ByteArray := prog_8_method_6_code
def yX6_baldAt : MethodName := ⟨RX6, "baldAt", "()I"⟩
abbrev cX6_copyYields : ByteArray := prog_8_method_7_code
def yX6_copyYields : MethodName := ⟨RX6, "copyYields", "([II)V"⟩
abbrev cX6_readFor : ByteArray := prog_8_method_8_code
def yX6_readFor : MethodName := ⟨RX6, "readFor", "(IIII)V"⟩
abbrev cX6_clause : ByteArray := prog_8_method_9_code
def yX6_clause : MethodName := ⟨RX6, "clause", "()V"⟩
abbrev cX6_expression : ByteArray := prog_8_method_10_code
def yX6_expression : MethodName := ⟨RX6, "expression", "(I)I"⟩
abbrev cX6_factor : ByteArray := prog_8_method_11_code
def yX6_factor : MethodName := ⟨RX6, "factor", "(I)I"⟩
abbrev cX6_test : ByteArray := prog_8_method_12_code
def yX6_test : MethodName := ⟨RX6, "test", "()I"⟩
abbrev cX6_isLetter : ByteArray := prog_8_method_13_code
def yX6_isLetter : MethodName := ⟨RX6, "isLetter", "(I)Z"⟩
abbrev cX6_valueOf : ByteArray := prog_8_method_14_code
def yX6_valueOf : MethodName := ⟨RX6, "valueOf", "(II)I"⟩
abbrev cX6_number : ByteArray := prog_8_method_15_code
def yX6_number : MethodName := ⟨RX6, "number", "()I"⟩
abbrev cX6_word : ByteArray := prog_8_method_16_code
def yX6_word : MethodName := ⟨RX6, "word", "(Ljava/lang/String;)V"⟩
abbrev cX6_fail : ByteArray := prog_8_method_17_code
def yX6_fail : MethodName := ⟨RX6, "fail", "()I"⟩
abbrev cX6_sign : ByteArray := prog_8_method_18_code
def yX6_sign : MethodName := ⟨RX6, "sign", "()I"⟩
def RX7 : String := "CarpetReasons$Search"
def TX7 : u_T := fun k => match k with
  | 0 => ("CarpetReasons$Search", "layers", "[I", true)
  | _ => ("CarpetReasons$Search", "path", "[I", true)
def tyX7 : Nat → FieldType := fun k => match k with
  | 0 => .array .int
  | _ => .array .int
abbrev wsX70 : List Cond := u_ws RX7 TX7 2
theorem nmX7 : ∀ a, a < 2 → ∀ b, b < 2 → a ≠ b → (TX7 a).2.1 ≠ (TX7 b).2.1 := by decide +kernel
theorem tyX7_ok : ∀ k, k < 2 → parseFieldDescriptor (TX7 k).2.2.1 = some (tyX7 k) := by decide +kernel
abbrev cX7_init : ByteArray := prog_9_method_1_code
def yX7_init : MethodName := ⟨RX7, "<init>", "()V"⟩
abbrev cX7_walk : ByteArray := prog_9_method_2_code
def yX7_walk : MethodName := ⟨RX7, "walk", "(III)I"⟩
abbrev cX7_cellsOf : ByteArray := prog_9_method_3_code
def yX7_cellsOf : MethodName := ⟨RX7, "cellsOf", "(I)I"⟩
abbrev cX7_cellAt : ByteArray := prog_9_method_4_code
def yX7_cellAt : MethodName := ⟨RX7, "cellAt", "(II)I"⟩
def RX8 : String := "CarpetReasons$Tapes"
def TX8 : u_T := fun k => match k with
  | 0 => ("CarpetReasons$Tapes", "items", "[J", true)
  | 1 => ("CarpetReasons$Tapes", "sorts", "[I", true)
  | _ => ("CarpetReasons$Tapes", "sizes", "[I", true)
def tyX8 : Nat → FieldType := fun k => match k with
  | 0 => .array .long
  | 1 => .array .int
  | _ => .array .int
abbrev wsX80 : List Cond := u_ws RX8 TX8 3
theorem nmX8 : ∀ a, a < 3 → ∀ b, b < 3 → a ≠ b → (TX8 a).2.1 ≠ (TX8 b).2.1 := by decide +kernel
theorem tyX8_ok : ∀ k, k < 3 → parseFieldDescriptor (TX8 k).2.2.1 = some (tyX8 k) := by decide +kernel
abbrev cX8_init : ByteArray := prog_10_method_1_code
def yX8_init : MethodName := ⟨RX8, "<init>", "()V"⟩
abbrev cX8_isTape : ByteArray := prog_10_method_2_code
def yX8_isTape : MethodName := ⟨RX8, "isTape", "(I)Z"⟩
abbrev cX8_isEmpty : ByteArray := prog_10_method_3_code
def yX8_isEmpty : MethodName := ⟨RX8, "isEmpty", "(I)Z"⟩
abbrev cX8_sortOf : ByteArray := prog_10_method_4_code
def yX8_sortOf : MethodName := ⟨RX8, "sortOf", "(I)I"⟩
abbrev cX8_hasPlace : ByteArray := prog_10_method_5_code
def yX8_hasPlace : MethodName := ⟨RX8, "hasPlace", "(II)Z"⟩
abbrev cX8_hasStretch : ByteArray := prog_10_method_6_code
def yX8_hasStretch : MethodName := ⟨RX8, "hasStretch", "(III)Z"⟩
abbrev cX8_renew : ByteArray := prog_10_method_7_code
def yX8_renew : MethodName := ⟨RX8, "renew", "(III)V"⟩
abbrev cX8_itemAt : ByteArray := prog_10_method_8_code
def yX8_itemAt : MethodName := ⟨RX8, "itemAt", "(II)J"⟩
abbrev cX8_put : ByteArray := prog_10_method_9_code
def yX8_put : MethodName := ⟨RX8, "put", "(IIJ)V"⟩
abbrev cX8_narrowed : ByteArray := prog_10_method_10_code
def yX8_narrowed : MethodName := ⟨RX8, "narrowed", "(JI)J"⟩
abbrev cX8_copy : ByteArray := prog_10_method_11_code
def yX8_copy : MethodName := ⟨RX8, "copy", "(IIIII)V"⟩
def RX9 : String := "CarpetReasons"
def TX9 : u_T := fun k => match k with
  | 0 => ("CarpetReasons", "carpet", "LCarpetReasons$Carpet;", true)
  | 1 => ("CarpetReasons", "carpetOfImage", "LCarpetReasons$Carpet;", true)
  | 2 => ("CarpetReasons", "notes", "LCarpetReasons$Notes;", true)
  | 3 => ("CarpetReasons", "notesOfImage", "LCarpetReasons$Notes;", true)
  | 4 => ("CarpetReasons", "imageTaken", "Z", false)
  | 5 => ("CarpetReasons", "rooms", "LCarpetReasons$Rooms;", true)
  | 6 => ("CarpetReasons", "asked", "LCarpetReasons$Asked;", true)
  | 7 => ("CarpetReasons", "acts", "LCarpetReasons$Acts;", true)
  | _ => ("CarpetReasons", "tapes", "LCarpetReasons$Tapes;", true)
def tyX9 : Nat → FieldType := fun k => match k with
  | 0 => .object "CarpetReasons$Carpet"
  | 1 => .object "CarpetReasons$Carpet"
  | 2 => .object "CarpetReasons$Notes"
  | 3 => .object "CarpetReasons$Notes"
  | 4 => .boolean
  | 5 => .object "CarpetReasons$Rooms"
  | 6 => .object "CarpetReasons$Asked"
  | 7 => .object "CarpetReasons$Acts"
  | _ => .object "CarpetReasons$Tapes"
abbrev wsX90 : List Cond := u_ws RX9 TX9 9
theorem nmX9 : ∀ a, a < 9 → ∀ b, b < 9 → a ≠ b → (TX9 a).2.1 ≠ (TX9 b).2.1 := by decide +kernel
theorem tyX9_ok : ∀ k, k < 9 → parseFieldDescriptor (TX9 k).2.2.1 = some (tyX9 k) := by decide +kernel
abbrev cX9_init : ByteArray := prog_1_method_1_code
def yX9_init : MethodName := ⟨RX9, "<init>", "()V"⟩
abbrev cX9_goer : ByteArray := prog_1_method_2_code
def yX9_goer : MethodName := ⟨RX9, "goer", "(IIII)I"⟩
abbrev cX9_of : ByteArray := prog_1_method_3_code
def yX9_of : MethodName := ⟨RX9, "of", "(II)I"⟩
abbrev cX9_set : ByteArray := prog_1_method_4_code
def yX9_set : MethodName := ⟨RX9, "set", "(II)I"⟩
abbrev cX9_move : ByteArray := prog_1_method_5_code
def yX9_move : MethodName := ⟨RX9, "move", "(III)I"⟩
abbrev cX9_away : ByteArray := prog_1_method_6_code
def yX9_away : MethodName := ⟨RX9, "away", "(IZ)I"⟩
abbrev cX9_stand : ByteArray := prog_1_method_7_code
def yX9_stand : MethodName := ⟨RX9, "stand", "(IZ)I"⟩
abbrev cX9_row : ByteArray := prog_1_method_8_code
def yX9_row : MethodName := ⟨RX9, "row", "(III)I"⟩
abbrev cX9_feed : ByteArray := prog_1_method_9_code
def yX9_feed : MethodName := ⟨RX9, "feed", "(I)I"⟩
abbrev cX9_room : ByteArray := prog_1_method_10_code
def yX9_room : MethodName := ⟨RX9, "room", "()I"⟩
abbrev cX9_told : ByteArray := prog_1_method_11_code
def yX9_told : MethodName := ⟨RX9, "told", "(I)I"⟩
abbrev cX9_pass : ByteArray := prog_1_method_12_code
def yX9_pass : MethodName := ⟨RX9, "pass", "(I)I"⟩
abbrev cX9_on : ByteArray := prog_1_method_13_code
def yX9_on : MethodName := ⟨RX9, "on", "(II)I"⟩
abbrev cX9_worn : ByteArray := prog_1_method_14_code
def yX9_worn : MethodName := ⟨RX9, "worn", "(I)I"⟩
abbrev cX9_meet : ByteArray := prog_1_method_15_code
def yX9_meet : MethodName := ⟨RX9, "meet", "(II)I"⟩
abbrev cX9_who : ByteArray := prog_1_method_16_code
def yX9_who : MethodName := ⟨RX9, "who", "(III)I"⟩
abbrev cX9_best : ByteArray := prog_1_method_17_code
def yX9_best : MethodName := ⟨RX9, "best", "(I)I"⟩
abbrev cX9_see : ByteArray := prog_1_method_18_code
def yX9_see : MethodName := ⟨RX9, "see", "(III)I"⟩
abbrev cX9_starts : ByteArray := prog_1_method_19_code
def yX9_starts : MethodName := ⟨RX9, "starts", "(I)I"⟩
abbrev cX9_can : ByteArray := prog_1_method_20_code
def yX9_can : MethodName := ⟨RX9, "can", "(II)I"⟩
abbrev cX9_sole : ByteArray := prog_1_method_21_code
def yX9_sole : MethodName := ⟨RX9, "sole", "()I"⟩
abbrev cX9_odds : ByteArray := prog_1_method_22_code
def yX9_odds : MethodName := ⟨RX9, "odds", "(III)J"⟩
abbrev cX9_mean : ByteArray := prog_1_method_23_code
def yX9_mean : MethodName := ⟨RX9, "mean", "(II)J"⟩
abbrev cX9_plan : ByteArray := prog_1_method_24_code
def yX9_plan : MethodName := ⟨RX9, "plan", "(II)I"⟩
abbrev cX9_ends : ByteArray := prog_1_method_25_code
def yX9_ends : MethodName := ⟨RX9, "ends", "(I)I"⟩
abbrev cX9_book : ByteArray := prog_1_method_26_code
def yX9_book : MethodName := ⟨RX9, "book", "(II)I"⟩
abbrev cX9_looked : ByteArray := prog_1_method_27_code
def yX9_looked : MethodName := ⟨RX9, "looked", "()I"⟩
abbrev cX9_judge : ByteArray := prog_1_method_28_code
def yX9_judge : MethodName := ⟨RX9, "judge", "(II)I"⟩
abbrev cX9_image : ByteArray := prog_1_method_29_code
def yX9_image : MethodName := ⟨RX9, "image", "()I"⟩
abbrev cX9_undo : ByteArray := prog_1_method_30_code
def yX9_undo : MethodName := ⟨RX9, "undo", "()I"⟩
abbrev cX9_act : ByteArray := prog_1_method_31_code
def yX9_act : MethodName := ⟨RX9, "act", "(III)I"⟩
abbrev cX9_trace : ByteArray := prog_1_method_32_code
def yX9_trace : MethodName := ⟨RX9, "trace", "(I)I"⟩
abbrev cX9_taken : ByteArray := prog_1_method_33_code
def yX9_taken : MethodName := ⟨RX9, "taken", "(II)I"⟩
abbrev cX9_count : ByteArray := prog_1_method_34_code
def yX9_count : MethodName := ⟨RX9, "count", "(I)I"⟩
abbrev cX9_tape : ByteArray := prog_1_method_35_code
def yX9_tape : MethodName := ⟨RX9, "tape", "(III)I"⟩
abbrev cX9_item : ByteArray := prog_1_method_36_code
def yX9_item : MethodName := ⟨RX9, "item", "(IIJ)I"⟩
abbrev cX9_read : ByteArray := prog_1_method_37_code
def yX9_read : MethodName := ⟨RX9, "read", "(II)J"⟩
abbrev cX9_shift : ByteArray := prog_1_method_38_code
def yX9_shift : MethodName := ⟨RX9, "shift", "(IIIII)I"⟩
abbrev cX9_learnYields : ByteArray := prog_1_method_39_code
def yX9_learnYields : MethodName := ⟨RX9, "learnYields", "(I)V"⟩
abbrev cX9_isBetween : ByteArray := prog_1_method_40_code
def yX9_isBetween : MethodName := ⟨RX9, "isBetween", "(III)Z"⟩
abbrev cX9_isCellAsked : ByteArray := prog_1_method_41_code
def yX9_isCellAsked : MethodName := ⟨RX9, "isCellAsked", "(II)Z"⟩
abbrev cX9_oneIf : ByteArray := prog_1_method_42_code
def yX9_oneIf : MethodName := ⟨RX9, "oneIf", "(Z)I"⟩
abbrev cX9_partOfFraction : ByteArray := prog_1_method_43_code
def yX9_partOfFraction : MethodName := ⟨RX9, "partOfFraction", "(III)J"⟩
abbrev cX9_commonDivisor : ByteArray := prog_1_method_44_code
def yX9_commonDivisor : MethodName := ⟨RX9, "commonDivisor", "(II)I"⟩
def RX10 : String := "CarpetReasonsModel"
def TX10 : u_T := fun k => match k with
  | 0 => ("CarpetReasonsModel", "goers", "I", false)
  | 1 => ("CarpetReasonsModel", "gone", "I", false)
  | 2 => ("CarpetReasonsModel", "stands", "I", false)
  | 3 => ("CarpetReasonsModel", "days", "I", false)
  | 4 => ("CarpetReasonsModel", "wear", "[I", true)
  | 5 => ("CarpetReasonsModel", "kind", "[I", true)
  | 6 => ("CarpetReasonsModel", "v", "[I", true)
  | 7 => ("CarpetReasonsModel", "begins", "[I", true)
  | 8 => ("CarpetReasonsModel", "ends0", "[I", true)
  | 9 => ("CarpetReasonsModel", "rows", "[I", true)
  | 10 => ("CarpetReasonsModel", "rooms", "I", false)
  | 11 => ("CarpetReasonsModel", "the", "I", false)
  | 12 => ("CarpetReasonsModel", "fed", "I", false)
  | 13 => ("CarpetReasonsModel", "at", "I", false)
  | 14 => ("CarpetReasonsModel", "digits", "I", false)
  | 15 => ("CarpetReasonsModel", "text", "[I", true)
  | 16 => ("CarpetReasonsModel", "clauses", "[I", true)
  | 17 => ("CarpetReasonsModel", "word", "[I", true)
  | 18 => ("CarpetReasonsModel", "number", "[I", true)
  | 19 => ("CarpetReasonsModel", "from", "[I", true)
  | 20 => ("CarpetReasonsModel", "to", "[I", true)
  | 21 => ("CarpetReasonsModel", "sign", "[I", true)
  | 22 => ("CarpetReasonsModel", "waits", "[I", true)
  | 23 => ("CarpetReasonsModel", "signs", "I", false)
  | 24 => ("CarpetReasonsModel", "waiting", "I", false)
  | 25 => ("CarpetReasonsModel", "open", "I", false)
  | 26 => ("CarpetReasonsModel", "letters", "[I", true)
  | 27 => ("CarpetReasonsModel", "pile", "[Z", true)
  | 28 => ("CarpetReasonsModel", "dist", "[I", true)
  | 29 => ("CarpetReasonsModel", "wave", "[I", true)
  | 30 => ("CarpetReasonsModel", "way", "[I", true)
  | 31 => ("CarpetReasonsModel", "wayLong", "I", false)
  | 32 => ("CarpetReasonsModel", "worn0", "[I", true)
  | 33 => ("CarpetReasonsModel", "mostWear", "I", false)
  | 34 => ("CarpetReasonsModel", "keptGone", "I", false)
  | 35 => ("CarpetReasonsModel", "keptStands", "I", false)
  | 36 => ("CarpetReasonsModel", "keptDays", "I", false)
  | 37 => ("CarpetReasonsModel", "keptWear", "[I", true)
  | 38 => ("CarpetReasonsModel", "soon", "[I", true)
  | 39 => ("CarpetReasonsModel", "seen", "I", false)
  | 40 => ("CarpetReasonsModel", "seenCell", "[I", true)
  | 41 => ("CarpetReasonsModel", "seenMore", "[I", true)
  | 42 => ("CarpetReasonsModel", "seenWhen", "[I", true)
  | 43 => ("CarpetReasonsModel", "plans", "I", false)
  | 44 => ("CarpetReasonsModel", "books", "I", false)
  | 45 => ("CarpetReasonsModel", "planWhat", "[I", true)
  | 46 => ("CarpetReasonsModel", "planNumber", "[I", true)
  | 47 => ("CarpetReasonsModel", "bookCell", "[I", true)
  | 48 => ("CarpetReasonsModel", "bookWear", "[I", true)
  | 49 => ("CarpetReasonsModel", "hasImage", "Z", false)
  | 50 => ("CarpetReasonsModel", "imageThe", "I", false)
  | 51 => ("CarpetReasonsModel", "imageGoers", "I", false)
  | 52 => ("CarpetReasonsModel", "imageGone", "I", false)
  | 53 => ("CarpetReasonsModel", "imageStands", "I", false)
  | 54 => ("CarpetReasonsModel", "imageDays", "I", false)
  | 55 => ("CarpetReasonsModel", "imageSeen", "I", false)
  | 56 => ("CarpetReasonsModel", "imagePlans", "I", false)
  | 57 => ("CarpetReasonsModel", "imageBooks", "I", false)
  | 58 => ("CarpetReasonsModel", "imageWear", "[I", true)
  | 59 => ("CarpetReasonsModel", "imageKind", "[I", true)
  | 60 => ("CarpetReasonsModel", "imageV", "[I", true)
  | 61 => ("CarpetReasonsModel", "imageFrom", "[I", true)
  | 62 => ("CarpetReasonsModel", "imageTo", "[I", true)
  | 63 => ("CarpetReasonsModel", "imageRows", "[I", true)
  | 64 => ("CarpetReasonsModel", "imageCell", "[I", true)
  | 65 => ("CarpetReasonsModel", "imageMore", "[I", true)
  | 66 => ("CarpetReasonsModel", "imageWhen", "[I", true)
  | 67 => ("CarpetReasonsModel", "imageWhat", "[I", true)
  | 68 => ("CarpetReasonsModel", "imageNumber", "[I", true)
  | 69 => ("CarpetReasonsModel", "imageBookCell", "[I", true)
  | 70 => ("CarpetReasonsModel", "imageBookWear", "[I", true)
  | 71 => ("CarpetReasonsModel", "ran", "I", false)
  | 72 => ("CarpetReasonsModel", "bodies", "[I", true)
  | 73 => ("CarpetReasonsModel", "sort", "[I", true)
  | 74 => ("CarpetReasonsModel", "length", "[I", true)
  | 75 => ("CarpetReasonsModel", "item", "[J", true)
  | _ => ("CarpetReasonsModel", "aside", "[J", true)
def tyX10 : Nat → FieldType := fun k => match k with
  | 0 => .int
  | 1 => .int
  | 2 => .int
  | 3 => .int
  | 4 => .array .int
  | 5 => .array .int
  | 6 => .array .int
  | 7 => .array .int
  | 8 => .array .int
  | 9 => .array .int
  | 10 => .int
  | 11 => .int
  | 12 => .int
  | 13 => .int
  | 14 => .int
  | 15 => .array .int
  | 16 => .array .int
  | 17 => .array .int
  | 18 => .array .int
  | 19 => .array .int
  | 20 => .array .int
  | 21 => .array .int
  | 22 => .array .int
  | 23 => .int
  | 24 => .int
  | 25 => .int
  | 26 => .array .int
  | 27 => .array .boolean
  | 28 => .array .int
  | 29 => .array .int
  | 30 => .array .int
  | 31 => .int
  | 32 => .array .int
  | 33 => .int
  | 34 => .int
  | 35 => .int
  | 36 => .int
  | 37 => .array .int
  | 38 => .array .int
  | 39 => .int
  | 40 => .array .int
  | 41 => .array .int
  | 42 => .array .int
  | 43 => .int
  | 44 => .int
  | 45 => .array .int
  | 46 => .array .int
  | 47 => .array .int
  | 48 => .array .int
  | 49 => .boolean
  | 50 => .int
  | 51 => .int
  | 52 => .int
  | 53 => .int
  | 54 => .int
  | 55 => .int
  | 56 => .int
  | 57 => .int
  | 58 => .array .int
  | 59 => .array .int
  | 60 => .array .int
  | 61 => .array .int
  | 62 => .array .int
  | 63 => .array .int
  | 64 => .array .int
  | 65 => .array .int
  | 66 => .array .int
  | 67 => .array .int
  | 68 => .array .int
  | 69 => .array .int
  | 70 => .array .int
  | 71 => .int
  | 72 => .array .int
  | 73 => .array .int
  | 74 => .array .int
  | 75 => .array .long
  | _ => .array .long
abbrev wsX100 : List Cond := u_ws RX10 TX10 77
theorem nmX10 : ∀ a, a < 77 → ∀ b, b < 77 → a ≠ b → (TX10 a).2.1 ≠ (TX10 b).2.1 := by decide +kernel
theorem tyX10_ok : ∀ k, k < 77 → parseFieldDescriptor (TX10 k).2.2.1 = some (tyX10 k) := by decide +kernel
abbrev cX10_init : ByteArray := prog_12_method_1_code
def yX10_init : MethodName := ⟨RX10, "<init>", "()V"⟩
abbrev cX10_in : ByteArray := prog_12_method_2_code
def yX10_in : MethodName := ⟨RX10, "in", "(III)Z"⟩
abbrev cX10_has : ByteArray := prog_12_method_3_code
def yX10_has : MethodName := ⟨RX10, "has", "(II)Z"⟩
abbrev cX10_least : ByteArray := prog_12_method_4_code
def yX10_least : MethodName := ⟨RX10, "least", "(II)I"⟩
abbrev cX10_bits : ByteArray := prog_12_method_5_code
def yX10_bits : MethodName := ⟨RX10, "bits", "(I)I"⟩
abbrev cX10_apart : ByteArray := prog_12_method_6_code
def yX10_apart : MethodName := ⟨RX10, "apart", "(II)I"⟩
abbrev cX10_isNext : ByteArray := prog_12_method_7_code
def yX10_isNext : MethodName := ⟨RX10, "isNext", "(II)Z"⟩
abbrev cX10_isCell : ByteArray := prog_12_method_8_code
def yX10_isCell : MethodName := ⟨RX10, "isCell", "(I)Z"⟩
abbrev cX10_isGoer : ByteArray := prog_12_method_9_code
def yX10_isGoer : MethodName := ⟨RX10, "isGoer", "(I)Z"⟩
abbrev cX10_isWear : ByteArray := prog_12_method_10_code
def yX10_isWear : MethodName := ⟨RX10, "isWear", "(I)Z"⟩
abbrev cX10_isDays : ByteArray := prog_12_method_11_code
def yX10_isDays : MethodName := ⟨RX10, "isDays", "(I)Z"⟩
abbrev cX10_goer : ByteArray := prog_12_method_12_code
def yX10_goer : MethodName := ⟨RX10, "goer", "(IIII)I"⟩
abbrev cX10_set : ByteArray := prog_12_method_13_code
def yX10_set : MethodName := ⟨RX10, "set", "(II)I"⟩
abbrev cX10_move : ByteArray := prog_12_method_14_code
def yX10_move : MethodName := ⟨RX10, "move", "(III)I"⟩
abbrev cX10_goes : ByteArray := prog_12_method_15_code
def yX10_goes : MethodName := ⟨RX10, "goes", "(IZ)V"⟩
abbrev cX10_away : ByteArray := prog_12_method_16_code
def yX10_away : MethodName := ⟨RX10, "away", "(IZ)I"⟩
abbrev cX10_stand : ByteArray := prog_12_method_17_code
def yX10_stand : MethodName := ⟨RX10, "stand", "(IZ)I"⟩
abbrev cX10_row : ByteArray := prog_12_method_18_code
def yX10_row : MethodName := ⟨RX10, "row", "(III)I"⟩
abbrev cX10_feed : ByteArray := prog_12_method_19_code
def yX10_feed : MethodName := ⟨RX10, "feed", "(I)I"⟩
abbrev cX10_next : ByteArray := prog_12_method_20_code
def yX10_next : MethodName := ⟨RX10, "next", "()I"⟩
abbrev cX10_takes : ByteArray := prog_12_method_21_code
def yX10_takes : MethodName := ⟨RX10, "takes", "(I)Z"⟩
abbrev cX10_takesWord : ByteArray := prog_12_method_22_code
def yX10_takesWord : MethodName := ⟨RX10, "takesWord", "(II)Z"⟩
abbrev cX10_isDigit : ByteArray := prog_12_method_23_code
def yX10_isDigit : MethodName := ⟨RX10, "isDigit", "()Z"⟩
abbrev cX10_takesNumber : ByteArray := prog_12_method_24_code
def yX10_takesNumber : MethodName := ⟨RX10, "takesNumber", "()Z"⟩
abbrev cX10_emits : ByteArray := prog_12_method_25_code
def yX10_emits : MethodName := ⟨RX10, "emits", "(I)V"⟩
abbrev cX10_whole : ByteArray := prog_12_method_26_code
def yX10_whole : MethodName := ⟨RX10, "whole", "()V"⟩
abbrev cX10_settle : ByteArray := prog_12_method_27_code
def yX10_settle : MethodName := ⟨RX10, "settle", "(I)V"⟩
abbrev cX10_place : ByteArray := prog_12_method_28_code
def yX10_place : MethodName := ⟨RX10, "place", "(I)I"⟩
abbrev cX10_takesTest : ByteArray := prog_12_method_29_code
def yX10_takesTest : MethodName := ⟨RX10, "takesTest", "()Z"⟩
abbrev cX10_takesE : ByteArray := prog_12_method_30_code
def yX10_takesE : MethodName := ⟨RX10, "takesE", "(I)Z"⟩
abbrev cX10_takesHead : ByteArray := prog_12_method_31_code
def yX10_takesHead : MethodName := ⟨RX10, "takesHead", "(I)Z"⟩
abbrev cX10_takesClause : ByteArray := prog_12_method_32_code
def yX10_takesClause : MethodName := ⟨RX10, "takesClause", "(I)Z"⟩
abbrev cX10_goesText : ByteArray := prog_12_method_33_code
def yX10_goesText : MethodName := ⟨RX10, "goesText", "(I)Z"⟩
abbrev cX10_room : ByteArray := prog_12_method_34_code
def yX10_room : MethodName := ⟨RX10, "room", "()I"⟩
abbrev cX10_begin : ByteArray := prog_12_method_35_code
def yX10_begin : MethodName := ⟨RX10, "begin", "()I"⟩
abbrev cX10_behind : ByteArray := prog_12_method_36_code
def yX10_behind : MethodName := ⟨RX10, "behind", "()I"⟩
abbrev cX10_bald : ByteArray := prog_12_method_37_code
def yX10_bald : MethodName := ⟨RX10, "bald", "()I"⟩
abbrev cX10_factOf : ByteArray := prog_12_method_38_code
def yX10_factOf : MethodName := ⟨RX10, "factOf", "(III)I"⟩
abbrev cX10_holds : ByteArray := prog_12_method_39_code
def yX10_holds : MethodName := ⟨RX10, "holds", "(III)Z"⟩
abbrev cX10_yieldsOf : ByteArray := prog_12_method_40_code
def yX10_yieldsOf : MethodName := ⟨RX10, "yieldsOf", "(II)I"⟩
abbrev cX10_isFree : ByteArray := prog_12_method_41_code
def yX10_isFree : MethodName := ⟨RX10, "isFree", "(II)Z"⟩
abbrev cX10_layFar : ByteArray := prog_12_method_42_code
def yX10_layFar : MethodName := ⟨RX10, "layFar", "(I)V"⟩
abbrev cX10_layWay : ByteArray := prog_12_method_43_code
def yX10_layWay : MethodName := ⟨RX10, "layWay", "(I)V"⟩
abbrev cX10_waySet : ByteArray := prog_12_method_44_code
def yX10_waySet : MethodName := ⟨RX10, "waySet", "(I)I"⟩
abbrev cX10_treadsBy : ByteArray := prog_12_method_45_code
def yX10_treadsBy : MethodName := ⟨RX10, "treadsBy", "(IIII)I"⟩
abbrev cX10_layWorn : ByteArray := prog_12_method_46_code
def yX10_layWorn : MethodName := ⟨RX10, "layWorn", "()V"⟩
abbrev cX10_here : ByteArray := prog_12_method_47_code
def yX10_here : MethodName := ⟨RX10, "here", "()I"⟩
abbrev cX10_goDay : ByteArray := prog_12_method_48_code
def yX10_goDay : MethodName := ⟨RX10, "goDay", "(I)V"⟩
abbrev cX10_goDays : ByteArray := prog_12_method_49_code
def yX10_goDays : MethodName := ⟨RX10, "goDays", "(II)V"⟩
abbrev cX10_pass : ByteArray := prog_12_method_50_code
def yX10_pass : MethodName := ⟨RX10, "pass", "(I)I"⟩
abbrev cX10_baldSet : ByteArray := prog_12_method_51_code
def yX10_baldSet : MethodName := ⟨RX10, "baldSet", "()I"⟩
abbrev cX10_allWear : ByteArray := prog_12_method_52_code
def yX10_allWear : MethodName := ⟨RX10, "allWear", "()I"⟩
abbrev cX10_allWays : ByteArray := prog_12_method_53_code
def yX10_allWays : MethodName := ⟨RX10, "allWays", "()I"⟩
abbrev cX10_of : ByteArray := prog_12_method_54_code
def yX10_of : MethodName := ⟨RX10, "of", "(II)I"⟩
abbrev cX10_save : ByteArray := prog_12_method_55_code
def yX10_save : MethodName := ⟨RX10, "save", "()V"⟩
abbrev cX10_putBack : ByteArray := prog_12_method_56_code
def yX10_putBack : MethodName := ⟨RX10, "putBack", "()V"⟩
abbrev cX10_laySoon : ByteArray := prog_12_method_57_code
def yX10_laySoon : MethodName := ⟨RX10, "laySoon", "()V"⟩
abbrev cX10_worn : ByteArray := prog_12_method_58_code
def yX10_worn : MethodName := ⟨RX10, "worn", "(I)I"⟩
abbrev cX10_firstOf : ByteArray := prog_12_method_59_code
def yX10_firstOf : MethodName := ⟨RX10, "firstOf", "()I"⟩
abbrev cX10_told : ByteArray := prog_12_method_60_code
def yX10_told : MethodName := ⟨RX10, "told", "(I)I"⟩
abbrev cX10_on : ByteArray := prog_12_method_61_code
def yX10_on : MethodName := ⟨RX10, "on", "(II)I"⟩
abbrev cX10_meet : ByteArray := prog_12_method_62_code
def yX10_meet : MethodName := ⟨RX10, "meet", "(II)I"⟩
abbrev cX10_isPrint : ByteArray := prog_12_method_63_code
def yX10_isPrint : MethodName := ⟨RX10, "isPrint", "(III)Z"⟩
abbrev cX10_who : ByteArray := prog_12_method_64_code
def yX10_who : MethodName := ⟨RX10, "who", "(III)I"⟩
abbrev cX10_wearIf : ByteArray := prog_12_method_65_code
def yX10_wearIf : MethodName := ⟨RX10, "wearIf", "(I)I"⟩
abbrev cX10_busy : ByteArray := prog_12_method_66_code
def yX10_busy : MethodName := ⟨RX10, "busy", "()I"⟩
abbrev cX10_standOf : ByteArray := prog_12_method_67_code
def yX10_standOf : MethodName := ⟨RX10, "standOf", "()I"⟩
abbrev cX10_baldIf : ByteArray := prog_12_method_68_code
def yX10_baldIf : MethodName := ⟨RX10, "baldIf", "(I)I"⟩
abbrev cX10_layOf : ByteArray := prog_12_method_69_code
def yX10_layOf : MethodName := ⟨RX10, "layOf", "()I"⟩
abbrev cX10_best : ByteArray := prog_12_method_70_code
def yX10_best : MethodName := ⟨RX10, "best", "(I)I"⟩
abbrev cX10_see : ByteArray := prog_12_method_71_code
def yX10_see : MethodName := ⟨RX10, "see", "(III)I"⟩
abbrev cX10_isSeen : ByteArray := prog_12_method_72_code
def yX10_isSeen : MethodName := ⟨RX10, "isSeen", "(I)Z"⟩
abbrev cX10_starts : ByteArray := prog_12_method_73_code
def yX10_starts : MethodName := ⟨RX10, "starts", "(I)I"⟩
abbrev cX10_can : ByteArray := prog_12_method_74_code
def yX10_can : MethodName := ⟨RX10, "can", "(II)I"⟩
abbrev cX10_sole : ByteArray := prog_12_method_75_code
def yX10_sole : MethodName := ⟨RX10, "sole", "()I"⟩
abbrev cX10_divisor : ByteArray := prog_12_method_76_code
def yX10_divisor : MethodName := ⟨RX10, "divisor", "(II)I"⟩
abbrev cX10_lowest : ByteArray := prog_12_method_77_code
def yX10_lowest : MethodName := ⟨RX10, "lowest", "(III)J"⟩
abbrev cX10_odds : ByteArray := prog_12_method_78_code
def yX10_odds : MethodName := ⟨RX10, "odds", "(III)J"⟩
abbrev cX10_mean : ByteArray := prog_12_method_79_code
def yX10_mean : MethodName := ⟨RX10, "mean", "(II)J"⟩
abbrev cX10_plan : ByteArray := prog_12_method_80_code
def yX10_plan : MethodName := ⟨RX10, "plan", "(II)I"⟩
abbrev cX10_goPlan : ByteArray := prog_12_method_81_code
def yX10_goPlan : MethodName := ⟨RX10, "goPlan", "(II)V"⟩
abbrev cX10_ends : ByteArray := prog_12_method_82_code
def yX10_ends : MethodName := ⟨RX10, "ends", "(I)I"⟩
abbrev cX10_book : ByteArray := prog_12_method_83_code
def yX10_book : MethodName := ⟨RX10, "book", "(II)I"⟩
abbrev cX10_looked : ByteArray := prog_12_method_84_code
def yX10_looked : MethodName := ⟨RX10, "looked", "()I"⟩
abbrev cX10_judge : ByteArray := prog_12_method_85_code
def yX10_judge : MethodName := ⟨RX10, "judge", "(II)I"⟩
abbrev cX10_image : ByteArray := prog_12_method_86_code
def yX10_image : MethodName := ⟨RX10, "image", "()I"⟩
abbrev cX10_undo : ByteArray := prog_12_method_87_code
def yX10_undo : MethodName := ⟨RX10, "undo", "()I"⟩
abbrev cX10_body : ByteArray := prog_12_method_88_code
def yX10_body : MethodName := ⟨RX10, "body", "(I)V"⟩
abbrev cX10_goerSteps : ByteArray := prog_12_method_89_code
def yX10_goerSteps : MethodName := ⟨RX10, "goerSteps", "(II)I"⟩
abbrev cX10_stepsAct : ByteArray := prog_12_method_90_code
def yX10_stepsAct : MethodName := ⟨RX10, "stepsAct", "(II)I"⟩
abbrev cX10_goerTurns : ByteArray := prog_12_method_91_code
def yX10_goerTurns : MethodName := ⟨RX10, "goerTurns", "(II)I"⟩
abbrev cX10_pacerTurns : ByteArray := prog_12_method_92_code
def yX10_pacerTurns : MethodName := ⟨RX10, "pacerTurns", "(II)I"⟩
abbrev cX10_turnsAct : ByteArray := prog_12_method_93_code
def yX10_turnsAct : MethodName := ⟨RX10, "turnsAct", "(II)I"⟩
abbrev cX10_goerTells : ByteArray := prog_12_method_94_code
def yX10_goerTells : MethodName := ⟨RX10, "goerTells", "(II)I"⟩
abbrev cX10_tellsAct : ByteArray := prog_12_method_95_code
def yX10_tellsAct : MethodName := ⟨RX10, "tellsAct", "(II)I"⟩
abbrev cX10_act : ByteArray := prog_12_method_96_code
def yX10_act : MethodName := ⟨RX10, "act", "(III)I"⟩
abbrev cX10_trace : ByteArray := prog_12_method_97_code
def yX10_trace : MethodName := ⟨RX10, "trace", "(I)I"⟩
abbrev cX10_taken : ByteArray := prog_12_method_98_code
def yX10_taken : MethodName := ⟨RX10, "taken", "(II)I"⟩
abbrev cX10_count : ByteArray := prog_12_method_99_code
def yX10_count : MethodName := ⟨RX10, "count", "(I)I"⟩
abbrev cX10_isTape : ByteArray := prog_12_method_100_code
def yX10_isTape : MethodName := ⟨RX10, "isTape", "(I)Z"⟩
abbrev cX10_tape : ByteArray := prog_12_method_101_code
def yX10_tape : MethodName := ⟨RX10, "tape", "(III)I"⟩
abbrev cX10_narrow : ByteArray := prog_12_method_102_code
def yX10_narrow : MethodName := ⟨RX10, "narrow", "(IJ)J"⟩
abbrev cX10_item : ByteArray := prog_12_method_103_code
def yX10_item : MethodName := ⟨RX10, "item", "(IIJ)I"⟩
abbrev cX10_read : ByteArray := prog_12_method_104_code
def yX10_read : MethodName := ⟨RX10, "read", "(II)J"⟩
abbrev cX10_shift : ByteArray := prog_12_method_105_code
def yX10_shift : MethodName := ⟨RX10, "shift", "(IIIII)I"⟩
def RJ9 : String := "java/lang/Math"
def TJ9 : u_T := fun k => match k with
  | _ => ("", "", "", false)
def tyJ9 : Nat → FieldType := fun k => match k with
  | _ => .int
abbrev cJ9_max_7cf53 : ByteArray := prog_13_method_65_code
def yJ9_max_7cf53 : MethodName := ⟨RJ9, "max", "(II)I"⟩
abbrev cJ9_min_7cf53 : ByteArray := prog_13_method_69_code
def yJ9_min_7cf53 : MethodName := ⟨RJ9, "min", "(II)I"⟩
def RJ0 : String := "java/lang/String"
def TJ0 : u_T := fun k => match k with
  | _ => ("", "", "", false)
def tyJ0 : Nat → FieldType := fun k => match k with
  | _ => .int
abbrev cJ0_length_8abf5 : ByteArray := prog_14_method_54_code
def yJ0_length_8abf5 : MethodName := ⟨RJ0, "length", "()I"⟩
abbrev cJ0_charAt_5068e : ByteArray := prog_14_method_56_code
def yJ0_charAt_5068e : MethodName := ⟨RJ0, "charAt", "(I)C"⟩
abbrev cJ0_coder_7d493 : ByteArray := prog_14_method_152_code
def yJ0_coder_7d493 : MethodName := ⟨RJ0, "coder", "()B"⟩
abbrev cJ0_isLatin1_aae02 : ByteArray := prog_14_method_154_code
def yJ0_isLatin1_aae02 : MethodName := ⟨RJ0, "isLatin1", "()Z"⟩
abbrev cJ0_checkIndex_df160 : ByteArray := prog_14_method_155_code
def yJ0_checkIndex_df160 : MethodName := ⟨RJ0, "checkIndex", "(II)V"⟩
def RJ1 : String := "java/lang/StringLatin1"
def TJ1 : u_T := fun k => match k with
  | _ => ("", "", "", false)
def tyJ1 : Nat → FieldType := fun k => match k with
  | _ => .int
abbrev cJ1_charAt_3b067 : ByteArray := prog_15_method_2_code
def yJ1_charAt_3b067 : MethodName := ⟨RJ1, "charAt", "([BI)C"⟩
def RJ2 : String := "java/lang/StringUTF16"
def TJ2 : u_T := fun k => match k with
  | _ => ("", "", "", false)
def tyJ2 : Nat → FieldType := fun k => match k with
  | _ => .int
abbrev cJ2_getChar_3b067 : ByteArray := prog_16_method_5_code
def yJ2_getChar_3b067 : MethodName := ⟨RJ2, "getChar", "([BI)C"⟩
abbrev cJ2_length_9d52b : ByteArray := prog_16_method_6_code
def yJ2_length_9d52b : MethodName := ⟨RJ2, "length", "([B)I"⟩
abbrev cJ2_charAt_3b067 : ByteArray := prog_16_method_83_code
def yJ2_charAt_3b067 : MethodName := ⟨RJ2, "charAt", "([BI)C"⟩
abbrev cJ2_checkIndex_2214a : ByteArray := prog_16_method_91_code
def yJ2_checkIndex_2214a : MethodName := ⟨RJ2, "checkIndex", "(I[B)V"⟩
def RJ10 : String := "java/lang/System"
def TJ10 : u_T := fun k => match k with
  | _ => ("", "", "", false)
def tyJ10 : Nat → FieldType := fun k => match k with
  | _ => .int
def RJ3 : String := "jdk/internal/util/Preconditions"
def TJ3 : u_T := fun k => match k with
  | _ => ("", "", "", false)
def tyJ3 : Nat → FieldType := fun k => match k with
  | _ => .int
abbrev cJ3_checkIndex_8e157 : ByteArray := prog_18_method_11_code
def yJ3_checkIndex_8e157 : MethodName := ⟨RJ3, "checkIndex", "(IILjava/util/function/BiFunction;)I"⟩
def RL : String := "CarpetReasonsLaw"
abbrev cL_law : ByteArray := code
def yL_law : MethodName := ⟨RL, "law", "([I)Z"⟩
end
section
theorem dX0_init_0 : decode cX0_init 0 = .ok (.aload_n 0, 1) := by decide +kernel
theorem dX0_init_1 : decode cX0_init 1 = .ok (.invokespecial 3, 3) := by decide +kernel
theorem dX0_init_4 : decode cX0_init 4 = .ok (.aload_n 0, 1) := by decide +kernel
theorem dX0_init_5 : decode cX0_init 5 = .ok (.bipush 20, 2) := by decide +kernel
theorem dX0_init_7 : decode cX0_init 7 = .ok (.newarray .int, 2) := by decide +kernel
theorem dX0_init_9 : decode cX0_init 9 = .ok (.putfield 11, 3) := by decide +kernel
theorem dX0_init_12 : decode cX0_init 12 = .ok (.return_, 1) := by decide +kernel
theorem dX0_isAct_0 : decode cX0_isAct 0 = .ok (.iload_n 0, 1) := by decide +kernel
theorem dX0_isAct_1 : decode cX0_isAct 1 = .ok (.ifCond .lt 12, 3) := by decide +kernel
theorem dX0_isAct_4 : decode cX0_isAct 4 = .ok (.iload_n 0, 1) := by decide +kernel
theorem dX0_isAct_5 : decode cX0_isAct 5 = .ok (.iconst 2, 1) := by decide +kernel
theorem dX0_isAct_6 : decode cX0_isAct 6 = .ok (.if_icmp .gt 7, 3) := by decide +kernel
theorem dX0_isAct_9 : decode cX0_isAct 9 = .ok (.iconst 1, 1) := by decide +kernel
theorem dX0_isAct_10 : decode cX0_isAct 10 = .ok (.goto 4, 3) := by decide +kernel
theorem dX0_isAct_13 : decode cX0_isAct 13 = .ok (.iconst 0, 1) := by decide +kernel
theorem dX0_isAct_14 : decode cX0_isAct 14 = .ok (.ireturn, 1) := by decide +kernel
theorem dX0_forgetTrace_0 : decode cX0_forgetTrace 0 = .ok (.aload_n 0, 1) := by decide +kernel
theorem dX0_forgetTrace_1 : decode cX0_forgetTrace 1 = .ok (.iconst 0, 1) := by decide +kernel
theorem dX0_forgetTrace_2 : decode cX0_forgetTrace 2 = .ok (.putfield 15, 3) := by decide +kernel
theorem dX0_forgetTrace_5 : decode cX0_forgetTrace 5 = .ok (.return_, 1) := by decide +kernel
theorem dX0_howManyRan_0 : decode cX0_howManyRan 0 = .ok (.aload_n 0, 1) := by decide +kernel
theorem dX0_howManyRan_1 : decode cX0_howManyRan 1 = .ok (.getfield 15, 3) := by decide +kernel
theorem dX0_howManyRan_4 : decode cX0_howManyRan 4 = .ok (.ireturn, 1) := by decide +kernel
theorem dX0_bodyAt_0 : decode cX0_bodyAt 0 = .ok (.iload_n 1, 1) := by decide +kernel
theorem dX0_bodyAt_1 : decode cX0_bodyAt 1 = .ok (.ifCond .lt 26, 3) := by decide +kernel
theorem dX0_bodyAt_4 : decode cX0_bodyAt 4 = .ok (.iload_n 1, 1) := by decide +kernel
theorem dX0_bodyAt_5 : decode cX0_bodyAt 5 = .ok (.aload_n 0, 1) := by decide +kernel
theorem dX0_bodyAt_6 : decode cX0_bodyAt 6 = .ok (.getfield 15, 3) := by decide +kernel
theorem dX0_bodyAt_9 : decode cX0_bodyAt 9 = .ok (.if_icmp .ge 18, 3) := by decide +kernel
theorem dX0_bodyAt_12 : decode cX0_bodyAt 12 = .ok (.iload_n 1, 1) := by decide +kernel
theorem dX0_bodyAt_13 : decode cX0_bodyAt 13 = .ok (.bipush 20, 2) := by decide +kernel
theorem dX0_bodyAt_15 : decode cX0_bodyAt 15 = .ok (.if_icmp .ge 12, 3) := by decide +kernel
theorem dX0_bodyAt_18 : decode cX0_bodyAt 18 = .ok (.aload_n 0, 1) := by decide +kernel
theorem dX0_bodyAt_19 : decode cX0_bodyAt 19 = .ok (.getfield 11, 3) := by decide +kernel
theorem dX0_bodyAt_22 : decode cX0_bodyAt 22 = .ok (.iload_n 1, 1) := by decide +kernel
theorem dX0_bodyAt_23 : decode cX0_bodyAt 23 = .ok (.iaload, 1) := by decide +kernel
theorem dX0_bodyAt_24 : decode cX0_bodyAt 24 = .ok (.goto 4, 3) := by decide +kernel
theorem dX0_bodyAt_27 : decode cX0_bodyAt 27 = .ok (.iconst (-1), 1) := by decide +kernel
theorem dX0_bodyAt_28 : decode cX0_bodyAt 28 = .ok (.ireturn, 1) := by decide +kernel
theorem dX0_actOf_0 : decode cX0_actOf 0 = .ok (.aload_n 0, 1) := by decide +kernel
theorem dX0_actOf_1 : decode cX0_actOf 1 = .ok (.iload_n 1, 1) := by decide +kernel
theorem dX0_actOf_2 : decode cX0_actOf 2 = .ok (.putfield 19, 3) := by decide +kernel
theorem dX0_actOf_5 : decode cX0_actOf 5 = .ok (.aload_n 0, 1) := by decide +kernel
theorem dX0_actOf_6 : decode cX0_actOf 6 = .ok (.iload_n 2, 1) := by decide +kernel
theorem dX0_actOf_7 : decode cX0_actOf 7 = .ok (.putfield 22, 3) := by decide +kernel
theorem dX0_actOf_10 : decode cX0_actOf 10 = .ok (.aload_n 0, 1) := by decide +kernel
theorem dX0_actOf_11 : decode cX0_actOf 11 = .ok (.iload_n 3, 1) := by decide +kernel
theorem dX0_actOf_12 : decode cX0_actOf 12 = .ok (.putfield 25, 3) := by decide +kernel
theorem dX0_actOf_15 : decode cX0_actOf 15 = .ok (.aload_n 0, 1) := by decide +kernel
theorem dX0_actOf_16 : decode cX0_actOf 16 = .ok (.aload_n 0, 1) := by decide +kernel
theorem dX0_actOf_17 : decode cX0_actOf 17 = .ok (.getfield 22, 3) := by decide +kernel
theorem dX0_actOf_20 : decode cX0_actOf 20 = .ok (.iload 4, 2) := by decide +kernel
theorem dX0_actOf_22 : decode cX0_actOf 22 = .ok (.iload 5, 2) := by decide +kernel
theorem dX0_actOf_24 : decode cX0_actOf 24 = .ok (.iconst 0, 1) := by decide +kernel
theorem dX0_actOf_25 : decode cX0_actOf 25 = .ok (.invokevirtual 28, 3) := by decide +kernel
theorem dX0_actOf_28 : decode cX0_actOf 28 = .ok (.ireturn, 1) := by decide +kernel
theorem dX0_perform_0 : decode cX0_perform 0 = .ok (.iconst 0, 1) := by decide +kernel
theorem dX0_perform_1 : decode cX0_perform 1 = .ok (.istore 5, 2) := by decide +kernel
theorem dX0_perform_3 : decode cX0_perform 3 = .ok (.iload_n 1, 1) := by decide +kernel
theorem dX0_perform_4 : decode cX0_perform 4 = .ok (.istore 6, 2) := by decide +kernel
theorem dX0_perform_6 : decode cX0_perform 6 = .ok (.iconst 0, 1) := by decide +kernel
theorem dX0_perform_7 : decode cX0_perform 7 = .ok (.istore 7, 2) := by decide +kernel
theorem dX0_perform_9 : decode cX0_perform 9 = .ok (.iload 7, 2) := by decide +kernel
theorem dX0_perform_11 : decode cX0_perform 11 = .ok (.iconst 3, 1) := by decide +kernel
theorem dX0_perform_12 : decode cX0_perform 12 = .ok (.if_icmp .ge 48, 3) := by decide +kernel
theorem dX0_perform_15 : decode cX0_perform 15 = .ok (.iload 5, 2) := by decide +kernel
theorem dX0_perform_17 : decode cX0_perform 17 = .ok (.ifCond .ne 43, 3) := by decide +kernel
theorem dX0_perform_20 : decode cX0_perform 20 = .ok (.iload 6, 2) := by decide +kernel
theorem dX0_perform_22 : decode cX0_perform 22 = .ok (.invokestatic 32, 3) := by decide +kernel
theorem dX0_perform_25 : decode cX0_perform 25 = .ok (.ifCond .eq 35, 3) := by decide +kernel
theorem dX0_perform_28 : decode cX0_perform 28 = .ok (.iload_n 2, 1) := by decide +kernel
theorem dX0_perform_29 : decode cX0_perform 29 = .ok (.invokestatic 38, 3) := by decide +kernel
theorem dX0_perform_32 : decode cX0_perform 32 = .ok (.ifCond .eq 28, 3) := by decide +kernel
theorem dX0_perform_35 : decode cX0_perform 35 = .ok (.getstatic 41, 3) := by decide +kernel
theorem dX0_perform_38 : decode cX0_perform 38 = .ok (.iload 6, 2) := by decide +kernel
theorem dX0_perform_40 : decode cX0_perform 40 = .ok (.iconst 3, 1) := by decide +kernel
theorem dX0_perform_41 : decode cX0_perform 41 = .ok (.imul, 1) := by decide +kernel
theorem dX0_perform_42 : decode cX0_perform 42 = .ok (.iload_n 2, 1) := by decide +kernel
theorem dX0_perform_43 : decode cX0_perform 43 = .ok (.iadd, 1) := by decide +kernel
theorem dX0_perform_44 : decode cX0_perform 44 = .ok (.iaload, 1) := by decide +kernel
theorem dX0_perform_45 : decode cX0_perform 45 = .ok (.istore 5, 2) := by decide +kernel
theorem dX0_perform_47 : decode cX0_perform 47 = .ok (.iload 6, 2) := by decide +kernel
theorem dX0_perform_49 : decode cX0_perform 49 = .ok (.invokestatic 44, 3) := by decide +kernel
theorem dX0_perform_52 : decode cX0_perform 52 = .ok (.istore 6, 2) := by decide +kernel
theorem dX0_perform_54 : decode cX0_perform 54 = .ok (.iinc 7 1, 3) := by decide +kernel
theorem dX0_perform_57 : decode cX0_perform 57 = .ok (.goto (-48), 3) := by decide +kernel
theorem dX0_perform_60 : decode cX0_perform 60 = .ok (.iload 5, 2) := by decide +kernel
theorem dX0_perform_62 : decode cX0_perform 62 = .ok (.ifCond .eq 10, 3) := by decide +kernel
theorem dX0_perform_65 : decode cX0_perform 65 = .ok (.iload 4, 2) := by decide +kernel
theorem dX0_perform_67 : decode cX0_perform 67 = .ok (.bipush 12, 2) := by decide +kernel
theorem dX0_perform_69 : decode cX0_perform 69 = .ok (.if_icmp .le 5, 3) := by decide +kernel
theorem dX0_perform_72 : decode cX0_perform 72 = .ok (.iconst 0, 1) := by decide +kernel
theorem dX0_perform_73 : decode cX0_perform 73 = .ok (.ireturn, 1) := by decide +kernel
theorem dX0_perform_74 : decode cX0_perform 74 = .ok (.aload_n 0, 1) := by decide +kernel
theorem dX0_perform_75 : decode cX0_perform 75 = .ok (.getfield 15, 3) := by decide +kernel
theorem dX0_perform_78 : decode cX0_perform 78 = .ok (.bipush 20, 2) := by decide +kernel
theorem dX0_perform_80 : decode cX0_perform 80 = .ok (.if_icmp .ge 14, 3) := by decide +kernel
theorem dX0_perform_83 : decode cX0_perform 83 = .ok (.aload_n 0, 1) := by decide +kernel
theorem dX0_perform_84 : decode cX0_perform 84 = .ok (.getfield 11, 3) := by decide +kernel
theorem dX0_perform_87 : decode cX0_perform 87 = .ok (.aload_n 0, 1) := by decide +kernel
theorem dX0_perform_88 : decode cX0_perform 88 = .ok (.getfield 15, 3) := by decide +kernel
theorem dX0_perform_91 : decode cX0_perform 91 = .ok (.iload 5, 2) := by decide +kernel
theorem dX0_perform_93 : decode cX0_perform 93 = .ok (.iastore, 1) := by decide +kernel
theorem dX0_perform_94 : decode cX0_perform 94 = .ok (.aload_n 0, 1) := by decide +kernel
theorem dX0_perform_95 : decode cX0_perform 95 = .ok (.dup, 1) := by decide +kernel
theorem dX0_perform_96 : decode cX0_perform 96 = .ok (.getfield 15, 3) := by decide +kernel
theorem dX0_perform_99 : decode cX0_perform 99 = .ok (.iconst 1, 1) := by decide +kernel
theorem dX0_perform_100 : decode cX0_perform 100 = .ok (.iadd, 1) := by decide +kernel
theorem dX0_perform_101 : decode cX0_perform 101 = .ok (.putfield 15, 3) := by decide +kernel
theorem dX0_perform_104 : decode cX0_perform 104 = .ok (.aload_n 0, 1) := by decide +kernel
theorem dX0_perform_105 : decode cX0_perform 105 = .ok (.iload 5, 2) := by decide +kernel
theorem dX0_perform_107 : decode cX0_perform 107 = .ok (.iload_n 3, 1) := by decide +kernel
theorem dX0_perform_108 : decode cX0_perform 108 = .ok (.iload 4, 2) := by decide +kernel
theorem dX0_perform_110 : decode cX0_perform 110 = .ok (.iconst 1, 1) := by decide +kernel
theorem dX0_perform_111 : decode cX0_perform 111 = .ok (.iadd, 1) := by decide +kernel
theorem dX0_perform_112 : decode cX0_perform 112 = .ok (.invokevirtual 48, 3) := by decide +kernel
theorem dX0_perform_115 : decode cX0_perform 115 = .ok (.ireturn, 1) := by decide +kernel
theorem dX0_run_0 : decode cX0_run 0 = .ok (.iload_n 1, 1) := by decide +kernel
theorem dX0_run_1 : decode cX0_run 1 = .ok (.lookupswitch 248 #[(10, 99), (11, 106), (12, 123), (20, 137), (30, 149), (40, 160), (50, 181), (51, 191), (60, 202), (70, 216), (71, 234)], 99) := by decide +kernel
theorem dX0_run_100 : decode cX0_run 100 = .ok (.iload_n 2, 1) := by decide +kernel
theorem dX0_run_101 : decode cX0_run 101 = .ok (.aload_n 0, 1) := by decide +kernel
theorem dX0_run_102 : decode cX0_run 102 = .ok (.getfield 19, 3) := by decide +kernel
theorem dX0_run_105 : decode cX0_run 105 = .ok (.iadd, 1) := by decide +kernel
theorem dX0_run_106 : decode cX0_run 106 = .ok (.ireturn, 1) := by decide +kernel
theorem dX0_run_107 : decode cX0_run 107 = .ok (.aload_n 0, 1) := by decide +kernel
theorem dX0_run_108 : decode cX0_run 108 = .ok (.aload_n 0, 1) := by decide +kernel
theorem dX0_run_109 : decode cX0_run 109 = .ok (.getfield 22, 3) := by decide +kernel
theorem dX0_run_112 : decode cX0_run 112 = .ok (.iconst 0, 1) := by decide +kernel
theorem dX0_run_113 : decode cX0_run 113 = .ok (.iload_n 2, 1) := by decide +kernel
theorem dX0_run_114 : decode cX0_run 114 = .ok (.iload_n 3, 1) := by decide +kernel
theorem dX0_run_115 : decode cX0_run 115 = .ok (.invokevirtual 28, 3) := by decide +kernel
theorem dX0_run_118 : decode cX0_run 118 = .ok (.aload_n 0, 1) := by decide +kernel
theorem dX0_run_119 : decode cX0_run 119 = .ok (.getfield 25, 3) := by decide +kernel
theorem dX0_run_122 : decode cX0_run 122 = .ok (.isub, 1) := by decide +kernel
theorem dX0_run_123 : decode cX0_run 123 = .ok (.ireturn, 1) := by decide +kernel
theorem dX0_run_124 : decode cX0_run 124 = .ok (.aload_n 0, 1) := by decide +kernel
theorem dX0_run_125 : decode cX0_run 125 = .ok (.aload_n 0, 1) := by decide +kernel
theorem dX0_run_126 : decode cX0_run 126 = .ok (.getfield 22, 3) := by decide +kernel
theorem dX0_run_129 : decode cX0_run 129 = .ok (.iconst 1, 1) := by decide +kernel
theorem dX0_run_130 : decode cX0_run 130 = .ok (.iload_n 2, 1) := by decide +kernel
theorem dX0_run_131 : decode cX0_run 131 = .ok (.iload_n 3, 1) := by decide +kernel
theorem dX0_run_132 : decode cX0_run 132 = .ok (.invokevirtual 28, 3) := by decide +kernel
theorem dX0_run_135 : decode cX0_run 135 = .ok (.iconst 2, 1) := by decide +kernel
theorem dX0_run_136 : decode cX0_run 136 = .ok (.imul, 1) := by decide +kernel
theorem dX0_run_137 : decode cX0_run 137 = .ok (.ireturn, 1) := by decide +kernel
theorem dX0_run_138 : decode cX0_run 138 = .ok (.aload_n 0, 1) := by decide +kernel
theorem dX0_run_139 : decode cX0_run 139 = .ok (.iconst 0, 1) := by decide +kernel
theorem dX0_run_140 : decode cX0_run 140 = .ok (.iconst 1, 1) := by decide +kernel
theorem dX0_run_141 : decode cX0_run 141 = .ok (.iload_n 2, 1) := by decide +kernel
theorem dX0_run_142 : decode cX0_run 142 = .ok (.iload_n 3, 1) := by decide +kernel
theorem dX0_run_143 : decode cX0_run 143 = .ok (.invokevirtual 28, 3) := by decide +kernel
theorem dX0_run_146 : decode cX0_run 146 = .ok (.bipush 6, 2) := by decide +kernel
theorem dX0_run_148 : decode cX0_run 148 = .ok (.ixor, 1) := by decide +kernel
theorem dX0_run_149 : decode cX0_run 149 = .ok (.ireturn, 1) := by decide +kernel
theorem dX0_run_150 : decode cX0_run 150 = .ok (.aload_n 0, 1) := by decide +kernel
theorem dX0_run_151 : decode cX0_run 151 = .ok (.iconst 0, 1) := by decide +kernel
theorem dX0_run_152 : decode cX0_run 152 = .ok (.iconst 0, 1) := by decide +kernel
theorem dX0_run_153 : decode cX0_run 153 = .ok (.iload_n 2, 1) := by decide +kernel
theorem dX0_run_154 : decode cX0_run 154 = .ok (.iconst 3, 1) := by decide +kernel
theorem dX0_run_155 : decode cX0_run 155 = .ok (.imul, 1) := by decide +kernel
theorem dX0_run_156 : decode cX0_run 156 = .ok (.iload_n 3, 1) := by decide +kernel
theorem dX0_run_157 : decode cX0_run 157 = .ok (.invokevirtual 28, 3) := by decide +kernel
theorem dX0_run_160 : decode cX0_run 160 = .ok (.ireturn, 1) := by decide +kernel
theorem dX0_run_161 : decode cX0_run 161 = .ok (.aload_n 0, 1) := by decide +kernel
theorem dX0_run_162 : decode cX0_run 162 = .ok (.iconst 0, 1) := by decide +kernel
theorem dX0_run_163 : decode cX0_run 163 = .ok (.iconst 2, 1) := by decide +kernel
theorem dX0_run_164 : decode cX0_run 164 = .ok (.iload_n 2, 1) := by decide +kernel
theorem dX0_run_165 : decode cX0_run 165 = .ok (.iload_n 3, 1) := by decide +kernel
theorem dX0_run_166 : decode cX0_run 166 = .ok (.invokevirtual 28, 3) := by decide +kernel
theorem dX0_run_169 : decode cX0_run 169 = .ok (.aload_n 0, 1) := by decide +kernel
theorem dX0_run_170 : decode cX0_run 170 = .ok (.aload_n 0, 1) := by decide +kernel
theorem dX0_run_171 : decode cX0_run 171 = .ok (.getfield 22, 3) := by decide +kernel
theorem dX0_run_174 : decode cX0_run 174 = .ok (.iconst 1, 1) := by decide +kernel
theorem dX0_run_175 : decode cX0_run 175 = .ok (.iconst 1, 1) := by decide +kernel
theorem dX0_run_176 : decode cX0_run 176 = .ok (.iload_n 3, 1) := by decide +kernel
theorem dX0_run_177 : decode cX0_run 177 = .ok (.invokevirtual 28, 3) := by decide +kernel
theorem dX0_run_180 : decode cX0_run 180 = .ok (.iadd, 1) := by decide +kernel
theorem dX0_run_181 : decode cX0_run 181 = .ok (.ireturn, 1) := by decide +kernel
theorem dX0_run_182 : decode cX0_run 182 = .ok (.aload_n 0, 1) := by decide +kernel
theorem dX0_run_183 : decode cX0_run 183 = .ok (.iconst 1, 1) := by decide +kernel
theorem dX0_run_184 : decode cX0_run 184 = .ok (.iconst 0, 1) := by decide +kernel
theorem dX0_run_185 : decode cX0_run 185 = .ok (.iload_n 2, 1) := by decide +kernel
theorem dX0_run_186 : decode cX0_run 186 = .ok (.iload_n 3, 1) := by decide +kernel
theorem dX0_run_187 : decode cX0_run 187 = .ok (.invokevirtual 28, 3) := by decide +kernel
theorem dX0_run_190 : decode cX0_run 190 = .ok (.ineg, 1) := by decide +kernel
theorem dX0_run_191 : decode cX0_run 191 = .ok (.ireturn, 1) := by decide +kernel
theorem dX0_run_192 : decode cX0_run 192 = .ok (.aload_n 0, 1) := by decide +kernel
theorem dX0_run_193 : decode cX0_run 193 = .ok (.iconst 1, 1) := by decide +kernel
theorem dX0_run_194 : decode cX0_run 194 = .ok (.iconst 1, 1) := by decide +kernel
theorem dX0_run_195 : decode cX0_run 195 = .ok (.iload_n 2, 1) := by decide +kernel
theorem dX0_run_196 : decode cX0_run 196 = .ok (.iconst 1, 1) := by decide +kernel
theorem dX0_run_197 : decode cX0_run 197 = .ok (.iadd, 1) := by decide +kernel
theorem dX0_run_198 : decode cX0_run 198 = .ok (.iload_n 3, 1) := by decide +kernel
theorem dX0_run_199 : decode cX0_run 199 = .ok (.invokevirtual 28, 3) := by decide +kernel
theorem dX0_run_202 : decode cX0_run 202 = .ok (.ireturn, 1) := by decide +kernel
theorem dX0_run_203 : decode cX0_run 203 = .ok (.aload_n 0, 1) := by decide +kernel
theorem dX0_run_204 : decode cX0_run 204 = .ok (.iconst 2, 1) := by decide +kernel
theorem dX0_run_205 : decode cX0_run 205 = .ok (.iconst 2, 1) := by decide +kernel
theorem dX0_run_206 : decode cX0_run 206 = .ok (.iload_n 2, 1) := by decide +kernel
theorem dX0_run_207 : decode cX0_run 207 = .ok (.aload_n 0, 1) := by decide +kernel
theorem dX0_run_208 : decode cX0_run 208 = .ok (.getfield 19, 3) := by decide +kernel
theorem dX0_run_211 : decode cX0_run 211 = .ok (.isub, 1) := by decide +kernel
theorem dX0_run_212 : decode cX0_run 212 = .ok (.iload_n 3, 1) := by decide +kernel
theorem dX0_run_213 : decode cX0_run 213 = .ok (.invokevirtual 28, 3) := by decide +kernel
theorem dX0_run_216 : decode cX0_run 216 = .ok (.ireturn, 1) := by decide +kernel
theorem dX0_run_217 : decode cX0_run 217 = .ok (.aload_n 0, 1) := by decide +kernel
theorem dX0_run_218 : decode cX0_run 218 = .ok (.iconst 3, 1) := by decide +kernel
theorem dX0_run_219 : decode cX0_run 219 = .ok (.iconst 1, 1) := by decide +kernel
theorem dX0_run_220 : decode cX0_run 220 = .ok (.iload_n 2, 1) := by decide +kernel
theorem dX0_run_221 : decode cX0_run 221 = .ok (.iload_n 3, 1) := by decide +kernel
theorem dX0_run_222 : decode cX0_run 222 = .ok (.invokevirtual 28, 3) := by decide +kernel
theorem dX0_run_225 : decode cX0_run 225 = .ok (.aload_n 0, 1) := by decide +kernel
theorem dX0_run_226 : decode cX0_run 226 = .ok (.iconst 3, 1) := by decide +kernel
theorem dX0_run_227 : decode cX0_run 227 = .ok (.iconst 0, 1) := by decide +kernel
theorem dX0_run_228 : decode cX0_run 228 = .ok (.iconst 2, 1) := by decide +kernel
theorem dX0_run_229 : decode cX0_run 229 = .ok (.iload_n 3, 1) := by decide +kernel
theorem dX0_run_230 : decode cX0_run 230 = .ok (.invokevirtual 28, 3) := by decide +kernel
theorem dX0_run_233 : decode cX0_run 233 = .ok (.iadd, 1) := by decide +kernel
theorem dX0_run_234 : decode cX0_run 234 = .ok (.ireturn, 1) := by decide +kernel
theorem dX0_run_235 : decode cX0_run 235 = .ok (.aload_n 0, 1) := by decide +kernel
theorem dX0_run_236 : decode cX0_run 236 = .ok (.iconst 3, 1) := by decide +kernel
theorem dX0_run_237 : decode cX0_run 237 = .ok (.iconst 0, 1) := by decide +kernel
theorem dX0_run_238 : decode cX0_run 238 = .ok (.iload_n 2, 1) := by decide +kernel
theorem dX0_run_239 : decode cX0_run 239 = .ok (.iload_n 3, 1) := by decide +kernel
theorem dX0_run_240 : decode cX0_run 240 = .ok (.invokevirtual 28, 3) := by decide +kernel
theorem dX0_run_243 : decode cX0_run 243 = .ok (.aload_n 0, 1) := by decide +kernel
theorem dX0_run_244 : decode cX0_run 244 = .ok (.getfield 25, 3) := by decide +kernel
theorem dX0_run_247 : decode cX0_run 247 = .ok (.ixor, 1) := by decide +kernel
theorem dX0_run_248 : decode cX0_run 248 = .ok (.ireturn, 1) := by decide +kernel
theorem dX0_run_249 : decode cX0_run 249 = .ok (.iconst 0, 1) := by decide +kernel
theorem dX0_run_250 : decode cX0_run 250 = .ok (.ireturn, 1) := by decide +kernel
theorem dX1_init_0 : decode cX1_init 0 = .ok (.aload_n 0, 1) := by decide +kernel
theorem dX1_init_1 : decode cX1_init 1 = .ok (.invokespecial 3, 3) := by decide +kernel
theorem dX1_init_4 : decode cX1_init 4 = .ok (.aload_n 0, 1) := by decide +kernel
theorem dX1_init_5 : decode cX1_init 5 = .ok (.new 9, 3) := by decide +kernel
theorem dX1_init_8 : decode cX1_init 8 = .ok (.dup, 1) := by decide +kernel
theorem dX1_init_9 : decode cX1_init 9 = .ok (.invokespecial 11, 3) := by decide +kernel
theorem dX1_init_12 : decode cX1_init 12 = .ok (.putfield 12, 3) := by decide +kernel
theorem dX1_init_15 : decode cX1_init 15 = .ok (.aload_n 0, 1) := by decide +kernel
theorem dX1_init_16 : decode cX1_init 16 = .ok (.bipush 6, 2) := by decide +kernel
theorem dX1_init_18 : decode cX1_init 18 = .ok (.newarray .int, 2) := by decide +kernel
theorem dX1_init_20 : decode cX1_init 20 = .ok (.putfield 18, 3) := by decide +kernel
theorem dX1_init_23 : decode cX1_init 23 = .ok (.aload_n 0, 1) := by decide +kernel
theorem dX1_init_24 : decode cX1_init 24 = .ok (.aload_n 1, 1) := by decide +kernel
theorem dX1_init_25 : decode cX1_init 25 = .ok (.putfield 22, 3) := by decide +kernel
theorem dX1_init_28 : decode cX1_init 28 = .ok (.aload_n 0, 1) := by decide +kernel
theorem dX1_init_29 : decode cX1_init 29 = .ok (.aload_n 2, 1) := by decide +kernel
theorem dX1_init_30 : decode cX1_init 30 = .ok (.putfield 25, 3) := by decide +kernel
theorem dX1_init_33 : decode cX1_init 33 = .ok (.aload_n 0, 1) := by decide +kernel
theorem dX1_init_34 : decode cX1_init 34 = .ok (.aload_n 3, 1) := by decide +kernel
theorem dX1_init_35 : decode cX1_init 35 = .ok (.putfield 29, 3) := by decide +kernel
theorem dX1_init_38 : decode cX1_init 38 = .ok (.return_, 1) := by decide +kernel
theorem dX1_behind_0 : decode cX1_behind 0 = .ok (.aload_n 0, 1) := by decide +kernel
theorem dX1_behind_1 : decode cX1_behind 1 = .ok (.getfield 12, 3) := by decide +kernel
theorem dX1_behind_4 : decode cX1_behind 4 = .ok (.aload_n 0, 1) := by decide +kernel
theorem dX1_behind_5 : decode cX1_behind 5 = .ok (.getfield 22, 3) := by decide +kernel
theorem dX1_behind_8 : decode cX1_behind 8 = .ok (.invokevirtual 33, 3) := by decide +kernel
theorem dX1_behind_11 : decode cX1_behind 11 = .ok (.aload_n 0, 1) := by decide +kernel
theorem dX1_behind_12 : decode cX1_behind 12 = .ok (.getfield 12, 3) := by decide +kernel
theorem dX1_behind_15 : decode cX1_behind 15 = .ok (.iload_n 1, 1) := by decide +kernel
theorem dX1_behind_16 : decode cX1_behind 16 = .ok (.invokevirtual 37, 3) := by decide +kernel
theorem dX1_behind_19 : decode cX1_behind 19 = .ok (.aload_n 0, 1) := by decide +kernel
theorem dX1_behind_20 : decode cX1_behind 20 = .ok (.getfield 12, 3) := by decide +kernel
theorem dX1_behind_23 : decode cX1_behind 23 = .ok (.areturn, 1) := by decide +kernel
theorem dX1_behindPlan_0 : decode cX1_behindPlan 0 = .ok (.aload_n 0, 1) := by decide +kernel
theorem dX1_behindPlan_1 : decode cX1_behindPlan 1 = .ok (.getfield 12, 3) := by decide +kernel
theorem dX1_behindPlan_4 : decode cX1_behindPlan 4 = .ok (.aload_n 0, 1) := by decide +kernel
theorem dX1_behindPlan_5 : decode cX1_behindPlan 5 = .ok (.getfield 22, 3) := by decide +kernel
theorem dX1_behindPlan_8 : decode cX1_behindPlan 8 = .ok (.invokevirtual 33, 3) := by decide +kernel
theorem dX1_behindPlan_11 : decode cX1_behindPlan 11 = .ok (.iconst 0, 1) := by decide +kernel
theorem dX1_behindPlan_12 : decode cX1_behindPlan 12 = .ok (.istore_n 1, 1) := by decide +kernel
theorem dX1_behindPlan_13 : decode cX1_behindPlan 13 = .ok (.iload_n 1, 1) := by decide +kernel
theorem dX1_behindPlan_14 : decode cX1_behindPlan 14 = .ok (.aload_n 0, 1) := by decide +kernel
theorem dX1_behindPlan_15 : decode cX1_behindPlan 15 = .ok (.getfield 25, 3) := by decide +kernel
theorem dX1_behindPlan_18 : decode cX1_behindPlan 18 = .ok (.getfield 41, 3) := by decide +kernel
theorem dX1_behindPlan_21 : decode cX1_behindPlan 21 = .ok (.if_icmp .ge 115, 3) := by decide +kernel
theorem dX1_behindPlan_24 : decode cX1_behindPlan 24 = .ok (.iload_n 1, 1) := by decide +kernel
theorem dX1_behindPlan_25 : decode cX1_behindPlan 25 = .ok (.bipush 10, 2) := by decide +kernel
theorem dX1_behindPlan_27 : decode cX1_behindPlan 27 = .ok (.if_icmp .ge 109, 3) := by decide +kernel
theorem dX1_behindPlan_30 : decode cX1_behindPlan 30 = .ok (.aload_n 0, 1) := by decide +kernel
theorem dX1_behindPlan_31 : decode cX1_behindPlan 31 = .ok (.getfield 25, 3) := by decide +kernel
theorem dX1_behindPlan_34 : decode cX1_behindPlan 34 = .ok (.getfield 47, 3) := by decide +kernel
theorem dX1_behindPlan_37 : decode cX1_behindPlan 37 = .ok (.iload_n 1, 1) := by decide +kernel
theorem dX1_behindPlan_38 : decode cX1_behindPlan 38 = .ok (.iaload, 1) := by decide +kernel
theorem dX1_behindPlan_39 : decode cX1_behindPlan 39 = .ok (.istore_n 2, 1) := by decide +kernel
theorem dX1_behindPlan_40 : decode cX1_behindPlan 40 = .ok (.aload_n 0, 1) := by decide +kernel
theorem dX1_behindPlan_41 : decode cX1_behindPlan 41 = .ok (.getfield 25, 3) := by decide +kernel
theorem dX1_behindPlan_44 : decode cX1_behindPlan 44 = .ok (.getfield 50, 3) := by decide +kernel
theorem dX1_behindPlan_47 : decode cX1_behindPlan 47 = .ok (.iload_n 1, 1) := by decide +kernel
theorem dX1_behindPlan_48 : decode cX1_behindPlan 48 = .ok (.iaload, 1) := by decide +kernel
theorem dX1_behindPlan_49 : decode cX1_behindPlan 49 = .ok (.tableswitch 63 0 2 #[27, 38, 50], 27) := by decide +kernel
theorem dX1_behindPlan_76 : decode cX1_behindPlan 76 = .ok (.aload_n 0, 1) := by decide +kernel
theorem dX1_behindPlan_77 : decode cX1_behindPlan 77 = .ok (.getfield 12, 3) := by decide +kernel
theorem dX1_behindPlan_80 : decode cX1_behindPlan 80 = .ok (.iconst 1, 1) := by decide +kernel
theorem dX1_behindPlan_81 : decode cX1_behindPlan 81 = .ok (.invokevirtual 37, 3) := by decide +kernel
theorem dX1_behindPlan_84 : decode cX1_behindPlan 84 = .ok (.goto 46, 3) := by decide +kernel
theorem dX1_behindPlan_87 : decode cX1_behindPlan 87 = .ok (.aload_n 0, 1) := by decide +kernel
theorem dX1_behindPlan_88 : decode cX1_behindPlan 88 = .ok (.getfield 12, 3) := by decide +kernel
theorem dX1_behindPlan_91 : decode cX1_behindPlan 91 = .ok (.iload_n 2, 1) := by decide +kernel
theorem dX1_behindPlan_92 : decode cX1_behindPlan 92 = .ok (.iconst 1, 1) := by decide +kernel
theorem dX1_behindPlan_93 : decode cX1_behindPlan 93 = .ok (.invokevirtual 53, 3) := by decide +kernel
theorem dX1_behindPlan_96 : decode cX1_behindPlan 96 = .ok (.goto 34, 3) := by decide +kernel
theorem dX1_behindPlan_99 : decode cX1_behindPlan 99 = .ok (.aload_n 0, 1) := by decide +kernel
theorem dX1_behindPlan_100 : decode cX1_behindPlan 100 = .ok (.getfield 12, 3) := by decide +kernel
theorem dX1_behindPlan_103 : decode cX1_behindPlan 103 = .ok (.getfield 57, 3) := by decide +kernel
theorem dX1_behindPlan_106 : decode cX1_behindPlan 106 = .ok (.iload_n 2, 1) := by decide +kernel
theorem dX1_behindPlan_107 : decode cX1_behindPlan 107 = .ok (.iconst 0, 1) := by decide +kernel
theorem dX1_behindPlan_108 : decode cX1_behindPlan 108 = .ok (.iastore, 1) := by decide +kernel
theorem dX1_behindPlan_109 : decode cX1_behindPlan 109 = .ok (.goto 21, 3) := by decide +kernel
theorem dX1_behindPlan_112 : decode cX1_behindPlan 112 = .ok (.aload_n 0, 1) := by decide +kernel
theorem dX1_behindPlan_113 : decode cX1_behindPlan 113 = .ok (.getfield 12, 3) := by decide +kernel
theorem dX1_behindPlan_116 : decode cX1_behindPlan 116 = .ok (.aload_n 0, 1) := by decide +kernel
theorem dX1_behindPlan_117 : decode cX1_behindPlan 117 = .ok (.getfield 12, 3) := by decide +kernel
theorem dX1_behindPlan_120 : decode cX1_behindPlan 120 = .ok (.getfield 60, 3) := by decide +kernel
theorem dX1_behindPlan_123 : decode cX1_behindPlan 123 = .ok (.iconst 1, 1) := by decide +kernel
theorem dX1_behindPlan_124 : decode cX1_behindPlan 124 = .ok (.iload_n 2, 1) := by decide +kernel
theorem dX1_behindPlan_125 : decode cX1_behindPlan 125 = .ok (.ishl, 1) := by decide +kernel
theorem dX1_behindPlan_126 : decode cX1_behindPlan 126 = .ok (.ixor, 1) := by decide +kernel
theorem dX1_behindPlan_127 : decode cX1_behindPlan 127 = .ok (.invokevirtual 63, 3) := by decide +kernel
theorem dX1_behindPlan_130 : decode cX1_behindPlan 130 = .ok (.iinc 1 1, 3) := by decide +kernel
theorem dX1_behindPlan_133 : decode cX1_behindPlan 133 = .ok (.goto (-120), 3) := by decide +kernel
theorem dX1_behindPlan_136 : decode cX1_behindPlan 136 = .ok (.aload_n 0, 1) := by decide +kernel
theorem dX1_behindPlan_137 : decode cX1_behindPlan 137 = .ok (.getfield 12, 3) := by decide +kernel
theorem dX1_behindPlan_140 : decode cX1_behindPlan 140 = .ok (.areturn, 1) := by decide +kernel
theorem dX1_daysUntilBald_0 : decode cX1_daysUntilBald 0 = .ok (.iconst 0, 1) := by decide +kernel
theorem dX1_daysUntilBald_1 : decode cX1_daysUntilBald 1 = .ok (.istore_n 2, 1) := by decide +kernel
theorem dX1_daysUntilBald_2 : decode cX1_daysUntilBald 2 = .ok (.iload_n 2, 1) := by decide +kernel
theorem dX1_daysUntilBald_3 : decode cX1_daysUntilBald 3 = .ok (.bipush 60, 2) := by decide +kernel
theorem dX1_daysUntilBald_5 : decode cX1_daysUntilBald 5 = .ok (.if_icmp .gt 40, 3) := by decide +kernel
theorem dX1_daysUntilBald_8 : decode cX1_daysUntilBald 8 = .ok (.aload_n 0, 1) := by decide +kernel
theorem dX1_daysUntilBald_9 : decode cX1_daysUntilBald 9 = .ok (.getfield 22, 3) := by decide +kernel
theorem dX1_daysUntilBald_12 : decode cX1_daysUntilBald 12 = .ok (.getfield 57, 3) := by decide +kernel
theorem dX1_daysUntilBald_15 : decode cX1_daysUntilBald 15 = .ok (.iload_n 1, 1) := by decide +kernel
theorem dX1_daysUntilBald_16 : decode cX1_daysUntilBald 16 = .ok (.iaload, 1) := by decide +kernel
theorem dX1_daysUntilBald_17 : decode cX1_daysUntilBald 17 = .ok (.aload_n 0, 1) := by decide +kernel
theorem dX1_daysUntilBald_18 : decode cX1_daysUntilBald 18 = .ok (.getfield 22, 3) := by decide +kernel
theorem dX1_daysUntilBald_21 : decode cX1_daysUntilBald 21 = .ok (.iload_n 1, 1) := by decide +kernel
theorem dX1_daysUntilBald_22 : decode cX1_daysUntilBald 22 = .ok (.iload_n 2, 1) := by decide +kernel
theorem dX1_daysUntilBald_23 : decode cX1_daysUntilBald 23 = .ok (.invokevirtual 66, 3) := by decide +kernel
theorem dX1_daysUntilBald_26 : decode cX1_daysUntilBald 26 = .ok (.iadd, 1) := by decide +kernel
theorem dX1_daysUntilBald_27 : decode cX1_daysUntilBald 27 = .ok (.aload_n 0, 1) := by decide +kernel
theorem dX1_daysUntilBald_28 : decode cX1_daysUntilBald 28 = .ok (.getfield 22, 3) := by decide +kernel
theorem dX1_daysUntilBald_31 : decode cX1_daysUntilBald 31 = .ok (.getfield 70, 3) := by decide +kernel
theorem dX1_daysUntilBald_34 : decode cX1_daysUntilBald 34 = .ok (.if_icmp .lt 5, 3) := by decide +kernel
theorem dX1_daysUntilBald_37 : decode cX1_daysUntilBald 37 = .ok (.iload_n 2, 1) := by decide +kernel
theorem dX1_daysUntilBald_38 : decode cX1_daysUntilBald 38 = .ok (.ireturn, 1) := by decide +kernel
theorem dX1_daysUntilBald_39 : decode cX1_daysUntilBald 39 = .ok (.iinc 2 1, 3) := by decide +kernel
theorem dX1_daysUntilBald_42 : decode cX1_daysUntilBald 42 = .ok (.goto (-40), 3) := by decide +kernel
theorem dX1_daysUntilBald_45 : decode cX1_daysUntilBald 45 = .ok (.bipush (-5), 2) := by decide +kernel
theorem dX1_daysUntilBald_47 : decode cX1_daysUntilBald 47 = .ok (.ireturn, 1) := by decide +kernel
theorem dX1_firstWorn_0 : decode cX1_firstWorn 0 = .ok (.aload_n 0, 1) := by decide +kernel
theorem dX1_firstWorn_1 : decode cX1_firstWorn 1 = .ok (.getfield 22, 3) := by decide +kernel
theorem dX1_firstWorn_4 : decode cX1_firstWorn 4 = .ok (.invokevirtual 73, 3) := by decide +kernel
theorem dX1_firstWorn_7 : decode cX1_firstWorn 7 = .ok (.istore_n 1, 1) := by decide +kernel
theorem dX1_firstWorn_8 : decode cX1_firstWorn 8 = .ok (.aload_n 0, 1) := by decide +kernel
theorem dX1_firstWorn_9 : decode cX1_firstWorn 9 = .ok (.getfield 12, 3) := by decide +kernel
theorem dX1_firstWorn_12 : decode cX1_firstWorn 12 = .ok (.aload_n 0, 1) := by decide +kernel
theorem dX1_firstWorn_13 : decode cX1_firstWorn 13 = .ok (.getfield 22, 3) := by decide +kernel
theorem dX1_firstWorn_16 : decode cX1_firstWorn 16 = .ok (.invokevirtual 33, 3) := by decide +kernel
theorem dX1_firstWorn_19 : decode cX1_firstWorn 19 = .ok (.iconst 1, 1) := by decide +kernel
theorem dX1_firstWorn_20 : decode cX1_firstWorn 20 = .ok (.istore_n 2, 1) := by decide +kernel
theorem dX1_firstWorn_21 : decode cX1_firstWorn 21 = .ok (.iload_n 2, 1) := by decide +kernel
theorem dX1_firstWorn_22 : decode cX1_firstWorn 22 = .ok (.bipush 60, 2) := by decide +kernel
theorem dX1_firstWorn_24 : decode cX1_firstWorn 24 = .ok (.if_icmp .gt 38, 3) := by decide +kernel
theorem dX1_firstWorn_27 : decode cX1_firstWorn 27 = .ok (.aload_n 0, 1) := by decide +kernel
theorem dX1_firstWorn_28 : decode cX1_firstWorn 28 = .ok (.getfield 12, 3) := by decide +kernel
theorem dX1_firstWorn_31 : decode cX1_firstWorn 31 = .ok (.iconst 1, 1) := by decide +kernel
theorem dX1_firstWorn_32 : decode cX1_firstWorn 32 = .ok (.invokevirtual 37, 3) := by decide +kernel
theorem dX1_firstWorn_35 : decode cX1_firstWorn 35 = .ok (.aload_n 0, 1) := by decide +kernel
theorem dX1_firstWorn_36 : decode cX1_firstWorn 36 = .ok (.getfield 12, 3) := by decide +kernel
theorem dX1_firstWorn_39 : decode cX1_firstWorn 39 = .ok (.invokevirtual 73, 3) := by decide +kernel
theorem dX1_firstWorn_42 : decode cX1_firstWorn 42 = .ok (.iload_n 1, 1) := by decide +kernel
theorem dX1_firstWorn_43 : decode cX1_firstWorn 43 = .ok (.iconst (-1), 1) := by decide +kernel
theorem dX1_firstWorn_44 : decode cX1_firstWorn 44 = .ok (.ixor, 1) := by decide +kernel
theorem dX1_firstWorn_45 : decode cX1_firstWorn 45 = .ok (.iand, 1) := by decide +kernel
theorem dX1_firstWorn_46 : decode cX1_firstWorn 46 = .ok (.istore_n 3, 1) := by decide +kernel
theorem dX1_firstWorn_47 : decode cX1_firstWorn 47 = .ok (.iload_n 3, 1) := by decide +kernel
theorem dX1_firstWorn_48 : decode cX1_firstWorn 48 = .ok (.ifCond .eq 8, 3) := by decide +kernel
theorem dX1_firstWorn_51 : decode cX1_firstWorn 51 = .ok (.iload_n 3, 1) := by decide +kernel
theorem dX1_firstWorn_52 : decode cX1_firstWorn 52 = .ok (.invokestatic 77, 3) := by decide +kernel
theorem dX1_firstWorn_55 : decode cX1_firstWorn 55 = .ok (.ireturn, 1) := by decide +kernel
theorem dX1_firstWorn_56 : decode cX1_firstWorn 56 = .ok (.iinc 2 1, 3) := by decide +kernel
theorem dX1_firstWorn_59 : decode cX1_firstWorn 59 = .ok (.goto (-38), 3) := by decide +kernel
theorem dX1_firstWorn_62 : decode cX1_firstWorn 62 = .ok (.bipush (-5), 2) := by decide +kernel
theorem dX1_firstWorn_64 : decode cX1_firstWorn 64 = .ok (.ireturn, 1) := by decide +kernel
theorem dX1_fewestWhoLeft_0 : decode cX1_fewestWhoLeft 0 = .ok (.aload_n 0, 1) := by decide +kernel
theorem dX1_fewestWhoLeft_1 : decode cX1_fewestWhoLeft 1 = .ok (.iload_n 2, 1) := by decide +kernel
theorem dX1_fewestWhoLeft_2 : decode cX1_fewestWhoLeft 2 = .ok (.invokevirtual 83, 3) := by decide +kernel
theorem dX1_fewestWhoLeft_5 : decode cX1_fewestWhoLeft 5 = .ok (.bipush (-5), 2) := by decide +kernel
theorem dX1_fewestWhoLeft_7 : decode cX1_fewestWhoLeft 7 = .ok (.istore_n 3, 1) := by decide +kernel
theorem dX1_fewestWhoLeft_8 : decode cX1_fewestWhoLeft 8 = .ok (.iconst 0, 1) := by decide +kernel
theorem dX1_fewestWhoLeft_9 : decode cX1_fewestWhoLeft 9 = .ok (.istore 4, 2) := by decide +kernel
theorem dX1_fewestWhoLeft_11 : decode cX1_fewestWhoLeft 11 = .ok (.iload 4, 2) := by decide +kernel
theorem dX1_fewestWhoLeft_13 : decode cX1_fewestWhoLeft 13 = .ok (.iconst 1, 1) := by decide +kernel
theorem dX1_fewestWhoLeft_14 : decode cX1_fewestWhoLeft 14 = .ok (.aload_n 0, 1) := by decide +kernel
theorem dX1_fewestWhoLeft_15 : decode cX1_fewestWhoLeft 15 = .ok (.getfield 22, 3) := by decide +kernel
theorem dX1_fewestWhoLeft_18 : decode cX1_fewestWhoLeft 18 = .ok (.getfield 86, 3) := by decide +kernel
theorem dX1_fewestWhoLeft_21 : decode cX1_fewestWhoLeft 21 = .ok (.ishl, 1) := by decide +kernel
theorem dX1_fewestWhoLeft_22 : decode cX1_fewestWhoLeft 22 = .ok (.if_icmp .ge 50, 3) := by decide +kernel
theorem dX1_fewestWhoLeft_25 : decode cX1_fewestWhoLeft 25 = .ok (.iload_n 3, 1) := by decide +kernel
theorem dX1_fewestWhoLeft_26 : decode cX1_fewestWhoLeft 26 = .ok (.ifCond .lt 15, 3) := by decide +kernel
theorem dX1_fewestWhoLeft_29 : decode cX1_fewestWhoLeft 29 = .ok (.iload 4, 2) := by decide +kernel
theorem dX1_fewestWhoLeft_31 : decode cX1_fewestWhoLeft 31 = .ok (.invokestatic 89, 3) := by decide +kernel
theorem dX1_fewestWhoLeft_34 : decode cX1_fewestWhoLeft 34 = .ok (.iload_n 3, 1) := by decide +kernel
theorem dX1_fewestWhoLeft_35 : decode cX1_fewestWhoLeft 35 = .ok (.invokestatic 89, 3) := by decide +kernel
theorem dX1_fewestWhoLeft_38 : decode cX1_fewestWhoLeft 38 = .ok (.if_icmp .ge 7, 3) := by decide +kernel
theorem dX1_fewestWhoLeft_41 : decode cX1_fewestWhoLeft 41 = .ok (.iconst 1, 1) := by decide +kernel
theorem dX1_fewestWhoLeft_42 : decode cX1_fewestWhoLeft 42 = .ok (.goto 4, 3) := by decide +kernel
theorem dX1_fewestWhoLeft_45 : decode cX1_fewestWhoLeft 45 = .ok (.iconst 0, 1) := by decide +kernel
theorem dX1_fewestWhoLeft_46 : decode cX1_fewestWhoLeft 46 = .ok (.istore 5, 2) := by decide +kernel
theorem dX1_fewestWhoLeft_48 : decode cX1_fewestWhoLeft 48 = .ok (.aload_n 0, 1) := by decide +kernel
theorem dX1_fewestWhoLeft_49 : decode cX1_fewestWhoLeft 49 = .ok (.iload 4, 2) := by decide +kernel
theorem dX1_fewestWhoLeft_51 : decode cX1_fewestWhoLeft 51 = .ok (.iload_n 1, 1) := by decide +kernel
theorem dX1_fewestWhoLeft_52 : decode cX1_fewestWhoLeft 52 = .ok (.invokevirtual 92, 3) := by decide +kernel
theorem dX1_fewestWhoLeft_55 : decode cX1_fewestWhoLeft 55 = .ok (.ifCond .eq 11, 3) := by decide +kernel
theorem dX1_fewestWhoLeft_58 : decode cX1_fewestWhoLeft 58 = .ok (.iload 5, 2) := by decide +kernel
theorem dX1_fewestWhoLeft_60 : decode cX1_fewestWhoLeft 60 = .ok (.ifCond .eq 6, 3) := by decide +kernel
theorem dX1_fewestWhoLeft_63 : decode cX1_fewestWhoLeft 63 = .ok (.iload 4, 2) := by decide +kernel
theorem dX1_fewestWhoLeft_65 : decode cX1_fewestWhoLeft 65 = .ok (.istore_n 3, 1) := by decide +kernel
theorem dX1_fewestWhoLeft_66 : decode cX1_fewestWhoLeft 66 = .ok (.iinc 4 1, 3) := by decide +kernel
theorem dX1_fewestWhoLeft_69 : decode cX1_fewestWhoLeft 69 = .ok (.goto (-58), 3) := by decide +kernel
theorem dX1_fewestWhoLeft_72 : decode cX1_fewestWhoLeft 72 = .ok (.iload_n 3, 1) := by decide +kernel
theorem dX1_fewestWhoLeft_73 : decode cX1_fewestWhoLeft 73 = .ok (.ireturn, 1) := by decide +kernel
theorem dX1_setsWhoLeft_0 : decode cX1_setsWhoLeft 0 = .ok (.aload_n 0, 1) := by decide +kernel
theorem dX1_setsWhoLeft_1 : decode cX1_setsWhoLeft 1 = .ok (.iload_n 2, 1) := by decide +kernel
theorem dX1_setsWhoLeft_2 : decode cX1_setsWhoLeft 2 = .ok (.invokevirtual 83, 3) := by decide +kernel
theorem dX1_setsWhoLeft_5 : decode cX1_setsWhoLeft 5 = .ok (.iconst 0, 1) := by decide +kernel
theorem dX1_setsWhoLeft_6 : decode cX1_setsWhoLeft 6 = .ok (.istore_n 3, 1) := by decide +kernel
theorem dX1_setsWhoLeft_7 : decode cX1_setsWhoLeft 7 = .ok (.iconst 0, 1) := by decide +kernel
theorem dX1_setsWhoLeft_8 : decode cX1_setsWhoLeft 8 = .ok (.istore 4, 2) := by decide +kernel
theorem dX1_setsWhoLeft_10 : decode cX1_setsWhoLeft 10 = .ok (.iload 4, 2) := by decide +kernel
theorem dX1_setsWhoLeft_12 : decode cX1_setsWhoLeft 12 = .ok (.iconst 1, 1) := by decide +kernel
theorem dX1_setsWhoLeft_13 : decode cX1_setsWhoLeft 13 = .ok (.aload_n 0, 1) := by decide +kernel
theorem dX1_setsWhoLeft_14 : decode cX1_setsWhoLeft 14 = .ok (.getfield 22, 3) := by decide +kernel
theorem dX1_setsWhoLeft_17 : decode cX1_setsWhoLeft 17 = .ok (.getfield 86, 3) := by decide +kernel
theorem dX1_setsWhoLeft_20 : decode cX1_setsWhoLeft 20 = .ok (.ishl, 1) := by decide +kernel
theorem dX1_setsWhoLeft_21 : decode cX1_setsWhoLeft 21 = .ok (.if_icmp .ge 22, 3) := by decide +kernel
theorem dX1_setsWhoLeft_24 : decode cX1_setsWhoLeft 24 = .ok (.aload_n 0, 1) := by decide +kernel
theorem dX1_setsWhoLeft_25 : decode cX1_setsWhoLeft 25 = .ok (.iload 4, 2) := by decide +kernel
theorem dX1_setsWhoLeft_27 : decode cX1_setsWhoLeft 27 = .ok (.iload_n 1, 1) := by decide +kernel
theorem dX1_setsWhoLeft_28 : decode cX1_setsWhoLeft 28 = .ok (.invokevirtual 92, 3) := by decide +kernel
theorem dX1_setsWhoLeft_31 : decode cX1_setsWhoLeft 31 = .ok (.ifCond .eq 6, 3) := by decide +kernel
theorem dX1_setsWhoLeft_34 : decode cX1_setsWhoLeft 34 = .ok (.iinc 3 1, 3) := by decide +kernel
theorem dX1_setsWhoLeft_37 : decode cX1_setsWhoLeft 37 = .ok (.iinc 4 1, 3) := by decide +kernel
theorem dX1_setsWhoLeft_40 : decode cX1_setsWhoLeft 40 = .ok (.goto (-30), 3) := by decide +kernel
theorem dX1_setsWhoLeft_43 : decode cX1_setsWhoLeft 43 = .ok (.iload_n 3, 1) := by decide +kernel
theorem dX1_setsWhoLeft_44 : decode cX1_setsWhoLeft 44 = .ok (.ireturn, 1) := by decide +kernel
theorem dX1_takePrints_0 : decode cX1_takePrints 0 = .ok (.iconst 0, 1) := by decide +kernel
theorem dX1_takePrints_1 : decode cX1_takePrints 1 = .ok (.istore_n 2, 1) := by decide +kernel
theorem dX1_takePrints_2 : decode cX1_takePrints 2 = .ok (.iload_n 2, 1) := by decide +kernel
theorem dX1_takePrints_3 : decode cX1_takePrints 3 = .ok (.aload_n 0, 1) := by decide +kernel
theorem dX1_takePrints_4 : decode cX1_takePrints 4 = .ok (.getfield 22, 3) := by decide +kernel
theorem dX1_takePrints_7 : decode cX1_takePrints 7 = .ok (.getfield 86, 3) := by decide +kernel
theorem dX1_takePrints_10 : decode cX1_takePrints 10 = .ok (.if_icmp .ge 24, 3) := by decide +kernel
theorem dX1_takePrints_13 : decode cX1_takePrints 13 = .ok (.aload_n 0, 1) := by decide +kernel
theorem dX1_takePrints_14 : decode cX1_takePrints 14 = .ok (.getfield 18, 3) := by decide +kernel
theorem dX1_takePrints_17 : decode cX1_takePrints 17 = .ok (.iload_n 2, 1) := by decide +kernel
theorem dX1_takePrints_18 : decode cX1_takePrints 18 = .ok (.aload_n 0, 1) := by decide +kernel
theorem dX1_takePrints_19 : decode cX1_takePrints 19 = .ok (.getfield 22, 3) := by decide +kernel
theorem dX1_takePrints_22 : decode cX1_takePrints 22 = .ok (.iload_n 2, 1) := by decide +kernel
theorem dX1_takePrints_23 : decode cX1_takePrints 23 = .ok (.iload_n 1, 1) := by decide +kernel
theorem dX1_takePrints_24 : decode cX1_takePrints 24 = .ok (.invokevirtual 96, 3) := by decide +kernel
theorem dX1_takePrints_27 : decode cX1_takePrints 27 = .ok (.iastore, 1) := by decide +kernel
theorem dX1_takePrints_28 : decode cX1_takePrints 28 = .ok (.iinc 2 1, 3) := by decide +kernel
theorem dX1_takePrints_31 : decode cX1_takePrints 31 = .ok (.goto (-29), 3) := by decide +kernel
theorem dX1_takePrints_34 : decode cX1_takePrints 34 = .ok (.return_, 1) := by decide +kernel
theorem dX1_hasLeft_0 : decode cX1_hasLeft 0 = .ok (.iload_n 1, 1) := by decide +kernel
theorem dX1_hasLeft_1 : decode cX1_hasLeft 1 = .ok (.aload_n 0, 1) := by decide +kernel
theorem dX1_hasLeft_2 : decode cX1_hasLeft 2 = .ok (.getfield 22, 3) := by decide +kernel
theorem dX1_hasLeft_5 : decode cX1_hasLeft 5 = .ok (.getfield 99, 3) := by decide +kernel
theorem dX1_hasLeft_8 : decode cX1_hasLeft 8 = .ok (.iand, 1) := by decide +kernel
theorem dX1_hasLeft_9 : decode cX1_hasLeft 9 = .ok (.ifCond .eq 5, 3) := by decide +kernel
theorem dX1_hasLeft_12 : decode cX1_hasLeft 12 = .ok (.iconst 0, 1) := by decide +kernel
theorem dX1_hasLeft_13 : decode cX1_hasLeft 13 = .ok (.ireturn, 1) := by decide +kernel
theorem dX1_hasLeft_14 : decode cX1_hasLeft 14 = .ok (.iconst 0, 1) := by decide +kernel
theorem dX1_hasLeft_15 : decode cX1_hasLeft 15 = .ok (.istore_n 3, 1) := by decide +kernel
theorem dX1_hasLeft_16 : decode cX1_hasLeft 16 = .ok (.iconst 0, 1) := by decide +kernel
theorem dX1_hasLeft_17 : decode cX1_hasLeft 17 = .ok (.istore 4, 2) := by decide +kernel
theorem dX1_hasLeft_19 : decode cX1_hasLeft 19 = .ok (.iload 4, 2) := by decide +kernel
theorem dX1_hasLeft_21 : decode cX1_hasLeft 21 = .ok (.aload_n 0, 1) := by decide +kernel
theorem dX1_hasLeft_22 : decode cX1_hasLeft 22 = .ok (.getfield 22, 3) := by decide +kernel
theorem dX1_hasLeft_25 : decode cX1_hasLeft 25 = .ok (.getfield 86, 3) := by decide +kernel
theorem dX1_hasLeft_28 : decode cX1_hasLeft 28 = .ok (.if_icmp .ge 28, 3) := by decide +kernel
theorem dX1_hasLeft_31 : decode cX1_hasLeft 31 = .ok (.iload_n 1, 1) := by decide +kernel
theorem dX1_hasLeft_32 : decode cX1_hasLeft 32 = .ok (.iload 4, 2) := by decide +kernel
theorem dX1_hasLeft_34 : decode cX1_hasLeft 34 = .ok (.ishr, 1) := by decide +kernel
theorem dX1_hasLeft_35 : decode cX1_hasLeft 35 = .ok (.iconst 1, 1) := by decide +kernel
theorem dX1_hasLeft_36 : decode cX1_hasLeft 36 = .ok (.iand, 1) := by decide +kernel
theorem dX1_hasLeft_37 : decode cX1_hasLeft 37 = .ok (.ifCond .eq 13, 3) := by decide +kernel
theorem dX1_hasLeft_40 : decode cX1_hasLeft 40 = .ok (.iload_n 3, 1) := by decide +kernel
theorem dX1_hasLeft_41 : decode cX1_hasLeft 41 = .ok (.aload_n 0, 1) := by decide +kernel
theorem dX1_hasLeft_42 : decode cX1_hasLeft 42 = .ok (.getfield 18, 3) := by decide +kernel
theorem dX1_hasLeft_45 : decode cX1_hasLeft 45 = .ok (.iload 4, 2) := by decide +kernel
theorem dX1_hasLeft_47 : decode cX1_hasLeft 47 = .ok (.iaload, 1) := by decide +kernel
theorem dX1_hasLeft_48 : decode cX1_hasLeft 48 = .ok (.ior, 1) := by decide +kernel
theorem dX1_hasLeft_49 : decode cX1_hasLeft 49 = .ok (.istore_n 3, 1) := by decide +kernel
theorem dX1_hasLeft_50 : decode cX1_hasLeft 50 = .ok (.iinc 4 1, 3) := by decide +kernel
theorem dX1_hasLeft_53 : decode cX1_hasLeft 53 = .ok (.goto (-34), 3) := by decide +kernel
theorem dX1_hasLeft_56 : decode cX1_hasLeft 56 = .ok (.iload_n 3, 1) := by decide +kernel
theorem dX1_hasLeft_57 : decode cX1_hasLeft 57 = .ok (.iload_n 2, 1) := by decide +kernel
theorem dX1_hasLeft_58 : decode cX1_hasLeft 58 = .ok (.if_icmp .ne 7, 3) := by decide +kernel
theorem dX1_hasLeft_61 : decode cX1_hasLeft 61 = .ok (.iconst 1, 1) := by decide +kernel
theorem dX1_hasLeft_62 : decode cX1_hasLeft 62 = .ok (.goto 4, 3) := by decide +kernel
theorem dX1_hasLeft_65 : decode cX1_hasLeft 65 = .ok (.iconst 0, 1) := by decide +kernel
theorem dX1_hasLeft_66 : decode cX1_hasLeft 66 = .ok (.ireturn, 1) := by decide +kernel
theorem dX1_bestFurniture_0 : decode cX1_bestFurniture 0 = .ok (.aload_n 0, 1) := by decide +kernel
theorem dX1_bestFurniture_1 : decode cX1_bestFurniture 1 = .ok (.invokevirtual 102, 3) := by decide +kernel
theorem dX1_bestFurniture_4 : decode cX1_bestFurniture 4 = .ok (.istore_n 1, 1) := by decide +kernel
theorem dX1_bestFurniture_5 : decode cX1_bestFurniture 5 = .ok (.aload_n 0, 1) := by decide +kernel
theorem dX1_bestFurniture_6 : decode cX1_bestFurniture 6 = .ok (.bipush 10, 2) := by decide +kernel
theorem dX1_bestFurniture_8 : decode cX1_bestFurniture 8 = .ok (.invokevirtual 105, 3) := by decide +kernel
theorem dX1_bestFurniture_11 : decode cX1_bestFurniture 11 = .ok (.invokevirtual 109, 3) := by decide +kernel
theorem dX1_bestFurniture_14 : decode cX1_bestFurniture 14 = .ok (.istore_n 2, 1) := by decide +kernel
theorem dX1_bestFurniture_15 : decode cX1_bestFurniture 15 = .ok (.bipush (-5), 2) := by decide +kernel
theorem dX1_bestFurniture_17 : decode cX1_bestFurniture 17 = .ok (.istore_n 3, 1) := by decide +kernel
theorem dX1_bestFurniture_18 : decode cX1_bestFurniture 18 = .ok (.iconst 0, 1) := by decide +kernel
theorem dX1_bestFurniture_19 : decode cX1_bestFurniture 19 = .ok (.istore 4, 2) := by decide +kernel
theorem dX1_bestFurniture_21 : decode cX1_bestFurniture 21 = .ok (.iload 4, 2) := by decide +kernel
theorem dX1_bestFurniture_23 : decode cX1_bestFurniture 23 = .ok (.bipush 16, 2) := by decide +kernel
theorem dX1_bestFurniture_25 : decode cX1_bestFurniture 25 = .ok (.if_icmp .ge 123, 3) := by decide +kernel
theorem dX1_bestFurniture_28 : decode cX1_bestFurniture 28 = .ok (.iload 4, 2) := by decide +kernel
theorem dX1_bestFurniture_30 : decode cX1_bestFurniture 30 = .ok (.istore 5, 2) := by decide +kernel
theorem dX1_bestFurniture_32 : decode cX1_bestFurniture 32 = .ok (.iload 5, 2) := by decide +kernel
theorem dX1_bestFurniture_34 : decode cX1_bestFurniture 34 = .ok (.bipush 16, 2) := by decide +kernel
theorem dX1_bestFurniture_36 : decode cX1_bestFurniture 36 = .ok (.if_icmp .ge 106, 3) := by decide +kernel
theorem dX1_bestFurniture_39 : decode cX1_bestFurniture 39 = .ok (.iconst 1, 1) := by decide +kernel
theorem dX1_bestFurniture_40 : decode cX1_bestFurniture 40 = .ok (.iload 4, 2) := by decide +kernel
theorem dX1_bestFurniture_42 : decode cX1_bestFurniture 42 = .ok (.ishl, 1) := by decide +kernel
theorem dX1_bestFurniture_43 : decode cX1_bestFurniture 43 = .ok (.iconst 1, 1) := by decide +kernel
theorem dX1_bestFurniture_44 : decode cX1_bestFurniture 44 = .ok (.iload 5, 2) := by decide +kernel
theorem dX1_bestFurniture_46 : decode cX1_bestFurniture 46 = .ok (.ishl, 1) := by decide +kernel
theorem dX1_bestFurniture_47 : decode cX1_bestFurniture 47 = .ok (.ior, 1) := by decide +kernel
theorem dX1_bestFurniture_48 : decode cX1_bestFurniture 48 = .ok (.istore 6, 2) := by decide +kernel
theorem dX1_bestFurniture_50 : decode cX1_bestFurniture 50 = .ok (.iload 6, 2) := by decide +kernel
theorem dX1_bestFurniture_52 : decode cX1_bestFurniture 52 = .ok (.iload_n 1, 1) := by decide +kernel
theorem dX1_bestFurniture_53 : decode cX1_bestFurniture 53 = .ok (.iconst (-1), 1) := by decide +kernel
theorem dX1_bestFurniture_54 : decode cX1_bestFurniture 54 = .ok (.ixor, 1) := by decide +kernel
theorem dX1_bestFurniture_55 : decode cX1_bestFurniture 55 = .ok (.iand, 1) := by decide +kernel
theorem dX1_bestFurniture_56 : decode cX1_bestFurniture 56 = .ok (.ifCond .eq 6, 3) := by decide +kernel
theorem dX1_bestFurniture_59 : decode cX1_bestFurniture 59 = .ok (.goto 77, 3) := by decide +kernel
theorem dX1_bestFurniture_62 : decode cX1_bestFurniture 62 = .ok (.aload_n 0, 1) := by decide +kernel
theorem dX1_bestFurniture_63 : decode cX1_bestFurniture 63 = .ok (.getfield 12, 3) := by decide +kernel
theorem dX1_bestFurniture_66 : decode cX1_bestFurniture 66 = .ok (.aload_n 0, 1) := by decide +kernel
theorem dX1_bestFurniture_67 : decode cX1_bestFurniture 67 = .ok (.getfield 22, 3) := by decide +kernel
theorem dX1_bestFurniture_70 : decode cX1_bestFurniture 70 = .ok (.invokevirtual 33, 3) := by decide +kernel
theorem dX1_bestFurniture_73 : decode cX1_bestFurniture 73 = .ok (.aload_n 0, 1) := by decide +kernel
theorem dX1_bestFurniture_74 : decode cX1_bestFurniture 74 = .ok (.getfield 12, 3) := by decide +kernel
theorem dX1_bestFurniture_77 : decode cX1_bestFurniture 77 = .ok (.aload_n 0, 1) := by decide +kernel
theorem dX1_bestFurniture_78 : decode cX1_bestFurniture 78 = .ok (.getfield 22, 3) := by decide +kernel
theorem dX1_bestFurniture_81 : decode cX1_bestFurniture 81 = .ok (.getfield 60, 3) := by decide +kernel
theorem dX1_bestFurniture_84 : decode cX1_bestFurniture 84 = .ok (.iload 6, 2) := by decide +kernel
theorem dX1_bestFurniture_86 : decode cX1_bestFurniture 86 = .ok (.ior, 1) := by decide +kernel
theorem dX1_bestFurniture_87 : decode cX1_bestFurniture 87 = .ok (.invokevirtual 63, 3) := by decide +kernel
theorem dX1_bestFurniture_90 : decode cX1_bestFurniture 90 = .ok (.aload_n 0, 1) := by decide +kernel
theorem dX1_bestFurniture_91 : decode cX1_bestFurniture 91 = .ok (.getfield 12, 3) := by decide +kernel
theorem dX1_bestFurniture_94 : decode cX1_bestFurniture 94 = .ok (.bipush 10, 2) := by decide +kernel
theorem dX1_bestFurniture_96 : decode cX1_bestFurniture 96 = .ok (.invokevirtual 37, 3) := by decide +kernel
theorem dX1_bestFurniture_99 : decode cX1_bestFurniture 99 = .ok (.aload_n 0, 1) := by decide +kernel
theorem dX1_bestFurniture_100 : decode cX1_bestFurniture 100 = .ok (.getfield 12, 3) := by decide +kernel
theorem dX1_bestFurniture_103 : decode cX1_bestFurniture 103 = .ok (.invokevirtual 109, 3) := by decide +kernel
theorem dX1_bestFurniture_106 : decode cX1_bestFurniture 106 = .ok (.istore 7, 2) := by decide +kernel
theorem dX1_bestFurniture_108 : decode cX1_bestFurniture 108 = .ok (.iload 7, 2) := by decide +kernel
theorem dX1_bestFurniture_110 : decode cX1_bestFurniture 110 = .ok (.iload_n 2, 1) := by decide +kernel
theorem dX1_bestFurniture_111 : decode cX1_bestFurniture 111 = .ok (.if_icmp .lt 19, 3) := by decide +kernel
theorem dX1_bestFurniture_114 : decode cX1_bestFurniture 114 = .ok (.iload 7, 2) := by decide +kernel
theorem dX1_bestFurniture_116 : decode cX1_bestFurniture 116 = .ok (.iload_n 2, 1) := by decide +kernel
theorem dX1_bestFurniture_117 : decode cX1_bestFurniture 117 = .ok (.if_icmp .ne 19, 3) := by decide +kernel
theorem dX1_bestFurniture_120 : decode cX1_bestFurniture 120 = .ok (.iload_n 3, 1) := by decide +kernel
theorem dX1_bestFurniture_121 : decode cX1_bestFurniture 121 = .ok (.ifCond .lt 15, 3) := by decide +kernel
theorem dX1_bestFurniture_124 : decode cX1_bestFurniture 124 = .ok (.iload 6, 2) := by decide +kernel
theorem dX1_bestFurniture_126 : decode cX1_bestFurniture 126 = .ok (.iload_n 3, 1) := by decide +kernel
theorem dX1_bestFurniture_127 : decode cX1_bestFurniture 127 = .ok (.if_icmp .ge 9, 3) := by decide +kernel
theorem dX1_bestFurniture_130 : decode cX1_bestFurniture 130 = .ok (.iload 7, 2) := by decide +kernel
theorem dX1_bestFurniture_132 : decode cX1_bestFurniture 132 = .ok (.istore_n 2, 1) := by decide +kernel
theorem dX1_bestFurniture_133 : decode cX1_bestFurniture 133 = .ok (.iload 6, 2) := by decide +kernel
theorem dX1_bestFurniture_135 : decode cX1_bestFurniture 135 = .ok (.istore_n 3, 1) := by decide +kernel
theorem dX1_bestFurniture_136 : decode cX1_bestFurniture 136 = .ok (.iinc 5 1, 3) := by decide +kernel
theorem dX1_bestFurniture_139 : decode cX1_bestFurniture 139 = .ok (.goto (-107), 3) := by decide +kernel
theorem dX1_bestFurniture_142 : decode cX1_bestFurniture 142 = .ok (.iinc 4 1, 3) := by decide +kernel
theorem dX1_bestFurniture_145 : decode cX1_bestFurniture 145 = .ok (.goto (-124), 3) := by decide +kernel
theorem dX1_bestFurniture_148 : decode cX1_bestFurniture 148 = .ok (.iload_n 3, 1) := by decide +kernel
theorem dX1_bestFurniture_149 : decode cX1_bestFurniture 149 = .ok (.ireturn, 1) := by decide +kernel
theorem dX1_freeCells_0 : decode cX1_freeCells 0 = .ok (.aload_n 0, 1) := by decide +kernel
theorem dX1_freeCells_1 : decode cX1_freeCells 1 = .ok (.getfield 22, 3) := by decide +kernel
theorem dX1_freeCells_4 : decode cX1_freeCells 4 = .ok (.getfield 60, 3) := by decide +kernel
theorem dX1_freeCells_7 : decode cX1_freeCells 7 = .ok (.istore_n 1, 1) := by decide +kernel
theorem dX1_freeCells_8 : decode cX1_freeCells 8 = .ok (.iconst 0, 1) := by decide +kernel
theorem dX1_freeCells_9 : decode cX1_freeCells 9 = .ok (.istore_n 2, 1) := by decide +kernel
theorem dX1_freeCells_10 : decode cX1_freeCells 10 = .ok (.iload_n 2, 1) := by decide +kernel
theorem dX1_freeCells_11 : decode cX1_freeCells 11 = .ok (.aload_n 0, 1) := by decide +kernel
theorem dX1_freeCells_12 : decode cX1_freeCells 12 = .ok (.getfield 22, 3) := by decide +kernel
theorem dX1_freeCells_15 : decode cX1_freeCells 15 = .ok (.getfield 86, 3) := by decide +kernel
theorem dX1_freeCells_18 : decode cX1_freeCells 18 = .ok (.if_icmp .ge 35, 3) := by decide +kernel
theorem dX1_freeCells_21 : decode cX1_freeCells 21 = .ok (.iload_n 1, 1) := by decide +kernel
theorem dX1_freeCells_22 : decode cX1_freeCells 22 = .ok (.iconst 1, 1) := by decide +kernel
theorem dX1_freeCells_23 : decode cX1_freeCells 23 = .ok (.aload_n 0, 1) := by decide +kernel
theorem dX1_freeCells_24 : decode cX1_freeCells 24 = .ok (.getfield 22, 3) := by decide +kernel
theorem dX1_freeCells_27 : decode cX1_freeCells 27 = .ok (.getfield 112, 3) := by decide +kernel
theorem dX1_freeCells_30 : decode cX1_freeCells 30 = .ok (.iload_n 2, 1) := by decide +kernel
theorem dX1_freeCells_31 : decode cX1_freeCells 31 = .ok (.iaload, 1) := by decide +kernel
theorem dX1_freeCells_32 : decode cX1_freeCells 32 = .ok (.ishl, 1) := by decide +kernel
theorem dX1_freeCells_33 : decode cX1_freeCells 33 = .ok (.iconst 1, 1) := by decide +kernel
theorem dX1_freeCells_34 : decode cX1_freeCells 34 = .ok (.aload_n 0, 1) := by decide +kernel
theorem dX1_freeCells_35 : decode cX1_freeCells 35 = .ok (.getfield 22, 3) := by decide +kernel
theorem dX1_freeCells_38 : decode cX1_freeCells 38 = .ok (.getfield 115, 3) := by decide +kernel
theorem dX1_freeCells_41 : decode cX1_freeCells 41 = .ok (.iload_n 2, 1) := by decide +kernel
theorem dX1_freeCells_42 : decode cX1_freeCells 42 = .ok (.iaload, 1) := by decide +kernel
theorem dX1_freeCells_43 : decode cX1_freeCells 43 = .ok (.ishl, 1) := by decide +kernel
theorem dX1_freeCells_44 : decode cX1_freeCells 44 = .ok (.ior, 1) := by decide +kernel
theorem dX1_freeCells_45 : decode cX1_freeCells 45 = .ok (.ior, 1) := by decide +kernel
theorem dX1_freeCells_46 : decode cX1_freeCells 46 = .ok (.istore_n 1, 1) := by decide +kernel
theorem dX1_freeCells_47 : decode cX1_freeCells 47 = .ok (.iinc 2 1, 3) := by decide +kernel
theorem dX1_freeCells_50 : decode cX1_freeCells 50 = .ok (.goto (-40), 3) := by decide +kernel
theorem dX1_freeCells_53 : decode cX1_freeCells 53 = .ok (.ldc 118, 2) := by decide +kernel
theorem dX1_freeCells_55 : decode cX1_freeCells 55 = .ok (.iload_n 1, 1) := by decide +kernel
theorem dX1_freeCells_56 : decode cX1_freeCells 56 = .ok (.iconst (-1), 1) := by decide +kernel
theorem dX1_freeCells_57 : decode cX1_freeCells 57 = .ok (.ixor, 1) := by decide +kernel
theorem dX1_freeCells_58 : decode cX1_freeCells 58 = .ok (.iand, 1) := by decide +kernel
theorem dX1_freeCells_59 : decode cX1_freeCells 59 = .ok (.ireturn, 1) := by decide +kernel
theorem dX1_cellToLay_0 : decode cX1_cellToLay 0 = .ok (.aload_n 0, 1) := by decide +kernel
theorem dX1_cellToLay_1 : decode cX1_cellToLay 1 = .ok (.bipush 20, 2) := by decide +kernel
theorem dX1_cellToLay_3 : decode cX1_cellToLay 3 = .ok (.invokevirtual 105, 3) := by decide +kernel
theorem dX1_cellToLay_6 : decode cX1_cellToLay 6 = .ok (.invokevirtual 73, 3) := by decide +kernel
theorem dX1_cellToLay_9 : decode cX1_cellToLay 9 = .ok (.istore_n 1, 1) := by decide +kernel
theorem dX1_cellToLay_10 : decode cX1_cellToLay 10 = .ok (.iconst 0, 1) := by decide +kernel
theorem dX1_cellToLay_11 : decode cX1_cellToLay 11 = .ok (.istore_n 2, 1) := by decide +kernel
theorem dX1_cellToLay_12 : decode cX1_cellToLay 12 = .ok (.iload_n 2, 1) := by decide +kernel
theorem dX1_cellToLay_13 : decode cX1_cellToLay 13 = .ok (.bipush 16, 2) := by decide +kernel
theorem dX1_cellToLay_15 : decode cX1_cellToLay 15 = .ok (.if_icmp .ge 39, 3) := by decide +kernel
theorem dX1_cellToLay_18 : decode cX1_cellToLay 18 = .ok (.iload_n 1, 1) := by decide +kernel
theorem dX1_cellToLay_19 : decode cX1_cellToLay 19 = .ok (.iload_n 2, 1) := by decide +kernel
theorem dX1_cellToLay_20 : decode cX1_cellToLay 20 = .ok (.invokestatic 119, 3) := by decide +kernel
theorem dX1_cellToLay_23 : decode cX1_cellToLay 23 = .ok (.ifCond .eq 25, 3) := by decide +kernel
theorem dX1_cellToLay_26 : decode cX1_cellToLay 26 = .ok (.aload_n 0, 1) := by decide +kernel
theorem dX1_cellToLay_27 : decode cX1_cellToLay 27 = .ok (.getfield 22, 3) := by decide +kernel
theorem dX1_cellToLay_30 : decode cX1_cellToLay 30 = .ok (.iload_n 2, 1) := by decide +kernel
theorem dX1_cellToLay_31 : decode cX1_cellToLay 31 = .ok (.bipush 20, 2) := by decide +kernel
theorem dX1_cellToLay_33 : decode cX1_cellToLay 33 = .ok (.invokevirtual 66, 3) := by decide +kernel
theorem dX1_cellToLay_36 : decode cX1_cellToLay 36 = .ok (.aload_n 0, 1) := by decide +kernel
theorem dX1_cellToLay_37 : decode cX1_cellToLay 37 = .ok (.getfield 22, 3) := by decide +kernel
theorem dX1_cellToLay_40 : decode cX1_cellToLay 40 = .ok (.getfield 70, 3) := by decide +kernel
theorem dX1_cellToLay_43 : decode cX1_cellToLay 43 = .ok (.if_icmp .ge 5, 3) := by decide +kernel
theorem dX1_cellToLay_46 : decode cX1_cellToLay 46 = .ok (.iload_n 2, 1) := by decide +kernel
theorem dX1_cellToLay_47 : decode cX1_cellToLay 47 = .ok (.ireturn, 1) := by decide +kernel
theorem dX1_cellToLay_48 : decode cX1_cellToLay 48 = .ok (.iinc 2 1, 3) := by decide +kernel
theorem dX1_cellToLay_51 : decode cX1_cellToLay 51 = .ok (.goto (-39), 3) := by decide +kernel
theorem dX1_cellToLay_54 : decode cX1_cellToLay 54 = .ok (.bipush (-5), 2) := by decide +kernel
theorem dX1_cellToLay_56 : decode cX1_cellToLay 56 = .ok (.ireturn, 1) := by decide +kernel
theorem dX1_startsOf_0 : decode cX1_startsOf 0 = .ok (.iconst 0, 1) := by decide +kernel
theorem dX1_startsOf_1 : decode cX1_startsOf 1 = .ok (.istore_n 2, 1) := by decide +kernel
theorem dX1_startsOf_2 : decode cX1_startsOf 2 = .ok (.aload_n 0, 1) := by decide +kernel
theorem dX1_startsOf_3 : decode cX1_startsOf 3 = .ok (.getfield 12, 3) := by decide +kernel
theorem dX1_startsOf_6 : decode cX1_startsOf 6 = .ok (.aload_n 0, 1) := by decide +kernel
theorem dX1_startsOf_7 : decode cX1_startsOf 7 = .ok (.getfield 22, 3) := by decide +kernel
theorem dX1_startsOf_10 : decode cX1_startsOf 10 = .ok (.invokevirtual 33, 3) := by decide +kernel
theorem dX1_startsOf_13 : decode cX1_startsOf 13 = .ok (.iconst 0, 1) := by decide +kernel
theorem dX1_startsOf_14 : decode cX1_startsOf 14 = .ok (.istore_n 3, 1) := by decide +kernel
theorem dX1_startsOf_15 : decode cX1_startsOf 15 = .ok (.iload_n 3, 1) := by decide +kernel
theorem dX1_startsOf_16 : decode cX1_startsOf 16 = .ok (.bipush 16, 2) := by decide +kernel
theorem dX1_startsOf_18 : decode cX1_startsOf 18 = .ok (.if_icmp .ge 47, 3) := by decide +kernel
theorem dX1_startsOf_21 : decode cX1_startsOf 21 = .ok (.aload_n 0, 1) := by decide +kernel
theorem dX1_startsOf_22 : decode cX1_startsOf 22 = .ok (.getfield 12, 3) := by decide +kernel
theorem dX1_startsOf_25 : decode cX1_startsOf 25 = .ok (.getfield 112, 3) := by decide +kernel
theorem dX1_startsOf_28 : decode cX1_startsOf 28 = .ok (.iload_n 1, 1) := by decide +kernel
theorem dX1_startsOf_29 : decode cX1_startsOf 29 = .ok (.iload_n 3, 1) := by decide +kernel
theorem dX1_startsOf_30 : decode cX1_startsOf 30 = .ok (.iastore, 1) := by decide +kernel
theorem dX1_startsOf_31 : decode cX1_startsOf 31 = .ok (.aload_n 0, 1) := by decide +kernel
theorem dX1_startsOf_32 : decode cX1_startsOf 32 = .ok (.getfield 12, 3) := by decide +kernel
theorem dX1_startsOf_35 : decode cX1_startsOf 35 = .ok (.iload_n 1, 1) := by decide +kernel
theorem dX1_startsOf_36 : decode cX1_startsOf 36 = .ok (.invokevirtual 122, 3) := by decide +kernel
theorem dX1_startsOf_39 : decode cX1_startsOf 39 = .ok (.aload_n 0, 1) := by decide +kernel
theorem dX1_startsOf_40 : decode cX1_startsOf 40 = .ok (.getfield 25, 3) := by decide +kernel
theorem dX1_startsOf_43 : decode cX1_startsOf 43 = .ok (.aload_n 0, 1) := by decide +kernel
theorem dX1_startsOf_44 : decode cX1_startsOf 44 = .ok (.getfield 12, 3) := by decide +kernel
theorem dX1_startsOf_47 : decode cX1_startsOf 47 = .ok (.invokevirtual 125, 3) := by decide +kernel
theorem dX1_startsOf_50 : decode cX1_startsOf 50 = .ok (.ifCond .eq 9, 3) := by decide +kernel
theorem dX1_startsOf_53 : decode cX1_startsOf 53 = .ok (.iload_n 2, 1) := by decide +kernel
theorem dX1_startsOf_54 : decode cX1_startsOf 54 = .ok (.iconst 1, 1) := by decide +kernel
theorem dX1_startsOf_55 : decode cX1_startsOf 55 = .ok (.iload_n 3, 1) := by decide +kernel
theorem dX1_startsOf_56 : decode cX1_startsOf 56 = .ok (.ishl, 1) := by decide +kernel
theorem dX1_startsOf_57 : decode cX1_startsOf 57 = .ok (.ior, 1) := by decide +kernel
theorem dX1_startsOf_58 : decode cX1_startsOf 58 = .ok (.istore_n 2, 1) := by decide +kernel
theorem dX1_startsOf_59 : decode cX1_startsOf 59 = .ok (.iinc 3 1, 3) := by decide +kernel
theorem dX1_startsOf_62 : decode cX1_startsOf 62 = .ok (.goto (-47), 3) := by decide +kernel
theorem dX1_startsOf_65 : decode cX1_startsOf 65 = .ok (.iload_n 2, 1) := by decide +kernel
theorem dX1_startsOf_66 : decode cX1_startsOf 66 = .ok (.ireturn, 1) := by decide +kernel
theorem dX1_fittingNumbers_0 : decode cX1_fittingNumbers 0 = .ok (.iconst 0, 1) := by decide +kernel
theorem dX1_fittingNumbers_1 : decode cX1_fittingNumbers 1 = .ok (.istore_n 2, 1) := by decide +kernel
theorem dX1_fittingNumbers_2 : decode cX1_fittingNumbers 2 = .ok (.aload_n 0, 1) := by decide +kernel
theorem dX1_fittingNumbers_3 : decode cX1_fittingNumbers 3 = .ok (.getfield 12, 3) := by decide +kernel
theorem dX1_fittingNumbers_6 : decode cX1_fittingNumbers 6 = .ok (.aload_n 0, 1) := by decide +kernel
theorem dX1_fittingNumbers_7 : decode cX1_fittingNumbers 7 = .ok (.getfield 22, 3) := by decide +kernel
theorem dX1_fittingNumbers_10 : decode cX1_fittingNumbers 10 = .ok (.invokevirtual 33, 3) := by decide +kernel
theorem dX1_fittingNumbers_13 : decode cX1_fittingNumbers 13 = .ok (.iconst 0, 1) := by decide +kernel
theorem dX1_fittingNumbers_14 : decode cX1_fittingNumbers 14 = .ok (.istore_n 3, 1) := by decide +kernel
theorem dX1_fittingNumbers_15 : decode cX1_fittingNumbers 15 = .ok (.iload_n 3, 1) := by decide +kernel
theorem dX1_fittingNumbers_16 : decode cX1_fittingNumbers 16 = .ok (.bipush 9, 2) := by decide +kernel
theorem dX1_fittingNumbers_18 : decode cX1_fittingNumbers 18 = .ok (.if_icmp .gt 79, 3) := by decide +kernel
theorem dX1_fittingNumbers_21 : decode cX1_fittingNumbers 21 = .ok (.aload_n 0, 1) := by decide +kernel
theorem dX1_fittingNumbers_22 : decode cX1_fittingNumbers 22 = .ok (.getfield 12, 3) := by decide +kernel
theorem dX1_fittingNumbers_25 : decode cX1_fittingNumbers 25 = .ok (.getfield 129, 3) := by decide +kernel
theorem dX1_fittingNumbers_28 : decode cX1_fittingNumbers 28 = .ok (.iload_n 1, 1) := by decide +kernel
theorem dX1_fittingNumbers_29 : decode cX1_fittingNumbers 29 = .ok (.iload_n 3, 1) := by decide +kernel
theorem dX1_fittingNumbers_30 : decode cX1_fittingNumbers 30 = .ok (.iastore, 1) := by decide +kernel
theorem dX1_fittingNumbers_31 : decode cX1_fittingNumbers 31 = .ok (.aload_n 0, 1) := by decide +kernel
theorem dX1_fittingNumbers_32 : decode cX1_fittingNumbers 32 = .ok (.getfield 29, 3) := by decide +kernel
theorem dX1_fittingNumbers_35 : decode cX1_fittingNumbers 35 = .ok (.aload_n 0, 1) := by decide +kernel
theorem dX1_fittingNumbers_36 : decode cX1_fittingNumbers 36 = .ok (.getfield 22, 3) := by decide +kernel
theorem dX1_fittingNumbers_39 : decode cX1_fittingNumbers 39 = .ok (.getfield 132, 3) := by decide +kernel
theorem dX1_fittingNumbers_42 : decode cX1_fittingNumbers 42 = .ok (.iload_n 1, 1) := by decide +kernel
theorem dX1_fittingNumbers_43 : decode cX1_fittingNumbers 43 = .ok (.aload_n 0, 1) := by decide +kernel
theorem dX1_fittingNumbers_44 : decode cX1_fittingNumbers 44 = .ok (.getfield 22, 3) := by decide +kernel
theorem dX1_fittingNumbers_47 : decode cX1_fittingNumbers 47 = .ok (.getfield 135, 3) := by decide +kernel
theorem dX1_fittingNumbers_50 : decode cX1_fittingNumbers 50 = .ok (.iload_n 1, 1) := by decide +kernel
theorem dX1_fittingNumbers_51 : decode cX1_fittingNumbers 51 = .ok (.iaload, 1) := by decide +kernel
theorem dX1_fittingNumbers_52 : decode cX1_fittingNumbers 52 = .ok (.iload_n 3, 1) := by decide +kernel
theorem dX1_fittingNumbers_53 : decode cX1_fittingNumbers 53 = .ok (.invokevirtual 138, 3) := by decide +kernel
theorem dX1_fittingNumbers_56 : decode cX1_fittingNumbers 56 = .ok (.aload_n 0, 1) := by decide +kernel
theorem dX1_fittingNumbers_57 : decode cX1_fittingNumbers 57 = .ok (.getfield 29, 3) := by decide +kernel
theorem dX1_fittingNumbers_60 : decode cX1_fittingNumbers 60 = .ok (.aload_n 0, 1) := by decide +kernel
theorem dX1_fittingNumbers_61 : decode cX1_fittingNumbers 61 = .ok (.getfield 12, 3) := by decide +kernel
theorem dX1_fittingNumbers_64 : decode cX1_fittingNumbers 64 = .ok (.getfield 144, 3) := by decide +kernel
theorem dX1_fittingNumbers_67 : decode cX1_fittingNumbers 67 = .ok (.iload_n 1, 1) := by decide +kernel
theorem dX1_fittingNumbers_68 : decode cX1_fittingNumbers 68 = .ok (.invokevirtual 147, 3) := by decide +kernel
theorem dX1_fittingNumbers_71 : decode cX1_fittingNumbers 71 = .ok (.aload_n 0, 1) := by decide +kernel
theorem dX1_fittingNumbers_72 : decode cX1_fittingNumbers 72 = .ok (.getfield 25, 3) := by decide +kernel
theorem dX1_fittingNumbers_75 : decode cX1_fittingNumbers 75 = .ok (.aload_n 0, 1) := by decide +kernel
theorem dX1_fittingNumbers_76 : decode cX1_fittingNumbers 76 = .ok (.getfield 12, 3) := by decide +kernel
theorem dX1_fittingNumbers_79 : decode cX1_fittingNumbers 79 = .ok (.invokevirtual 125, 3) := by decide +kernel
theorem dX1_fittingNumbers_82 : decode cX1_fittingNumbers 82 = .ok (.ifCond .eq 9, 3) := by decide +kernel
theorem dX1_fittingNumbers_85 : decode cX1_fittingNumbers 85 = .ok (.iload_n 2, 1) := by decide +kernel
theorem dX1_fittingNumbers_86 : decode cX1_fittingNumbers 86 = .ok (.iconst 1, 1) := by decide +kernel
theorem dX1_fittingNumbers_87 : decode cX1_fittingNumbers 87 = .ok (.iload_n 3, 1) := by decide +kernel
theorem dX1_fittingNumbers_88 : decode cX1_fittingNumbers 88 = .ok (.ishl, 1) := by decide +kernel
theorem dX1_fittingNumbers_89 : decode cX1_fittingNumbers 89 = .ok (.ior, 1) := by decide +kernel
theorem dX1_fittingNumbers_90 : decode cX1_fittingNumbers 90 = .ok (.istore_n 2, 1) := by decide +kernel
theorem dX1_fittingNumbers_91 : decode cX1_fittingNumbers 91 = .ok (.iinc 3 1, 3) := by decide +kernel
theorem dX1_fittingNumbers_94 : decode cX1_fittingNumbers 94 = .ok (.goto (-79), 3) := by decide +kernel
theorem dX1_fittingNumbers_97 : decode cX1_fittingNumbers 97 = .ok (.iload_n 2, 1) := by decide +kernel
theorem dX1_fittingNumbers_98 : decode cX1_fittingNumbers 98 = .ok (.ireturn, 1) := by decide +kernel
theorem dX1_soleGoers_0 : decode cX1_soleGoers 0 = .ok (.iconst 0, 1) := by decide +kernel
theorem dX1_soleGoers_1 : decode cX1_soleGoers 1 = .ok (.istore_n 1, 1) := by decide +kernel
theorem dX1_soleGoers_2 : decode cX1_soleGoers 2 = .ok (.aload_n 0, 1) := by decide +kernel
theorem dX1_soleGoers_3 : decode cX1_soleGoers 3 = .ok (.getfield 12, 3) := by decide +kernel
theorem dX1_soleGoers_6 : decode cX1_soleGoers 6 = .ok (.aload_n 0, 1) := by decide +kernel
theorem dX1_soleGoers_7 : decode cX1_soleGoers 7 = .ok (.getfield 22, 3) := by decide +kernel
theorem dX1_soleGoers_10 : decode cX1_soleGoers 10 = .ok (.invokevirtual 33, 3) := by decide +kernel
theorem dX1_soleGoers_13 : decode cX1_soleGoers 13 = .ok (.iconst 0, 1) := by decide +kernel
theorem dX1_soleGoers_14 : decode cX1_soleGoers 14 = .ok (.istore_n 2, 1) := by decide +kernel
theorem dX1_soleGoers_15 : decode cX1_soleGoers 15 = .ok (.iload_n 2, 1) := by decide +kernel
theorem dX1_soleGoers_16 : decode cX1_soleGoers 16 = .ok (.aload_n 0, 1) := by decide +kernel
theorem dX1_soleGoers_17 : decode cX1_soleGoers 17 = .ok (.getfield 22, 3) := by decide +kernel
theorem dX1_soleGoers_20 : decode cX1_soleGoers 20 = .ok (.getfield 86, 3) := by decide +kernel
theorem dX1_soleGoers_23 : decode cX1_soleGoers 23 = .ok (.if_icmp .ge 41, 3) := by decide +kernel
theorem dX1_soleGoers_26 : decode cX1_soleGoers 26 = .ok (.aload_n 0, 1) := by decide +kernel
theorem dX1_soleGoers_27 : decode cX1_soleGoers 27 = .ok (.getfield 12, 3) := by decide +kernel
theorem dX1_soleGoers_30 : decode cX1_soleGoers 30 = .ok (.iconst 1, 1) := by decide +kernel
theorem dX1_soleGoers_31 : decode cX1_soleGoers 31 = .ok (.iload_n 2, 1) := by decide +kernel
theorem dX1_soleGoers_32 : decode cX1_soleGoers 32 = .ok (.ishl, 1) := by decide +kernel
theorem dX1_soleGoers_33 : decode cX1_soleGoers 33 = .ok (.iconst (-1), 1) := by decide +kernel
theorem dX1_soleGoers_34 : decode cX1_soleGoers 34 = .ok (.ixor, 1) := by decide +kernel
theorem dX1_soleGoers_35 : decode cX1_soleGoers 35 = .ok (.putfield 99, 3) := by decide +kernel
theorem dX1_soleGoers_38 : decode cX1_soleGoers 38 = .ok (.aload_n 0, 1) := by decide +kernel
theorem dX1_soleGoers_39 : decode cX1_soleGoers 39 = .ok (.getfield 25, 3) := by decide +kernel
theorem dX1_soleGoers_42 : decode cX1_soleGoers 42 = .ok (.aload_n 0, 1) := by decide +kernel
theorem dX1_soleGoers_43 : decode cX1_soleGoers 43 = .ok (.getfield 12, 3) := by decide +kernel
theorem dX1_soleGoers_46 : decode cX1_soleGoers 46 = .ok (.invokevirtual 125, 3) := by decide +kernel
theorem dX1_soleGoers_49 : decode cX1_soleGoers 49 = .ok (.ifCond .eq 9, 3) := by decide +kernel
theorem dX1_soleGoers_52 : decode cX1_soleGoers 52 = .ok (.iload_n 1, 1) := by decide +kernel
theorem dX1_soleGoers_53 : decode cX1_soleGoers 53 = .ok (.iconst 1, 1) := by decide +kernel
theorem dX1_soleGoers_54 : decode cX1_soleGoers 54 = .ok (.iload_n 2, 1) := by decide +kernel
theorem dX1_soleGoers_55 : decode cX1_soleGoers 55 = .ok (.ishl, 1) := by decide +kernel
theorem dX1_soleGoers_56 : decode cX1_soleGoers 56 = .ok (.ior, 1) := by decide +kernel
theorem dX1_soleGoers_57 : decode cX1_soleGoers 57 = .ok (.istore_n 1, 1) := by decide +kernel
theorem dX1_soleGoers_58 : decode cX1_soleGoers 58 = .ok (.iinc 2 1, 3) := by decide +kernel
theorem dX1_soleGoers_61 : decode cX1_soleGoers 61 = .ok (.goto (-46), 3) := by decide +kernel
theorem dX1_soleGoers_64 : decode cX1_soleGoers 64 = .ok (.iload_n 1, 1) := by decide +kernel
theorem dX1_soleGoers_65 : decode cX1_soleGoers 65 = .ok (.ireturn, 1) := by decide +kernel
theorem dX1_goersWithoutWhomBald_0 : decode cX1_goersWithoutWhomBald 0 = .ok (.iconst 0, 1) := by decide +kernel
theorem dX1_goersWithoutWhomBald_1 : decode cX1_goersWithoutWhomBald 1 = .ok (.istore_n 3, 1) := by decide +kernel
theorem dX1_goersWithoutWhomBald_2 : decode cX1_goersWithoutWhomBald 2 = .ok (.aload_n 0, 1) := by decide +kernel
theorem dX1_goersWithoutWhomBald_3 : decode cX1_goersWithoutWhomBald 3 = .ok (.getfield 12, 3) := by decide +kernel
theorem dX1_goersWithoutWhomBald_6 : decode cX1_goersWithoutWhomBald 6 = .ok (.aload_n 0, 1) := by decide +kernel
theorem dX1_goersWithoutWhomBald_7 : decode cX1_goersWithoutWhomBald 7 = .ok (.getfield 22, 3) := by decide +kernel
theorem dX1_goersWithoutWhomBald_10 : decode cX1_goersWithoutWhomBald 10 = .ok (.invokevirtual 33, 3) := by decide +kernel
theorem dX1_goersWithoutWhomBald_13 : decode cX1_goersWithoutWhomBald 13 = .ok (.iconst 0, 1) := by decide +kernel
theorem dX1_goersWithoutWhomBald_14 : decode cX1_goersWithoutWhomBald 14 = .ok (.istore 4, 2) := by decide +kernel
theorem dX1_goersWithoutWhomBald_16 : decode cX1_goersWithoutWhomBald 16 = .ok (.iload 4, 2) := by decide +kernel
theorem dX1_goersWithoutWhomBald_18 : decode cX1_goersWithoutWhomBald 18 = .ok (.aload_n 0, 1) := by decide +kernel
theorem dX1_goersWithoutWhomBald_19 : decode cX1_goersWithoutWhomBald 19 = .ok (.getfield 22, 3) := by decide +kernel
theorem dX1_goersWithoutWhomBald_22 : decode cX1_goersWithoutWhomBald 22 = .ok (.getfield 86, 3) := by decide +kernel
theorem dX1_goersWithoutWhomBald_25 : decode cX1_goersWithoutWhomBald 25 = .ok (.if_icmp .ge 60, 3) := by decide +kernel
theorem dX1_goersWithoutWhomBald_28 : decode cX1_goersWithoutWhomBald 28 = .ok (.aload_n 0, 1) := by decide +kernel
theorem dX1_goersWithoutWhomBald_29 : decode cX1_goersWithoutWhomBald 29 = .ok (.getfield 12, 3) := by decide +kernel
theorem dX1_goersWithoutWhomBald_32 : decode cX1_goersWithoutWhomBald 32 = .ok (.aload_n 0, 1) := by decide +kernel
theorem dX1_goersWithoutWhomBald_33 : decode cX1_goersWithoutWhomBald 33 = .ok (.getfield 22, 3) := by decide +kernel
theorem dX1_goersWithoutWhomBald_36 : decode cX1_goersWithoutWhomBald 36 = .ok (.getfield 99, 3) := by decide +kernel
theorem dX1_goersWithoutWhomBald_39 : decode cX1_goersWithoutWhomBald 39 = .ok (.iconst 1, 1) := by decide +kernel
theorem dX1_goersWithoutWhomBald_40 : decode cX1_goersWithoutWhomBald 40 = .ok (.iload 4, 2) := by decide +kernel
theorem dX1_goersWithoutWhomBald_42 : decode cX1_goersWithoutWhomBald 42 = .ok (.ishl, 1) := by decide +kernel
theorem dX1_goersWithoutWhomBald_43 : decode cX1_goersWithoutWhomBald 43 = .ok (.ior, 1) := by decide +kernel
theorem dX1_goersWithoutWhomBald_44 : decode cX1_goersWithoutWhomBald 44 = .ok (.putfield 99, 3) := by decide +kernel
theorem dX1_goersWithoutWhomBald_47 : decode cX1_goersWithoutWhomBald 47 = .ok (.aload_n 0, 1) := by decide +kernel
theorem dX1_goersWithoutWhomBald_48 : decode cX1_goersWithoutWhomBald 48 = .ok (.getfield 12, 3) := by decide +kernel
theorem dX1_goersWithoutWhomBald_51 : decode cX1_goersWithoutWhomBald 51 = .ok (.getfield 57, 3) := by decide +kernel
theorem dX1_goersWithoutWhomBald_54 : decode cX1_goersWithoutWhomBald 54 = .ok (.iload_n 1, 1) := by decide +kernel
theorem dX1_goersWithoutWhomBald_55 : decode cX1_goersWithoutWhomBald 55 = .ok (.iaload, 1) := by decide +kernel
theorem dX1_goersWithoutWhomBald_56 : decode cX1_goersWithoutWhomBald 56 = .ok (.aload_n 0, 1) := by decide +kernel
theorem dX1_goersWithoutWhomBald_57 : decode cX1_goersWithoutWhomBald 57 = .ok (.getfield 12, 3) := by decide +kernel
theorem dX1_goersWithoutWhomBald_60 : decode cX1_goersWithoutWhomBald 60 = .ok (.iload_n 1, 1) := by decide +kernel
theorem dX1_goersWithoutWhomBald_61 : decode cX1_goersWithoutWhomBald 61 = .ok (.iload_n 2, 1) := by decide +kernel
theorem dX1_goersWithoutWhomBald_62 : decode cX1_goersWithoutWhomBald 62 = .ok (.invokevirtual 66, 3) := by decide +kernel
theorem dX1_goersWithoutWhomBald_65 : decode cX1_goersWithoutWhomBald 65 = .ok (.iadd, 1) := by decide +kernel
theorem dX1_goersWithoutWhomBald_66 : decode cX1_goersWithoutWhomBald 66 = .ok (.aload_n 0, 1) := by decide +kernel
theorem dX1_goersWithoutWhomBald_67 : decode cX1_goersWithoutWhomBald 67 = .ok (.getfield 22, 3) := by decide +kernel
theorem dX1_goersWithoutWhomBald_70 : decode cX1_goersWithoutWhomBald 70 = .ok (.getfield 70, 3) := by decide +kernel
theorem dX1_goersWithoutWhomBald_73 : decode cX1_goersWithoutWhomBald 73 = .ok (.if_icmp .lt 6, 3) := by decide +kernel
theorem dX1_goersWithoutWhomBald_76 : decode cX1_goersWithoutWhomBald 76 = .ok (.iinc 3 1, 3) := by decide +kernel
theorem dX1_goersWithoutWhomBald_79 : decode cX1_goersWithoutWhomBald 79 = .ok (.iinc 4 1, 3) := by decide +kernel
theorem dX1_goersWithoutWhomBald_82 : decode cX1_goersWithoutWhomBald 82 = .ok (.goto (-66), 3) := by decide +kernel
theorem dX1_goersWithoutWhomBald_85 : decode cX1_goersWithoutWhomBald 85 = .ok (.iload_n 3, 1) := by decide +kernel
theorem dX1_goersWithoutWhomBald_86 : decode cX1_goersWithoutWhomBald 86 = .ok (.ireturn, 1) := by decide +kernel
theorem dX2_init_0 : decode cX2_init 0 = .ok (.aload_n 0, 1) := by decide +kernel
theorem dX2_init_1 : decode cX2_init 1 = .ok (.invokespecial 3, 3) := by decide +kernel
theorem dX2_init_4 : decode cX2_init 4 = .ok (.aload_n 0, 1) := by decide +kernel
theorem dX2_init_5 : decode cX2_init 5 = .ok (.bipush 16, 2) := by decide +kernel
theorem dX2_init_7 : decode cX2_init 7 = .ok (.newarray .int, 2) := by decide +kernel
theorem dX2_init_9 : decode cX2_init 9 = .ok (.putfield 9, 3) := by decide +kernel
theorem dX2_init_12 : decode cX2_init 12 = .ok (.aload_n 0, 1) := by decide +kernel
theorem dX2_init_13 : decode cX2_init 13 = .ok (.bipush 6, 2) := by decide +kernel
theorem dX2_init_15 : decode cX2_init 15 = .ok (.newarray .int, 2) := by decide +kernel
theorem dX2_init_17 : decode cX2_init 17 = .ok (.putfield 15, 3) := by decide +kernel
theorem dX2_init_20 : decode cX2_init 20 = .ok (.aload_n 0, 1) := by decide +kernel
theorem dX2_init_21 : decode cX2_init 21 = .ok (.bipush 6, 2) := by decide +kernel
theorem dX2_init_23 : decode cX2_init 23 = .ok (.newarray .int, 2) := by decide +kernel
theorem dX2_init_25 : decode cX2_init 25 = .ok (.putfield 18, 3) := by decide +kernel
theorem dX2_init_28 : decode cX2_init 28 = .ok (.aload_n 0, 1) := by decide +kernel
theorem dX2_init_29 : decode cX2_init 29 = .ok (.bipush 6, 2) := by decide +kernel
theorem dX2_init_31 : decode cX2_init 31 = .ok (.newarray .int, 2) := by decide +kernel
theorem dX2_init_33 : decode cX2_init 33 = .ok (.putfield 21, 3) := by decide +kernel
theorem dX2_init_36 : decode cX2_init 36 = .ok (.aload_n 0, 1) := by decide +kernel
theorem dX2_init_37 : decode cX2_init 37 = .ok (.bipush 6, 2) := by decide +kernel
theorem dX2_init_39 : decode cX2_init 39 = .ok (.newarray .int, 2) := by decide +kernel
theorem dX2_init_41 : decode cX2_init 41 = .ok (.putfield 24, 3) := by decide +kernel
theorem dX2_init_44 : decode cX2_init 44 = .ok (.aload_n 0, 1) := by decide +kernel
theorem dX2_init_45 : decode cX2_init 45 = .ok (.bipush 24, 2) := by decide +kernel
theorem dX2_init_47 : decode cX2_init 47 = .ok (.newarray .int, 2) := by decide +kernel
theorem dX2_init_49 : decode cX2_init 49 = .ok (.putfield 27, 3) := by decide +kernel
theorem dX2_init_52 : decode cX2_init 52 = .ok (.aload_n 0, 1) := by decide +kernel
theorem dX2_init_53 : decode cX2_init 53 = .ok (.bipush 6, 2) := by decide +kernel
theorem dX2_init_55 : decode cX2_init 55 = .ok (.newarray .int, 2) := by decide +kernel
theorem dX2_init_57 : decode cX2_init 57 = .ok (.putfield 30, 3) := by decide +kernel
theorem dX2_init_60 : decode cX2_init 60 = .ok (.aload_n 0, 1) := by decide +kernel
theorem dX2_init_61 : decode cX2_init 61 = .ok (.bipush 96, 2) := by decide +kernel
theorem dX2_init_63 : decode cX2_init 63 = .ok (.newarray .int, 2) := by decide +kernel
theorem dX2_init_65 : decode cX2_init 65 = .ok (.putfield 33, 3) := by decide +kernel
theorem dX2_init_68 : decode cX2_init 68 = .ok (.aload_n 0, 1) := by decide +kernel
theorem dX2_init_69 : decode cX2_init 69 = .ok (.iconst (-1), 1) := by decide +kernel
theorem dX2_init_70 : decode cX2_init 70 = .ok (.putfield 36, 3) := by decide +kernel
theorem dX2_init_73 : decode cX2_init 73 = .ok (.aload_n 0, 1) := by decide +kernel
theorem dX2_init_74 : decode cX2_init 74 = .ok (.bipush 30, 2) := by decide +kernel
theorem dX2_init_76 : decode cX2_init 76 = .ok (.putfield 42, 3) := by decide +kernel
theorem dX2_init_79 : decode cX2_init 79 = .ok (.aload_n 0, 1) := by decide +kernel
theorem dX2_init_80 : decode cX2_init 80 = .ok (.new 45, 3) := by decide +kernel
theorem dX2_init_83 : decode cX2_init 83 = .ok (.dup, 1) := by decide +kernel
theorem dX2_init_84 : decode cX2_init 84 = .ok (.invokespecial 47, 3) := by decide +kernel
theorem dX2_init_87 : decode cX2_init 87 = .ok (.putfield 48, 3) := by decide +kernel
theorem dX2_init_90 : decode cX2_init 90 = .ok (.return_, 1) := by decide +kernel
theorem dX2_become_0 : decode cX2_become 0 = .ok (.aload_n 1, 1) := by decide +kernel
theorem dX2_become_1 : decode cX2_become 1 = .ok (.getfield 9, 3) := by decide +kernel
theorem dX2_become_4 : decode cX2_become 4 = .ok (.iconst 0, 1) := by decide +kernel
theorem dX2_become_5 : decode cX2_become 5 = .ok (.aload_n 0, 1) := by decide +kernel
theorem dX2_become_6 : decode cX2_become 6 = .ok (.getfield 9, 3) := by decide +kernel
theorem dX2_become_9 : decode cX2_become 9 = .ok (.iconst 0, 1) := by decide +kernel
theorem dX2_become_10 : decode cX2_become 10 = .ok (.bipush 16, 2) := by decide +kernel
theorem dX2_become_12 : decode cX2_become 12 = .ok (.invokestatic 52, 3) := by decide +kernel
theorem dX2_become_15 : decode cX2_become 15 = .ok (.aload_n 1, 1) := by decide +kernel
theorem dX2_become_16 : decode cX2_become 16 = .ok (.getfield 15, 3) := by decide +kernel
theorem dX2_become_19 : decode cX2_become 19 = .ok (.iconst 0, 1) := by decide +kernel
theorem dX2_become_20 : decode cX2_become 20 = .ok (.aload_n 0, 1) := by decide +kernel
theorem dX2_become_21 : decode cX2_become 21 = .ok (.getfield 15, 3) := by decide +kernel
theorem dX2_become_24 : decode cX2_become 24 = .ok (.iconst 0, 1) := by decide +kernel
theorem dX2_become_25 : decode cX2_become 25 = .ok (.bipush 6, 2) := by decide +kernel
theorem dX2_become_27 : decode cX2_become 27 = .ok (.invokestatic 52, 3) := by decide +kernel
theorem dX2_become_30 : decode cX2_become 30 = .ok (.aload_n 1, 1) := by decide +kernel
theorem dX2_become_31 : decode cX2_become 31 = .ok (.getfield 18, 3) := by decide +kernel
theorem dX2_become_34 : decode cX2_become 34 = .ok (.iconst 0, 1) := by decide +kernel
theorem dX2_become_35 : decode cX2_become 35 = .ok (.aload_n 0, 1) := by decide +kernel
theorem dX2_become_36 : decode cX2_become 36 = .ok (.getfield 18, 3) := by decide +kernel
theorem dX2_become_39 : decode cX2_become 39 = .ok (.iconst 0, 1) := by decide +kernel
theorem dX2_become_40 : decode cX2_become 40 = .ok (.bipush 6, 2) := by decide +kernel
theorem dX2_become_42 : decode cX2_become 42 = .ok (.invokestatic 52, 3) := by decide +kernel
theorem dX2_become_45 : decode cX2_become 45 = .ok (.aload_n 1, 1) := by decide +kernel
theorem dX2_become_46 : decode cX2_become 46 = .ok (.getfield 21, 3) := by decide +kernel
theorem dX2_become_49 : decode cX2_become 49 = .ok (.iconst 0, 1) := by decide +kernel
theorem dX2_become_50 : decode cX2_become 50 = .ok (.aload_n 0, 1) := by decide +kernel
theorem dX2_become_51 : decode cX2_become 51 = .ok (.getfield 21, 3) := by decide +kernel
theorem dX2_become_54 : decode cX2_become 54 = .ok (.iconst 0, 1) := by decide +kernel
theorem dX2_become_55 : decode cX2_become 55 = .ok (.bipush 6, 2) := by decide +kernel
theorem dX2_become_57 : decode cX2_become 57 = .ok (.invokestatic 52, 3) := by decide +kernel
theorem dX2_become_60 : decode cX2_become 60 = .ok (.aload_n 1, 1) := by decide +kernel
theorem dX2_become_61 : decode cX2_become 61 = .ok (.getfield 24, 3) := by decide +kernel
theorem dX2_become_64 : decode cX2_become 64 = .ok (.iconst 0, 1) := by decide +kernel
theorem dX2_become_65 : decode cX2_become 65 = .ok (.aload_n 0, 1) := by decide +kernel
theorem dX2_become_66 : decode cX2_become 66 = .ok (.getfield 24, 3) := by decide +kernel
theorem dX2_become_69 : decode cX2_become 69 = .ok (.iconst 0, 1) := by decide +kernel
theorem dX2_become_70 : decode cX2_become 70 = .ok (.bipush 6, 2) := by decide +kernel
theorem dX2_become_72 : decode cX2_become 72 = .ok (.invokestatic 52, 3) := by decide +kernel
theorem dX2_become_75 : decode cX2_become 75 = .ok (.aload_n 1, 1) := by decide +kernel
theorem dX2_become_76 : decode cX2_become 76 = .ok (.getfield 27, 3) := by decide +kernel
theorem dX2_become_79 : decode cX2_become 79 = .ok (.iconst 0, 1) := by decide +kernel
theorem dX2_become_80 : decode cX2_become 80 = .ok (.aload_n 0, 1) := by decide +kernel
theorem dX2_become_81 : decode cX2_become 81 = .ok (.getfield 27, 3) := by decide +kernel
theorem dX2_become_84 : decode cX2_become 84 = .ok (.iconst 0, 1) := by decide +kernel
theorem dX2_become_85 : decode cX2_become 85 = .ok (.bipush 24, 2) := by decide +kernel
theorem dX2_become_87 : decode cX2_become 87 = .ok (.invokestatic 52, 3) := by decide +kernel
theorem dX2_become_90 : decode cX2_become 90 = .ok (.aload_n 1, 1) := by decide +kernel
theorem dX2_become_91 : decode cX2_become 91 = .ok (.getfield 30, 3) := by decide +kernel
theorem dX2_become_94 : decode cX2_become 94 = .ok (.iconst 0, 1) := by decide +kernel
theorem dX2_become_95 : decode cX2_become 95 = .ok (.aload_n 0, 1) := by decide +kernel
theorem dX2_become_96 : decode cX2_become 96 = .ok (.getfield 30, 3) := by decide +kernel
theorem dX2_become_99 : decode cX2_become 99 = .ok (.iconst 0, 1) := by decide +kernel
theorem dX2_become_100 : decode cX2_become 100 = .ok (.bipush 6, 2) := by decide +kernel
theorem dX2_become_102 : decode cX2_become 102 = .ok (.invokestatic 52, 3) := by decide +kernel
theorem dX2_become_105 : decode cX2_become 105 = .ok (.aload_n 1, 1) := by decide +kernel
theorem dX2_become_106 : decode cX2_become 106 = .ok (.getfield 33, 3) := by decide +kernel
theorem dX2_become_109 : decode cX2_become 109 = .ok (.iconst 0, 1) := by decide +kernel
theorem dX2_become_110 : decode cX2_become 110 = .ok (.aload_n 0, 1) := by decide +kernel
theorem dX2_become_111 : decode cX2_become 111 = .ok (.getfield 33, 3) := by decide +kernel
theorem dX2_become_114 : decode cX2_become 114 = .ok (.iconst 0, 1) := by decide +kernel
theorem dX2_become_115 : decode cX2_become 115 = .ok (.bipush 96, 2) := by decide +kernel
theorem dX2_become_117 : decode cX2_become 117 = .ok (.invokestatic 52, 3) := by decide +kernel
theorem dX2_become_120 : decode cX2_become 120 = .ok (.aload_n 0, 1) := by decide +kernel
theorem dX2_become_121 : decode cX2_become 121 = .ok (.aload_n 1, 1) := by decide +kernel
theorem dX2_become_122 : decode cX2_become 122 = .ok (.getfield 58, 3) := by decide +kernel
theorem dX2_become_125 : decode cX2_become 125 = .ok (.putfield 58, 3) := by decide +kernel
theorem dX2_become_128 : decode cX2_become 128 = .ok (.aload_n 0, 1) := by decide +kernel
theorem dX2_become_129 : decode cX2_become 129 = .ok (.aload_n 1, 1) := by decide +kernel
theorem dX2_become_130 : decode cX2_become 130 = .ok (.getfield 61, 3) := by decide +kernel
theorem dX2_become_133 : decode cX2_become 133 = .ok (.putfield 61, 3) := by decide +kernel
theorem dX2_become_136 : decode cX2_become 136 = .ok (.aload_n 0, 1) := by decide +kernel
theorem dX2_become_137 : decode cX2_become 137 = .ok (.aload_n 1, 1) := by decide +kernel
theorem dX2_become_138 : decode cX2_become 138 = .ok (.getfield 64, 3) := by decide +kernel
theorem dX2_become_141 : decode cX2_become 141 = .ok (.putfield 64, 3) := by decide +kernel
theorem dX2_become_144 : decode cX2_become 144 = .ok (.aload_n 0, 1) := by decide +kernel
theorem dX2_become_145 : decode cX2_become 145 = .ok (.aload_n 1, 1) := by decide +kernel
theorem dX2_become_146 : decode cX2_become 146 = .ok (.getfield 67, 3) := by decide +kernel
theorem dX2_become_149 : decode cX2_become 149 = .ok (.putfield 67, 3) := by decide +kernel
theorem dX2_become_152 : decode cX2_become 152 = .ok (.aload_n 0, 1) := by decide +kernel
theorem dX2_become_153 : decode cX2_become 153 = .ok (.aload_n 1, 1) := by decide +kernel
theorem dX2_become_154 : decode cX2_become 154 = .ok (.getfield 36, 3) := by decide +kernel
theorem dX2_become_157 : decode cX2_become 157 = .ok (.putfield 36, 3) := by decide +kernel
theorem dX2_become_160 : decode cX2_become 160 = .ok (.aload_n 0, 1) := by decide +kernel
theorem dX2_become_161 : decode cX2_become 161 = .ok (.aload_n 1, 1) := by decide +kernel
theorem dX2_become_162 : decode cX2_become 162 = .ok (.getfield 42, 3) := by decide +kernel
theorem dX2_become_165 : decode cX2_become 165 = .ok (.putfield 42, 3) := by decide +kernel
theorem dX2_become_168 : decode cX2_become 168 = .ok (.return_, 1) := by decide +kernel
theorem dX2_hasGoer_0 : decode cX2_hasGoer 0 = .ok (.iload_n 1, 1) := by decide +kernel
theorem dX2_hasGoer_1 : decode cX2_hasGoer 1 = .ok (.ifCond .lt 15, 3) := by decide +kernel
theorem dX2_hasGoer_4 : decode cX2_hasGoer 4 = .ok (.iload_n 1, 1) := by decide +kernel
theorem dX2_hasGoer_5 : decode cX2_hasGoer 5 = .ok (.aload_n 0, 1) := by decide +kernel
theorem dX2_hasGoer_6 : decode cX2_hasGoer 6 = .ok (.getfield 58, 3) := by decide +kernel
theorem dX2_hasGoer_9 : decode cX2_hasGoer 9 = .ok (.if_icmp .ge 7, 3) := by decide +kernel
theorem dX2_hasGoer_12 : decode cX2_hasGoer 12 = .ok (.iconst 1, 1) := by decide +kernel
theorem dX2_hasGoer_13 : decode cX2_hasGoer 13 = .ok (.goto 4, 3) := by decide +kernel
theorem dX2_hasGoer_16 : decode cX2_hasGoer 16 = .ok (.iconst 0, 1) := by decide +kernel
theorem dX2_hasGoer_17 : decode cX2_hasGoer 17 = .ok (.ireturn, 1) := by decide +kernel
theorem dX2_isAway_0 : decode cX2_isAway 0 = .ok (.aload_n 0, 1) := by decide +kernel
theorem dX2_isAway_1 : decode cX2_isAway 1 = .ok (.getfield 61, 3) := by decide +kernel
theorem dX2_isAway_4 : decode cX2_isAway 4 = .ok (.iload_n 1, 1) := by decide +kernel
theorem dX2_isAway_5 : decode cX2_isAway 5 = .ok (.ishr, 1) := by decide +kernel
theorem dX2_isAway_6 : decode cX2_isAway 6 = .ok (.iconst 1, 1) := by decide +kernel
theorem dX2_isAway_7 : decode cX2_isAway 7 = .ok (.iand, 1) := by decide +kernel
theorem dX2_isAway_8 : decode cX2_isAway 8 = .ok (.ifCond .eq 7, 3) := by decide +kernel
theorem dX2_isAway_11 : decode cX2_isAway 11 = .ok (.iconst 1, 1) := by decide +kernel
theorem dX2_isAway_12 : decode cX2_isAway 12 = .ok (.goto 4, 3) := by decide +kernel
theorem dX2_isAway_15 : decode cX2_isAway 15 = .ok (.iconst 0, 1) := by decide +kernel
theorem dX2_isAway_16 : decode cX2_isAway 16 = .ok (.ireturn, 1) := by decide +kernel
theorem dX2_putAway_0 : decode cX2_putAway 0 = .ok (.aload_n 0, 1) := by decide +kernel
theorem dX2_putAway_1 : decode cX2_putAway 1 = .ok (.iload_n 2, 1) := by decide +kernel
theorem dX2_putAway_2 : decode cX2_putAway 2 = .ok (.ifCond .eq 14, 3) := by decide +kernel
theorem dX2_putAway_5 : decode cX2_putAway 5 = .ok (.aload_n 0, 1) := by decide +kernel
theorem dX2_putAway_6 : decode cX2_putAway 6 = .ok (.getfield 61, 3) := by decide +kernel
theorem dX2_putAway_9 : decode cX2_putAway 9 = .ok (.iconst 1, 1) := by decide +kernel
theorem dX2_putAway_10 : decode cX2_putAway 10 = .ok (.iload_n 1, 1) := by decide +kernel
theorem dX2_putAway_11 : decode cX2_putAway 11 = .ok (.ishl, 1) := by decide +kernel
theorem dX2_putAway_12 : decode cX2_putAway 12 = .ok (.ior, 1) := by decide +kernel
theorem dX2_putAway_13 : decode cX2_putAway 13 = .ok (.goto 13, 3) := by decide +kernel
theorem dX2_putAway_16 : decode cX2_putAway 16 = .ok (.aload_n 0, 1) := by decide +kernel
theorem dX2_putAway_17 : decode cX2_putAway 17 = .ok (.getfield 61, 3) := by decide +kernel
theorem dX2_putAway_20 : decode cX2_putAway 20 = .ok (.iconst 1, 1) := by decide +kernel
theorem dX2_putAway_21 : decode cX2_putAway 21 = .ok (.iload_n 1, 1) := by decide +kernel
theorem dX2_putAway_22 : decode cX2_putAway 22 = .ok (.ishl, 1) := by decide +kernel
theorem dX2_putAway_23 : decode cX2_putAway 23 = .ok (.iconst (-1), 1) := by decide +kernel
theorem dX2_putAway_24 : decode cX2_putAway 24 = .ok (.ixor, 1) := by decide +kernel
theorem dX2_putAway_25 : decode cX2_putAway 25 = .ok (.iand, 1) := by decide +kernel
theorem dX2_putAway_26 : decode cX2_putAway 26 = .ok (.putfield 61, 3) := by decide +kernel
theorem dX2_putAway_29 : decode cX2_putAway 29 = .ok (.return_, 1) := by decide +kernel
theorem dX2_addGoer_0 : decode cX2_addGoer 0 = .ok (.aload_n 0, 1) := by decide +kernel
theorem dX2_addGoer_1 : decode cX2_addGoer 1 = .ok (.getfield 58, 3) := by decide +kernel
theorem dX2_addGoer_4 : decode cX2_addGoer 4 = .ok (.istore 5, 2) := by decide +kernel
theorem dX2_addGoer_6 : decode cX2_addGoer 6 = .ok (.aload_n 0, 1) := by decide +kernel
theorem dX2_addGoer_7 : decode cX2_addGoer 7 = .ok (.dup, 1) := by decide +kernel
theorem dX2_addGoer_8 : decode cX2_addGoer 8 = .ok (.getfield 58, 3) := by decide +kernel
theorem dX2_addGoer_11 : decode cX2_addGoer 11 = .ok (.iconst 1, 1) := by decide +kernel
theorem dX2_addGoer_12 : decode cX2_addGoer 12 = .ok (.iadd, 1) := by decide +kernel
theorem dX2_addGoer_13 : decode cX2_addGoer 13 = .ok (.putfield 58, 3) := by decide +kernel
theorem dX2_addGoer_16 : decode cX2_addGoer 16 = .ok (.aload_n 0, 1) := by decide +kernel
theorem dX2_addGoer_17 : decode cX2_addGoer 17 = .ok (.getfield 15, 3) := by decide +kernel
theorem dX2_addGoer_20 : decode cX2_addGoer 20 = .ok (.iload 5, 2) := by decide +kernel
theorem dX2_addGoer_22 : decode cX2_addGoer 22 = .ok (.iload_n 1, 1) := by decide +kernel
theorem dX2_addGoer_23 : decode cX2_addGoer 23 = .ok (.iastore, 1) := by decide +kernel
theorem dX2_addGoer_24 : decode cX2_addGoer 24 = .ok (.aload_n 0, 1) := by decide +kernel
theorem dX2_addGoer_25 : decode cX2_addGoer 25 = .ok (.getfield 18, 3) := by decide +kernel
theorem dX2_addGoer_28 : decode cX2_addGoer 28 = .ok (.iload 5, 2) := by decide +kernel
theorem dX2_addGoer_30 : decode cX2_addGoer 30 = .ok (.iload_n 2, 1) := by decide +kernel
theorem dX2_addGoer_31 : decode cX2_addGoer 31 = .ok (.iastore, 1) := by decide +kernel
theorem dX2_addGoer_32 : decode cX2_addGoer 32 = .ok (.aload_n 0, 1) := by decide +kernel
theorem dX2_addGoer_33 : decode cX2_addGoer 33 = .ok (.getfield 21, 3) := by decide +kernel
theorem dX2_addGoer_36 : decode cX2_addGoer 36 = .ok (.iload 5, 2) := by decide +kernel
theorem dX2_addGoer_38 : decode cX2_addGoer 38 = .ok (.iload_n 3, 1) := by decide +kernel
theorem dX2_addGoer_39 : decode cX2_addGoer 39 = .ok (.iastore, 1) := by decide +kernel
theorem dX2_addGoer_40 : decode cX2_addGoer 40 = .ok (.aload_n 0, 1) := by decide +kernel
theorem dX2_addGoer_41 : decode cX2_addGoer 41 = .ok (.getfield 24, 3) := by decide +kernel
theorem dX2_addGoer_44 : decode cX2_addGoer 44 = .ok (.iload 5, 2) := by decide +kernel
theorem dX2_addGoer_46 : decode cX2_addGoer 46 = .ok (.iload 4, 2) := by decide +kernel
theorem dX2_addGoer_48 : decode cX2_addGoer 48 = .ok (.iastore, 1) := by decide +kernel
theorem dX2_addGoer_49 : decode cX2_addGoer 49 = .ok (.aload_n 0, 1) := by decide +kernel
theorem dX2_addGoer_50 : decode cX2_addGoer 50 = .ok (.iload 5, 2) := by decide +kernel
theorem dX2_addGoer_52 : decode cX2_addGoer 52 = .ok (.invokevirtual 70, 3) := by decide +kernel
theorem dX2_addGoer_55 : decode cX2_addGoer 55 = .ok (.iload 5, 2) := by decide +kernel
theorem dX2_addGoer_57 : decode cX2_addGoer 57 = .ok (.ireturn, 1) := by decide +kernel
theorem dX2_furnish_0 : decode cX2_furnish 0 = .ok (.aload_n 0, 1) := by decide +kernel
theorem dX2_furnish_1 : decode cX2_furnish 1 = .ok (.iload_n 1, 1) := by decide +kernel
theorem dX2_furnish_2 : decode cX2_furnish 2 = .ok (.putfield 64, 3) := by decide +kernel
theorem dX2_furnish_5 : decode cX2_furnish 5 = .ok (.iconst 0, 1) := by decide +kernel
theorem dX2_furnish_6 : decode cX2_furnish 6 = .ok (.istore_n 2, 1) := by decide +kernel
theorem dX2_furnish_7 : decode cX2_furnish 7 = .ok (.iload_n 2, 1) := by decide +kernel
theorem dX2_furnish_8 : decode cX2_furnish 8 = .ok (.aload_n 0, 1) := by decide +kernel
theorem dX2_furnish_9 : decode cX2_furnish 9 = .ok (.getfield 58, 3) := by decide +kernel
theorem dX2_furnish_12 : decode cX2_furnish 12 = .ok (.if_icmp .ge 14, 3) := by decide +kernel
theorem dX2_furnish_15 : decode cX2_furnish 15 = .ok (.aload_n 0, 1) := by decide +kernel
theorem dX2_furnish_16 : decode cX2_furnish 16 = .ok (.iload_n 2, 1) := by decide +kernel
theorem dX2_furnish_17 : decode cX2_furnish 17 = .ok (.invokevirtual 70, 3) := by decide +kernel
theorem dX2_furnish_20 : decode cX2_furnish 20 = .ok (.iinc 2 1, 3) := by decide +kernel
theorem dX2_furnish_23 : decode cX2_furnish 23 = .ok (.goto (-16), 3) := by decide +kernel
theorem dX2_furnish_26 : decode cX2_furnish 26 = .ok (.return_, 1) := by decide +kernel
theorem dX2_findWay_0 : decode cX2_findWay 0 = .ok (.aload_n 0, 1) := by decide +kernel
theorem dX2_findWay_1 : decode cX2_findWay 1 = .ok (.getfield 30, 3) := by decide +kernel
theorem dX2_findWay_4 : decode cX2_findWay 4 = .ok (.iload_n 1, 1) := by decide +kernel
theorem dX2_findWay_5 : decode cX2_findWay 5 = .ok (.aload_n 0, 1) := by decide +kernel
theorem dX2_findWay_6 : decode cX2_findWay 6 = .ok (.getfield 48, 3) := by decide +kernel
theorem dX2_findWay_9 : decode cX2_findWay 9 = .ok (.aload_n 0, 1) := by decide +kernel
theorem dX2_findWay_10 : decode cX2_findWay 10 = .ok (.iload_n 1, 1) := by decide +kernel
theorem dX2_findWay_11 : decode cX2_findWay 11 = .ok (.invokevirtual 74, 3) := by decide +kernel
theorem dX2_findWay_14 : decode cX2_findWay 14 = .ok (.invokevirtual 78, 3) := by decide +kernel
theorem dX2_findWay_17 : decode cX2_findWay 17 = .ok (.iastore, 1) := by decide +kernel
theorem dX2_findWay_18 : decode cX2_findWay 18 = .ok (.return_, 1) := by decide +kernel
theorem dX2_cellOfWay_0 : decode cX2_cellOfWay 0 = .ok (.aload_n 0, 1) := by decide +kernel
theorem dX2_cellOfWay_1 : decode cX2_cellOfWay 1 = .ok (.getfield 48, 3) := by decide +kernel
theorem dX2_cellOfWay_4 : decode cX2_cellOfWay 4 = .ok (.iload_n 2, 1) := by decide +kernel
theorem dX2_cellOfWay_5 : decode cX2_cellOfWay 5 = .ok (.aload_n 0, 1) := by decide +kernel
theorem dX2_cellOfWay_6 : decode cX2_cellOfWay 6 = .ok (.iload_n 1, 1) := by decide +kernel
theorem dX2_cellOfWay_7 : decode cX2_cellOfWay 7 = .ok (.invokevirtual 74, 3) := by decide +kernel
theorem dX2_cellOfWay_10 : decode cX2_cellOfWay 10 = .ok (.invokevirtual 81, 3) := by decide +kernel
theorem dX2_cellOfWay_13 : decode cX2_cellOfWay 13 = .ok (.ireturn, 1) := by decide +kernel
theorem dX2_walkTo_0 : decode cX2_walkTo 0 = .ok (.aload_n 0, 1) := by decide +kernel
theorem dX2_walkTo_1 : decode cX2_walkTo 1 = .ok (.getfield 15, 3) := by decide +kernel
theorem dX2_walkTo_4 : decode cX2_walkTo 4 = .ok (.iload_n 1, 1) := by decide +kernel
theorem dX2_walkTo_5 : decode cX2_walkTo 5 = .ok (.iaload, 1) := by decide +kernel
theorem dX2_walkTo_6 : decode cX2_walkTo 6 = .ok (.iconst 2, 1) := by decide +kernel
theorem dX2_walkTo_7 : decode cX2_walkTo 7 = .ok (.if_icmp .eq 13, 3) := by decide +kernel
theorem dX2_walkTo_10 : decode cX2_walkTo 10 = .ok (.aload_n 0, 1) := by decide +kernel
theorem dX2_walkTo_11 : decode cX2_walkTo 11 = .ok (.getfield 15, 3) := by decide +kernel
theorem dX2_walkTo_14 : decode cX2_walkTo 14 = .ok (.iload_n 1, 1) := by decide +kernel
theorem dX2_walkTo_15 : decode cX2_walkTo 15 = .ok (.iaload, 1) := by decide +kernel
theorem dX2_walkTo_16 : decode cX2_walkTo 16 = .ok (.iconst 5, 1) := by decide +kernel
theorem dX2_walkTo_17 : decode cX2_walkTo 17 = .ok (.if_icmp .ne 7, 3) := by decide +kernel
theorem dX2_walkTo_20 : decode cX2_walkTo 20 = .ok (.iconst 1, 1) := by decide +kernel
theorem dX2_walkTo_21 : decode cX2_walkTo 21 = .ok (.goto 4, 3) := by decide +kernel
theorem dX2_walkTo_24 : decode cX2_walkTo 24 = .ok (.iconst 0, 1) := by decide +kernel
theorem dX2_walkTo_25 : decode cX2_walkTo 25 = .ok (.istore_n 2, 1) := by decide +kernel
theorem dX2_walkTo_26 : decode cX2_walkTo 26 = .ok (.aload_n 0, 1) := by decide +kernel
theorem dX2_walkTo_27 : decode cX2_walkTo 27 = .ok (.getfield 48, 3) := by decide +kernel
theorem dX2_walkTo_30 : decode cX2_walkTo 30 = .ok (.aload_n 0, 1) := by decide +kernel
theorem dX2_walkTo_31 : decode cX2_walkTo 31 = .ok (.getfield 21, 3) := by decide +kernel
theorem dX2_walkTo_34 : decode cX2_walkTo 34 = .ok (.iload_n 1, 1) := by decide +kernel
theorem dX2_walkTo_35 : decode cX2_walkTo 35 = .ok (.iaload, 1) := by decide +kernel
theorem dX2_walkTo_36 : decode cX2_walkTo 36 = .ok (.aload_n 0, 1) := by decide +kernel
theorem dX2_walkTo_37 : decode cX2_walkTo 37 = .ok (.getfield 24, 3) := by decide +kernel
theorem dX2_walkTo_40 : decode cX2_walkTo 40 = .ok (.iload_n 1, 1) := by decide +kernel
theorem dX2_walkTo_41 : decode cX2_walkTo 41 = .ok (.iaload, 1) := by decide +kernel
theorem dX2_walkTo_42 : decode cX2_walkTo 42 = .ok (.iload_n 2, 1) := by decide +kernel
theorem dX2_walkTo_43 : decode cX2_walkTo 43 = .ok (.ifCond .eq 8, 3) := by decide +kernel
theorem dX2_walkTo_46 : decode cX2_walkTo 46 = .ok (.ldc 87, 2) := by decide +kernel
theorem dX2_walkTo_48 : decode cX2_walkTo 48 = .ok (.goto 12, 3) := by decide +kernel
theorem dX2_walkTo_51 : decode cX2_walkTo 51 = .ok (.ldc 87, 2) := by decide +kernel
theorem dX2_walkTo_53 : decode cX2_walkTo 53 = .ok (.aload_n 0, 1) := by decide +kernel
theorem dX2_walkTo_54 : decode cX2_walkTo 54 = .ok (.getfield 64, 3) := by decide +kernel
theorem dX2_walkTo_57 : decode cX2_walkTo 57 = .ok (.iconst (-1), 1) := by decide +kernel
theorem dX2_walkTo_58 : decode cX2_walkTo 58 = .ok (.ixor, 1) := by decide +kernel
theorem dX2_walkTo_59 : decode cX2_walkTo 59 = .ok (.iand, 1) := by decide +kernel
theorem dX2_walkTo_60 : decode cX2_walkTo 60 = .ok (.invokevirtual 88, 3) := by decide +kernel
theorem dX2_walkTo_63 : decode cX2_walkTo 63 = .ok (.ireturn, 1) := by decide +kernel
theorem dX2_treads_0 : decode cX2_treads 0 = .ok (.aload_n 0, 1) := by decide +kernel
theorem dX2_treads_1 : decode cX2_treads 1 = .ok (.iload_n 1, 1) := by decide +kernel
theorem dX2_treads_2 : decode cX2_treads 2 = .ok (.invokevirtual 92, 3) := by decide +kernel
theorem dX2_treads_5 : decode cX2_treads 5 = .ok (.ifCond .ne 12, 3) := by decide +kernel
theorem dX2_treads_8 : decode cX2_treads 8 = .ok (.aload_n 0, 1) := by decide +kernel
theorem dX2_treads_9 : decode cX2_treads 9 = .ok (.getfield 30, 3) := by decide +kernel
theorem dX2_treads_12 : decode cX2_treads 12 = .ok (.iload_n 1, 1) := by decide +kernel
theorem dX2_treads_13 : decode cX2_treads 13 = .ok (.iaload, 1) := by decide +kernel
theorem dX2_treads_14 : decode cX2_treads 14 = .ok (.ifCond .ne 5, 3) := by decide +kernel
theorem dX2_treads_17 : decode cX2_treads 17 = .ok (.iconst 0, 1) := by decide +kernel
theorem dX2_treads_18 : decode cX2_treads 18 = .ok (.ireturn, 1) := by decide +kernel
theorem dX2_treads_19 : decode cX2_treads 19 = .ok (.aload_n 0, 1) := by decide +kernel
theorem dX2_treads_20 : decode cX2_treads 20 = .ok (.getfield 30, 3) := by decide +kernel
theorem dX2_treads_23 : decode cX2_treads 23 = .ok (.iload_n 1, 1) := by decide +kernel
theorem dX2_treads_24 : decode cX2_treads 24 = .ok (.iaload, 1) := by decide +kernel
theorem dX2_treads_25 : decode cX2_treads 25 = .ok (.iload_n 2, 1) := by decide +kernel
theorem dX2_treads_26 : decode cX2_treads 26 = .ok (.invokestatic 96, 3) := by decide +kernel
theorem dX2_treads_29 : decode cX2_treads 29 = .ok (.ifCond .eq 12, 3) := by decide +kernel
theorem dX2_treads_32 : decode cX2_treads 32 = .ok (.aload_n 0, 1) := by decide +kernel
theorem dX2_treads_33 : decode cX2_treads 33 = .ok (.iload_n 1, 1) := by decide +kernel
theorem dX2_treads_34 : decode cX2_treads 34 = .ok (.iload_n 3, 1) := by decide +kernel
theorem dX2_treads_35 : decode cX2_treads 35 = .ok (.invokevirtual 102, 3) := by decide +kernel
theorem dX2_treads_38 : decode cX2_treads 38 = .ok (.goto 4, 3) := by decide +kernel
theorem dX2_treads_41 : decode cX2_treads 41 = .ok (.iconst 0, 1) := by decide +kernel
theorem dX2_treads_42 : decode cX2_treads 42 = .ok (.istore 4, 2) := by decide +kernel
theorem dX2_treads_44 : decode cX2_treads 44 = .ok (.aload_n 0, 1) := by decide +kernel
theorem dX2_treads_45 : decode cX2_treads 45 = .ok (.getfield 15, 3) := by decide +kernel
theorem dX2_treads_48 : decode cX2_treads 48 = .ok (.iload_n 1, 1) := by decide +kernel
theorem dX2_treads_49 : decode cX2_treads 49 = .ok (.iaload, 1) := by decide +kernel
theorem dX2_treads_50 : decode cX2_treads 50 = .ok (.tableswitch 103 4 6 #[26, 52, 79], 26) := by decide +kernel
theorem dX2_treads_76 : decode cX2_treads 76 = .ok (.iload 4, 2) := by decide +kernel
theorem dX2_treads_78 : decode cX2_treads 78 = .ok (.iload_n 2, 1) := by decide +kernel
theorem dX2_treads_79 : decode cX2_treads 79 = .ok (.aload_n 0, 1) := by decide +kernel
theorem dX2_treads_80 : decode cX2_treads 80 = .ok (.getfield 24, 3) := by decide +kernel
theorem dX2_treads_83 : decode cX2_treads 83 = .ok (.iload_n 1, 1) := by decide +kernel
theorem dX2_treads_84 : decode cX2_treads 84 = .ok (.iaload, 1) := by decide +kernel
theorem dX2_treads_85 : decode cX2_treads 85 = .ok (.if_icmp .ne 14, 3) := by decide +kernel
theorem dX2_treads_88 : decode cX2_treads 88 = .ok (.aload_n 0, 1) := by decide +kernel
theorem dX2_treads_89 : decode cX2_treads 89 = .ok (.getfield 18, 3) := by decide +kernel
theorem dX2_treads_92 : decode cX2_treads 92 = .ok (.iload_n 1, 1) := by decide +kernel
theorem dX2_treads_93 : decode cX2_treads 93 = .ok (.iaload, 1) := by decide +kernel
theorem dX2_treads_94 : decode cX2_treads 94 = .ok (.iload_n 3, 1) := by decide +kernel
theorem dX2_treads_95 : decode cX2_treads 95 = .ok (.imul, 1) := by decide +kernel
theorem dX2_treads_96 : decode cX2_treads 96 = .ok (.goto 4, 3) := by decide +kernel
theorem dX2_treads_99 : decode cX2_treads 99 = .ok (.iconst 0, 1) := by decide +kernel
theorem dX2_treads_100 : decode cX2_treads 100 = .ok (.iadd, 1) := by decide +kernel
theorem dX2_treads_101 : decode cX2_treads 101 = .ok (.ireturn, 1) := by decide +kernel
theorem dX2_treads_102 : decode cX2_treads 102 = .ok (.iload 4, 2) := by decide +kernel
theorem dX2_treads_104 : decode cX2_treads 104 = .ok (.iconst 1, 1) := by decide +kernel
theorem dX2_treads_105 : decode cX2_treads 105 = .ok (.aload_n 0, 1) := by decide +kernel
theorem dX2_treads_106 : decode cX2_treads 106 = .ok (.getfield 24, 3) := by decide +kernel
theorem dX2_treads_109 : decode cX2_treads 109 = .ok (.iload_n 1, 1) := by decide +kernel
theorem dX2_treads_110 : decode cX2_treads 110 = .ok (.iaload, 1) := by decide +kernel
theorem dX2_treads_111 : decode cX2_treads 111 = .ok (.ishl, 1) := by decide +kernel
theorem dX2_treads_112 : decode cX2_treads 112 = .ok (.invokestatic 105, 3) := by decide +kernel
theorem dX2_treads_115 : decode cX2_treads 115 = .ok (.iload_n 2, 1) := by decide +kernel
theorem dX2_treads_116 : decode cX2_treads 116 = .ok (.invokestatic 96, 3) := by decide +kernel
theorem dX2_treads_119 : decode cX2_treads 119 = .ok (.ifCond .eq 7, 3) := by decide +kernel
theorem dX2_treads_122 : decode cX2_treads 122 = .ok (.iload_n 3, 1) := by decide +kernel
theorem dX2_treads_123 : decode cX2_treads 123 = .ok (.goto 4, 3) := by decide +kernel
theorem dX2_treads_126 : decode cX2_treads 126 = .ok (.iconst 0, 1) := by decide +kernel
theorem dX2_treads_127 : decode cX2_treads 127 = .ok (.iadd, 1) := by decide +kernel
theorem dX2_treads_128 : decode cX2_treads 128 = .ok (.ireturn, 1) := by decide +kernel
theorem dX2_treads_129 : decode cX2_treads 129 = .ok (.iload 4, 2) := by decide +kernel
theorem dX2_treads_131 : decode cX2_treads 131 = .ok (.iload_n 2, 1) := by decide +kernel
theorem dX2_treads_132 : decode cX2_treads 132 = .ok (.aload_n 0, 1) := by decide +kernel
theorem dX2_treads_133 : decode cX2_treads 133 = .ok (.getfield 21, 3) := by decide +kernel
theorem dX2_treads_136 : decode cX2_treads 136 = .ok (.iload_n 1, 1) := by decide +kernel
theorem dX2_treads_137 : decode cX2_treads 137 = .ok (.iaload, 1) := by decide +kernel
theorem dX2_treads_138 : decode cX2_treads 138 = .ok (.if_icmp .ne 12, 3) := by decide +kernel
theorem dX2_treads_141 : decode cX2_treads 141 = .ok (.aload_n 0, 1) := by decide +kernel
theorem dX2_treads_142 : decode cX2_treads 142 = .ok (.iload_n 1, 1) := by decide +kernel
theorem dX2_treads_143 : decode cX2_treads 143 = .ok (.iload_n 3, 1) := by decide +kernel
theorem dX2_treads_144 : decode cX2_treads 144 = .ok (.invokevirtual 108, 3) := by decide +kernel
theorem dX2_treads_147 : decode cX2_treads 147 = .ok (.goto 4, 3) := by decide +kernel
theorem dX2_treads_150 : decode cX2_treads 150 = .ok (.iconst 0, 1) := by decide +kernel
theorem dX2_treads_151 : decode cX2_treads 151 = .ok (.iadd, 1) := by decide +kernel
theorem dX2_treads_152 : decode cX2_treads 152 = .ok (.ireturn, 1) := by decide +kernel
theorem dX2_treads_153 : decode cX2_treads 153 = .ok (.iload 4, 2) := by decide +kernel
theorem dX2_treads_155 : decode cX2_treads 155 = .ok (.ireturn, 1) := by decide +kernel
theorem dX2_treadsOnWay_0 : decode cX2_treadsOnWay 0 = .ok (.aload_n 0, 1) := by decide +kernel
theorem dX2_treadsOnWay_1 : decode cX2_treadsOnWay 1 = .ok (.getfield 15, 3) := by decide +kernel
theorem dX2_treadsOnWay_4 : decode cX2_treadsOnWay 4 = .ok (.iload_n 1, 1) := by decide +kernel
theorem dX2_treadsOnWay_5 : decode cX2_treadsOnWay 5 = .ok (.iaload, 1) := by decide +kernel
theorem dX2_treadsOnWay_6 : decode cX2_treadsOnWay 6 = .ok (.tableswitch 58 1 6 #[38, 58, 42, 38, 58, 42], 38) := by decide +kernel
theorem dX2_treadsOnWay_44 : decode cX2_treadsOnWay 44 = .ok (.iconst 2, 1) := by decide +kernel
theorem dX2_treadsOnWay_45 : decode cX2_treadsOnWay 45 = .ok (.iload_n 2, 1) := by decide +kernel
theorem dX2_treadsOnWay_46 : decode cX2_treadsOnWay 46 = .ok (.imul, 1) := by decide +kernel
theorem dX2_treadsOnWay_47 : decode cX2_treadsOnWay 47 = .ok (.ireturn, 1) := by decide +kernel
theorem dX2_treadsOnWay_48 : decode cX2_treadsOnWay 48 = .ok (.aload_n 0, 1) := by decide +kernel
theorem dX2_treadsOnWay_49 : decode cX2_treadsOnWay 49 = .ok (.getfield 67, 3) := by decide +kernel
theorem dX2_treadsOnWay_52 : decode cX2_treadsOnWay 52 = .ok (.iload_n 2, 1) := by decide +kernel
theorem dX2_treadsOnWay_53 : decode cX2_treadsOnWay 53 = .ok (.iadd, 1) := by decide +kernel
theorem dX2_treadsOnWay_54 : decode cX2_treadsOnWay 54 = .ok (.iconst 2, 1) := by decide +kernel
theorem dX2_treadsOnWay_55 : decode cX2_treadsOnWay 55 = .ok (.idiv, 1) := by decide +kernel
theorem dX2_treadsOnWay_56 : decode cX2_treadsOnWay 56 = .ok (.aload_n 0, 1) := by decide +kernel
theorem dX2_treadsOnWay_57 : decode cX2_treadsOnWay 57 = .ok (.getfield 67, 3) := by decide +kernel
theorem dX2_treadsOnWay_60 : decode cX2_treadsOnWay 60 = .ok (.iconst 2, 1) := by decide +kernel
theorem dX2_treadsOnWay_61 : decode cX2_treadsOnWay 61 = .ok (.idiv, 1) := by decide +kernel
theorem dX2_treadsOnWay_62 : decode cX2_treadsOnWay 62 = .ok (.isub, 1) := by decide +kernel
theorem dX2_treadsOnWay_63 : decode cX2_treadsOnWay 63 = .ok (.ireturn, 1) := by decide +kernel
theorem dX2_treadsOnWay_64 : decode cX2_treadsOnWay 64 = .ok (.iload_n 2, 1) := by decide +kernel
theorem dX2_treadsOnWay_65 : decode cX2_treadsOnWay 65 = .ok (.ireturn, 1) := by decide +kernel
theorem dX2_treadsOfRow_0 : decode cX2_treadsOfRow 0 = .ok (.iconst 0, 1) := by decide +kernel
theorem dX2_treadsOfRow_1 : decode cX2_treadsOfRow 1 = .ok (.istore_n 3, 1) := by decide +kernel
theorem dX2_treadsOfRow_2 : decode cX2_treadsOfRow 2 = .ok (.iconst 0, 1) := by decide +kernel
theorem dX2_treadsOfRow_3 : decode cX2_treadsOfRow 3 = .ok (.istore 4, 2) := by decide +kernel
theorem dX2_treadsOfRow_5 : decode cX2_treadsOfRow 5 = .ok (.iload 4, 2) := by decide +kernel
theorem dX2_treadsOfRow_7 : decode cX2_treadsOfRow 7 = .ok (.iload_n 2, 1) := by decide +kernel
theorem dX2_treadsOfRow_8 : decode cX2_treadsOfRow 8 = .ok (.if_icmp .ge 30, 3) := by decide +kernel
theorem dX2_treadsOfRow_11 : decode cX2_treadsOfRow 11 = .ok (.iload_n 3, 1) := by decide +kernel
theorem dX2_treadsOfRow_12 : decode cX2_treadsOfRow 12 = .ok (.aload_n 0, 1) := by decide +kernel
theorem dX2_treadsOfRow_13 : decode cX2_treadsOfRow 13 = .ok (.getfield 27, 3) := by decide +kernel
theorem dX2_treadsOfRow_16 : decode cX2_treadsOfRow 16 = .ok (.iload_n 1, 1) := by decide +kernel
theorem dX2_treadsOfRow_17 : decode cX2_treadsOfRow 17 = .ok (.iconst 4, 1) := by decide +kernel
theorem dX2_treadsOfRow_18 : decode cX2_treadsOfRow 18 = .ok (.imul, 1) := by decide +kernel
theorem dX2_treadsOfRow_19 : decode cX2_treadsOfRow 19 = .ok (.aload_n 0, 1) := by decide +kernel
theorem dX2_treadsOfRow_20 : decode cX2_treadsOfRow 20 = .ok (.getfield 67, 3) := by decide +kernel
theorem dX2_treadsOfRow_23 : decode cX2_treadsOfRow 23 = .ok (.iload 4, 2) := by decide +kernel
theorem dX2_treadsOfRow_25 : decode cX2_treadsOfRow 25 = .ok (.iadd, 1) := by decide +kernel
theorem dX2_treadsOfRow_26 : decode cX2_treadsOfRow 26 = .ok (.iconst 4, 1) := by decide +kernel
theorem dX2_treadsOfRow_27 : decode cX2_treadsOfRow 27 = .ok (.irem, 1) := by decide +kernel
theorem dX2_treadsOfRow_28 : decode cX2_treadsOfRow 28 = .ok (.iadd, 1) := by decide +kernel
theorem dX2_treadsOfRow_29 : decode cX2_treadsOfRow 29 = .ok (.iaload, 1) := by decide +kernel
theorem dX2_treadsOfRow_30 : decode cX2_treadsOfRow 30 = .ok (.iadd, 1) := by decide +kernel
theorem dX2_treadsOfRow_31 : decode cX2_treadsOfRow 31 = .ok (.istore_n 3, 1) := by decide +kernel
theorem dX2_treadsOfRow_32 : decode cX2_treadsOfRow 32 = .ok (.iinc 4 1, 3) := by decide +kernel
theorem dX2_treadsOfRow_35 : decode cX2_treadsOfRow 35 = .ok (.goto (-30), 3) := by decide +kernel
theorem dX2_treadsOfRow_38 : decode cX2_treadsOfRow 38 = .ok (.iload_n 3, 1) := by decide +kernel
theorem dX2_treadsOfRow_39 : decode cX2_treadsOfRow 39 = .ok (.ireturn, 1) := by decide +kernel
theorem dX2_troddenCells_0 : decode cX2_troddenCells 0 = .ok (.iconst 0, 1) := by decide +kernel
theorem dX2_troddenCells_1 : decode cX2_troddenCells 1 = .ok (.istore_n 1, 1) := by decide +kernel
theorem dX2_troddenCells_2 : decode cX2_troddenCells 2 = .ok (.iconst 0, 1) := by decide +kernel
theorem dX2_troddenCells_3 : decode cX2_troddenCells 3 = .ok (.istore_n 2, 1) := by decide +kernel
theorem dX2_troddenCells_4 : decode cX2_troddenCells 4 = .ok (.iload_n 2, 1) := by decide +kernel
theorem dX2_troddenCells_5 : decode cX2_troddenCells 5 = .ok (.aload_n 0, 1) := by decide +kernel
theorem dX2_troddenCells_6 : decode cX2_troddenCells 6 = .ok (.getfield 58, 3) := by decide +kernel
theorem dX2_troddenCells_9 : decode cX2_troddenCells 9 = .ok (.if_icmp .ge 39, 3) := by decide +kernel
theorem dX2_troddenCells_12 : decode cX2_troddenCells 12 = .ok (.iconst 0, 1) := by decide +kernel
theorem dX2_troddenCells_13 : decode cX2_troddenCells 13 = .ok (.istore_n 3, 1) := by decide +kernel
theorem dX2_troddenCells_14 : decode cX2_troddenCells 14 = .ok (.iload_n 3, 1) := by decide +kernel
theorem dX2_troddenCells_15 : decode cX2_troddenCells 15 = .ok (.bipush 16, 2) := by decide +kernel
theorem dX2_troddenCells_17 : decode cX2_troddenCells 17 = .ok (.if_icmp .ge 25, 3) := by decide +kernel
theorem dX2_troddenCells_20 : decode cX2_troddenCells 20 = .ok (.aload_n 0, 1) := by decide +kernel
theorem dX2_troddenCells_21 : decode cX2_troddenCells 21 = .ok (.iload_n 2, 1) := by decide +kernel
theorem dX2_troddenCells_22 : decode cX2_troddenCells 22 = .ok (.iload_n 3, 1) := by decide +kernel
theorem dX2_troddenCells_23 : decode cX2_troddenCells 23 = .ok (.iconst 1, 1) := by decide +kernel
theorem dX2_troddenCells_24 : decode cX2_troddenCells 24 = .ok (.invokevirtual 111, 3) := by decide +kernel
theorem dX2_troddenCells_27 : decode cX2_troddenCells 27 = .ok (.ifCond .le 9, 3) := by decide +kernel
theorem dX2_troddenCells_30 : decode cX2_troddenCells 30 = .ok (.iload_n 1, 1) := by decide +kernel
theorem dX2_troddenCells_31 : decode cX2_troddenCells 31 = .ok (.iconst 1, 1) := by decide +kernel
theorem dX2_troddenCells_32 : decode cX2_troddenCells 32 = .ok (.iload_n 3, 1) := by decide +kernel
theorem dX2_troddenCells_33 : decode cX2_troddenCells 33 = .ok (.ishl, 1) := by decide +kernel
theorem dX2_troddenCells_34 : decode cX2_troddenCells 34 = .ok (.ior, 1) := by decide +kernel
theorem dX2_troddenCells_35 : decode cX2_troddenCells 35 = .ok (.istore_n 1, 1) := by decide +kernel
theorem dX2_troddenCells_36 : decode cX2_troddenCells 36 = .ok (.iinc 3 1, 3) := by decide +kernel
theorem dX2_troddenCells_39 : decode cX2_troddenCells 39 = .ok (.goto (-25), 3) := by decide +kernel
theorem dX2_troddenCells_42 : decode cX2_troddenCells 42 = .ok (.iinc 2 1, 3) := by decide +kernel
theorem dX2_troddenCells_45 : decode cX2_troddenCells 45 = .ok (.goto (-41), 3) := by decide +kernel
theorem dX2_troddenCells_48 : decode cX2_troddenCells 48 = .ok (.iload_n 1, 1) := by decide +kernel
theorem dX2_troddenCells_49 : decode cX2_troddenCells 49 = .ok (.ireturn, 1) := by decide +kernel
theorem dX2_printOf_0 : decode cX2_printOf 0 = .ok (.iconst 0, 1) := by decide +kernel
theorem dX2_printOf_1 : decode cX2_printOf 1 = .ok (.istore_n 3, 1) := by decide +kernel
theorem dX2_printOf_2 : decode cX2_printOf 2 = .ok (.iconst 0, 1) := by decide +kernel
theorem dX2_printOf_3 : decode cX2_printOf 3 = .ok (.istore 4, 2) := by decide +kernel
theorem dX2_printOf_5 : decode cX2_printOf 5 = .ok (.iload 4, 2) := by decide +kernel
theorem dX2_printOf_7 : decode cX2_printOf 7 = .ok (.bipush 16, 2) := by decide +kernel
theorem dX2_printOf_9 : decode cX2_printOf 9 = .ok (.if_icmp .ge 40, 3) := by decide +kernel
theorem dX2_printOf_12 : decode cX2_printOf 12 = .ok (.aload_n 0, 1) := by decide +kernel
theorem dX2_printOf_13 : decode cX2_printOf 13 = .ok (.iload_n 1, 1) := by decide +kernel
theorem dX2_printOf_14 : decode cX2_printOf 14 = .ok (.iload 4, 2) := by decide +kernel
theorem dX2_printOf_16 : decode cX2_printOf 16 = .ok (.iload_n 2, 1) := by decide +kernel
theorem dX2_printOf_17 : decode cX2_printOf 17 = .ok (.invokevirtual 111, 3) := by decide +kernel
theorem dX2_printOf_20 : decode cX2_printOf 20 = .ok (.aload_n 0, 1) := by decide +kernel
theorem dX2_printOf_21 : decode cX2_printOf 21 = .ok (.getfield 33, 3) := by decide +kernel
theorem dX2_printOf_24 : decode cX2_printOf 24 = .ok (.iload_n 1, 1) := by decide +kernel
theorem dX2_printOf_25 : decode cX2_printOf 25 = .ok (.bipush 16, 2) := by decide +kernel
theorem dX2_printOf_27 : decode cX2_printOf 27 = .ok (.imul, 1) := by decide +kernel
theorem dX2_printOf_28 : decode cX2_printOf 28 = .ok (.iload 4, 2) := by decide +kernel
theorem dX2_printOf_30 : decode cX2_printOf 30 = .ok (.iadd, 1) := by decide +kernel
theorem dX2_printOf_31 : decode cX2_printOf 31 = .ok (.iaload, 1) := by decide +kernel
theorem dX2_printOf_32 : decode cX2_printOf 32 = .ok (.imul, 1) := by decide +kernel
theorem dX2_printOf_33 : decode cX2_printOf 33 = .ok (.ifCond .le 10, 3) := by decide +kernel
theorem dX2_printOf_36 : decode cX2_printOf 36 = .ok (.iload_n 3, 1) := by decide +kernel
theorem dX2_printOf_37 : decode cX2_printOf 37 = .ok (.iconst 1, 1) := by decide +kernel
theorem dX2_printOf_38 : decode cX2_printOf 38 = .ok (.iload 4, 2) := by decide +kernel
theorem dX2_printOf_40 : decode cX2_printOf 40 = .ok (.ishl, 1) := by decide +kernel
theorem dX2_printOf_41 : decode cX2_printOf 41 = .ok (.ior, 1) := by decide +kernel
theorem dX2_printOf_42 : decode cX2_printOf 42 = .ok (.istore_n 3, 1) := by decide +kernel
theorem dX2_printOf_43 : decode cX2_printOf 43 = .ok (.iinc 4 1, 3) := by decide +kernel
theorem dX2_printOf_46 : decode cX2_printOf 46 = .ok (.goto (-41), 3) := by decide +kernel
theorem dX2_printOf_49 : decode cX2_printOf 49 = .ok (.iload_n 3, 1) := by decide +kernel
theorem dX2_printOf_50 : decode cX2_printOf 50 = .ok (.ireturn, 1) := by decide +kernel
theorem dX2_gain_0 : decode cX2_gain 0 = .ok (.iconst 0, 1) := by decide +kernel
theorem dX2_gain_1 : decode cX2_gain 1 = .ok (.istore_n 3, 1) := by decide +kernel
theorem dX2_gain_2 : decode cX2_gain 2 = .ok (.iconst 0, 1) := by decide +kernel
theorem dX2_gain_3 : decode cX2_gain 3 = .ok (.istore 4, 2) := by decide +kernel
theorem dX2_gain_5 : decode cX2_gain 5 = .ok (.iload 4, 2) := by decide +kernel
theorem dX2_gain_7 : decode cX2_gain 7 = .ok (.aload_n 0, 1) := by decide +kernel
theorem dX2_gain_8 : decode cX2_gain 8 = .ok (.getfield 58, 3) := by decide +kernel
theorem dX2_gain_11 : decode cX2_gain 11 = .ok (.if_icmp .ge 33, 3) := by decide +kernel
theorem dX2_gain_14 : decode cX2_gain 14 = .ok (.iload_n 3, 1) := by decide +kernel
theorem dX2_gain_15 : decode cX2_gain 15 = .ok (.aload_n 0, 1) := by decide +kernel
theorem dX2_gain_16 : decode cX2_gain 16 = .ok (.iload 4, 2) := by decide +kernel
theorem dX2_gain_18 : decode cX2_gain 18 = .ok (.iload_n 1, 1) := by decide +kernel
theorem dX2_gain_19 : decode cX2_gain 19 = .ok (.iload_n 2, 1) := by decide +kernel
theorem dX2_gain_20 : decode cX2_gain 20 = .ok (.invokevirtual 111, 3) := by decide +kernel
theorem dX2_gain_23 : decode cX2_gain 23 = .ok (.aload_n 0, 1) := by decide +kernel
theorem dX2_gain_24 : decode cX2_gain 24 = .ok (.getfield 33, 3) := by decide +kernel
theorem dX2_gain_27 : decode cX2_gain 27 = .ok (.iload 4, 2) := by decide +kernel
theorem dX2_gain_29 : decode cX2_gain 29 = .ok (.bipush 16, 2) := by decide +kernel
theorem dX2_gain_31 : decode cX2_gain 31 = .ok (.imul, 1) := by decide +kernel
theorem dX2_gain_32 : decode cX2_gain 32 = .ok (.iload_n 1, 1) := by decide +kernel
theorem dX2_gain_33 : decode cX2_gain 33 = .ok (.iadd, 1) := by decide +kernel
theorem dX2_gain_34 : decode cX2_gain 34 = .ok (.iaload, 1) := by decide +kernel
theorem dX2_gain_35 : decode cX2_gain 35 = .ok (.imul, 1) := by decide +kernel
theorem dX2_gain_36 : decode cX2_gain 36 = .ok (.iadd, 1) := by decide +kernel
theorem dX2_gain_37 : decode cX2_gain 37 = .ok (.istore_n 3, 1) := by decide +kernel
theorem dX2_gain_38 : decode cX2_gain 38 = .ok (.iinc 4 1, 3) := by decide +kernel
theorem dX2_gain_41 : decode cX2_gain 41 = .ok (.goto (-36), 3) := by decide +kernel
theorem dX2_gain_44 : decode cX2_gain 44 = .ok (.iload_n 3, 1) := by decide +kernel
theorem dX2_gain_45 : decode cX2_gain 45 = .ok (.ireturn, 1) := by decide +kernel
theorem dX2_spend_0 : decode cX2_spend 0 = .ok (.iconst 0, 1) := by decide +kernel
theorem dX2_spend_1 : decode cX2_spend 1 = .ok (.istore_n 2, 1) := by decide +kernel
theorem dX2_spend_2 : decode cX2_spend 2 = .ok (.iload_n 2, 1) := by decide +kernel
theorem dX2_spend_3 : decode cX2_spend 3 = .ok (.bipush 16, 2) := by decide +kernel
theorem dX2_spend_5 : decode cX2_spend 5 = .ok (.if_icmp .ge 24, 3) := by decide +kernel
theorem dX2_spend_8 : decode cX2_spend 8 = .ok (.aload_n 0, 1) := by decide +kernel
theorem dX2_spend_9 : decode cX2_spend 9 = .ok (.getfield 9, 3) := by decide +kernel
theorem dX2_spend_12 : decode cX2_spend 12 = .ok (.iload_n 2, 1) := by decide +kernel
theorem dX2_spend_13 : decode cX2_spend 13 = .ok (.dup2, 1) := by decide +kernel
theorem dX2_spend_14 : decode cX2_spend 14 = .ok (.iaload, 1) := by decide +kernel
theorem dX2_spend_15 : decode cX2_spend 15 = .ok (.aload_n 0, 1) := by decide +kernel
theorem dX2_spend_16 : decode cX2_spend 16 = .ok (.iload_n 2, 1) := by decide +kernel
theorem dX2_spend_17 : decode cX2_spend 17 = .ok (.iload_n 1, 1) := by decide +kernel
theorem dX2_spend_18 : decode cX2_spend 18 = .ok (.invokevirtual 114, 3) := by decide +kernel
theorem dX2_spend_21 : decode cX2_spend 21 = .ok (.iadd, 1) := by decide +kernel
theorem dX2_spend_22 : decode cX2_spend 22 = .ok (.iastore, 1) := by decide +kernel
theorem dX2_spend_23 : decode cX2_spend 23 = .ok (.iinc 2 1, 3) := by decide +kernel
theorem dX2_spend_26 : decode cX2_spend 26 = .ok (.goto (-24), 3) := by decide +kernel
theorem dX2_spend_29 : decode cX2_spend 29 = .ok (.aload_n 0, 1) := by decide +kernel
theorem dX2_spend_30 : decode cX2_spend 30 = .ok (.dup, 1) := by decide +kernel
theorem dX2_spend_31 : decode cX2_spend 31 = .ok (.getfield 67, 3) := by decide +kernel
theorem dX2_spend_34 : decode cX2_spend 34 = .ok (.iload_n 1, 1) := by decide +kernel
theorem dX2_spend_35 : decode cX2_spend 35 = .ok (.iadd, 1) := by decide +kernel
theorem dX2_spend_36 : decode cX2_spend 36 = .ok (.putfield 67, 3) := by decide +kernel
theorem dX2_spend_39 : decode cX2_spend 39 = .ok (.return_, 1) := by decide +kernel
theorem dX2_limitWear_0 : decode cX2_limitWear 0 = .ok (.iconst 0, 1) := by decide +kernel
theorem dX2_limitWear_1 : decode cX2_limitWear 1 = .ok (.istore_n 1, 1) := by decide +kernel
theorem dX2_limitWear_2 : decode cX2_limitWear 2 = .ok (.iload_n 1, 1) := by decide +kernel
theorem dX2_limitWear_3 : decode cX2_limitWear 3 = .ok (.bipush 16, 2) := by decide +kernel
theorem dX2_limitWear_5 : decode cX2_limitWear 5 = .ok (.if_icmp .ge 27, 3) := by decide +kernel
theorem dX2_limitWear_8 : decode cX2_limitWear 8 = .ok (.aload_n 0, 1) := by decide +kernel
theorem dX2_limitWear_9 : decode cX2_limitWear 9 = .ok (.getfield 9, 3) := by decide +kernel
theorem dX2_limitWear_12 : decode cX2_limitWear 12 = .ok (.iload_n 1, 1) := by decide +kernel
theorem dX2_limitWear_13 : decode cX2_limitWear 13 = .ok (.aload_n 0, 1) := by decide +kernel
theorem dX2_limitWear_14 : decode cX2_limitWear 14 = .ok (.getfield 9, 3) := by decide +kernel
theorem dX2_limitWear_17 : decode cX2_limitWear 17 = .ok (.iload_n 1, 1) := by decide +kernel
theorem dX2_limitWear_18 : decode cX2_limitWear 18 = .ok (.iaload, 1) := by decide +kernel
theorem dX2_limitWear_19 : decode cX2_limitWear 19 = .ok (.sipush 9999, 3) := by decide +kernel
theorem dX2_limitWear_22 : decode cX2_limitWear 22 = .ok (.invokestatic 117, 3) := by decide +kernel
theorem dX2_limitWear_25 : decode cX2_limitWear 25 = .ok (.iastore, 1) := by decide +kernel
theorem dX2_limitWear_26 : decode cX2_limitWear 26 = .ok (.iinc 1 1, 3) := by decide +kernel
theorem dX2_limitWear_29 : decode cX2_limitWear 29 = .ok (.goto (-27), 3) := by decide +kernel
theorem dX2_limitWear_32 : decode cX2_limitWear 32 = .ok (.return_, 1) := by decide +kernel
theorem dX2_wearOfAll_0 : decode cX2_wearOfAll 0 = .ok (.iconst 0, 1) := by decide +kernel
theorem dX2_wearOfAll_1 : decode cX2_wearOfAll 1 = .ok (.istore_n 1, 1) := by decide +kernel
theorem dX2_wearOfAll_2 : decode cX2_wearOfAll 2 = .ok (.iconst 0, 1) := by decide +kernel
theorem dX2_wearOfAll_3 : decode cX2_wearOfAll 3 = .ok (.istore_n 2, 1) := by decide +kernel
theorem dX2_wearOfAll_4 : decode cX2_wearOfAll 4 = .ok (.iload_n 2, 1) := by decide +kernel
theorem dX2_wearOfAll_5 : decode cX2_wearOfAll 5 = .ok (.bipush 16, 2) := by decide +kernel
theorem dX2_wearOfAll_7 : decode cX2_wearOfAll 7 = .ok (.if_icmp .ge 18, 3) := by decide +kernel
theorem dX2_wearOfAll_10 : decode cX2_wearOfAll 10 = .ok (.iload_n 1, 1) := by decide +kernel
theorem dX2_wearOfAll_11 : decode cX2_wearOfAll 11 = .ok (.aload_n 0, 1) := by decide +kernel
theorem dX2_wearOfAll_12 : decode cX2_wearOfAll 12 = .ok (.getfield 9, 3) := by decide +kernel
theorem dX2_wearOfAll_15 : decode cX2_wearOfAll 15 = .ok (.iload_n 2, 1) := by decide +kernel
theorem dX2_wearOfAll_16 : decode cX2_wearOfAll 16 = .ok (.iaload, 1) := by decide +kernel
theorem dX2_wearOfAll_17 : decode cX2_wearOfAll 17 = .ok (.iadd, 1) := by decide +kernel
theorem dX2_wearOfAll_18 : decode cX2_wearOfAll 18 = .ok (.istore_n 1, 1) := by decide +kernel
theorem dX2_wearOfAll_19 : decode cX2_wearOfAll 19 = .ok (.iinc 2 1, 3) := by decide +kernel
theorem dX2_wearOfAll_22 : decode cX2_wearOfAll 22 = .ok (.goto (-18), 3) := by decide +kernel
theorem dX2_wearOfAll_25 : decode cX2_wearOfAll 25 = .ok (.iload_n 1, 1) := by decide +kernel
theorem dX2_wearOfAll_26 : decode cX2_wearOfAll 26 = .ok (.ireturn, 1) := by decide +kernel
theorem dX2_baldCells_0 : decode cX2_baldCells 0 = .ok (.iconst 0, 1) := by decide +kernel
theorem dX2_baldCells_1 : decode cX2_baldCells 1 = .ok (.istore_n 1, 1) := by decide +kernel
theorem dX2_baldCells_2 : decode cX2_baldCells 2 = .ok (.iconst 0, 1) := by decide +kernel
theorem dX2_baldCells_3 : decode cX2_baldCells 3 = .ok (.istore_n 2, 1) := by decide +kernel
theorem dX2_baldCells_4 : decode cX2_baldCells 4 = .ok (.iload_n 2, 1) := by decide +kernel
theorem dX2_baldCells_5 : decode cX2_baldCells 5 = .ok (.bipush 16, 2) := by decide +kernel
theorem dX2_baldCells_7 : decode cX2_baldCells 7 = .ok (.if_icmp .ge 28, 3) := by decide +kernel
theorem dX2_baldCells_10 : decode cX2_baldCells 10 = .ok (.aload_n 0, 1) := by decide +kernel
theorem dX2_baldCells_11 : decode cX2_baldCells 11 = .ok (.getfield 9, 3) := by decide +kernel
theorem dX2_baldCells_14 : decode cX2_baldCells 14 = .ok (.iload_n 2, 1) := by decide +kernel
theorem dX2_baldCells_15 : decode cX2_baldCells 15 = .ok (.iaload, 1) := by decide +kernel
theorem dX2_baldCells_16 : decode cX2_baldCells 16 = .ok (.aload_n 0, 1) := by decide +kernel
theorem dX2_baldCells_17 : decode cX2_baldCells 17 = .ok (.getfield 42, 3) := by decide +kernel
theorem dX2_baldCells_20 : decode cX2_baldCells 20 = .ok (.if_icmp .lt 9, 3) := by decide +kernel
theorem dX2_baldCells_23 : decode cX2_baldCells 23 = .ok (.iload_n 1, 1) := by decide +kernel
theorem dX2_baldCells_24 : decode cX2_baldCells 24 = .ok (.iconst 1, 1) := by decide +kernel
theorem dX2_baldCells_25 : decode cX2_baldCells 25 = .ok (.iload_n 2, 1) := by decide +kernel
theorem dX2_baldCells_26 : decode cX2_baldCells 26 = .ok (.ishl, 1) := by decide +kernel
theorem dX2_baldCells_27 : decode cX2_baldCells 27 = .ok (.ior, 1) := by decide +kernel
theorem dX2_baldCells_28 : decode cX2_baldCells 28 = .ok (.istore_n 1, 1) := by decide +kernel
theorem dX2_baldCells_29 : decode cX2_baldCells 29 = .ok (.iinc 2 1, 3) := by decide +kernel
theorem dX2_baldCells_32 : decode cX2_baldCells 32 = .ok (.goto (-28), 3) := by decide +kernel
theorem dX2_baldCells_35 : decode cX2_baldCells 35 = .ok (.iload_n 1, 1) := by decide +kernel
theorem dX2_baldCells_36 : decode cX2_baldCells 36 = .ok (.ireturn, 1) := by decide +kernel
theorem dX3_isCell_0 : decode cX3_isCell 0 = .ok (.iload_n 0, 1) := by decide +kernel
theorem dX3_isCell_1 : decode cX3_isCell 1 = .ok (.ifCond .lt 13, 3) := by decide +kernel
theorem dX3_isCell_4 : decode cX3_isCell 4 = .ok (.iload_n 0, 1) := by decide +kernel
theorem dX3_isCell_5 : decode cX3_isCell 5 = .ok (.bipush 16, 2) := by decide +kernel
theorem dX3_isCell_7 : decode cX3_isCell 7 = .ok (.if_icmp .ge 7, 3) := by decide +kernel
theorem dX3_isCell_10 : decode cX3_isCell 10 = .ok (.iconst 1, 1) := by decide +kernel
theorem dX3_isCell_11 : decode cX3_isCell 11 = .ok (.goto 4, 3) := by decide +kernel
theorem dX3_isCell_14 : decode cX3_isCell 14 = .ok (.iconst 0, 1) := by decide +kernel
theorem dX3_isCell_15 : decode cX3_isCell 15 = .ok (.ireturn, 1) := by decide +kernel
theorem dX3_has_0 : decode cX3_has 0 = .ok (.iload_n 0, 1) := by decide +kernel
theorem dX3_has_1 : decode cX3_has 1 = .ok (.iload_n 1, 1) := by decide +kernel
theorem dX3_has_2 : decode cX3_has 2 = .ok (.ishr, 1) := by decide +kernel
theorem dX3_has_3 : decode cX3_has 3 = .ok (.iconst 1, 1) := by decide +kernel
theorem dX3_has_4 : decode cX3_has 4 = .ok (.iand, 1) := by decide +kernel
theorem dX3_has_5 : decode cX3_has 5 = .ok (.ifCond .eq 7, 3) := by decide +kernel
theorem dX3_has_8 : decode cX3_has 8 = .ok (.iconst 1, 1) := by decide +kernel
theorem dX3_has_9 : decode cX3_has 9 = .ok (.goto 4, 3) := by decide +kernel
theorem dX3_has_12 : decode cX3_has 12 = .ok (.iconst 0, 1) := by decide +kernel
theorem dX3_has_13 : decode cX3_has 13 = .ok (.ireturn, 1) := by decide +kernel
theorem dX3_nextTo_0 : decode cX3_nextTo 0 = .ok (.iload_n 0, 1) := by decide +kernel
theorem dX3_nextTo_1 : decode cX3_nextTo 1 = .ok (.iconst 4, 1) := by decide +kernel
theorem dX3_nextTo_2 : decode cX3_nextTo 2 = .ok (.ishl, 1) := by decide +kernel
theorem dX3_nextTo_3 : decode cX3_nextTo 3 = .ok (.iload_n 0, 1) := by decide +kernel
theorem dX3_nextTo_4 : decode cX3_nextTo 4 = .ok (.iconst 4, 1) := by decide +kernel
theorem dX3_nextTo_5 : decode cX3_nextTo 5 = .ok (.ishr, 1) := by decide +kernel
theorem dX3_nextTo_6 : decode cX3_nextTo 6 = .ok (.ior, 1) := by decide +kernel
theorem dX3_nextTo_7 : decode cX3_nextTo 7 = .ok (.istore_n 1, 1) := by decide +kernel
theorem dX3_nextTo_8 : decode cX3_nextTo 8 = .ok (.iload_n 0, 1) := by decide +kernel
theorem dX3_nextTo_9 : decode cX3_nextTo 9 = .ok (.ldc 11, 2) := by decide +kernel
theorem dX3_nextTo_11 : decode cX3_nextTo 11 = .ok (.iand, 1) := by decide +kernel
theorem dX3_nextTo_12 : decode cX3_nextTo 12 = .ok (.iconst 1, 1) := by decide +kernel
theorem dX3_nextTo_13 : decode cX3_nextTo 13 = .ok (.ishl, 1) := by decide +kernel
theorem dX3_nextTo_14 : decode cX3_nextTo 14 = .ok (.iload_n 0, 1) := by decide +kernel
theorem dX3_nextTo_15 : decode cX3_nextTo 15 = .ok (.sipush (-4370), 3) := by decide +kernel
theorem dX3_nextTo_18 : decode cX3_nextTo 18 = .ok (.iand, 1) := by decide +kernel
theorem dX3_nextTo_19 : decode cX3_nextTo 19 = .ok (.iconst 1, 1) := by decide +kernel
theorem dX3_nextTo_20 : decode cX3_nextTo 20 = .ok (.ishr, 1) := by decide +kernel
theorem dX3_nextTo_21 : decode cX3_nextTo 21 = .ok (.ior, 1) := by decide +kernel
theorem dX3_nextTo_22 : decode cX3_nextTo 22 = .ok (.istore_n 2, 1) := by decide +kernel
theorem dX3_nextTo_23 : decode cX3_nextTo 23 = .ok (.iload_n 1, 1) := by decide +kernel
theorem dX3_nextTo_24 : decode cX3_nextTo 24 = .ok (.iload_n 2, 1) := by decide +kernel
theorem dX3_nextTo_25 : decode cX3_nextTo 25 = .ok (.ior, 1) := by decide +kernel
theorem dX3_nextTo_26 : decode cX3_nextTo 26 = .ok (.ldc 12, 2) := by decide +kernel
theorem dX3_nextTo_28 : decode cX3_nextTo 28 = .ok (.iand, 1) := by decide +kernel
theorem dX3_nextTo_29 : decode cX3_nextTo 29 = .ok (.ireturn, 1) := by decide +kernel
theorem dX3_first_0 : decode cX3_first 0 = .ok (.iconst 0, 1) := by decide +kernel
theorem dX3_first_1 : decode cX3_first 1 = .ok (.istore_n 1, 1) := by decide +kernel
theorem dX3_first_2 : decode cX3_first 2 = .ok (.iload_n 1, 1) := by decide +kernel
theorem dX3_first_3 : decode cX3_first 3 = .ok (.bipush 16, 2) := by decide +kernel
theorem dX3_first_5 : decode cX3_first 5 = .ok (.if_icmp .ge 19, 3) := by decide +kernel
theorem dX3_first_8 : decode cX3_first 8 = .ok (.iload_n 0, 1) := by decide +kernel
theorem dX3_first_9 : decode cX3_first 9 = .ok (.iload_n 1, 1) := by decide +kernel
theorem dX3_first_10 : decode cX3_first 10 = .ok (.ishr, 1) := by decide +kernel
theorem dX3_first_11 : decode cX3_first 11 = .ok (.iconst 1, 1) := by decide +kernel
theorem dX3_first_12 : decode cX3_first 12 = .ok (.iand, 1) := by decide +kernel
theorem dX3_first_13 : decode cX3_first 13 = .ok (.ifCond .eq 5, 3) := by decide +kernel
theorem dX3_first_16 : decode cX3_first 16 = .ok (.iload_n 1, 1) := by decide +kernel
theorem dX3_first_17 : decode cX3_first 17 = .ok (.ireturn, 1) := by decide +kernel
theorem dX3_first_18 : decode cX3_first 18 = .ok (.iinc 1 1, 3) := by decide +kernel
theorem dX3_first_21 : decode cX3_first 21 = .ok (.goto (-19), 3) := by decide +kernel
theorem dX3_first_24 : decode cX3_first 24 = .ok (.bipush (-5), 2) := by decide +kernel
theorem dX3_first_26 : decode cX3_first 26 = .ok (.ireturn, 1) := by decide +kernel
theorem dX3_howMany_0 : decode cX3_howMany 0 = .ok (.iconst 0, 1) := by decide +kernel
theorem dX3_howMany_1 : decode cX3_howMany 1 = .ok (.istore_n 1, 1) := by decide +kernel
theorem dX3_howMany_2 : decode cX3_howMany 2 = .ok (.iconst 0, 1) := by decide +kernel
theorem dX3_howMany_3 : decode cX3_howMany 3 = .ok (.istore_n 2, 1) := by decide +kernel
theorem dX3_howMany_4 : decode cX3_howMany 4 = .ok (.iload_n 2, 1) := by decide +kernel
theorem dX3_howMany_5 : decode cX3_howMany 5 = .ok (.bipush 16, 2) := by decide +kernel
theorem dX3_howMany_7 : decode cX3_howMany 7 = .ok (.if_icmp .ge 17, 3) := by decide +kernel
theorem dX3_howMany_10 : decode cX3_howMany 10 = .ok (.iload_n 1, 1) := by decide +kernel
theorem dX3_howMany_11 : decode cX3_howMany 11 = .ok (.iload_n 0, 1) := by decide +kernel
theorem dX3_howMany_12 : decode cX3_howMany 12 = .ok (.iload_n 2, 1) := by decide +kernel
theorem dX3_howMany_13 : decode cX3_howMany 13 = .ok (.ishr, 1) := by decide +kernel
theorem dX3_howMany_14 : decode cX3_howMany 14 = .ok (.iconst 1, 1) := by decide +kernel
theorem dX3_howMany_15 : decode cX3_howMany 15 = .ok (.iand, 1) := by decide +kernel
theorem dX3_howMany_16 : decode cX3_howMany 16 = .ok (.iadd, 1) := by decide +kernel
theorem dX3_howMany_17 : decode cX3_howMany 17 = .ok (.istore_n 1, 1) := by decide +kernel
theorem dX3_howMany_18 : decode cX3_howMany 18 = .ok (.iinc 2 1, 3) := by decide +kernel
theorem dX3_howMany_21 : decode cX3_howMany 21 = .ok (.goto (-17), 3) := by decide +kernel
theorem dX3_howMany_24 : decode cX3_howMany 24 = .ok (.iload_n 1, 1) := by decide +kernel
theorem dX3_howMany_25 : decode cX3_howMany 25 = .ok (.ireturn, 1) := by decide +kernel
theorem dX4_isKind_0 : decode cX4_isKind 0 = .ok (.iload_n 0, 1) := by decide +kernel
theorem dX4_isKind_1 : decode cX4_isKind 1 = .ok (.ifCond .lt 13, 3) := by decide +kernel
theorem dX4_isKind_4 : decode cX4_isKind 4 = .ok (.iload_n 0, 1) := by decide +kernel
theorem dX4_isKind_5 : decode cX4_isKind 5 = .ok (.bipush 6, 2) := by decide +kernel
theorem dX4_isKind_7 : decode cX4_isKind 7 = .ok (.if_icmp .gt 7, 3) := by decide +kernel
theorem dX4_isKind_10 : decode cX4_isKind 10 = .ok (.iconst 1, 1) := by decide +kernel
theorem dX4_isKind_11 : decode cX4_isKind 11 = .ok (.goto 4, 3) := by decide +kernel
theorem dX4_isKind_14 : decode cX4_isKind 14 = .ok (.iconst 0, 1) := by decide +kernel
theorem dX4_isKind_15 : decode cX4_isKind 15 = .ok (.ireturn, 1) := by decide +kernel
theorem dX4_above_0 : decode cX4_above 0 = .ok (.iload_n 0, 1) := by decide +kernel
theorem dX4_above_1 : decode cX4_above 1 = .ok (.invokestatic 9, 3) := by decide +kernel
theorem dX4_above_4 : decode cX4_above 4 = .ok (.ifCond .eq 11, 3) := by decide +kernel
theorem dX4_above_7 : decode cX4_above 7 = .ok (.getstatic 13, 3) := by decide +kernel
theorem dX4_above_10 : decode cX4_above 10 = .ok (.iload_n 0, 1) := by decide +kernel
theorem dX4_above_11 : decode cX4_above 11 = .ok (.iaload, 1) := by decide +kernel
theorem dX4_above_12 : decode cX4_above 12 = .ok (.goto 4, 3) := by decide +kernel
theorem dX4_above_15 : decode cX4_above 15 = .ok (.iconst (-1), 1) := by decide +kernel
theorem dX4_above_16 : decode cX4_above 16 = .ok (.ireturn, 1) := by decide +kernel
theorem dX4_isUnder_0 : decode cX4_isUnder 0 = .ok (.iload_n 0, 1) := by decide +kernel
theorem dX4_isUnder_1 : decode cX4_isUnder 1 = .ok (.istore_n 2, 1) := by decide +kernel
theorem dX4_isUnder_2 : decode cX4_isUnder 2 = .ok (.iconst 0, 1) := by decide +kernel
theorem dX4_isUnder_3 : decode cX4_isUnder 3 = .ok (.istore_n 3, 1) := by decide +kernel
theorem dX4_isUnder_4 : decode cX4_isUnder 4 = .ok (.iload_n 3, 1) := by decide +kernel
theorem dX4_isUnder_5 : decode cX4_isUnder 5 = .ok (.getstatic 13, 3) := by decide +kernel
theorem dX4_isUnder_8 : decode cX4_isUnder 8 = .ok (.arraylength, 1) := by decide +kernel
theorem dX4_isUnder_9 : decode cX4_isUnder 9 = .ok (.if_icmp .ge 34, 3) := by decide +kernel
theorem dX4_isUnder_12 : decode cX4_isUnder 12 = .ok (.iload_n 2, 1) := by decide +kernel
theorem dX4_isUnder_13 : decode cX4_isUnder 13 = .ok (.ifCond .lt 30, 3) := by decide +kernel
theorem dX4_isUnder_16 : decode cX4_isUnder 16 = .ok (.iload_n 2, 1) := by decide +kernel
theorem dX4_isUnder_17 : decode cX4_isUnder 17 = .ok (.getstatic 13, 3) := by decide +kernel
theorem dX4_isUnder_20 : decode cX4_isUnder 20 = .ok (.arraylength, 1) := by decide +kernel
theorem dX4_isUnder_21 : decode cX4_isUnder 21 = .ok (.if_icmp .ge 22, 3) := by decide +kernel
theorem dX4_isUnder_24 : decode cX4_isUnder 24 = .ok (.iload_n 2, 1) := by decide +kernel
theorem dX4_isUnder_25 : decode cX4_isUnder 25 = .ok (.iload_n 1, 1) := by decide +kernel
theorem dX4_isUnder_26 : decode cX4_isUnder 26 = .ok (.if_icmp .ne 5, 3) := by decide +kernel
theorem dX4_isUnder_29 : decode cX4_isUnder 29 = .ok (.iconst 1, 1) := by decide +kernel
theorem dX4_isUnder_30 : decode cX4_isUnder 30 = .ok (.ireturn, 1) := by decide +kernel
theorem dX4_isUnder_31 : decode cX4_isUnder 31 = .ok (.getstatic 13, 3) := by decide +kernel
theorem dX4_isUnder_34 : decode cX4_isUnder 34 = .ok (.iload_n 2, 1) := by decide +kernel
theorem dX4_isUnder_35 : decode cX4_isUnder 35 = .ok (.iaload, 1) := by decide +kernel
theorem dX4_isUnder_36 : decode cX4_isUnder 36 = .ok (.istore_n 2, 1) := by decide +kernel
theorem dX4_isUnder_37 : decode cX4_isUnder 37 = .ok (.iinc 3 1, 3) := by decide +kernel
theorem dX4_isUnder_40 : decode cX4_isUnder 40 = .ok (.goto (-36), 3) := by decide +kernel
theorem dX4_isUnder_43 : decode cX4_isUnder 43 = .ok (.iconst 0, 1) := by decide +kernel
theorem dX4_isUnder_44 : decode cX4_isUnder 44 = .ok (.ireturn, 1) := by decide +kernel
theorem dX5_init_0 : decode cX5_init 0 = .ok (.aload_n 0, 1) := by decide +kernel
theorem dX5_init_1 : decode cX5_init 1 = .ok (.invokespecial 3, 3) := by decide +kernel
theorem dX5_init_4 : decode cX5_init 4 = .ok (.aload_n 0, 1) := by decide +kernel
theorem dX5_init_5 : decode cX5_init 5 = .ok (.iconst 5, 1) := by decide +kernel
theorem dX5_init_6 : decode cX5_init 6 = .ok (.newarray .int, 2) := by decide +kernel
theorem dX5_init_8 : decode cX5_init 8 = .ok (.putfield 11, 3) := by decide +kernel
theorem dX5_init_11 : decode cX5_init 11 = .ok (.aload_n 0, 1) := by decide +kernel
theorem dX5_init_12 : decode cX5_init 12 = .ok (.iconst 5, 1) := by decide +kernel
theorem dX5_init_13 : decode cX5_init 13 = .ok (.newarray .int, 2) := by decide +kernel
theorem dX5_init_15 : decode cX5_init 15 = .ok (.putfield 15, 3) := by decide +kernel
theorem dX5_init_18 : decode cX5_init 18 = .ok (.aload_n 0, 1) := by decide +kernel
theorem dX5_init_19 : decode cX5_init 19 = .ok (.iconst 5, 1) := by decide +kernel
theorem dX5_init_20 : decode cX5_init 20 = .ok (.newarray .int, 2) := by decide +kernel
theorem dX5_init_22 : decode cX5_init 22 = .ok (.putfield 18, 3) := by decide +kernel
theorem dX5_init_25 : decode cX5_init 25 = .ok (.aload_n 0, 1) := by decide +kernel
theorem dX5_init_26 : decode cX5_init 26 = .ok (.bipush 10, 2) := by decide +kernel
theorem dX5_init_28 : decode cX5_init 28 = .ok (.newarray .int, 2) := by decide +kernel
theorem dX5_init_30 : decode cX5_init 30 = .ok (.putfield 21, 3) := by decide +kernel
theorem dX5_init_33 : decode cX5_init 33 = .ok (.aload_n 0, 1) := by decide +kernel
theorem dX5_init_34 : decode cX5_init 34 = .ok (.bipush 10, 2) := by decide +kernel
theorem dX5_init_36 : decode cX5_init 36 = .ok (.newarray .int, 2) := by decide +kernel
theorem dX5_init_38 : decode cX5_init 38 = .ok (.putfield 24, 3) := by decide +kernel
theorem dX5_init_41 : decode cX5_init 41 = .ok (.aload_n 0, 1) := by decide +kernel
theorem dX5_init_42 : decode cX5_init 42 = .ok (.bipush 8, 2) := by decide +kernel
theorem dX5_init_44 : decode cX5_init 44 = .ok (.newarray .int, 2) := by decide +kernel
theorem dX5_init_46 : decode cX5_init 46 = .ok (.putfield 27, 3) := by decide +kernel
theorem dX5_init_49 : decode cX5_init 49 = .ok (.aload_n 0, 1) := by decide +kernel
theorem dX5_init_50 : decode cX5_init 50 = .ok (.bipush 8, 2) := by decide +kernel
theorem dX5_init_52 : decode cX5_init 52 = .ok (.newarray .int, 2) := by decide +kernel
theorem dX5_init_54 : decode cX5_init 54 = .ok (.putfield 30, 3) := by decide +kernel
theorem dX5_init_57 : decode cX5_init 57 = .ok (.return_, 1) := by decide +kernel
theorem dX5_become_0 : decode cX5_become 0 = .ok (.aload_n 1, 1) := by decide +kernel
theorem dX5_become_1 : decode cX5_become 1 = .ok (.getfield 11, 3) := by decide +kernel
theorem dX5_become_4 : decode cX5_become 4 = .ok (.iconst 0, 1) := by decide +kernel
theorem dX5_become_5 : decode cX5_become 5 = .ok (.aload_n 0, 1) := by decide +kernel
theorem dX5_become_6 : decode cX5_become 6 = .ok (.getfield 11, 3) := by decide +kernel
theorem dX5_become_9 : decode cX5_become 9 = .ok (.iconst 0, 1) := by decide +kernel
theorem dX5_become_10 : decode cX5_become 10 = .ok (.iconst 5, 1) := by decide +kernel
theorem dX5_become_11 : decode cX5_become 11 = .ok (.invokestatic 33, 3) := by decide +kernel
theorem dX5_become_14 : decode cX5_become 14 = .ok (.aload_n 1, 1) := by decide +kernel
theorem dX5_become_15 : decode cX5_become 15 = .ok (.getfield 15, 3) := by decide +kernel
theorem dX5_become_18 : decode cX5_become 18 = .ok (.iconst 0, 1) := by decide +kernel
theorem dX5_become_19 : decode cX5_become 19 = .ok (.aload_n 0, 1) := by decide +kernel
theorem dX5_become_20 : decode cX5_become 20 = .ok (.getfield 15, 3) := by decide +kernel
theorem dX5_become_23 : decode cX5_become 23 = .ok (.iconst 0, 1) := by decide +kernel
theorem dX5_become_24 : decode cX5_become 24 = .ok (.iconst 5, 1) := by decide +kernel
theorem dX5_become_25 : decode cX5_become 25 = .ok (.invokestatic 33, 3) := by decide +kernel
theorem dX5_become_28 : decode cX5_become 28 = .ok (.aload_n 1, 1) := by decide +kernel
theorem dX5_become_29 : decode cX5_become 29 = .ok (.getfield 18, 3) := by decide +kernel
theorem dX5_become_32 : decode cX5_become 32 = .ok (.iconst 0, 1) := by decide +kernel
theorem dX5_become_33 : decode cX5_become 33 = .ok (.aload_n 0, 1) := by decide +kernel
theorem dX5_become_34 : decode cX5_become 34 = .ok (.getfield 18, 3) := by decide +kernel
theorem dX5_become_37 : decode cX5_become 37 = .ok (.iconst 0, 1) := by decide +kernel
theorem dX5_become_38 : decode cX5_become 38 = .ok (.iconst 5, 1) := by decide +kernel
theorem dX5_become_39 : decode cX5_become 39 = .ok (.invokestatic 33, 3) := by decide +kernel
theorem dX5_become_42 : decode cX5_become 42 = .ok (.aload_n 1, 1) := by decide +kernel
theorem dX5_become_43 : decode cX5_become 43 = .ok (.getfield 21, 3) := by decide +kernel
theorem dX5_become_46 : decode cX5_become 46 = .ok (.iconst 0, 1) := by decide +kernel
theorem dX5_become_47 : decode cX5_become 47 = .ok (.aload_n 0, 1) := by decide +kernel
theorem dX5_become_48 : decode cX5_become 48 = .ok (.getfield 21, 3) := by decide +kernel
theorem dX5_become_51 : decode cX5_become 51 = .ok (.iconst 0, 1) := by decide +kernel
theorem dX5_become_52 : decode cX5_become 52 = .ok (.bipush 10, 2) := by decide +kernel
theorem dX5_become_54 : decode cX5_become 54 = .ok (.invokestatic 33, 3) := by decide +kernel
theorem dX5_become_57 : decode cX5_become 57 = .ok (.aload_n 1, 1) := by decide +kernel
theorem dX5_become_58 : decode cX5_become 58 = .ok (.getfield 24, 3) := by decide +kernel
theorem dX5_become_61 : decode cX5_become 61 = .ok (.iconst 0, 1) := by decide +kernel
theorem dX5_become_62 : decode cX5_become 62 = .ok (.aload_n 0, 1) := by decide +kernel
theorem dX5_become_63 : decode cX5_become 63 = .ok (.getfield 24, 3) := by decide +kernel
theorem dX5_become_66 : decode cX5_become 66 = .ok (.iconst 0, 1) := by decide +kernel
theorem dX5_become_67 : decode cX5_become 67 = .ok (.bipush 10, 2) := by decide +kernel
theorem dX5_become_69 : decode cX5_become 69 = .ok (.invokestatic 33, 3) := by decide +kernel
theorem dX5_become_72 : decode cX5_become 72 = .ok (.aload_n 1, 1) := by decide +kernel
theorem dX5_become_73 : decode cX5_become 73 = .ok (.getfield 27, 3) := by decide +kernel
theorem dX5_become_76 : decode cX5_become 76 = .ok (.iconst 0, 1) := by decide +kernel
theorem dX5_become_77 : decode cX5_become 77 = .ok (.aload_n 0, 1) := by decide +kernel
theorem dX5_become_78 : decode cX5_become 78 = .ok (.getfield 27, 3) := by decide +kernel
theorem dX5_become_81 : decode cX5_become 81 = .ok (.iconst 0, 1) := by decide +kernel
theorem dX5_become_82 : decode cX5_become 82 = .ok (.bipush 8, 2) := by decide +kernel
theorem dX5_become_84 : decode cX5_become 84 = .ok (.invokestatic 33, 3) := by decide +kernel
theorem dX5_become_87 : decode cX5_become 87 = .ok (.aload_n 1, 1) := by decide +kernel
theorem dX5_become_88 : decode cX5_become 88 = .ok (.getfield 30, 3) := by decide +kernel
theorem dX5_become_91 : decode cX5_become 91 = .ok (.iconst 0, 1) := by decide +kernel
theorem dX5_become_92 : decode cX5_become 92 = .ok (.aload_n 0, 1) := by decide +kernel
theorem dX5_become_93 : decode cX5_become 93 = .ok (.getfield 30, 3) := by decide +kernel
theorem dX5_become_96 : decode cX5_become 96 = .ok (.iconst 0, 1) := by decide +kernel
theorem dX5_become_97 : decode cX5_become 97 = .ok (.bipush 8, 2) := by decide +kernel
theorem dX5_become_99 : decode cX5_become 99 = .ok (.invokestatic 33, 3) := by decide +kernel
theorem dX5_become_102 : decode cX5_become 102 = .ok (.aload_n 0, 1) := by decide +kernel
theorem dX5_become_103 : decode cX5_become 103 = .ok (.aload_n 1, 1) := by decide +kernel
theorem dX5_become_104 : decode cX5_become 104 = .ok (.getfield 39, 3) := by decide +kernel
theorem dX5_become_107 : decode cX5_become 107 = .ok (.putfield 39, 3) := by decide +kernel
theorem dX5_become_110 : decode cX5_become 110 = .ok (.aload_n 0, 1) := by decide +kernel
theorem dX5_become_111 : decode cX5_become 111 = .ok (.aload_n 1, 1) := by decide +kernel
theorem dX5_become_112 : decode cX5_become 112 = .ok (.getfield 43, 3) := by decide +kernel
theorem dX5_become_115 : decode cX5_become 115 = .ok (.putfield 43, 3) := by decide +kernel
theorem dX5_become_118 : decode cX5_become 118 = .ok (.aload_n 0, 1) := by decide +kernel
theorem dX5_become_119 : decode cX5_become 119 = .ok (.aload_n 1, 1) := by decide +kernel
theorem dX5_become_120 : decode cX5_become 120 = .ok (.getfield 46, 3) := by decide +kernel
theorem dX5_become_123 : decode cX5_become 123 = .ok (.putfield 46, 3) := by decide +kernel
theorem dX5_become_126 : decode cX5_become 126 = .ok (.return_, 1) := by decide +kernel
theorem dX5_forgetSeen_0 : decode cX5_forgetSeen 0 = .ok (.aload_n 0, 1) := by decide +kernel
theorem dX5_forgetSeen_1 : decode cX5_forgetSeen 1 = .ok (.iconst 0, 1) := by decide +kernel
theorem dX5_forgetSeen_2 : decode cX5_forgetSeen 2 = .ok (.putfield 39, 3) := by decide +kernel
theorem dX5_forgetSeen_5 : decode cX5_forgetSeen 5 = .ok (.aload_n 0, 1) := by decide +kernel
theorem dX5_forgetSeen_6 : decode cX5_forgetSeen 6 = .ok (.getfield 39, 3) := by decide +kernel
theorem dX5_forgetSeen_9 : decode cX5_forgetSeen 9 = .ok (.ireturn, 1) := by decide +kernel
theorem dX5_addSeen_0 : decode cX5_addSeen 0 = .ok (.aload_n 0, 1) := by decide +kernel
theorem dX5_addSeen_1 : decode cX5_addSeen 1 = .ok (.getfield 39, 3) := by decide +kernel
theorem dX5_addSeen_4 : decode cX5_addSeen 4 = .ok (.iconst 5, 1) := by decide +kernel
theorem dX5_addSeen_5 : decode cX5_addSeen 5 = .ok (.if_icmp .lt 5, 3) := by decide +kernel
theorem dX5_addSeen_8 : decode cX5_addSeen 8 = .ok (.iconst 0, 1) := by decide +kernel
theorem dX5_addSeen_9 : decode cX5_addSeen 9 = .ok (.ireturn, 1) := by decide +kernel
theorem dX5_addSeen_10 : decode cX5_addSeen 10 = .ok (.aload_n 0, 1) := by decide +kernel
theorem dX5_addSeen_11 : decode cX5_addSeen 11 = .ok (.getfield 11, 3) := by decide +kernel
theorem dX5_addSeen_14 : decode cX5_addSeen 14 = .ok (.aload_n 0, 1) := by decide +kernel
theorem dX5_addSeen_15 : decode cX5_addSeen 15 = .ok (.getfield 39, 3) := by decide +kernel
theorem dX5_addSeen_18 : decode cX5_addSeen 18 = .ok (.iload_n 1, 1) := by decide +kernel
theorem dX5_addSeen_19 : decode cX5_addSeen 19 = .ok (.iastore, 1) := by decide +kernel
theorem dX5_addSeen_20 : decode cX5_addSeen 20 = .ok (.aload_n 0, 1) := by decide +kernel
theorem dX5_addSeen_21 : decode cX5_addSeen 21 = .ok (.getfield 15, 3) := by decide +kernel
theorem dX5_addSeen_24 : decode cX5_addSeen 24 = .ok (.aload_n 0, 1) := by decide +kernel
theorem dX5_addSeen_25 : decode cX5_addSeen 25 = .ok (.getfield 39, 3) := by decide +kernel
theorem dX5_addSeen_28 : decode cX5_addSeen 28 = .ok (.iload_n 2, 1) := by decide +kernel
theorem dX5_addSeen_29 : decode cX5_addSeen 29 = .ok (.iastore, 1) := by decide +kernel
theorem dX5_addSeen_30 : decode cX5_addSeen 30 = .ok (.aload_n 0, 1) := by decide +kernel
theorem dX5_addSeen_31 : decode cX5_addSeen 31 = .ok (.getfield 18, 3) := by decide +kernel
theorem dX5_addSeen_34 : decode cX5_addSeen 34 = .ok (.aload_n 0, 1) := by decide +kernel
theorem dX5_addSeen_35 : decode cX5_addSeen 35 = .ok (.getfield 39, 3) := by decide +kernel
theorem dX5_addSeen_38 : decode cX5_addSeen 38 = .ok (.iload_n 3, 1) := by decide +kernel
theorem dX5_addSeen_39 : decode cX5_addSeen 39 = .ok (.iastore, 1) := by decide +kernel
theorem dX5_addSeen_40 : decode cX5_addSeen 40 = .ok (.aload_n 0, 1) := by decide +kernel
theorem dX5_addSeen_41 : decode cX5_addSeen 41 = .ok (.dup, 1) := by decide +kernel
theorem dX5_addSeen_42 : decode cX5_addSeen 42 = .ok (.getfield 39, 3) := by decide +kernel
theorem dX5_addSeen_45 : decode cX5_addSeen 45 = .ok (.iconst 1, 1) := by decide +kernel
theorem dX5_addSeen_46 : decode cX5_addSeen 46 = .ok (.iadd, 1) := by decide +kernel
theorem dX5_addSeen_47 : decode cX5_addSeen 47 = .ok (.putfield 39, 3) := by decide +kernel
theorem dX5_addSeen_50 : decode cX5_addSeen 50 = .ok (.iconst 1, 1) := by decide +kernel
theorem dX5_addSeen_51 : decode cX5_addSeen 51 = .ok (.ireturn, 1) := by decide +kernel
theorem dX5_isAllSeenSo_0 : decode cX5_isAllSeenSo 0 = .ok (.iconst 0, 1) := by decide +kernel
theorem dX5_isAllSeenSo_1 : decode cX5_isAllSeenSo 1 = .ok (.istore_n 2, 1) := by decide +kernel
theorem dX5_isAllSeenSo_2 : decode cX5_isAllSeenSo 2 = .ok (.iload_n 2, 1) := by decide +kernel
theorem dX5_isAllSeenSo_3 : decode cX5_isAllSeenSo 3 = .ok (.aload_n 0, 1) := by decide +kernel
theorem dX5_isAllSeenSo_4 : decode cX5_isAllSeenSo 4 = .ok (.getfield 39, 3) := by decide +kernel
theorem dX5_isAllSeenSo_7 : decode cX5_isAllSeenSo 7 = .ok (.if_icmp .ge 41, 3) := by decide +kernel
theorem dX5_isAllSeenSo_10 : decode cX5_isAllSeenSo 10 = .ok (.iload_n 2, 1) := by decide +kernel
theorem dX5_isAllSeenSo_11 : decode cX5_isAllSeenSo 11 = .ok (.iconst 5, 1) := by decide +kernel
theorem dX5_isAllSeenSo_12 : decode cX5_isAllSeenSo 12 = .ok (.if_icmp .ge 36, 3) := by decide +kernel
theorem dX5_isAllSeenSo_15 : decode cX5_isAllSeenSo 15 = .ok (.aload_n 1, 1) := by decide +kernel
theorem dX5_isAllSeenSo_16 : decode cX5_isAllSeenSo 16 = .ok (.aload_n 0, 1) := by decide +kernel
theorem dX5_isAllSeenSo_17 : decode cX5_isAllSeenSo 17 = .ok (.getfield 11, 3) := by decide +kernel
theorem dX5_isAllSeenSo_20 : decode cX5_isAllSeenSo 20 = .ok (.iload_n 2, 1) := by decide +kernel
theorem dX5_isAllSeenSo_21 : decode cX5_isAllSeenSo 21 = .ok (.iaload, 1) := by decide +kernel
theorem dX5_isAllSeenSo_22 : decode cX5_isAllSeenSo 22 = .ok (.aload_n 0, 1) := by decide +kernel
theorem dX5_isAllSeenSo_23 : decode cX5_isAllSeenSo 23 = .ok (.getfield 18, 3) := by decide +kernel
theorem dX5_isAllSeenSo_26 : decode cX5_isAllSeenSo 26 = .ok (.iload_n 2, 1) := by decide +kernel
theorem dX5_isAllSeenSo_27 : decode cX5_isAllSeenSo 27 = .ok (.iaload, 1) := by decide +kernel
theorem dX5_isAllSeenSo_28 : decode cX5_isAllSeenSo 28 = .ok (.invokevirtual 49, 3) := by decide +kernel
theorem dX5_isAllSeenSo_31 : decode cX5_isAllSeenSo 31 = .ok (.aload_n 0, 1) := by decide +kernel
theorem dX5_isAllSeenSo_32 : decode cX5_isAllSeenSo 32 = .ok (.getfield 15, 3) := by decide +kernel
theorem dX5_isAllSeenSo_35 : decode cX5_isAllSeenSo 35 = .ok (.iload_n 2, 1) := by decide +kernel
theorem dX5_isAllSeenSo_36 : decode cX5_isAllSeenSo 36 = .ok (.iaload, 1) := by decide +kernel
theorem dX5_isAllSeenSo_37 : decode cX5_isAllSeenSo 37 = .ok (.if_icmp .eq 5, 3) := by decide +kernel
theorem dX5_isAllSeenSo_40 : decode cX5_isAllSeenSo 40 = .ok (.iconst 0, 1) := by decide +kernel
theorem dX5_isAllSeenSo_41 : decode cX5_isAllSeenSo 41 = .ok (.ireturn, 1) := by decide +kernel
theorem dX5_isAllSeenSo_42 : decode cX5_isAllSeenSo 42 = .ok (.iinc 2 1, 3) := by decide +kernel
theorem dX5_isAllSeenSo_45 : decode cX5_isAllSeenSo 45 = .ok (.goto (-43), 3) := by decide +kernel
theorem dX5_isAllSeenSo_48 : decode cX5_isAllSeenSo 48 = .ok (.iconst 1, 1) := by decide +kernel
theorem dX5_isAllSeenSo_49 : decode cX5_isAllSeenSo 49 = .ok (.ireturn, 1) := by decide +kernel
theorem dX5_forgetPlan_0 : decode cX5_forgetPlan 0 = .ok (.aload_n 0, 1) := by decide +kernel
theorem dX5_forgetPlan_1 : decode cX5_forgetPlan 1 = .ok (.iconst 0, 1) := by decide +kernel
theorem dX5_forgetPlan_2 : decode cX5_forgetPlan 2 = .ok (.putfield 43, 3) := by decide +kernel
theorem dX5_forgetPlan_5 : decode cX5_forgetPlan 5 = .ok (.aload_n 0, 1) := by decide +kernel
theorem dX5_forgetPlan_6 : decode cX5_forgetPlan 6 = .ok (.getfield 43, 3) := by decide +kernel
theorem dX5_forgetPlan_9 : decode cX5_forgetPlan 9 = .ok (.ireturn, 1) := by decide +kernel
theorem dX5_addToPlan_0 : decode cX5_addToPlan 0 = .ok (.aload_n 0, 1) := by decide +kernel
theorem dX5_addToPlan_1 : decode cX5_addToPlan 1 = .ok (.getfield 43, 3) := by decide +kernel
theorem dX5_addToPlan_4 : decode cX5_addToPlan 4 = .ok (.bipush 10, 2) := by decide +kernel
theorem dX5_addToPlan_6 : decode cX5_addToPlan 6 = .ok (.if_icmp .lt 5, 3) := by decide +kernel
theorem dX5_addToPlan_9 : decode cX5_addToPlan 9 = .ok (.iconst 0, 1) := by decide +kernel
theorem dX5_addToPlan_10 : decode cX5_addToPlan 10 = .ok (.ireturn, 1) := by decide +kernel
theorem dX5_addToPlan_11 : decode cX5_addToPlan 11 = .ok (.aload_n 0, 1) := by decide +kernel
theorem dX5_addToPlan_12 : decode cX5_addToPlan 12 = .ok (.getfield 21, 3) := by decide +kernel
theorem dX5_addToPlan_15 : decode cX5_addToPlan 15 = .ok (.aload_n 0, 1) := by decide +kernel
theorem dX5_addToPlan_16 : decode cX5_addToPlan 16 = .ok (.getfield 43, 3) := by decide +kernel
theorem dX5_addToPlan_19 : decode cX5_addToPlan 19 = .ok (.iload_n 1, 1) := by decide +kernel
theorem dX5_addToPlan_20 : decode cX5_addToPlan 20 = .ok (.iastore, 1) := by decide +kernel
theorem dX5_addToPlan_21 : decode cX5_addToPlan 21 = .ok (.aload_n 0, 1) := by decide +kernel
theorem dX5_addToPlan_22 : decode cX5_addToPlan 22 = .ok (.getfield 24, 3) := by decide +kernel
theorem dX5_addToPlan_25 : decode cX5_addToPlan 25 = .ok (.aload_n 0, 1) := by decide +kernel
theorem dX5_addToPlan_26 : decode cX5_addToPlan 26 = .ok (.getfield 43, 3) := by decide +kernel
theorem dX5_addToPlan_29 : decode cX5_addToPlan 29 = .ok (.iload_n 2, 1) := by decide +kernel
theorem dX5_addToPlan_30 : decode cX5_addToPlan 30 = .ok (.iastore, 1) := by decide +kernel
theorem dX5_addToPlan_31 : decode cX5_addToPlan 31 = .ok (.aload_n 0, 1) := by decide +kernel
theorem dX5_addToPlan_32 : decode cX5_addToPlan 32 = .ok (.dup, 1) := by decide +kernel
theorem dX5_addToPlan_33 : decode cX5_addToPlan 33 = .ok (.getfield 43, 3) := by decide +kernel
theorem dX5_addToPlan_36 : decode cX5_addToPlan 36 = .ok (.iconst 1, 1) := by decide +kernel
theorem dX5_addToPlan_37 : decode cX5_addToPlan 37 = .ok (.iadd, 1) := by decide +kernel
theorem dX5_addToPlan_38 : decode cX5_addToPlan 38 = .ok (.putfield 43, 3) := by decide +kernel
theorem dX5_addToPlan_41 : decode cX5_addToPlan 41 = .ok (.iconst 1, 1) := by decide +kernel
theorem dX5_addToPlan_42 : decode cX5_addToPlan 42 = .ok (.ireturn, 1) := by decide +kernel
theorem dX5_forgetBook_0 : decode cX5_forgetBook 0 = .ok (.aload_n 0, 1) := by decide +kernel
theorem dX5_forgetBook_1 : decode cX5_forgetBook 1 = .ok (.iconst 0, 1) := by decide +kernel
theorem dX5_forgetBook_2 : decode cX5_forgetBook 2 = .ok (.putfield 46, 3) := by decide +kernel
theorem dX5_forgetBook_5 : decode cX5_forgetBook 5 = .ok (.aload_n 0, 1) := by decide +kernel
theorem dX5_forgetBook_6 : decode cX5_forgetBook 6 = .ok (.getfield 46, 3) := by decide +kernel
theorem dX5_forgetBook_9 : decode cX5_forgetBook 9 = .ok (.ireturn, 1) := by decide +kernel
theorem dX5_addToBook_0 : decode cX5_addToBook 0 = .ok (.aload_n 0, 1) := by decide +kernel
theorem dX5_addToBook_1 : decode cX5_addToBook 1 = .ok (.getfield 46, 3) := by decide +kernel
theorem dX5_addToBook_4 : decode cX5_addToBook 4 = .ok (.bipush 8, 2) := by decide +kernel
theorem dX5_addToBook_6 : decode cX5_addToBook 6 = .ok (.if_icmp .lt 5, 3) := by decide +kernel
theorem dX5_addToBook_9 : decode cX5_addToBook 9 = .ok (.iconst 0, 1) := by decide +kernel
theorem dX5_addToBook_10 : decode cX5_addToBook 10 = .ok (.ireturn, 1) := by decide +kernel
theorem dX5_addToBook_11 : decode cX5_addToBook 11 = .ok (.aload_n 0, 1) := by decide +kernel
theorem dX5_addToBook_12 : decode cX5_addToBook 12 = .ok (.getfield 27, 3) := by decide +kernel
theorem dX5_addToBook_15 : decode cX5_addToBook 15 = .ok (.aload_n 0, 1) := by decide +kernel
theorem dX5_addToBook_16 : decode cX5_addToBook 16 = .ok (.getfield 46, 3) := by decide +kernel
theorem dX5_addToBook_19 : decode cX5_addToBook 19 = .ok (.iload_n 1, 1) := by decide +kernel
theorem dX5_addToBook_20 : decode cX5_addToBook 20 = .ok (.iastore, 1) := by decide +kernel
theorem dX5_addToBook_21 : decode cX5_addToBook 21 = .ok (.aload_n 0, 1) := by decide +kernel
theorem dX5_addToBook_22 : decode cX5_addToBook 22 = .ok (.getfield 30, 3) := by decide +kernel
theorem dX5_addToBook_25 : decode cX5_addToBook 25 = .ok (.aload_n 0, 1) := by decide +kernel
theorem dX5_addToBook_26 : decode cX5_addToBook 26 = .ok (.getfield 46, 3) := by decide +kernel
theorem dX5_addToBook_29 : decode cX5_addToBook 29 = .ok (.iload_n 2, 1) := by decide +kernel
theorem dX5_addToBook_30 : decode cX5_addToBook 30 = .ok (.iastore, 1) := by decide +kernel
theorem dX5_addToBook_31 : decode cX5_addToBook 31 = .ok (.aload_n 0, 1) := by decide +kernel
theorem dX5_addToBook_32 : decode cX5_addToBook 32 = .ok (.dup, 1) := by decide +kernel
theorem dX5_addToBook_33 : decode cX5_addToBook 33 = .ok (.getfield 46, 3) := by decide +kernel
theorem dX5_addToBook_36 : decode cX5_addToBook 36 = .ok (.iconst 1, 1) := by decide +kernel
theorem dX5_addToBook_37 : decode cX5_addToBook 37 = .ok (.iadd, 1) := by decide +kernel
theorem dX5_addToBook_38 : decode cX5_addToBook 38 = .ok (.putfield 46, 3) := by decide +kernel
theorem dX5_addToBook_41 : decode cX5_addToBook 41 = .ok (.iconst 1, 1) := by decide +kernel
theorem dX5_addToBook_42 : decode cX5_addToBook 42 = .ok (.ireturn, 1) := by decide +kernel
theorem dX5_firstOtherwise_0 : decode cX5_firstOtherwise 0 = .ok (.iconst 0, 1) := by decide +kernel
theorem dX5_firstOtherwise_1 : decode cX5_firstOtherwise 1 = .ok (.istore_n 2, 1) := by decide +kernel
theorem dX5_firstOtherwise_2 : decode cX5_firstOtherwise 2 = .ok (.iload_n 2, 1) := by decide +kernel
theorem dX5_firstOtherwise_3 : decode cX5_firstOtherwise 3 = .ok (.aload_n 0, 1) := by decide +kernel
theorem dX5_firstOtherwise_4 : decode cX5_firstOtherwise 4 = .ok (.getfield 46, 3) := by decide +kernel
theorem dX5_firstOtherwise_7 : decode cX5_firstOtherwise 7 = .ok (.if_icmp .ge 37, 3) := by decide +kernel
theorem dX5_firstOtherwise_10 : decode cX5_firstOtherwise 10 = .ok (.iload_n 2, 1) := by decide +kernel
theorem dX5_firstOtherwise_11 : decode cX5_firstOtherwise 11 = .ok (.bipush 8, 2) := by decide +kernel
theorem dX5_firstOtherwise_13 : decode cX5_firstOtherwise 13 = .ok (.if_icmp .ge 31, 3) := by decide +kernel
theorem dX5_firstOtherwise_16 : decode cX5_firstOtherwise 16 = .ok (.aload_n 1, 1) := by decide +kernel
theorem dX5_firstOtherwise_17 : decode cX5_firstOtherwise 17 = .ok (.getfield 55, 3) := by decide +kernel
theorem dX5_firstOtherwise_20 : decode cX5_firstOtherwise 20 = .ok (.aload_n 0, 1) := by decide +kernel
theorem dX5_firstOtherwise_21 : decode cX5_firstOtherwise 21 = .ok (.getfield 27, 3) := by decide +kernel
theorem dX5_firstOtherwise_24 : decode cX5_firstOtherwise 24 = .ok (.iload_n 2, 1) := by decide +kernel
theorem dX5_firstOtherwise_25 : decode cX5_firstOtherwise 25 = .ok (.iaload, 1) := by decide +kernel
theorem dX5_firstOtherwise_26 : decode cX5_firstOtherwise 26 = .ok (.iaload, 1) := by decide +kernel
theorem dX5_firstOtherwise_27 : decode cX5_firstOtherwise 27 = .ok (.aload_n 0, 1) := by decide +kernel
theorem dX5_firstOtherwise_28 : decode cX5_firstOtherwise 28 = .ok (.getfield 30, 3) := by decide +kernel
theorem dX5_firstOtherwise_31 : decode cX5_firstOtherwise 31 = .ok (.iload_n 2, 1) := by decide +kernel
theorem dX5_firstOtherwise_32 : decode cX5_firstOtherwise 32 = .ok (.iaload, 1) := by decide +kernel
theorem dX5_firstOtherwise_33 : decode cX5_firstOtherwise 33 = .ok (.if_icmp .eq 5, 3) := by decide +kernel
theorem dX5_firstOtherwise_36 : decode cX5_firstOtherwise 36 = .ok (.iload_n 2, 1) := by decide +kernel
theorem dX5_firstOtherwise_37 : decode cX5_firstOtherwise 37 = .ok (.ireturn, 1) := by decide +kernel
theorem dX5_firstOtherwise_38 : decode cX5_firstOtherwise 38 = .ok (.iinc 2 1, 3) := by decide +kernel
theorem dX5_firstOtherwise_41 : decode cX5_firstOtherwise 41 = .ok (.goto (-39), 3) := by decide +kernel
theorem dX5_firstOtherwise_44 : decode cX5_firstOtherwise 44 = .ok (.bipush (-5), 2) := by decide +kernel
theorem dX5_firstOtherwise_46 : decode cX5_firstOtherwise 46 = .ok (.ireturn, 1) := by decide +kernel
theorem dX6_init_0 : decode cX6_init 0 = .ok (.aload_n 0, 1) := by decide +kernel
theorem dX6_init_1 : decode cX6_init 1 = .ok (.invokespecial 3, 3) := by decide +kernel
theorem dX6_init_4 : decode cX6_init 4 = .ok (.aload_n 0, 1) := by decide +kernel
theorem dX6_init_5 : decode cX6_init 5 = .ok (.sipush 700, 3) := by decide +kernel
theorem dX6_init_8 : decode cX6_init 8 = .ok (.newarray .byte, 2) := by decide +kernel
theorem dX6_init_10 : decode cX6_init 10 = .ok (.putfield 11, 3) := by decide +kernel
theorem dX6_init_13 : decode cX6_init 13 = .ok (.aload_n 0, 1) := by decide +kernel
theorem dX6_init_14 : decode cX6_init 14 = .ok (.bipush 7, 2) := by decide +kernel
theorem dX6_init_16 : decode cX6_init 16 = .ok (.newarray .int, 2) := by decide +kernel
theorem dX6_init_18 : decode cX6_init 18 = .ok (.putfield 15, 3) := by decide +kernel
theorem dX6_init_21 : decode cX6_init 21 = .ok (.aload_n 0, 1) := by decide +kernel
theorem dX6_init_22 : decode cX6_init 22 = .ok (.bipush 16, 2) := by decide +kernel
theorem dX6_init_24 : decode cX6_init 24 = .ok (.newarray .int, 2) := by decide +kernel
theorem dX6_init_26 : decode cX6_init 26 = .ok (.putfield 19, 3) := by decide +kernel
theorem dX6_init_29 : decode cX6_init 29 = .ok (.return_, 1) := by decide +kernel
theorem dX6_howMany_0 : decode cX6_howMany 0 = .ok (.aload_n 0, 1) := by decide +kernel
theorem dX6_howMany_1 : decode cX6_howMany 1 = .ok (.getfield 22, 3) := by decide +kernel
theorem dX6_howMany_4 : decode cX6_howMany 4 = .ok (.ireturn, 1) := by decide +kernel
theorem dX6_textLength_0 : decode cX6_textLength 0 = .ok (.aload_n 0, 1) := by decide +kernel
theorem dX6_textLength_1 : decode cX6_textLength 1 = .ok (.getfield 15, 3) := by decide +kernel
theorem dX6_textLength_4 : decode cX6_textLength 4 = .ok (.aload_n 0, 1) := by decide +kernel
theorem dX6_textLength_5 : decode cX6_textLength 5 = .ok (.getfield 22, 3) := by decide +kernel
theorem dX6_textLength_8 : decode cX6_textLength 8 = .ok (.iaload, 1) := by decide +kernel
theorem dX6_textLength_9 : decode cX6_textLength 9 = .ok (.ireturn, 1) := by decide +kernel
theorem dX6_addSign_0 : decode cX6_addSign 0 = .ok (.aload_n 0, 1) := by decide +kernel
theorem dX6_addSign_1 : decode cX6_addSign 1 = .ok (.getfield 15, 3) := by decide +kernel
theorem dX6_addSign_4 : decode cX6_addSign 4 = .ok (.aload_n 0, 1) := by decide +kernel
theorem dX6_addSign_5 : decode cX6_addSign 5 = .ok (.getfield 22, 3) := by decide +kernel
theorem dX6_addSign_8 : decode cX6_addSign 8 = .ok (.iaload, 1) := by decide +kernel
theorem dX6_addSign_9 : decode cX6_addSign 9 = .ok (.istore_n 2, 1) := by decide +kernel
theorem dX6_addSign_10 : decode cX6_addSign 10 = .ok (.iload_n 2, 1) := by decide +kernel
theorem dX6_addSign_11 : decode cX6_addSign 11 = .ok (.bipush 100, 2) := by decide +kernel
theorem dX6_addSign_13 : decode cX6_addSign 13 = .ok (.if_icmp .lt 5, 3) := by decide +kernel
theorem dX6_addSign_16 : decode cX6_addSign 16 = .ok (.iconst 0, 1) := by decide +kernel
theorem dX6_addSign_17 : decode cX6_addSign 17 = .ok (.ireturn, 1) := by decide +kernel
theorem dX6_addSign_18 : decode cX6_addSign 18 = .ok (.aload_n 0, 1) := by decide +kernel
theorem dX6_addSign_19 : decode cX6_addSign 19 = .ok (.getfield 11, 3) := by decide +kernel
theorem dX6_addSign_22 : decode cX6_addSign 22 = .ok (.aload_n 0, 1) := by decide +kernel
theorem dX6_addSign_23 : decode cX6_addSign 23 = .ok (.getfield 22, 3) := by decide +kernel
theorem dX6_addSign_26 : decode cX6_addSign 26 = .ok (.bipush 100, 2) := by decide +kernel
theorem dX6_addSign_28 : decode cX6_addSign 28 = .ok (.imul, 1) := by decide +kernel
theorem dX6_addSign_29 : decode cX6_addSign 29 = .ok (.iload_n 2, 1) := by decide +kernel
theorem dX6_addSign_30 : decode cX6_addSign 30 = .ok (.iadd, 1) := by decide +kernel
theorem dX6_addSign_31 : decode cX6_addSign 31 = .ok (.iload_n 1, 1) := by decide +kernel
theorem dX6_addSign_32 : decode cX6_addSign 32 = .ok (.bastore, 1) := by decide +kernel
theorem dX6_addSign_33 : decode cX6_addSign 33 = .ok (.aload_n 0, 1) := by decide +kernel
theorem dX6_addSign_34 : decode cX6_addSign 34 = .ok (.getfield 15, 3) := by decide +kernel
theorem dX6_addSign_37 : decode cX6_addSign 37 = .ok (.aload_n 0, 1) := by decide +kernel
theorem dX6_addSign_38 : decode cX6_addSign 38 = .ok (.getfield 22, 3) := by decide +kernel
theorem dX6_addSign_41 : decode cX6_addSign 41 = .ok (.iload_n 2, 1) := by decide +kernel
theorem dX6_addSign_42 : decode cX6_addSign 42 = .ok (.iconst 1, 1) := by decide +kernel
theorem dX6_addSign_43 : decode cX6_addSign 43 = .ok (.iadd, 1) := by decide +kernel
theorem dX6_addSign_44 : decode cX6_addSign 44 = .ok (.iastore, 1) := by decide +kernel
theorem dX6_addSign_45 : decode cX6_addSign 45 = .ok (.iconst 1, 1) := by decide +kernel
theorem dX6_addSign_46 : decode cX6_addSign 46 = .ok (.ireturn, 1) := by decide +kernel
theorem dX6_closeText_0 : decode cX6_closeText 0 = .ok (.aload_n 0, 1) := by decide +kernel
theorem dX6_closeText_1 : decode cX6_closeText 1 = .ok (.getfield 22, 3) := by decide +kernel
theorem dX6_closeText_4 : decode cX6_closeText 4 = .ok (.bipush 6, 2) := by decide +kernel
theorem dX6_closeText_6 : decode cX6_closeText 6 = .ok (.if_icmp .lt 6, 3) := by decide +kernel
theorem dX6_closeText_9 : decode cX6_closeText 9 = .ok (.bipush (-4), 2) := by decide +kernel
theorem dX6_closeText_11 : decode cX6_closeText 11 = .ok (.ireturn, 1) := by decide +kernel
theorem dX6_closeText_12 : decode cX6_closeText 12 = .ok (.aload_n 0, 1) := by decide +kernel
theorem dX6_closeText_13 : decode cX6_closeText 13 = .ok (.aload_n 0, 1) := by decide +kernel
theorem dX6_closeText_14 : decode cX6_closeText 14 = .ok (.getfield 22, 3) := by decide +kernel
theorem dX6_closeText_17 : decode cX6_closeText 17 = .ok (.iconst 0, 1) := by decide +kernel
theorem dX6_closeText_18 : decode cX6_closeText 18 = .ok (.iconst 0, 1) := by decide +kernel
theorem dX6_closeText_19 : decode cX6_closeText 19 = .ok (.iconst 0, 1) := by decide +kernel
theorem dX6_closeText_20 : decode cX6_closeText 20 = .ok (.invokevirtual 26, 3) := by decide +kernel
theorem dX6_closeText_23 : decode cX6_closeText 23 = .ok (.aload_n 0, 1) := by decide +kernel
theorem dX6_closeText_24 : decode cX6_closeText 24 = .ok (.getfield 30, 3) := by decide +kernel
theorem dX6_closeText_27 : decode cX6_closeText 27 = .ok (.ifCond .eq 21, 3) := by decide +kernel
theorem dX6_closeText_30 : decode cX6_closeText 30 = .ok (.aload_n 0, 1) := by decide +kernel
theorem dX6_closeText_31 : decode cX6_closeText 31 = .ok (.getfield 15, 3) := by decide +kernel
theorem dX6_closeText_34 : decode cX6_closeText 34 = .ok (.aload_n 0, 1) := by decide +kernel
theorem dX6_closeText_35 : decode cX6_closeText 35 = .ok (.getfield 22, 3) := by decide +kernel
theorem dX6_closeText_38 : decode cX6_closeText 38 = .ok (.iconst 0, 1) := by decide +kernel
theorem dX6_closeText_39 : decode cX6_closeText 39 = .ok (.iastore, 1) := by decide +kernel
theorem dX6_closeText_40 : decode cX6_closeText 40 = .ok (.bipush (-10), 2) := by decide +kernel
theorem dX6_closeText_42 : decode cX6_closeText 42 = .ok (.aload_n 0, 1) := by decide +kernel
theorem dX6_closeText_43 : decode cX6_closeText 43 = .ok (.getfield 34, 3) := by decide +kernel
theorem dX6_closeText_46 : decode cX6_closeText 46 = .ok (.isub, 1) := by decide +kernel
theorem dX6_closeText_47 : decode cX6_closeText 47 = .ok (.ireturn, 1) := by decide +kernel
theorem dX6_closeText_48 : decode cX6_closeText 48 = .ok (.aload_n 0, 1) := by decide +kernel
theorem dX6_closeText_49 : decode cX6_closeText 49 = .ok (.dup, 1) := by decide +kernel
theorem dX6_closeText_50 : decode cX6_closeText 50 = .ok (.getfield 22, 3) := by decide +kernel
theorem dX6_closeText_53 : decode cX6_closeText 53 = .ok (.iconst 1, 1) := by decide +kernel
theorem dX6_closeText_54 : decode cX6_closeText 54 = .ok (.iadd, 1) := by decide +kernel
theorem dX6_closeText_55 : decode cX6_closeText 55 = .ok (.putfield 22, 3) := by decide +kernel
theorem dX6_closeText_58 : decode cX6_closeText 58 = .ok (.aload_n 0, 1) := by decide +kernel
theorem dX6_closeText_59 : decode cX6_closeText 59 = .ok (.getfield 22, 3) := by decide +kernel
theorem dX6_closeText_62 : decode cX6_closeText 62 = .ok (.iconst 1, 1) := by decide +kernel
theorem dX6_closeText_63 : decode cX6_closeText 63 = .ok (.isub, 1) := by decide +kernel
theorem dX6_closeText_64 : decode cX6_closeText 64 = .ok (.ireturn, 1) := by decide +kernel
theorem dX6_baldAt_0 : decode cX6_baldAt 0 = .ok (.aload_n 0, 1) := by decide +kernel
theorem dX6_baldAt_1 : decode cX6_baldAt 1 = .ok (.getfield 37, 3) := by decide +kernel
theorem dX6_baldAt_4 : decode cX6_baldAt 4 = .ok (.ireturn, 1) := by decide +kernel
theorem dX6_copyYields_0 : decode cX6_copyYields 0 = .ok (.iconst 0, 1) := by decide +kernel
theorem dX6_copyYields_1 : decode cX6_copyYields 1 = .ok (.istore_n 3, 1) := by decide +kernel
theorem dX6_copyYields_2 : decode cX6_copyYields 2 = .ok (.iload_n 3, 1) := by decide +kernel
theorem dX6_copyYields_3 : decode cX6_copyYields 3 = .ok (.bipush 16, 2) := by decide +kernel
theorem dX6_copyYields_5 : decode cX6_copyYields 5 = .ok (.if_icmp .ge 27, 3) := by decide +kernel
theorem dX6_copyYields_8 : decode cX6_copyYields 8 = .ok (.aload_n 1, 1) := by decide +kernel
theorem dX6_copyYields_9 : decode cX6_copyYields 9 = .ok (.iload_n 2, 1) := by decide +kernel
theorem dX6_copyYields_10 : decode cX6_copyYields 10 = .ok (.bipush 16, 2) := by decide +kernel
theorem dX6_copyYields_12 : decode cX6_copyYields 12 = .ok (.imul, 1) := by decide +kernel
theorem dX6_copyYields_13 : decode cX6_copyYields 13 = .ok (.iload_n 3, 1) := by decide +kernel
theorem dX6_copyYields_14 : decode cX6_copyYields 14 = .ok (.iadd, 1) := by decide +kernel
theorem dX6_copyYields_15 : decode cX6_copyYields 15 = .ok (.iconst 0, 1) := by decide +kernel
theorem dX6_copyYields_16 : decode cX6_copyYields 16 = .ok (.aload_n 0, 1) := by decide +kernel
theorem dX6_copyYields_17 : decode cX6_copyYields 17 = .ok (.getfield 19, 3) := by decide +kernel
theorem dX6_copyYields_20 : decode cX6_copyYields 20 = .ok (.iload_n 3, 1) := by decide +kernel
theorem dX6_copyYields_21 : decode cX6_copyYields 21 = .ok (.iaload, 1) := by decide +kernel
theorem dX6_copyYields_22 : decode cX6_copyYields 22 = .ok (.invokestatic 40, 3) := by decide +kernel
theorem dX6_copyYields_25 : decode cX6_copyYields 25 = .ok (.iastore, 1) := by decide +kernel
theorem dX6_copyYields_26 : decode cX6_copyYields 26 = .ok (.iinc 3 1, 3) := by decide +kernel
theorem dX6_copyYields_29 : decode cX6_copyYields 29 = .ok (.goto (-27), 3) := by decide +kernel
theorem dX6_copyYields_32 : decode cX6_copyYields 32 = .ok (.return_, 1) := by decide +kernel
theorem dX6_readFor_0 : decode cX6_readFor 0 = .ok (.aload_n 0, 1) := by decide +kernel
theorem dX6_readFor_1 : decode cX6_readFor 1 = .ok (.iload_n 2, 1) := by decide +kernel
theorem dX6_readFor_2 : decode cX6_readFor 2 = .ok (.putfield 46, 3) := by decide +kernel
theorem dX6_readFor_5 : decode cX6_readFor 5 = .ok (.aload_n 0, 1) := by decide +kernel
theorem dX6_readFor_6 : decode cX6_readFor 6 = .ok (.iload_n 3, 1) := by decide +kernel
theorem dX6_readFor_7 : decode cX6_readFor 7 = .ok (.putfield 49, 3) := by decide +kernel
theorem dX6_readFor_10 : decode cX6_readFor 10 = .ok (.aload_n 0, 1) := by decide +kernel
theorem dX6_readFor_11 : decode cX6_readFor 11 = .ok (.iload 4, 2) := by decide +kernel
theorem dX6_readFor_13 : decode cX6_readFor 13 = .ok (.putfield 52, 3) := by decide +kernel
theorem dX6_readFor_16 : decode cX6_readFor 16 = .ok (.aload_n 0, 1) := by decide +kernel
theorem dX6_readFor_17 : decode cX6_readFor 17 = .ok (.iconst 0, 1) := by decide +kernel
theorem dX6_readFor_18 : decode cX6_readFor 18 = .ok (.putfield 34, 3) := by decide +kernel
theorem dX6_readFor_21 : decode cX6_readFor 21 = .ok (.aload_n 0, 1) := by decide +kernel
theorem dX6_readFor_22 : decode cX6_readFor 22 = .ok (.iconst 0, 1) := by decide +kernel
theorem dX6_readFor_23 : decode cX6_readFor 23 = .ok (.putfield 30, 3) := by decide +kernel
theorem dX6_readFor_26 : decode cX6_readFor 26 = .ok (.aload_n 0, 1) := by decide +kernel
theorem dX6_readFor_27 : decode cX6_readFor 27 = .ok (.bipush 30, 2) := by decide +kernel
theorem dX6_readFor_29 : decode cX6_readFor 29 = .ok (.putfield 37, 3) := by decide +kernel
theorem dX6_readFor_32 : decode cX6_readFor 32 = .ok (.iconst 0, 1) := by decide +kernel
theorem dX6_readFor_33 : decode cX6_readFor 33 = .ok (.istore 5, 2) := by decide +kernel
theorem dX6_readFor_35 : decode cX6_readFor 35 = .ok (.iload 5, 2) := by decide +kernel
theorem dX6_readFor_37 : decode cX6_readFor 37 = .ok (.bipush 16, 2) := by decide +kernel
theorem dX6_readFor_39 : decode cX6_readFor 39 = .ok (.if_icmp .ge 17, 3) := by decide +kernel
theorem dX6_readFor_42 : decode cX6_readFor 42 = .ok (.aload_n 0, 1) := by decide +kernel
theorem dX6_readFor_43 : decode cX6_readFor 43 = .ok (.getfield 19, 3) := by decide +kernel
theorem dX6_readFor_46 : decode cX6_readFor 46 = .ok (.iload 5, 2) := by decide +kernel
theorem dX6_readFor_48 : decode cX6_readFor 48 = .ok (.iconst 1, 1) := by decide +kernel
theorem dX6_readFor_49 : decode cX6_readFor 49 = .ok (.iastore, 1) := by decide +kernel
theorem dX6_readFor_50 : decode cX6_readFor 50 = .ok (.iinc 5 1, 3) := by decide +kernel
theorem dX6_readFor_53 : decode cX6_readFor 53 = .ok (.goto (-18), 3) := by decide +kernel
theorem dX6_readFor_56 : decode cX6_readFor 56 = .ok (.iload_n 1, 1) := by decide +kernel
theorem dX6_readFor_57 : decode cX6_readFor 57 = .ok (.ifCond .lt 9, 3) := by decide +kernel
theorem dX6_readFor_60 : decode cX6_readFor 60 = .ok (.iload_n 1, 1) := by decide +kernel
theorem dX6_readFor_61 : decode cX6_readFor 61 = .ok (.bipush 6, 2) := by decide +kernel
theorem dX6_readFor_63 : decode cX6_readFor 63 = .ok (.if_icmp .le 4, 3) := by decide +kernel
theorem dX6_readFor_66 : decode cX6_readFor 66 = .ok (.return_, 1) := by decide +kernel
theorem dX6_readFor_67 : decode cX6_readFor 67 = .ok (.aload_n 0, 1) := by decide +kernel
theorem dX6_readFor_68 : decode cX6_readFor 68 = .ok (.iload_n 1, 1) := by decide +kernel
theorem dX6_readFor_69 : decode cX6_readFor 69 = .ok (.bipush 100, 2) := by decide +kernel
theorem dX6_readFor_71 : decode cX6_readFor 71 = .ok (.imul, 1) := by decide +kernel
theorem dX6_readFor_72 : decode cX6_readFor 72 = .ok (.putfield 55, 3) := by decide +kernel
theorem dX6_readFor_75 : decode cX6_readFor 75 = .ok (.aload_n 0, 1) := by decide +kernel
theorem dX6_readFor_76 : decode cX6_readFor 76 = .ok (.aload_n 0, 1) := by decide +kernel
theorem dX6_readFor_77 : decode cX6_readFor 77 = .ok (.getfield 15, 3) := by decide +kernel
theorem dX6_readFor_80 : decode cX6_readFor 80 = .ok (.iload_n 1, 1) := by decide +kernel
theorem dX6_readFor_81 : decode cX6_readFor 81 = .ok (.iaload, 1) := by decide +kernel
theorem dX6_readFor_82 : decode cX6_readFor 82 = .ok (.putfield 58, 3) := by decide +kernel
theorem dX6_readFor_85 : decode cX6_readFor 85 = .ok (.aload_n 0, 1) := by decide +kernel
theorem dX6_readFor_86 : decode cX6_readFor 86 = .ok (.invokevirtual 61, 3) := by decide +kernel
theorem dX6_readFor_89 : decode cX6_readFor 89 = .ok (.iconst 1, 1) := by decide +kernel
theorem dX6_readFor_90 : decode cX6_readFor 90 = .ok (.istore 5, 2) := by decide +kernel
theorem dX6_readFor_92 : decode cX6_readFor 92 = .ok (.iload 5, 2) := by decide +kernel
theorem dX6_readFor_94 : decode cX6_readFor 94 = .ok (.bipush 10, 2) := by decide +kernel
theorem dX6_readFor_96 : decode cX6_readFor 96 = .ok (.if_icmp .ge 39, 3) := by decide +kernel
theorem dX6_readFor_99 : decode cX6_readFor 99 = .ok (.aload_n 0, 1) := by decide +kernel
theorem dX6_readFor_100 : decode cX6_readFor 100 = .ok (.getfield 30, 3) := by decide +kernel
theorem dX6_readFor_103 : decode cX6_readFor 103 = .ok (.ifCond .ne 32, 3) := by decide +kernel
theorem dX6_readFor_106 : decode cX6_readFor 106 = .ok (.aload_n 0, 1) := by decide +kernel
theorem dX6_readFor_107 : decode cX6_readFor 107 = .ok (.invokevirtual 64, 3) := by decide +kernel
theorem dX6_readFor_110 : decode cX6_readFor 110 = .ok (.bipush 59, 2) := by decide +kernel
theorem dX6_readFor_112 : decode cX6_readFor 112 = .ok (.if_icmp .ne 23, 3) := by decide +kernel
theorem dX6_readFor_115 : decode cX6_readFor 115 = .ok (.aload_n 0, 1) := by decide +kernel
theorem dX6_readFor_116 : decode cX6_readFor 116 = .ok (.dup, 1) := by decide +kernel
theorem dX6_readFor_117 : decode cX6_readFor 117 = .ok (.getfield 34, 3) := by decide +kernel
theorem dX6_readFor_120 : decode cX6_readFor 120 = .ok (.iconst 1, 1) := by decide +kernel
theorem dX6_readFor_121 : decode cX6_readFor 121 = .ok (.iadd, 1) := by decide +kernel
theorem dX6_readFor_122 : decode cX6_readFor 122 = .ok (.putfield 34, 3) := by decide +kernel
theorem dX6_readFor_125 : decode cX6_readFor 125 = .ok (.aload_n 0, 1) := by decide +kernel
theorem dX6_readFor_126 : decode cX6_readFor 126 = .ok (.invokevirtual 61, 3) := by decide +kernel
theorem dX6_readFor_129 : decode cX6_readFor 129 = .ok (.iinc 5 1, 3) := by decide +kernel
theorem dX6_readFor_132 : decode cX6_readFor 132 = .ok (.goto (-40), 3) := by decide +kernel
theorem dX6_readFor_135 : decode cX6_readFor 135 = .ok (.aload_n 0, 1) := by decide +kernel
theorem dX6_readFor_136 : decode cX6_readFor 136 = .ok (.getfield 34, 3) := by decide +kernel
theorem dX6_readFor_139 : decode cX6_readFor 139 = .ok (.aload_n 0, 1) := by decide +kernel
theorem dX6_readFor_140 : decode cX6_readFor 140 = .ok (.getfield 58, 3) := by decide +kernel
theorem dX6_readFor_143 : decode cX6_readFor 143 = .ok (.if_icmp .ge 8, 3) := by decide +kernel
theorem dX6_readFor_146 : decode cX6_readFor 146 = .ok (.aload_n 0, 1) := by decide +kernel
theorem dX6_readFor_147 : decode cX6_readFor 147 = .ok (.iconst 1, 1) := by decide +kernel
theorem dX6_readFor_148 : decode cX6_readFor 148 = .ok (.putfield 30, 3) := by decide +kernel
theorem dX6_readFor_151 : decode cX6_readFor 151 = .ok (.return_, 1) := by decide +kernel
theorem dX6_clause_0 : decode cX6_clause 0 = .ok (.aload_n 0, 1) := by decide +kernel
theorem dX6_clause_1 : decode cX6_clause 1 = .ok (.invokevirtual 64, 3) := by decide +kernel
theorem dX6_clause_4 : decode cX6_clause 4 = .ok (.bipush 98, 2) := by decide +kernel
theorem dX6_clause_6 : decode cX6_clause 6 = .ok (.if_icmp .ne 18, 3) := by decide +kernel
theorem dX6_clause_9 : decode cX6_clause 9 = .ok (.aload_n 0, 1) := by decide +kernel
theorem dX6_clause_10 : decode cX6_clause 10 = .ok (.ldc 68, 2) := by decide +kernel
theorem dX6_clause_12 : decode cX6_clause 12 = .ok (.invokevirtual 70, 3) := by decide +kernel
theorem dX6_clause_15 : decode cX6_clause 15 = .ok (.aload_n 0, 1) := by decide +kernel
theorem dX6_clause_16 : decode cX6_clause 16 = .ok (.aload_n 0, 1) := by decide +kernel
theorem dX6_clause_17 : decode cX6_clause 17 = .ok (.invokevirtual 74, 3) := by decide +kernel
theorem dX6_clause_20 : decode cX6_clause 20 = .ok (.putfield 37, 3) := by decide +kernel
theorem dX6_clause_23 : decode cX6_clause 23 = .ok (.return_, 1) := by decide +kernel
theorem dX6_clause_24 : decode cX6_clause 24 = .ok (.aload_n 0, 1) := by decide +kernel
theorem dX6_clause_25 : decode cX6_clause 25 = .ok (.invokevirtual 64, 3) := by decide +kernel
theorem dX6_clause_28 : decode cX6_clause 28 = .ok (.bipush 104, 2) := by decide +kernel
theorem dX6_clause_30 : decode cX6_clause 30 = .ok (.if_icmp .ne 7, 3) := by decide +kernel
theorem dX6_clause_33 : decode cX6_clause 33 = .ok (.iconst (-1), 1) := by decide +kernel
theorem dX6_clause_34 : decode cX6_clause 34 = .ok (.goto 4, 3) := by decide +kernel
theorem dX6_clause_37 : decode cX6_clause 37 = .ok (.iconst 1, 1) := by decide +kernel
theorem dX6_clause_38 : decode cX6_clause 38 = .ok (.istore_n 1, 1) := by decide +kernel
theorem dX6_clause_39 : decode cX6_clause 39 = .ok (.aload_n 0, 1) := by decide +kernel
theorem dX6_clause_40 : decode cX6_clause 40 = .ok (.iload_n 1, 1) := by decide +kernel
theorem dX6_clause_41 : decode cX6_clause 41 = .ok (.ifCond .ge 8, 3) := by decide +kernel
theorem dX6_clause_44 : decode cX6_clause 44 = .ok (.ldc 77, 2) := by decide +kernel
theorem dX6_clause_46 : decode cX6_clause 46 = .ok (.goto 5, 3) := by decide +kernel
theorem dX6_clause_49 : decode cX6_clause 49 = .ok (.ldc 79, 2) := by decide +kernel
theorem dX6_clause_51 : decode cX6_clause 51 = .ok (.invokevirtual 70, 3) := by decide +kernel
theorem dX6_clause_54 : decode cX6_clause 54 = .ok (.aload_n 0, 1) := by decide +kernel
theorem dX6_clause_55 : decode cX6_clause 55 = .ok (.invokevirtual 74, 3) := by decide +kernel
theorem dX6_clause_58 : decode cX6_clause 58 = .ok (.istore_n 2, 1) := by decide +kernel
theorem dX6_clause_59 : decode cX6_clause 59 = .ok (.aload_n 0, 1) := by decide +kernel
theorem dX6_clause_60 : decode cX6_clause 60 = .ok (.ldc 81, 2) := by decide +kernel
theorem dX6_clause_62 : decode cX6_clause 62 = .ok (.invokevirtual 70, 3) := by decide +kernel
theorem dX6_clause_65 : decode cX6_clause 65 = .ok (.aload_n 0, 1) := by decide +kernel
theorem dX6_clause_66 : decode cX6_clause 66 = .ok (.iconst 0, 1) := by decide +kernel
theorem dX6_clause_67 : decode cX6_clause 67 = .ok (.invokevirtual 83, 3) := by decide +kernel
theorem dX6_clause_70 : decode cX6_clause 70 = .ok (.istore_n 3, 1) := by decide +kernel
theorem dX6_clause_71 : decode cX6_clause 71 = .ok (.iconst 0, 1) := by decide +kernel
theorem dX6_clause_72 : decode cX6_clause 72 = .ok (.istore 4, 2) := by decide +kernel
theorem dX6_clause_74 : decode cX6_clause 74 = .ok (.iload 4, 2) := by decide +kernel
theorem dX6_clause_76 : decode cX6_clause 76 = .ok (.bipush 16, 2) := by decide +kernel
theorem dX6_clause_78 : decode cX6_clause 78 = .ok (.if_icmp .ge 31, 3) := by decide +kernel
theorem dX6_clause_81 : decode cX6_clause 81 = .ok (.iload_n 3, 1) := by decide +kernel
theorem dX6_clause_82 : decode cX6_clause 82 = .ok (.iload 4, 2) := by decide +kernel
theorem dX6_clause_84 : decode cX6_clause 84 = .ok (.invokestatic 87, 3) := by decide +kernel
theorem dX6_clause_87 : decode cX6_clause 87 = .ok (.ifCond .eq 16, 3) := by decide +kernel
theorem dX6_clause_90 : decode cX6_clause 90 = .ok (.aload_n 0, 1) := by decide +kernel
theorem dX6_clause_91 : decode cX6_clause 91 = .ok (.getfield 19, 3) := by decide +kernel
theorem dX6_clause_94 : decode cX6_clause 94 = .ok (.iload 4, 2) := by decide +kernel
theorem dX6_clause_96 : decode cX6_clause 96 = .ok (.dup2, 1) := by decide +kernel
theorem dX6_clause_97 : decode cX6_clause 97 = .ok (.iaload, 1) := by decide +kernel
theorem dX6_clause_98 : decode cX6_clause 98 = .ok (.iload_n 1, 1) := by decide +kernel
theorem dX6_clause_99 : decode cX6_clause 99 = .ok (.iload_n 2, 1) := by decide +kernel
theorem dX6_clause_100 : decode cX6_clause 100 = .ok (.imul, 1) := by decide +kernel
theorem dX6_clause_101 : decode cX6_clause 101 = .ok (.iadd, 1) := by decide +kernel
theorem dX6_clause_102 : decode cX6_clause 102 = .ok (.iastore, 1) := by decide +kernel
theorem dX6_clause_103 : decode cX6_clause 103 = .ok (.iinc 4 1, 3) := by decide +kernel
theorem dX6_clause_106 : decode cX6_clause 106 = .ok (.goto (-32), 3) := by decide +kernel
theorem dX6_clause_109 : decode cX6_clause 109 = .ok (.return_, 1) := by decide +kernel
theorem dX6_expression_0 : decode cX6_expression 0 = .ok (.iconst 0, 1) := by decide +kernel
theorem dX6_expression_1 : decode cX6_expression 1 = .ok (.istore_n 2, 1) := by decide +kernel
theorem dX6_expression_2 : decode cX6_expression 2 = .ok (.ldc 93, 2) := by decide +kernel
theorem dX6_expression_4 : decode cX6_expression 4 = .ok (.istore_n 3, 1) := by decide +kernel
theorem dX6_expression_5 : decode cX6_expression 5 = .ok (.iconst 0, 1) := by decide +kernel
theorem dX6_expression_6 : decode cX6_expression 6 = .ok (.istore 4, 2) := by decide +kernel
theorem dX6_expression_8 : decode cX6_expression 8 = .ok (.iload 4, 2) := by decide +kernel
theorem dX6_expression_10 : decode cX6_expression 10 = .ok (.bipush 100, 2) := by decide +kernel
theorem dX6_expression_12 : decode cX6_expression 12 = .ok (.if_icmp .ge 78, 3) := by decide +kernel
theorem dX6_expression_15 : decode cX6_expression 15 = .ok (.aload_n 0, 1) := by decide +kernel
theorem dX6_expression_16 : decode cX6_expression 16 = .ok (.getfield 30, 3) := by decide +kernel
theorem dX6_expression_19 : decode cX6_expression 19 = .ok (.ifCond .ne 71, 3) := by decide +kernel
theorem dX6_expression_22 : decode cX6_expression 22 = .ok (.iload_n 3, 1) := by decide +kernel
theorem dX6_expression_23 : decode cX6_expression 23 = .ok (.aload_n 0, 1) := by decide +kernel
theorem dX6_expression_24 : decode cX6_expression 24 = .ok (.iload_n 1, 1) := by decide +kernel
theorem dX6_expression_25 : decode cX6_expression 25 = .ok (.invokevirtual 94, 3) := by decide +kernel
theorem dX6_expression_28 : decode cX6_expression 28 = .ok (.iand, 1) := by decide +kernel
theorem dX6_expression_29 : decode cX6_expression 29 = .ok (.istore_n 3, 1) := by decide +kernel
theorem dX6_expression_30 : decode cX6_expression 30 = .ok (.aload_n 0, 1) := by decide +kernel
theorem dX6_expression_31 : decode cX6_expression 31 = .ok (.invokevirtual 64, 3) := by decide +kernel
theorem dX6_expression_34 : decode cX6_expression 34 = .ok (.istore 5, 2) := by decide +kernel
theorem dX6_expression_36 : decode cX6_expression 36 = .ok (.aload_n 0, 1) := by decide +kernel
theorem dX6_expression_37 : decode cX6_expression 37 = .ok (.getfield 30, 3) := by decide +kernel
theorem dX6_expression_40 : decode cX6_expression 40 = .ok (.ifCond .ne 50, 3) := by decide +kernel
theorem dX6_expression_43 : decode cX6_expression 43 = .ok (.iload 5, 2) := by decide +kernel
theorem dX6_expression_45 : decode cX6_expression 45 = .ok (.bipush 124, 2) := by decide +kernel
theorem dX6_expression_47 : decode cX6_expression 47 = .ok (.if_icmp .eq 13, 3) := by decide +kernel
theorem dX6_expression_50 : decode cX6_expression 50 = .ok (.iload 5, 2) := by decide +kernel
theorem dX6_expression_52 : decode cX6_expression 52 = .ok (.bipush 38, 2) := by decide +kernel
theorem dX6_expression_54 : decode cX6_expression 54 = .ok (.if_icmp .eq 6, 3) := by decide +kernel
theorem dX6_expression_57 : decode cX6_expression 57 = .ok (.goto 33, 3) := by decide +kernel
theorem dX6_expression_60 : decode cX6_expression 60 = .ok (.iload 5, 2) := by decide +kernel
theorem dX6_expression_62 : decode cX6_expression 62 = .ok (.bipush 124, 2) := by decide +kernel
theorem dX6_expression_64 : decode cX6_expression 64 = .ok (.if_icmp .ne 10, 3) := by decide +kernel
theorem dX6_expression_67 : decode cX6_expression 67 = .ok (.iload_n 2, 1) := by decide +kernel
theorem dX6_expression_68 : decode cX6_expression 68 = .ok (.iload_n 3, 1) := by decide +kernel
theorem dX6_expression_69 : decode cX6_expression 69 = .ok (.ior, 1) := by decide +kernel
theorem dX6_expression_70 : decode cX6_expression 70 = .ok (.istore_n 2, 1) := by decide +kernel
theorem dX6_expression_71 : decode cX6_expression 71 = .ok (.ldc 93, 2) := by decide +kernel
theorem dX6_expression_73 : decode cX6_expression 73 = .ok (.istore_n 3, 1) := by decide +kernel
theorem dX6_expression_74 : decode cX6_expression 74 = .ok (.aload_n 0, 1) := by decide +kernel
theorem dX6_expression_75 : decode cX6_expression 75 = .ok (.dup, 1) := by decide +kernel
theorem dX6_expression_76 : decode cX6_expression 76 = .ok (.getfield 34, 3) := by decide +kernel
theorem dX6_expression_79 : decode cX6_expression 79 = .ok (.iconst 1, 1) := by decide +kernel
theorem dX6_expression_80 : decode cX6_expression 80 = .ok (.iadd, 1) := by decide +kernel
theorem dX6_expression_81 : decode cX6_expression 81 = .ok (.putfield 34, 3) := by decide +kernel
theorem dX6_expression_84 : decode cX6_expression 84 = .ok (.iinc 4 1, 3) := by decide +kernel
theorem dX6_expression_87 : decode cX6_expression 87 = .ok (.goto (-79), 3) := by decide +kernel
theorem dX6_expression_90 : decode cX6_expression 90 = .ok (.iload_n 2, 1) := by decide +kernel
theorem dX6_expression_91 : decode cX6_expression 91 = .ok (.iload_n 3, 1) := by decide +kernel
theorem dX6_expression_92 : decode cX6_expression 92 = .ok (.ior, 1) := by decide +kernel
theorem dX6_expression_93 : decode cX6_expression 93 = .ok (.ireturn, 1) := by decide +kernel
theorem dX6_factor_0 : decode cX6_factor 0 = .ok (.iload_n 1, 1) := by decide +kernel
theorem dX6_factor_1 : decode cX6_factor 1 = .ok (.istore_n 2, 1) := by decide +kernel
theorem dX6_factor_2 : decode cX6_factor 2 = .ok (.iconst 0, 1) := by decide +kernel
theorem dX6_factor_3 : decode cX6_factor 3 = .ok (.istore_n 3, 1) := by decide +kernel
theorem dX6_factor_4 : decode cX6_factor 4 = .ok (.iconst 0, 1) := by decide +kernel
theorem dX6_factor_5 : decode cX6_factor 5 = .ok (.istore 4, 2) := by decide +kernel
theorem dX6_factor_7 : decode cX6_factor 7 = .ok (.iload 4, 2) := by decide +kernel
theorem dX6_factor_9 : decode cX6_factor 9 = .ok (.iconst 4, 1) := by decide +kernel
theorem dX6_factor_10 : decode cX6_factor 10 = .ok (.if_icmp .ge 46, 3) := by decide +kernel
theorem dX6_factor_13 : decode cX6_factor 13 = .ok (.iload_n 2, 1) := by decide +kernel
theorem dX6_factor_14 : decode cX6_factor 14 = .ok (.iconst 4, 1) := by decide +kernel
theorem dX6_factor_15 : decode cX6_factor 15 = .ok (.if_icmp .ge 41, 3) := by decide +kernel
theorem dX6_factor_18 : decode cX6_factor 18 = .ok (.aload_n 0, 1) := by decide +kernel
theorem dX6_factor_19 : decode cX6_factor 19 = .ok (.invokevirtual 64, 3) := by decide +kernel
theorem dX6_factor_22 : decode cX6_factor 22 = .ok (.bipush 33, 2) := by decide +kernel
theorem dX6_factor_24 : decode cX6_factor 24 = .ok (.if_icmp .ne 32, 3) := by decide +kernel
theorem dX6_factor_27 : decode cX6_factor 27 = .ok (.aload_n 0, 1) := by decide +kernel
theorem dX6_factor_28 : decode cX6_factor 28 = .ok (.dup, 1) := by decide +kernel
theorem dX6_factor_29 : decode cX6_factor 29 = .ok (.getfield 34, 3) := by decide +kernel
theorem dX6_factor_32 : decode cX6_factor 32 = .ok (.iconst 1, 1) := by decide +kernel
theorem dX6_factor_33 : decode cX6_factor 33 = .ok (.iadd, 1) := by decide +kernel
theorem dX6_factor_34 : decode cX6_factor 34 = .ok (.putfield 34, 3) := by decide +kernel
theorem dX6_factor_37 : decode cX6_factor 37 = .ok (.iinc 2 1, 3) := by decide +kernel
theorem dX6_factor_40 : decode cX6_factor 40 = .ok (.iload_n 3, 1) := by decide +kernel
theorem dX6_factor_41 : decode cX6_factor 41 = .ok (.ifCond .ne 7, 3) := by decide +kernel
theorem dX6_factor_44 : decode cX6_factor 44 = .ok (.iconst 1, 1) := by decide +kernel
theorem dX6_factor_45 : decode cX6_factor 45 = .ok (.goto 4, 3) := by decide +kernel
theorem dX6_factor_48 : decode cX6_factor 48 = .ok (.iconst 0, 1) := by decide +kernel
theorem dX6_factor_49 : decode cX6_factor 49 = .ok (.istore_n 3, 1) := by decide +kernel
theorem dX6_factor_50 : decode cX6_factor 50 = .ok (.iinc 4 1, 3) := by decide +kernel
theorem dX6_factor_53 : decode cX6_factor 53 = .ok (.goto (-46), 3) := by decide +kernel
theorem dX6_factor_56 : decode cX6_factor 56 = .ok (.aload_n 0, 1) := by decide +kernel
theorem dX6_factor_57 : decode cX6_factor 57 = .ok (.invokevirtual 64, 3) := by decide +kernel
theorem dX6_factor_60 : decode cX6_factor 60 = .ok (.bipush 40, 2) := by decide +kernel
theorem dX6_factor_62 : decode cX6_factor 62 = .ok (.if_icmp .ne 36, 3) := by decide +kernel
theorem dX6_factor_65 : decode cX6_factor 65 = .ok (.iload_n 2, 1) := by decide +kernel
theorem dX6_factor_66 : decode cX6_factor 66 = .ok (.iconst 4, 1) := by decide +kernel
theorem dX6_factor_67 : decode cX6_factor 67 = .ok (.if_icmp .ge 31, 3) := by decide +kernel
theorem dX6_factor_70 : decode cX6_factor 70 = .ok (.aload_n 0, 1) := by decide +kernel
theorem dX6_factor_71 : decode cX6_factor 71 = .ok (.dup, 1) := by decide +kernel
theorem dX6_factor_72 : decode cX6_factor 72 = .ok (.getfield 34, 3) := by decide +kernel
theorem dX6_factor_75 : decode cX6_factor 75 = .ok (.iconst 1, 1) := by decide +kernel
theorem dX6_factor_76 : decode cX6_factor 76 = .ok (.iadd, 1) := by decide +kernel
theorem dX6_factor_77 : decode cX6_factor 77 = .ok (.putfield 34, 3) := by decide +kernel
theorem dX6_factor_80 : decode cX6_factor 80 = .ok (.aload_n 0, 1) := by decide +kernel
theorem dX6_factor_81 : decode cX6_factor 81 = .ok (.iload_n 2, 1) := by decide +kernel
theorem dX6_factor_82 : decode cX6_factor 82 = .ok (.iconst 1, 1) := by decide +kernel
theorem dX6_factor_83 : decode cX6_factor 83 = .ok (.iadd, 1) := by decide +kernel
theorem dX6_factor_84 : decode cX6_factor 84 = .ok (.invokevirtual 83, 3) := by decide +kernel
theorem dX6_factor_87 : decode cX6_factor 87 = .ok (.istore 4, 2) := by decide +kernel
theorem dX6_factor_89 : decode cX6_factor 89 = .ok (.aload_n 0, 1) := by decide +kernel
theorem dX6_factor_90 : decode cX6_factor 90 = .ok (.ldc 97, 2) := by decide +kernel
theorem dX6_factor_92 : decode cX6_factor 92 = .ok (.invokevirtual 70, 3) := by decide +kernel
theorem dX6_factor_95 : decode cX6_factor 95 = .ok (.goto 9, 3) := by decide +kernel
theorem dX6_factor_98 : decode cX6_factor 98 = .ok (.aload_n 0, 1) := by decide +kernel
theorem dX6_factor_99 : decode cX6_factor 99 = .ok (.invokevirtual 99, 3) := by decide +kernel
theorem dX6_factor_102 : decode cX6_factor 102 = .ok (.istore 4, 2) := by decide +kernel
theorem dX6_factor_104 : decode cX6_factor 104 = .ok (.iload_n 3, 1) := by decide +kernel
theorem dX6_factor_105 : decode cX6_factor 105 = .ok (.ifCond .eq 13, 3) := by decide +kernel
theorem dX6_factor_108 : decode cX6_factor 108 = .ok (.ldc 93, 2) := by decide +kernel
theorem dX6_factor_110 : decode cX6_factor 110 = .ok (.iload 4, 2) := by decide +kernel
theorem dX6_factor_112 : decode cX6_factor 112 = .ok (.iconst (-1), 1) := by decide +kernel
theorem dX6_factor_113 : decode cX6_factor 113 = .ok (.ixor, 1) := by decide +kernel
theorem dX6_factor_114 : decode cX6_factor 114 = .ok (.iand, 1) := by decide +kernel
theorem dX6_factor_115 : decode cX6_factor 115 = .ok (.goto 5, 3) := by decide +kernel
theorem dX6_factor_118 : decode cX6_factor 118 = .ok (.iload 4, 2) := by decide +kernel
theorem dX6_factor_120 : decode cX6_factor 120 = .ok (.ireturn, 1) := by decide +kernel
theorem dX6_test_0 : decode cX6_test 0 = .ok (.aload_n 0, 1) := by decide +kernel
theorem dX6_test_1 : decode cX6_test 1 = .ok (.invokevirtual 64, 3) := by decide +kernel
theorem dX6_test_4 : decode cX6_test 4 = .ok (.istore_n 1, 1) := by decide +kernel
theorem dX6_test_5 : decode cX6_test 5 = .ok (.iload_n 1, 1) := by decide +kernel
theorem dX6_test_6 : decode cX6_test 6 = .ok (.invokestatic 102, 3) := by decide +kernel
theorem dX6_test_9 : decode cX6_test 9 = .ok (.ifCond .ne 8, 3) := by decide +kernel
theorem dX6_test_12 : decode cX6_test 12 = .ok (.aload_n 0, 1) := by decide +kernel
theorem dX6_test_13 : decode cX6_test 13 = .ok (.invokevirtual 106, 3) := by decide +kernel
theorem dX6_test_16 : decode cX6_test 16 = .ok (.ireturn, 1) := by decide +kernel
theorem dX6_test_17 : decode cX6_test 17 = .ok (.aload_n 0, 1) := by decide +kernel
theorem dX6_test_18 : decode cX6_test 18 = .ok (.dup, 1) := by decide +kernel
theorem dX6_test_19 : decode cX6_test 19 = .ok (.getfield 34, 3) := by decide +kernel
theorem dX6_test_22 : decode cX6_test 22 = .ok (.iconst 1, 1) := by decide +kernel
theorem dX6_test_23 : decode cX6_test 23 = .ok (.iadd, 1) := by decide +kernel
theorem dX6_test_24 : decode cX6_test 24 = .ok (.putfield 34, 3) := by decide +kernel
theorem dX6_test_27 : decode cX6_test 27 = .ok (.aload_n 0, 1) := by decide +kernel
theorem dX6_test_28 : decode cX6_test 28 = .ok (.invokevirtual 64, 3) := by decide +kernel
theorem dX6_test_31 : decode cX6_test 31 = .ok (.istore_n 2, 1) := by decide +kernel
theorem dX6_test_32 : decode cX6_test 32 = .ok (.iload_n 2, 1) := by decide +kernel
theorem dX6_test_33 : decode cX6_test 33 = .ok (.bipush 60, 2) := by decide +kernel
theorem dX6_test_35 : decode cX6_test 35 = .ok (.if_icmp .eq 20, 3) := by decide +kernel
theorem dX6_test_38 : decode cX6_test 38 = .ok (.iload_n 2, 1) := by decide +kernel
theorem dX6_test_39 : decode cX6_test 39 = .ok (.bipush 61, 2) := by decide +kernel
theorem dX6_test_41 : decode cX6_test 41 = .ok (.if_icmp .eq 14, 3) := by decide +kernel
theorem dX6_test_44 : decode cX6_test 44 = .ok (.iload_n 2, 1) := by decide +kernel
theorem dX6_test_45 : decode cX6_test 45 = .ok (.bipush 62, 2) := by decide +kernel
theorem dX6_test_47 : decode cX6_test 47 = .ok (.if_icmp .eq 8, 3) := by decide +kernel
theorem dX6_test_50 : decode cX6_test 50 = .ok (.aload_n 0, 1) := by decide +kernel
theorem dX6_test_51 : decode cX6_test 51 = .ok (.invokevirtual 106, 3) := by decide +kernel
theorem dX6_test_54 : decode cX6_test 54 = .ok (.ireturn, 1) := by decide +kernel
theorem dX6_test_55 : decode cX6_test 55 = .ok (.aload_n 0, 1) := by decide +kernel
theorem dX6_test_56 : decode cX6_test 56 = .ok (.dup, 1) := by decide +kernel
theorem dX6_test_57 : decode cX6_test 57 = .ok (.getfield 34, 3) := by decide +kernel
theorem dX6_test_60 : decode cX6_test 60 = .ok (.iconst 1, 1) := by decide +kernel
theorem dX6_test_61 : decode cX6_test 61 = .ok (.iadd, 1) := by decide +kernel
theorem dX6_test_62 : decode cX6_test 62 = .ok (.putfield 34, 3) := by decide +kernel
theorem dX6_test_65 : decode cX6_test 65 = .ok (.aload_n 0, 1) := by decide +kernel
theorem dX6_test_66 : decode cX6_test 66 = .ok (.invokevirtual 74, 3) := by decide +kernel
theorem dX6_test_69 : decode cX6_test 69 = .ok (.istore_n 3, 1) := by decide +kernel
theorem dX6_test_70 : decode cX6_test 70 = .ok (.iconst 0, 1) := by decide +kernel
theorem dX6_test_71 : decode cX6_test 71 = .ok (.istore 4, 2) := by decide +kernel
theorem dX6_test_73 : decode cX6_test 73 = .ok (.iconst 0, 1) := by decide +kernel
theorem dX6_test_74 : decode cX6_test 74 = .ok (.istore 5, 2) := by decide +kernel
theorem dX6_test_76 : decode cX6_test 76 = .ok (.iload 5, 2) := by decide +kernel
theorem dX6_test_78 : decode cX6_test 78 = .ok (.bipush 16, 2) := by decide +kernel
theorem dX6_test_80 : decode cX6_test 80 = .ok (.if_icmp .ge 63, 3) := by decide +kernel
theorem dX6_test_83 : decode cX6_test 83 = .ok (.aload_n 0, 1) := by decide +kernel
theorem dX6_test_84 : decode cX6_test 84 = .ok (.iload_n 1, 1) := by decide +kernel
theorem dX6_test_85 : decode cX6_test 85 = .ok (.iload 5, 2) := by decide +kernel
theorem dX6_test_87 : decode cX6_test 87 = .ok (.invokevirtual 109, 3) := by decide +kernel
theorem dX6_test_90 : decode cX6_test 90 = .ok (.istore 6, 2) := by decide +kernel
theorem dX6_test_92 : decode cX6_test 92 = .ok (.iload_n 2, 1) := by decide +kernel
theorem dX6_test_93 : decode cX6_test 93 = .ok (.bipush 60, 2) := by decide +kernel
theorem dX6_test_95 : decode cX6_test 95 = .ok (.if_icmp .ne 12, 3) := by decide +kernel
theorem dX6_test_98 : decode cX6_test 98 = .ok (.iload 6, 2) := by decide +kernel
theorem dX6_test_100 : decode cX6_test 100 = .ok (.iload_n 3, 1) := by decide +kernel
theorem dX6_test_101 : decode cX6_test 101 = .ok (.if_icmp .ge 36, 3) := by decide +kernel
theorem dX6_test_104 : decode cX6_test 104 = .ok (.goto 24, 3) := by decide +kernel
theorem dX6_test_107 : decode cX6_test 107 = .ok (.iload_n 2, 1) := by decide +kernel
theorem dX6_test_108 : decode cX6_test 108 = .ok (.bipush 62, 2) := by decide +kernel
theorem dX6_test_110 : decode cX6_test 110 = .ok (.if_icmp .ne 12, 3) := by decide +kernel
theorem dX6_test_113 : decode cX6_test 113 = .ok (.iload 6, 2) := by decide +kernel
theorem dX6_test_115 : decode cX6_test 115 = .ok (.iload_n 3, 1) := by decide +kernel
theorem dX6_test_116 : decode cX6_test 116 = .ok (.if_icmp .le 21, 3) := by decide +kernel
theorem dX6_test_119 : decode cX6_test 119 = .ok (.goto 9, 3) := by decide +kernel
theorem dX6_test_122 : decode cX6_test 122 = .ok (.iload 6, 2) := by decide +kernel
theorem dX6_test_124 : decode cX6_test 124 = .ok (.iload_n 3, 1) := by decide +kernel
theorem dX6_test_125 : decode cX6_test 125 = .ok (.if_icmp .ne 12, 3) := by decide +kernel
theorem dX6_test_128 : decode cX6_test 128 = .ok (.iload 4, 2) := by decide +kernel
theorem dX6_test_130 : decode cX6_test 130 = .ok (.iconst 1, 1) := by decide +kernel
theorem dX6_test_131 : decode cX6_test 131 = .ok (.iload 5, 2) := by decide +kernel
theorem dX6_test_133 : decode cX6_test 133 = .ok (.ishl, 1) := by decide +kernel
theorem dX6_test_134 : decode cX6_test 134 = .ok (.ior, 1) := by decide +kernel
theorem dX6_test_135 : decode cX6_test 135 = .ok (.istore 4, 2) := by decide +kernel
theorem dX6_test_137 : decode cX6_test 137 = .ok (.iinc 5 1, 3) := by decide +kernel
theorem dX6_test_140 : decode cX6_test 140 = .ok (.goto (-64), 3) := by decide +kernel
theorem dX6_test_143 : decode cX6_test 143 = .ok (.iload 4, 2) := by decide +kernel
theorem dX6_test_145 : decode cX6_test 145 = .ok (.ireturn, 1) := by decide +kernel
theorem dX6_isLetter_0 : decode cX6_isLetter 0 = .ok (.iload_n 0, 1) := by decide +kernel
theorem dX6_isLetter_1 : decode cX6_isLetter 1 = .ok (.bipush 99, 2) := by decide +kernel
theorem dX6_isLetter_3 : decode cX6_isLetter 3 = .ok (.if_icmp .eq 33, 3) := by decide +kernel
theorem dX6_isLetter_6 : decode cX6_isLetter 6 = .ok (.iload_n 0, 1) := by decide +kernel
theorem dX6_isLetter_7 : decode cX6_isLetter 7 = .ok (.bipush 114, 2) := by decide +kernel
theorem dX6_isLetter_9 : decode cX6_isLetter 9 = .ok (.if_icmp .eq 27, 3) := by decide +kernel
theorem dX6_isLetter_12 : decode cX6_isLetter 12 = .ok (.iload_n 0, 1) := by decide +kernel
theorem dX6_isLetter_13 : decode cX6_isLetter 13 = .ok (.bipush 120, 2) := by decide +kernel
theorem dX6_isLetter_15 : decode cX6_isLetter 15 = .ok (.if_icmp .eq 21, 3) := by decide +kernel
theorem dX6_isLetter_18 : decode cX6_isLetter 18 = .ok (.iload_n 0, 1) := by decide +kernel
theorem dX6_isLetter_19 : decode cX6_isLetter 19 = .ok (.bipush 103, 2) := by decide +kernel
theorem dX6_isLetter_21 : decode cX6_isLetter 21 = .ok (.if_icmp .eq 15, 3) := by decide +kernel
theorem dX6_isLetter_24 : decode cX6_isLetter 24 = .ok (.iload_n 0, 1) := by decide +kernel
theorem dX6_isLetter_25 : decode cX6_isLetter 25 = .ok (.bipush 107, 2) := by decide +kernel
theorem dX6_isLetter_27 : decode cX6_isLetter 27 = .ok (.if_icmp .eq 9, 3) := by decide +kernel
theorem dX6_isLetter_30 : decode cX6_isLetter 30 = .ok (.iload_n 0, 1) := by decide +kernel
theorem dX6_isLetter_31 : decode cX6_isLetter 31 = .ok (.bipush 118, 2) := by decide +kernel
theorem dX6_isLetter_33 : decode cX6_isLetter 33 = .ok (.if_icmp .ne 7, 3) := by decide +kernel
theorem dX6_isLetter_36 : decode cX6_isLetter 36 = .ok (.iconst 1, 1) := by decide +kernel
theorem dX6_isLetter_37 : decode cX6_isLetter 37 = .ok (.goto 4, 3) := by decide +kernel
theorem dX6_isLetter_40 : decode cX6_isLetter 40 = .ok (.iconst 0, 1) := by decide +kernel
theorem dX6_isLetter_41 : decode cX6_isLetter 41 = .ok (.ireturn, 1) := by decide +kernel
theorem dX6_valueOf_0 : decode cX6_valueOf 0 = .ok (.iload_n 1, 1) := by decide +kernel
theorem dX6_valueOf_1 : decode cX6_valueOf 1 = .ok (.lookupswitch 71 #[(99, 51), (103, 61), (107, 66), (114, 53), (120, 57)], 51) := by decide +kernel
theorem dX6_valueOf_52 : decode cX6_valueOf 52 = .ok (.iload_n 2, 1) := by decide +kernel
theorem dX6_valueOf_53 : decode cX6_valueOf 53 = .ok (.ireturn, 1) := by decide +kernel
theorem dX6_valueOf_54 : decode cX6_valueOf 54 = .ok (.iload_n 2, 1) := by decide +kernel
theorem dX6_valueOf_55 : decode cX6_valueOf 55 = .ok (.iconst 4, 1) := by decide +kernel
theorem dX6_valueOf_56 : decode cX6_valueOf 56 = .ok (.idiv, 1) := by decide +kernel
theorem dX6_valueOf_57 : decode cX6_valueOf 57 = .ok (.ireturn, 1) := by decide +kernel
theorem dX6_valueOf_58 : decode cX6_valueOf 58 = .ok (.iload_n 2, 1) := by decide +kernel
theorem dX6_valueOf_59 : decode cX6_valueOf 59 = .ok (.iconst 4, 1) := by decide +kernel
theorem dX6_valueOf_60 : decode cX6_valueOf 60 = .ok (.irem, 1) := by decide +kernel
theorem dX6_valueOf_61 : decode cX6_valueOf 61 = .ok (.ireturn, 1) := by decide +kernel
theorem dX6_valueOf_62 : decode cX6_valueOf 62 = .ok (.aload_n 0, 1) := by decide +kernel
theorem dX6_valueOf_63 : decode cX6_valueOf 63 = .ok (.getfield 46, 3) := by decide +kernel
theorem dX6_valueOf_66 : decode cX6_valueOf 66 = .ok (.ireturn, 1) := by decide +kernel
theorem dX6_valueOf_67 : decode cX6_valueOf 67 = .ok (.aload_n 0, 1) := by decide +kernel
theorem dX6_valueOf_68 : decode cX6_valueOf 68 = .ok (.getfield 49, 3) := by decide +kernel
theorem dX6_valueOf_71 : decode cX6_valueOf 71 = .ok (.ireturn, 1) := by decide +kernel
theorem dX6_valueOf_72 : decode cX6_valueOf 72 = .ok (.aload_n 0, 1) := by decide +kernel
theorem dX6_valueOf_73 : decode cX6_valueOf 73 = .ok (.getfield 52, 3) := by decide +kernel
theorem dX6_valueOf_76 : decode cX6_valueOf 76 = .ok (.ireturn, 1) := by decide +kernel
theorem dX6_number_0 : decode cX6_number 0 = .ok (.iconst 0, 1) := by decide +kernel
theorem dX6_number_1 : decode cX6_number 1 = .ok (.istore_n 1, 1) := by decide +kernel
theorem dX6_number_2 : decode cX6_number 2 = .ok (.iconst 0, 1) := by decide +kernel
theorem dX6_number_3 : decode cX6_number 3 = .ok (.istore_n 2, 1) := by decide +kernel
theorem dX6_number_4 : decode cX6_number 4 = .ok (.iconst 0, 1) := by decide +kernel
theorem dX6_number_5 : decode cX6_number 5 = .ok (.istore_n 3, 1) := by decide +kernel
theorem dX6_number_6 : decode cX6_number 6 = .ok (.iload_n 3, 1) := by decide +kernel
theorem dX6_number_7 : decode cX6_number 7 = .ok (.iconst 2, 1) := by decide +kernel
theorem dX6_number_8 : decode cX6_number 8 = .ok (.if_icmp .ge 105, 3) := by decide +kernel
theorem dX6_number_11 : decode cX6_number 11 = .ok (.aload_n 0, 1) := by decide +kernel
theorem dX6_number_12 : decode cX6_number 12 = .ok (.getfield 30, 3) := by decide +kernel
theorem dX6_number_15 : decode cX6_number 15 = .ok (.ifCond .ne 98, 3) := by decide +kernel
theorem dX6_number_18 : decode cX6_number 18 = .ok (.aload_n 0, 1) := by decide +kernel
theorem dX6_number_19 : decode cX6_number 19 = .ok (.getfield 34, 3) := by decide +kernel
theorem dX6_number_22 : decode cX6_number 22 = .ok (.aload_n 0, 1) := by decide +kernel
theorem dX6_number_23 : decode cX6_number 23 = .ok (.getfield 58, 3) := by decide +kernel
theorem dX6_number_26 : decode cX6_number 26 = .ok (.if_icmp .ge 87, 3) := by decide +kernel
theorem dX6_number_29 : decode cX6_number 29 = .ok (.aload_n 0, 1) := by decide +kernel
theorem dX6_number_30 : decode cX6_number 30 = .ok (.getfield 55, 3) := by decide +kernel
theorem dX6_number_33 : decode cX6_number 33 = .ok (.aload_n 0, 1) := by decide +kernel
theorem dX6_number_34 : decode cX6_number 34 = .ok (.getfield 34, 3) := by decide +kernel
theorem dX6_number_37 : decode cX6_number 37 = .ok (.iadd, 1) := by decide +kernel
theorem dX6_number_38 : decode cX6_number 38 = .ok (.istore 4, 2) := by decide +kernel
theorem dX6_number_40 : decode cX6_number 40 = .ok (.iload 4, 2) := by decide +kernel
theorem dX6_number_42 : decode cX6_number 42 = .ok (.ifCond .lt 26, 3) := by decide +kernel
theorem dX6_number_45 : decode cX6_number 45 = .ok (.iload 4, 2) := by decide +kernel
theorem dX6_number_47 : decode cX6_number 47 = .ok (.aload_n 0, 1) := by decide +kernel
theorem dX6_number_48 : decode cX6_number 48 = .ok (.getfield 11, 3) := by decide +kernel
theorem dX6_number_51 : decode cX6_number 51 = .ok (.arraylength, 1) := by decide +kernel
theorem dX6_number_52 : decode cX6_number 52 = .ok (.if_icmp .ge 16, 3) := by decide +kernel
theorem dX6_number_55 : decode cX6_number 55 = .ok (.aload_n 0, 1) := by decide +kernel
theorem dX6_number_56 : decode cX6_number 56 = .ok (.getfield 11, 3) := by decide +kernel
theorem dX6_number_59 : decode cX6_number 59 = .ok (.iload 4, 2) := by decide +kernel
theorem dX6_number_61 : decode cX6_number 61 = .ok (.baload, 1) := by decide +kernel
theorem dX6_number_62 : decode cX6_number 62 = .ok (.bipush 48, 2) := by decide +kernel
theorem dX6_number_64 : decode cX6_number 64 = .ok (.isub, 1) := by decide +kernel
theorem dX6_number_65 : decode cX6_number 65 = .ok (.goto 4, 3) := by decide +kernel
theorem dX6_number_68 : decode cX6_number 68 = .ok (.iconst (-1), 1) := by decide +kernel
theorem dX6_number_69 : decode cX6_number 69 = .ok (.istore 5, 2) := by decide +kernel
theorem dX6_number_71 : decode cX6_number 71 = .ok (.iload 5, 2) := by decide +kernel
theorem dX6_number_73 : decode cX6_number 73 = .ok (.ifCond .lt 40, 3) := by decide +kernel
theorem dX6_number_76 : decode cX6_number 76 = .ok (.iload 5, 2) := by decide +kernel
theorem dX6_number_78 : decode cX6_number 78 = .ok (.bipush 9, 2) := by decide +kernel
theorem dX6_number_80 : decode cX6_number 80 = .ok (.if_icmp .le 6, 3) := by decide +kernel
theorem dX6_number_83 : decode cX6_number 83 = .ok (.goto 30, 3) := by decide +kernel
theorem dX6_number_86 : decode cX6_number 86 = .ok (.bipush 10, 2) := by decide +kernel
theorem dX6_number_88 : decode cX6_number 88 = .ok (.iload_n 1, 1) := by decide +kernel
theorem dX6_number_89 : decode cX6_number 89 = .ok (.imul, 1) := by decide +kernel
theorem dX6_number_90 : decode cX6_number 90 = .ok (.iload 5, 2) := by decide +kernel
theorem dX6_number_92 : decode cX6_number 92 = .ok (.iadd, 1) := by decide +kernel
theorem dX6_number_93 : decode cX6_number 93 = .ok (.istore_n 1, 1) := by decide +kernel
theorem dX6_number_94 : decode cX6_number 94 = .ok (.aload_n 0, 1) := by decide +kernel
theorem dX6_number_95 : decode cX6_number 95 = .ok (.dup, 1) := by decide +kernel
theorem dX6_number_96 : decode cX6_number 96 = .ok (.getfield 34, 3) := by decide +kernel
theorem dX6_number_99 : decode cX6_number 99 = .ok (.iconst 1, 1) := by decide +kernel
theorem dX6_number_100 : decode cX6_number 100 = .ok (.iadd, 1) := by decide +kernel
theorem dX6_number_101 : decode cX6_number 101 = .ok (.putfield 34, 3) := by decide +kernel
theorem dX6_number_104 : decode cX6_number 104 = .ok (.iinc 2 1, 3) := by decide +kernel
theorem dX6_number_107 : decode cX6_number 107 = .ok (.iinc 3 1, 3) := by decide +kernel
theorem dX6_number_110 : decode cX6_number 110 = .ok (.goto (-104), 3) := by decide +kernel
theorem dX6_number_113 : decode cX6_number 113 = .ok (.iload_n 2, 1) := by decide +kernel
theorem dX6_number_114 : decode cX6_number 114 = .ok (.ifCond .ne 8, 3) := by decide +kernel
theorem dX6_number_117 : decode cX6_number 117 = .ok (.aload_n 0, 1) := by decide +kernel
theorem dX6_number_118 : decode cX6_number 118 = .ok (.iconst 1, 1) := by decide +kernel
theorem dX6_number_119 : decode cX6_number 119 = .ok (.putfield 30, 3) := by decide +kernel
theorem dX6_number_122 : decode cX6_number 122 = .ok (.iload_n 1, 1) := by decide +kernel
theorem dX6_number_123 : decode cX6_number 123 = .ok (.ireturn, 1) := by decide +kernel
theorem dX6_word_0 : decode cX6_word 0 = .ok (.iconst 0, 1) := by decide +kernel
theorem dX6_word_1 : decode cX6_word 1 = .ok (.istore_n 2, 1) := by decide +kernel
theorem dX6_word_2 : decode cX6_word 2 = .ok (.iload_n 2, 1) := by decide +kernel
theorem dX6_word_3 : decode cX6_word 3 = .ok (.aload_n 1, 1) := by decide +kernel
theorem dX6_word_4 : decode cX6_word 4 = .ok (.invokevirtual 112, 3) := by decide +kernel
theorem dX6_word_7 : decode cX6_word 7 = .ok (.if_icmp .ge 46, 3) := by decide +kernel
theorem dX6_word_10 : decode cX6_word 10 = .ok (.aload_n 0, 1) := by decide +kernel
theorem dX6_word_11 : decode cX6_word 11 = .ok (.getfield 30, 3) := by decide +kernel
theorem dX6_word_14 : decode cX6_word 14 = .ok (.ifCond .ne 39, 3) := by decide +kernel
theorem dX6_word_17 : decode cX6_word 17 = .ok (.aload_n 0, 1) := by decide +kernel
theorem dX6_word_18 : decode cX6_word 18 = .ok (.invokevirtual 64, 3) := by decide +kernel
theorem dX6_word_21 : decode cX6_word 21 = .ok (.aload_n 1, 1) := by decide +kernel
theorem dX6_word_22 : decode cX6_word 22 = .ok (.iload_n 2, 1) := by decide +kernel
theorem dX6_word_23 : decode cX6_word 23 = .ok (.invokevirtual 116, 3) := by decide +kernel
theorem dX6_word_26 : decode cX6_word 26 = .ok (.if_icmp .ne 16, 3) := by decide +kernel
theorem dX6_word_29 : decode cX6_word 29 = .ok (.aload_n 0, 1) := by decide +kernel
theorem dX6_word_30 : decode cX6_word 30 = .ok (.dup, 1) := by decide +kernel
theorem dX6_word_31 : decode cX6_word 31 = .ok (.getfield 34, 3) := by decide +kernel
theorem dX6_word_34 : decode cX6_word 34 = .ok (.iconst 1, 1) := by decide +kernel
theorem dX6_word_35 : decode cX6_word 35 = .ok (.iadd, 1) := by decide +kernel
theorem dX6_word_36 : decode cX6_word 36 = .ok (.putfield 34, 3) := by decide +kernel
theorem dX6_word_39 : decode cX6_word 39 = .ok (.goto 8, 3) := by decide +kernel
theorem dX6_word_42 : decode cX6_word 42 = .ok (.aload_n 0, 1) := by decide +kernel
theorem dX6_word_43 : decode cX6_word 43 = .ok (.invokevirtual 106, 3) := by decide +kernel
theorem dX6_word_46 : decode cX6_word 46 = .ok (.pop, 1) := by decide +kernel
theorem dX6_word_47 : decode cX6_word 47 = .ok (.iinc 2 1, 3) := by decide +kernel
theorem dX6_word_50 : decode cX6_word 50 = .ok (.goto (-48), 3) := by decide +kernel
theorem dX6_word_53 : decode cX6_word 53 = .ok (.return_, 1) := by decide +kernel
theorem dX6_fail_0 : decode cX6_fail 0 = .ok (.aload_n 0, 1) := by decide +kernel
theorem dX6_fail_1 : decode cX6_fail 1 = .ok (.iconst 1, 1) := by decide +kernel
theorem dX6_fail_2 : decode cX6_fail 2 = .ok (.putfield 30, 3) := by decide +kernel
theorem dX6_fail_5 : decode cX6_fail 5 = .ok (.iconst 0, 1) := by decide +kernel
theorem dX6_fail_6 : decode cX6_fail 6 = .ok (.ireturn, 1) := by decide +kernel
theorem dX6_sign_0 : decode cX6_sign 0 = .ok (.aload_n 0, 1) := by decide +kernel
theorem dX6_sign_1 : decode cX6_sign 1 = .ok (.getfield 55, 3) := by decide +kernel
theorem dX6_sign_4 : decode cX6_sign 4 = .ok (.aload_n 0, 1) := by decide +kernel
theorem dX6_sign_5 : decode cX6_sign 5 = .ok (.getfield 34, 3) := by decide +kernel
theorem dX6_sign_8 : decode cX6_sign 8 = .ok (.iadd, 1) := by decide +kernel
theorem dX6_sign_9 : decode cX6_sign 9 = .ok (.istore_n 1, 1) := by decide +kernel
theorem dX6_sign_10 : decode cX6_sign 10 = .ok (.aload_n 0, 1) := by decide +kernel
theorem dX6_sign_11 : decode cX6_sign 11 = .ok (.getfield 30, 3) := by decide +kernel
theorem dX6_sign_14 : decode cX6_sign 14 = .ok (.ifCond .ne 36, 3) := by decide +kernel
theorem dX6_sign_17 : decode cX6_sign 17 = .ok (.aload_n 0, 1) := by decide +kernel
theorem dX6_sign_18 : decode cX6_sign 18 = .ok (.getfield 34, 3) := by decide +kernel
theorem dX6_sign_21 : decode cX6_sign 21 = .ok (.aload_n 0, 1) := by decide +kernel
theorem dX6_sign_22 : decode cX6_sign 22 = .ok (.getfield 58, 3) := by decide +kernel
theorem dX6_sign_25 : decode cX6_sign 25 = .ok (.if_icmp .ge 25, 3) := by decide +kernel
theorem dX6_sign_28 : decode cX6_sign 28 = .ok (.iload_n 1, 1) := by decide +kernel
theorem dX6_sign_29 : decode cX6_sign 29 = .ok (.ifCond .lt 21, 3) := by decide +kernel
theorem dX6_sign_32 : decode cX6_sign 32 = .ok (.iload_n 1, 1) := by decide +kernel
theorem dX6_sign_33 : decode cX6_sign 33 = .ok (.aload_n 0, 1) := by decide +kernel
theorem dX6_sign_34 : decode cX6_sign 34 = .ok (.getfield 11, 3) := by decide +kernel
theorem dX6_sign_37 : decode cX6_sign 37 = .ok (.arraylength, 1) := by decide +kernel
theorem dX6_sign_38 : decode cX6_sign 38 = .ok (.if_icmp .ge 12, 3) := by decide +kernel
theorem dX6_sign_41 : decode cX6_sign 41 = .ok (.aload_n 0, 1) := by decide +kernel
theorem dX6_sign_42 : decode cX6_sign 42 = .ok (.getfield 11, 3) := by decide +kernel
theorem dX6_sign_45 : decode cX6_sign 45 = .ok (.iload_n 1, 1) := by decide +kernel
theorem dX6_sign_46 : decode cX6_sign 46 = .ok (.baload, 1) := by decide +kernel
theorem dX6_sign_47 : decode cX6_sign 47 = .ok (.goto 4, 3) := by decide +kernel
theorem dX6_sign_50 : decode cX6_sign 50 = .ok (.iconst (-1), 1) := by decide +kernel
theorem dX6_sign_51 : decode cX6_sign 51 = .ok (.ireturn, 1) := by decide +kernel
theorem dX7_init_0 : decode cX7_init 0 = .ok (.aload_n 0, 1) := by decide +kernel
theorem dX7_init_1 : decode cX7_init 1 = .ok (.invokespecial 3, 3) := by decide +kernel
theorem dX7_init_4 : decode cX7_init 4 = .ok (.aload_n 0, 1) := by decide +kernel
theorem dX7_init_5 : decode cX7_init 5 = .ok (.bipush 16, 2) := by decide +kernel
theorem dX7_init_7 : decode cX7_init 7 = .ok (.newarray .int, 2) := by decide +kernel
theorem dX7_init_9 : decode cX7_init 9 = .ok (.putfield 9, 3) := by decide +kernel
theorem dX7_init_12 : decode cX7_init 12 = .ok (.aload_n 0, 1) := by decide +kernel
theorem dX7_init_13 : decode cX7_init 13 = .ok (.bipush 16, 2) := by decide +kernel
theorem dX7_init_15 : decode cX7_init 15 = .ok (.newarray .int, 2) := by decide +kernel
theorem dX7_init_17 : decode cX7_init 17 = .ok (.putfield 15, 3) := by decide +kernel
theorem dX7_init_20 : decode cX7_init 20 = .ok (.return_, 1) := by decide +kernel
theorem dX7_walk_0 : decode cX7_walk 0 = .ok (.iload_n 3, 1) := by decide +kernel
theorem dX7_walk_1 : decode cX7_walk 1 = .ok (.iload_n 1, 1) := by decide +kernel
theorem dX7_walk_2 : decode cX7_walk 2 = .ok (.invokestatic 18, 3) := by decide +kernel
theorem dX7_walk_5 : decode cX7_walk 5 = .ok (.ifCond .eq 11, 3) := by decide +kernel
theorem dX7_walk_8 : decode cX7_walk 8 = .ok (.iload_n 3, 1) := by decide +kernel
theorem dX7_walk_9 : decode cX7_walk 9 = .ok (.iload_n 2, 1) := by decide +kernel
theorem dX7_walk_10 : decode cX7_walk 10 = .ok (.invokestatic 18, 3) := by decide +kernel
theorem dX7_walk_13 : decode cX7_walk 13 = .ok (.ifCond .ne 5, 3) := by decide +kernel
theorem dX7_walk_16 : decode cX7_walk 16 = .ok (.iconst 0, 1) := by decide +kernel
theorem dX7_walk_17 : decode cX7_walk 17 = .ok (.ireturn, 1) := by decide +kernel
theorem dX7_walk_18 : decode cX7_walk 18 = .ok (.iconst 0, 1) := by decide +kernel
theorem dX7_walk_19 : decode cX7_walk 19 = .ok (.istore 4, 2) := by decide +kernel
theorem dX7_walk_21 : decode cX7_walk 21 = .ok (.iconst 1, 1) := by decide +kernel
theorem dX7_walk_22 : decode cX7_walk 22 = .ok (.iload_n 2, 1) := by decide +kernel
theorem dX7_walk_23 : decode cX7_walk 23 = .ok (.ishl, 1) := by decide +kernel
theorem dX7_walk_24 : decode cX7_walk 24 = .ok (.istore 5, 2) := by decide +kernel
theorem dX7_walk_26 : decode cX7_walk 26 = .ok (.aload_n 0, 1) := by decide +kernel
theorem dX7_walk_27 : decode cX7_walk 27 = .ok (.getfield 9, 3) := by decide +kernel
theorem dX7_walk_30 : decode cX7_walk 30 = .ok (.iconst 0, 1) := by decide +kernel
theorem dX7_walk_31 : decode cX7_walk 31 = .ok (.iload 5, 2) := by decide +kernel
theorem dX7_walk_33 : decode cX7_walk 33 = .ok (.iastore, 1) := by decide +kernel
theorem dX7_walk_34 : decode cX7_walk 34 = .ok (.iload 4, 2) := by decide +kernel
theorem dX7_walk_36 : decode cX7_walk 36 = .ok (.bipush 15, 2) := by decide +kernel
theorem dX7_walk_38 : decode cX7_walk 38 = .ok (.if_icmp .ge 53, 3) := by decide +kernel
theorem dX7_walk_41 : decode cX7_walk 41 = .ok (.iload 5, 2) := by decide +kernel
theorem dX7_walk_43 : decode cX7_walk 43 = .ok (.iload_n 1, 1) := by decide +kernel
theorem dX7_walk_44 : decode cX7_walk 44 = .ok (.invokestatic 18, 3) := by decide +kernel
theorem dX7_walk_47 : decode cX7_walk 47 = .ok (.ifCond .ne 44, 3) := by decide +kernel
theorem dX7_walk_50 : decode cX7_walk 50 = .ok (.aload_n 0, 1) := by decide +kernel
theorem dX7_walk_51 : decode cX7_walk 51 = .ok (.getfield 9, 3) := by decide +kernel
theorem dX7_walk_54 : decode cX7_walk 54 = .ok (.iload 4, 2) := by decide +kernel
theorem dX7_walk_56 : decode cX7_walk 56 = .ok (.iaload, 1) := by decide +kernel
theorem dX7_walk_57 : decode cX7_walk 57 = .ok (.invokestatic 24, 3) := by decide +kernel
theorem dX7_walk_60 : decode cX7_walk 60 = .ok (.iload_n 3, 1) := by decide +kernel
theorem dX7_walk_61 : decode cX7_walk 61 = .ok (.iand, 1) := by decide +kernel
theorem dX7_walk_62 : decode cX7_walk 62 = .ok (.iload 5, 2) := by decide +kernel
theorem dX7_walk_64 : decode cX7_walk 64 = .ok (.iconst (-1), 1) := by decide +kernel
theorem dX7_walk_65 : decode cX7_walk 65 = .ok (.ixor, 1) := by decide +kernel
theorem dX7_walk_66 : decode cX7_walk 66 = .ok (.iand, 1) := by decide +kernel
theorem dX7_walk_67 : decode cX7_walk 67 = .ok (.istore 6, 2) := by decide +kernel
theorem dX7_walk_69 : decode cX7_walk 69 = .ok (.iinc 4 1, 3) := by decide +kernel
theorem dX7_walk_72 : decode cX7_walk 72 = .ok (.aload_n 0, 1) := by decide +kernel
theorem dX7_walk_73 : decode cX7_walk 73 = .ok (.getfield 9, 3) := by decide +kernel
theorem dX7_walk_76 : decode cX7_walk 76 = .ok (.iload 4, 2) := by decide +kernel
theorem dX7_walk_78 : decode cX7_walk 78 = .ok (.iload 6, 2) := by decide +kernel
theorem dX7_walk_80 : decode cX7_walk 80 = .ok (.iastore, 1) := by decide +kernel
theorem dX7_walk_81 : decode cX7_walk 81 = .ok (.iload 5, 2) := by decide +kernel
theorem dX7_walk_83 : decode cX7_walk 83 = .ok (.iload 6, 2) := by decide +kernel
theorem dX7_walk_85 : decode cX7_walk 85 = .ok (.ior, 1) := by decide +kernel
theorem dX7_walk_86 : decode cX7_walk 86 = .ok (.istore 5, 2) := by decide +kernel
theorem dX7_walk_88 : decode cX7_walk 88 = .ok (.goto (-54), 3) := by decide +kernel
theorem dX7_walk_91 : decode cX7_walk 91 = .ok (.iload 5, 2) := by decide +kernel
theorem dX7_walk_93 : decode cX7_walk 93 = .ok (.iload_n 1, 1) := by decide +kernel
theorem dX7_walk_94 : decode cX7_walk 94 = .ok (.invokestatic 18, 3) := by decide +kernel
theorem dX7_walk_97 : decode cX7_walk 97 = .ok (.ifCond .ne 5, 3) := by decide +kernel
theorem dX7_walk_100 : decode cX7_walk 100 = .ok (.iconst 0, 1) := by decide +kernel
theorem dX7_walk_101 : decode cX7_walk 101 = .ok (.ireturn, 1) := by decide +kernel
theorem dX7_walk_102 : decode cX7_walk 102 = .ok (.aload_n 0, 1) := by decide +kernel
theorem dX7_walk_103 : decode cX7_walk 103 = .ok (.getfield 15, 3) := by decide +kernel
theorem dX7_walk_106 : decode cX7_walk 106 = .ok (.iconst 0, 1) := by decide +kernel
theorem dX7_walk_107 : decode cX7_walk 107 = .ok (.iload_n 1, 1) := by decide +kernel
theorem dX7_walk_108 : decode cX7_walk 108 = .ok (.iastore, 1) := by decide +kernel
theorem dX7_walk_109 : decode cX7_walk 109 = .ok (.iconst 1, 1) := by decide +kernel
theorem dX7_walk_110 : decode cX7_walk 110 = .ok (.istore 6, 2) := by decide +kernel
theorem dX7_walk_112 : decode cX7_walk 112 = .ok (.iload 6, 2) := by decide +kernel
theorem dX7_walk_114 : decode cX7_walk 114 = .ok (.iload 4, 2) := by decide +kernel
theorem dX7_walk_116 : decode cX7_walk 116 = .ok (.if_icmp .gt 44, 3) := by decide +kernel
theorem dX7_walk_119 : decode cX7_walk 119 = .ok (.aload_n 0, 1) := by decide +kernel
theorem dX7_walk_120 : decode cX7_walk 120 = .ok (.getfield 15, 3) := by decide +kernel
theorem dX7_walk_123 : decode cX7_walk 123 = .ok (.iload 6, 2) := by decide +kernel
theorem dX7_walk_125 : decode cX7_walk 125 = .ok (.iconst 1, 1) := by decide +kernel
theorem dX7_walk_126 : decode cX7_walk 126 = .ok (.aload_n 0, 1) := by decide +kernel
theorem dX7_walk_127 : decode cX7_walk 127 = .ok (.getfield 15, 3) := by decide +kernel
theorem dX7_walk_130 : decode cX7_walk 130 = .ok (.iload 6, 2) := by decide +kernel
theorem dX7_walk_132 : decode cX7_walk 132 = .ok (.iconst 1, 1) := by decide +kernel
theorem dX7_walk_133 : decode cX7_walk 133 = .ok (.isub, 1) := by decide +kernel
theorem dX7_walk_134 : decode cX7_walk 134 = .ok (.iaload, 1) := by decide +kernel
theorem dX7_walk_135 : decode cX7_walk 135 = .ok (.ishl, 1) := by decide +kernel
theorem dX7_walk_136 : decode cX7_walk 136 = .ok (.invokestatic 24, 3) := by decide +kernel
theorem dX7_walk_139 : decode cX7_walk 139 = .ok (.aload_n 0, 1) := by decide +kernel
theorem dX7_walk_140 : decode cX7_walk 140 = .ok (.getfield 9, 3) := by decide +kernel
theorem dX7_walk_143 : decode cX7_walk 143 = .ok (.iload 4, 2) := by decide +kernel
theorem dX7_walk_145 : decode cX7_walk 145 = .ok (.iload 6, 2) := by decide +kernel
theorem dX7_walk_147 : decode cX7_walk 147 = .ok (.isub, 1) := by decide +kernel
theorem dX7_walk_148 : decode cX7_walk 148 = .ok (.iaload, 1) := by decide +kernel
theorem dX7_walk_149 : decode cX7_walk 149 = .ok (.iand, 1) := by decide +kernel
theorem dX7_walk_150 : decode cX7_walk 150 = .ok (.invokestatic 28, 3) := by decide +kernel
theorem dX7_walk_153 : decode cX7_walk 153 = .ok (.iastore, 1) := by decide +kernel
theorem dX7_walk_154 : decode cX7_walk 154 = .ok (.iinc 6 1, 3) := by decide +kernel
theorem dX7_walk_157 : decode cX7_walk 157 = .ok (.goto (-45), 3) := by decide +kernel
theorem dX7_walk_160 : decode cX7_walk 160 = .ok (.iload 4, 2) := by decide +kernel
theorem dX7_walk_162 : decode cX7_walk 162 = .ok (.iconst 1, 1) := by decide +kernel
theorem dX7_walk_163 : decode cX7_walk 163 = .ok (.iadd, 1) := by decide +kernel
theorem dX7_walk_164 : decode cX7_walk 164 = .ok (.ireturn, 1) := by decide +kernel
theorem dX7_cellsOf_0 : decode cX7_cellsOf 0 = .ok (.iconst 0, 1) := by decide +kernel
theorem dX7_cellsOf_1 : decode cX7_cellsOf 1 = .ok (.istore_n 2, 1) := by decide +kernel
theorem dX7_cellsOf_2 : decode cX7_cellsOf 2 = .ok (.iconst 0, 1) := by decide +kernel
theorem dX7_cellsOf_3 : decode cX7_cellsOf 3 = .ok (.istore_n 3, 1) := by decide +kernel
theorem dX7_cellsOf_4 : decode cX7_cellsOf 4 = .ok (.iload_n 3, 1) := by decide +kernel
theorem dX7_cellsOf_5 : decode cX7_cellsOf 5 = .ok (.iload_n 1, 1) := by decide +kernel
theorem dX7_cellsOf_6 : decode cX7_cellsOf 6 = .ok (.if_icmp .ge 26, 3) := by decide +kernel
theorem dX7_cellsOf_9 : decode cX7_cellsOf 9 = .ok (.iload_n 3, 1) := by decide +kernel
theorem dX7_cellsOf_10 : decode cX7_cellsOf 10 = .ok (.bipush 16, 2) := by decide +kernel
theorem dX7_cellsOf_12 : decode cX7_cellsOf 12 = .ok (.if_icmp .ge 20, 3) := by decide +kernel
theorem dX7_cellsOf_15 : decode cX7_cellsOf 15 = .ok (.iload_n 2, 1) := by decide +kernel
theorem dX7_cellsOf_16 : decode cX7_cellsOf 16 = .ok (.iconst 1, 1) := by decide +kernel
theorem dX7_cellsOf_17 : decode cX7_cellsOf 17 = .ok (.aload_n 0, 1) := by decide +kernel
theorem dX7_cellsOf_18 : decode cX7_cellsOf 18 = .ok (.getfield 15, 3) := by decide +kernel
theorem dX7_cellsOf_21 : decode cX7_cellsOf 21 = .ok (.iload_n 3, 1) := by decide +kernel
theorem dX7_cellsOf_22 : decode cX7_cellsOf 22 = .ok (.iaload, 1) := by decide +kernel
theorem dX7_cellsOf_23 : decode cX7_cellsOf 23 = .ok (.ishl, 1) := by decide +kernel
theorem dX7_cellsOf_24 : decode cX7_cellsOf 24 = .ok (.ior, 1) := by decide +kernel
theorem dX7_cellsOf_25 : decode cX7_cellsOf 25 = .ok (.istore_n 2, 1) := by decide +kernel
theorem dX7_cellsOf_26 : decode cX7_cellsOf 26 = .ok (.iinc 3 1, 3) := by decide +kernel
theorem dX7_cellsOf_29 : decode cX7_cellsOf 29 = .ok (.goto (-25), 3) := by decide +kernel
theorem dX7_cellsOf_32 : decode cX7_cellsOf 32 = .ok (.iload_n 2, 1) := by decide +kernel
theorem dX7_cellsOf_33 : decode cX7_cellsOf 33 = .ok (.ireturn, 1) := by decide +kernel
theorem dX7_cellAt_0 : decode cX7_cellAt 0 = .ok (.iload_n 1, 1) := by decide +kernel
theorem dX7_cellAt_1 : decode cX7_cellAt 1 = .ok (.ifCond .lt 23, 3) := by decide +kernel
theorem dX7_cellAt_4 : decode cX7_cellAt 4 = .ok (.iload_n 1, 1) := by decide +kernel
theorem dX7_cellAt_5 : decode cX7_cellAt 5 = .ok (.iload_n 2, 1) := by decide +kernel
theorem dX7_cellAt_6 : decode cX7_cellAt 6 = .ok (.if_icmp .ge 18, 3) := by decide +kernel
theorem dX7_cellAt_9 : decode cX7_cellAt 9 = .ok (.iload_n 1, 1) := by decide +kernel
theorem dX7_cellAt_10 : decode cX7_cellAt 10 = .ok (.bipush 16, 2) := by decide +kernel
theorem dX7_cellAt_12 : decode cX7_cellAt 12 = .ok (.if_icmp .ge 12, 3) := by decide +kernel
theorem dX7_cellAt_15 : decode cX7_cellAt 15 = .ok (.aload_n 0, 1) := by decide +kernel
theorem dX7_cellAt_16 : decode cX7_cellAt 16 = .ok (.getfield 15, 3) := by decide +kernel
theorem dX7_cellAt_19 : decode cX7_cellAt 19 = .ok (.iload_n 1, 1) := by decide +kernel
theorem dX7_cellAt_20 : decode cX7_cellAt 20 = .ok (.iaload, 1) := by decide +kernel
theorem dX7_cellAt_21 : decode cX7_cellAt 21 = .ok (.goto 5, 3) := by decide +kernel
theorem dX7_cellAt_24 : decode cX7_cellAt 24 = .ok (.bipush (-5), 2) := by decide +kernel
theorem dX7_cellAt_26 : decode cX7_cellAt 26 = .ok (.ireturn, 1) := by decide +kernel
theorem dX8_init_0 : decode cX8_init 0 = .ok (.aload_n 0, 1) := by decide +kernel
theorem dX8_init_1 : decode cX8_init 1 = .ok (.invokespecial 1, 3) := by decide +kernel
theorem dX8_init_4 : decode cX8_init 4 = .ok (.aload_n 0, 1) := by decide +kernel
theorem dX8_init_5 : decode cX8_init 5 = .ok (.sipush 360, 3) := by decide +kernel
theorem dX8_init_8 : decode cX8_init 8 = .ok (.newarray .long, 2) := by decide +kernel
theorem dX8_init_10 : decode cX8_init 10 = .ok (.putfield 9, 3) := by decide +kernel
theorem dX8_init_13 : decode cX8_init 13 = .ok (.aload_n 0, 1) := by decide +kernel
theorem dX8_init_14 : decode cX8_init 14 = .ok (.bipush 6, 2) := by decide +kernel
theorem dX8_init_16 : decode cX8_init 16 = .ok (.newarray .int, 2) := by decide +kernel
theorem dX8_init_18 : decode cX8_init 18 = .ok (.dup, 1) := by decide +kernel
theorem dX8_init_19 : decode cX8_init 19 = .ok (.iconst 0, 1) := by decide +kernel
theorem dX8_init_20 : decode cX8_init 20 = .ok (.iconst (-1), 1) := by decide +kernel
theorem dX8_init_21 : decode cX8_init 21 = .ok (.iastore, 1) := by decide +kernel
theorem dX8_init_22 : decode cX8_init 22 = .ok (.dup, 1) := by decide +kernel
theorem dX8_init_23 : decode cX8_init 23 = .ok (.iconst 1, 1) := by decide +kernel
theorem dX8_init_24 : decode cX8_init 24 = .ok (.iconst (-1), 1) := by decide +kernel
theorem dX8_init_25 : decode cX8_init 25 = .ok (.iastore, 1) := by decide +kernel
theorem dX8_init_26 : decode cX8_init 26 = .ok (.dup, 1) := by decide +kernel
theorem dX8_init_27 : decode cX8_init 27 = .ok (.iconst 2, 1) := by decide +kernel
theorem dX8_init_28 : decode cX8_init 28 = .ok (.iconst (-1), 1) := by decide +kernel
theorem dX8_init_29 : decode cX8_init 29 = .ok (.iastore, 1) := by decide +kernel
theorem dX8_init_30 : decode cX8_init 30 = .ok (.dup, 1) := by decide +kernel
theorem dX8_init_31 : decode cX8_init 31 = .ok (.iconst 3, 1) := by decide +kernel
theorem dX8_init_32 : decode cX8_init 32 = .ok (.iconst (-1), 1) := by decide +kernel
theorem dX8_init_33 : decode cX8_init 33 = .ok (.iastore, 1) := by decide +kernel
theorem dX8_init_34 : decode cX8_init 34 = .ok (.dup, 1) := by decide +kernel
theorem dX8_init_35 : decode cX8_init 35 = .ok (.iconst 4, 1) := by decide +kernel
theorem dX8_init_36 : decode cX8_init 36 = .ok (.iconst (-1), 1) := by decide +kernel
theorem dX8_init_37 : decode cX8_init 37 = .ok (.iastore, 1) := by decide +kernel
theorem dX8_init_38 : decode cX8_init 38 = .ok (.dup, 1) := by decide +kernel
theorem dX8_init_39 : decode cX8_init 39 = .ok (.iconst 5, 1) := by decide +kernel
theorem dX8_init_40 : decode cX8_init 40 = .ok (.iconst (-1), 1) := by decide +kernel
theorem dX8_init_41 : decode cX8_init 41 = .ok (.iastore, 1) := by decide +kernel
theorem dX8_init_42 : decode cX8_init 42 = .ok (.putfield 13, 3) := by decide +kernel
theorem dX8_init_45 : decode cX8_init 45 = .ok (.aload_n 0, 1) := by decide +kernel
theorem dX8_init_46 : decode cX8_init 46 = .ok (.bipush 6, 2) := by decide +kernel
theorem dX8_init_48 : decode cX8_init 48 = .ok (.newarray .int, 2) := by decide +kernel
theorem dX8_init_50 : decode cX8_init 50 = .ok (.putfield 17, 3) := by decide +kernel
theorem dX8_init_53 : decode cX8_init 53 = .ok (.return_, 1) := by decide +kernel
theorem dX8_isTape_0 : decode cX8_isTape 0 = .ok (.iload_n 0, 1) := by decide +kernel
theorem dX8_isTape_1 : decode cX8_isTape 1 = .ok (.ifCond .lt 13, 3) := by decide +kernel
theorem dX8_isTape_4 : decode cX8_isTape 4 = .ok (.iload_n 0, 1) := by decide +kernel
theorem dX8_isTape_5 : decode cX8_isTape 5 = .ok (.bipush 6, 2) := by decide +kernel
theorem dX8_isTape_7 : decode cX8_isTape 7 = .ok (.if_icmp .ge 7, 3) := by decide +kernel
theorem dX8_isTape_10 : decode cX8_isTape 10 = .ok (.iconst 1, 1) := by decide +kernel
theorem dX8_isTape_11 : decode cX8_isTape 11 = .ok (.goto 4, 3) := by decide +kernel
theorem dX8_isTape_14 : decode cX8_isTape 14 = .ok (.iconst 0, 1) := by decide +kernel
theorem dX8_isTape_15 : decode cX8_isTape 15 = .ok (.ireturn, 1) := by decide +kernel
theorem dX8_isEmpty_0 : decode cX8_isEmpty 0 = .ok (.aload_n 0, 1) := by decide +kernel
theorem dX8_isEmpty_1 : decode cX8_isEmpty 1 = .ok (.getfield 13, 3) := by decide +kernel
theorem dX8_isEmpty_4 : decode cX8_isEmpty 4 = .ok (.iload_n 1, 1) := by decide +kernel
theorem dX8_isEmpty_5 : decode cX8_isEmpty 5 = .ok (.iaload, 1) := by decide +kernel
theorem dX8_isEmpty_6 : decode cX8_isEmpty 6 = .ok (.iconst (-1), 1) := by decide +kernel
theorem dX8_isEmpty_7 : decode cX8_isEmpty 7 = .ok (.if_icmp .ne 7, 3) := by decide +kernel
theorem dX8_isEmpty_10 : decode cX8_isEmpty 10 = .ok (.iconst 1, 1) := by decide +kernel
theorem dX8_isEmpty_11 : decode cX8_isEmpty 11 = .ok (.goto 4, 3) := by decide +kernel
theorem dX8_isEmpty_14 : decode cX8_isEmpty 14 = .ok (.iconst 0, 1) := by decide +kernel
theorem dX8_isEmpty_15 : decode cX8_isEmpty 15 = .ok (.ireturn, 1) := by decide +kernel
theorem dX8_sortOf_0 : decode cX8_sortOf 0 = .ok (.aload_n 0, 1) := by decide +kernel
theorem dX8_sortOf_1 : decode cX8_sortOf 1 = .ok (.getfield 13, 3) := by decide +kernel
theorem dX8_sortOf_4 : decode cX8_sortOf 4 = .ok (.iload_n 1, 1) := by decide +kernel
theorem dX8_sortOf_5 : decode cX8_sortOf 5 = .ok (.iaload, 1) := by decide +kernel
theorem dX8_sortOf_6 : decode cX8_sortOf 6 = .ok (.ireturn, 1) := by decide +kernel
theorem dX8_hasPlace_0 : decode cX8_hasPlace 0 = .ok (.iload_n 1, 1) := by decide +kernel
theorem dX8_hasPlace_1 : decode cX8_hasPlace 1 = .ok (.invokestatic 20, 3) := by decide +kernel
theorem dX8_hasPlace_4 : decode cX8_hasPlace 4 = .ok (.ifCond .eq 21, 3) := by decide +kernel
theorem dX8_hasPlace_7 : decode cX8_hasPlace 7 = .ok (.iload_n 2, 1) := by decide +kernel
theorem dX8_hasPlace_8 : decode cX8_hasPlace 8 = .ok (.ifCond .lt 17, 3) := by decide +kernel
theorem dX8_hasPlace_11 : decode cX8_hasPlace 11 = .ok (.iload_n 2, 1) := by decide +kernel
theorem dX8_hasPlace_12 : decode cX8_hasPlace 12 = .ok (.aload_n 0, 1) := by decide +kernel
theorem dX8_hasPlace_13 : decode cX8_hasPlace 13 = .ok (.getfield 17, 3) := by decide +kernel
theorem dX8_hasPlace_16 : decode cX8_hasPlace 16 = .ok (.iload_n 1, 1) := by decide +kernel
theorem dX8_hasPlace_17 : decode cX8_hasPlace 17 = .ok (.iaload, 1) := by decide +kernel
theorem dX8_hasPlace_18 : decode cX8_hasPlace 18 = .ok (.if_icmp .ge 7, 3) := by decide +kernel
theorem dX8_hasPlace_21 : decode cX8_hasPlace 21 = .ok (.iconst 1, 1) := by decide +kernel
theorem dX8_hasPlace_22 : decode cX8_hasPlace 22 = .ok (.goto 4, 3) := by decide +kernel
theorem dX8_hasPlace_25 : decode cX8_hasPlace 25 = .ok (.iconst 0, 1) := by decide +kernel
theorem dX8_hasPlace_26 : decode cX8_hasPlace 26 = .ok (.ireturn, 1) := by decide +kernel
theorem dX8_hasStretch_0 : decode cX8_hasStretch 0 = .ok (.iload_n 2, 1) := by decide +kernel
theorem dX8_hasStretch_1 : decode cX8_hasStretch 1 = .ok (.ifCond .lt 33, 3) := by decide +kernel
theorem dX8_hasStretch_4 : decode cX8_hasStretch 4 = .ok (.iload_n 3, 1) := by decide +kernel
theorem dX8_hasStretch_5 : decode cX8_hasStretch 5 = .ok (.ifCond .lt 29, 3) := by decide +kernel
theorem dX8_hasStretch_8 : decode cX8_hasStretch 8 = .ok (.iload_n 2, 1) := by decide +kernel
theorem dX8_hasStretch_9 : decode cX8_hasStretch 9 = .ok (.aload_n 0, 1) := by decide +kernel
theorem dX8_hasStretch_10 : decode cX8_hasStretch 10 = .ok (.getfield 17, 3) := by decide +kernel
theorem dX8_hasStretch_13 : decode cX8_hasStretch 13 = .ok (.iload_n 1, 1) := by decide +kernel
theorem dX8_hasStretch_14 : decode cX8_hasStretch 14 = .ok (.iaload, 1) := by decide +kernel
theorem dX8_hasStretch_15 : decode cX8_hasStretch 15 = .ok (.if_icmp .gt 19, 3) := by decide +kernel
theorem dX8_hasStretch_18 : decode cX8_hasStretch 18 = .ok (.iload_n 3, 1) := by decide +kernel
theorem dX8_hasStretch_19 : decode cX8_hasStretch 19 = .ok (.aload_n 0, 1) := by decide +kernel
theorem dX8_hasStretch_20 : decode cX8_hasStretch 20 = .ok (.getfield 17, 3) := by decide +kernel
theorem dX8_hasStretch_23 : decode cX8_hasStretch 23 = .ok (.iload_n 1, 1) := by decide +kernel
theorem dX8_hasStretch_24 : decode cX8_hasStretch 24 = .ok (.iaload, 1) := by decide +kernel
theorem dX8_hasStretch_25 : decode cX8_hasStretch 25 = .ok (.iload_n 2, 1) := by decide +kernel
theorem dX8_hasStretch_26 : decode cX8_hasStretch 26 = .ok (.isub, 1) := by decide +kernel
theorem dX8_hasStretch_27 : decode cX8_hasStretch 27 = .ok (.if_icmp .gt 7, 3) := by decide +kernel
theorem dX8_hasStretch_30 : decode cX8_hasStretch 30 = .ok (.iconst 1, 1) := by decide +kernel
theorem dX8_hasStretch_31 : decode cX8_hasStretch 31 = .ok (.goto 4, 3) := by decide +kernel
theorem dX8_hasStretch_34 : decode cX8_hasStretch 34 = .ok (.iconst 0, 1) := by decide +kernel
theorem dX8_hasStretch_35 : decode cX8_hasStretch 35 = .ok (.ireturn, 1) := by decide +kernel
theorem dX8_renew_0 : decode cX8_renew 0 = .ok (.aload_n 0, 1) := by decide +kernel
theorem dX8_renew_1 : decode cX8_renew 1 = .ok (.getfield 13, 3) := by decide +kernel
theorem dX8_renew_4 : decode cX8_renew 4 = .ok (.iload_n 1, 1) := by decide +kernel
theorem dX8_renew_5 : decode cX8_renew 5 = .ok (.iload_n 2, 1) := by decide +kernel
theorem dX8_renew_6 : decode cX8_renew 6 = .ok (.iastore, 1) := by decide +kernel
theorem dX8_renew_7 : decode cX8_renew 7 = .ok (.aload_n 0, 1) := by decide +kernel
theorem dX8_renew_8 : decode cX8_renew 8 = .ok (.getfield 17, 3) := by decide +kernel
theorem dX8_renew_11 : decode cX8_renew 11 = .ok (.iload_n 1, 1) := by decide +kernel
theorem dX8_renew_12 : decode cX8_renew 12 = .ok (.iload_n 2, 1) := by decide +kernel
theorem dX8_renew_13 : decode cX8_renew 13 = .ok (.iconst (-1), 1) := by decide +kernel
theorem dX8_renew_14 : decode cX8_renew 14 = .ok (.if_icmp .ne 7, 3) := by decide +kernel
theorem dX8_renew_17 : decode cX8_renew 17 = .ok (.iconst 0, 1) := by decide +kernel
theorem dX8_renew_18 : decode cX8_renew 18 = .ok (.goto 4, 3) := by decide +kernel
theorem dX8_renew_21 : decode cX8_renew 21 = .ok (.iload_n 3, 1) := by decide +kernel
theorem dX8_renew_22 : decode cX8_renew 22 = .ok (.iastore, 1) := by decide +kernel
theorem dX8_renew_23 : decode cX8_renew 23 = .ok (.iconst 0, 1) := by decide +kernel
theorem dX8_renew_24 : decode cX8_renew 24 = .ok (.istore 4, 2) := by decide +kernel
theorem dX8_renew_26 : decode cX8_renew 26 = .ok (.iload 4, 2) := by decide +kernel
theorem dX8_renew_28 : decode cX8_renew 28 = .ok (.bipush 60, 2) := by decide +kernel
theorem dX8_renew_30 : decode cX8_renew 30 = .ok (.if_icmp .ge 22, 3) := by decide +kernel
theorem dX8_renew_33 : decode cX8_renew 33 = .ok (.aload_n 0, 1) := by decide +kernel
theorem dX8_renew_34 : decode cX8_renew 34 = .ok (.getfield 9, 3) := by decide +kernel
theorem dX8_renew_37 : decode cX8_renew 37 = .ok (.iload_n 1, 1) := by decide +kernel
theorem dX8_renew_38 : decode cX8_renew 38 = .ok (.bipush 60, 2) := by decide +kernel
theorem dX8_renew_40 : decode cX8_renew 40 = .ok (.imul, 1) := by decide +kernel
theorem dX8_renew_41 : decode cX8_renew 41 = .ok (.iload 4, 2) := by decide +kernel
theorem dX8_renew_43 : decode cX8_renew 43 = .ok (.iadd, 1) := by decide +kernel
theorem dX8_renew_44 : decode cX8_renew 44 = .ok (.lconst 0, 1) := by decide +kernel
theorem dX8_renew_45 : decode cX8_renew 45 = .ok (.lastore, 1) := by decide +kernel
theorem dX8_renew_46 : decode cX8_renew 46 = .ok (.iinc 4 1, 3) := by decide +kernel
theorem dX8_renew_49 : decode cX8_renew 49 = .ok (.goto (-23), 3) := by decide +kernel
theorem dX8_renew_52 : decode cX8_renew 52 = .ok (.return_, 1) := by decide +kernel
theorem dX8_itemAt_0 : decode cX8_itemAt 0 = .ok (.aload_n 0, 1) := by decide +kernel
theorem dX8_itemAt_1 : decode cX8_itemAt 1 = .ok (.getfield 9, 3) := by decide +kernel
theorem dX8_itemAt_4 : decode cX8_itemAt 4 = .ok (.iload_n 1, 1) := by decide +kernel
theorem dX8_itemAt_5 : decode cX8_itemAt 5 = .ok (.bipush 60, 2) := by decide +kernel
theorem dX8_itemAt_7 : decode cX8_itemAt 7 = .ok (.imul, 1) := by decide +kernel
theorem dX8_itemAt_8 : decode cX8_itemAt 8 = .ok (.iload_n 2, 1) := by decide +kernel
theorem dX8_itemAt_9 : decode cX8_itemAt 9 = .ok (.iadd, 1) := by decide +kernel
theorem dX8_itemAt_10 : decode cX8_itemAt 10 = .ok (.laload, 1) := by decide +kernel
theorem dX8_itemAt_11 : decode cX8_itemAt 11 = .ok (.lreturn, 1) := by decide +kernel
theorem dX8_put_0 : decode cX8_put 0 = .ok (.aload_n 0, 1) := by decide +kernel
theorem dX8_put_1 : decode cX8_put 1 = .ok (.getfield 9, 3) := by decide +kernel
theorem dX8_put_4 : decode cX8_put 4 = .ok (.iload_n 1, 1) := by decide +kernel
theorem dX8_put_5 : decode cX8_put 5 = .ok (.bipush 60, 2) := by decide +kernel
theorem dX8_put_7 : decode cX8_put 7 = .ok (.imul, 1) := by decide +kernel
theorem dX8_put_8 : decode cX8_put 8 = .ok (.iload_n 2, 1) := by decide +kernel
theorem dX8_put_9 : decode cX8_put 9 = .ok (.iadd, 1) := by decide +kernel
theorem dX8_put_10 : decode cX8_put 10 = .ok (.lload_n 3, 1) := by decide +kernel
theorem dX8_put_11 : decode cX8_put 11 = .ok (.aload_n 0, 1) := by decide +kernel
theorem dX8_put_12 : decode cX8_put 12 = .ok (.getfield 13, 3) := by decide +kernel
theorem dX8_put_15 : decode cX8_put 15 = .ok (.iload_n 1, 1) := by decide +kernel
theorem dX8_put_16 : decode cX8_put 16 = .ok (.iaload, 1) := by decide +kernel
theorem dX8_put_17 : decode cX8_put 17 = .ok (.invokestatic 24, 3) := by decide +kernel
theorem dX8_put_20 : decode cX8_put 20 = .ok (.lastore, 1) := by decide +kernel
theorem dX8_put_21 : decode cX8_put 21 = .ok (.return_, 1) := by decide +kernel
theorem dX8_narrowed_0 : decode cX8_narrowed 0 = .ok (.iload_n 2, 1) := by decide +kernel
theorem dX8_narrowed_1 : decode cX8_narrowed 1 = .ok (.tableswitch 61 0 4 #[35, 40, 45, 61, 49], 35) := by decide +kernel
theorem dX8_narrowed_36 : decode cX8_narrowed 36 = .ok (.lload_n 0, 1) := by decide +kernel
theorem dX8_narrowed_37 : decode cX8_narrowed 37 = .ok (.l2i, 1) := by decide +kernel
theorem dX8_narrowed_38 : decode cX8_narrowed 38 = .ok (.i2b, 1) := by decide +kernel
theorem dX8_narrowed_39 : decode cX8_narrowed 39 = .ok (.i2l, 1) := by decide +kernel
theorem dX8_narrowed_40 : decode cX8_narrowed 40 = .ok (.lreturn, 1) := by decide +kernel
theorem dX8_narrowed_41 : decode cX8_narrowed 41 = .ok (.lload_n 0, 1) := by decide +kernel
theorem dX8_narrowed_42 : decode cX8_narrowed 42 = .ok (.l2i, 1) := by decide +kernel
theorem dX8_narrowed_43 : decode cX8_narrowed 43 = .ok (.i2s, 1) := by decide +kernel
theorem dX8_narrowed_44 : decode cX8_narrowed 44 = .ok (.i2l, 1) := by decide +kernel
theorem dX8_narrowed_45 : decode cX8_narrowed 45 = .ok (.lreturn, 1) := by decide +kernel
theorem dX8_narrowed_46 : decode cX8_narrowed 46 = .ok (.lload_n 0, 1) := by decide +kernel
theorem dX8_narrowed_47 : decode cX8_narrowed 47 = .ok (.l2i, 1) := by decide +kernel
theorem dX8_narrowed_48 : decode cX8_narrowed 48 = .ok (.i2l, 1) := by decide +kernel
theorem dX8_narrowed_49 : decode cX8_narrowed 49 = .ok (.lreturn, 1) := by decide +kernel
theorem dX8_narrowed_50 : decode cX8_narrowed 50 = .ok (.lload_n 0, 1) := by decide +kernel
theorem dX8_narrowed_51 : decode cX8_narrowed 51 = .ok (.lconst 0, 1) := by decide +kernel
theorem dX8_narrowed_52 : decode cX8_narrowed 52 = .ok (.lcmp, 1) := by decide +kernel
theorem dX8_narrowed_53 : decode cX8_narrowed 53 = .ok (.ifCond .eq 7, 3) := by decide +kernel
theorem dX8_narrowed_56 : decode cX8_narrowed 56 = .ok (.lconst 1, 1) := by decide +kernel
theorem dX8_narrowed_57 : decode cX8_narrowed 57 = .ok (.goto 4, 3) := by decide +kernel
theorem dX8_narrowed_60 : decode cX8_narrowed 60 = .ok (.lconst 0, 1) := by decide +kernel
theorem dX8_narrowed_61 : decode cX8_narrowed 61 = .ok (.lreturn, 1) := by decide +kernel
theorem dX8_narrowed_62 : decode cX8_narrowed 62 = .ok (.lload_n 0, 1) := by decide +kernel
theorem dX8_narrowed_63 : decode cX8_narrowed 63 = .ok (.lreturn, 1) := by decide +kernel
theorem dX8_copy_0 : decode cX8_copy 0 = .ok (.aload_n 0, 1) := by decide +kernel
theorem dX8_copy_1 : decode cX8_copy 1 = .ok (.getfield 9, 3) := by decide +kernel
theorem dX8_copy_4 : decode cX8_copy 4 = .ok (.iload_n 1, 1) := by decide +kernel
theorem dX8_copy_5 : decode cX8_copy 5 = .ok (.bipush 60, 2) := by decide +kernel
theorem dX8_copy_7 : decode cX8_copy 7 = .ok (.imul, 1) := by decide +kernel
theorem dX8_copy_8 : decode cX8_copy 8 = .ok (.iload_n 2, 1) := by decide +kernel
theorem dX8_copy_9 : decode cX8_copy 9 = .ok (.iadd, 1) := by decide +kernel
theorem dX8_copy_10 : decode cX8_copy 10 = .ok (.aload_n 0, 1) := by decide +kernel
theorem dX8_copy_11 : decode cX8_copy 11 = .ok (.getfield 9, 3) := by decide +kernel
theorem dX8_copy_14 : decode cX8_copy 14 = .ok (.iload_n 3, 1) := by decide +kernel
theorem dX8_copy_15 : decode cX8_copy 15 = .ok (.bipush 60, 2) := by decide +kernel
theorem dX8_copy_17 : decode cX8_copy 17 = .ok (.imul, 1) := by decide +kernel
theorem dX8_copy_18 : decode cX8_copy 18 = .ok (.iload 4, 2) := by decide +kernel
theorem dX8_copy_20 : decode cX8_copy 20 = .ok (.iadd, 1) := by decide +kernel
theorem dX8_copy_21 : decode cX8_copy 21 = .ok (.iload 5, 2) := by decide +kernel
theorem dX8_copy_23 : decode cX8_copy 23 = .ok (.invokestatic 28, 3) := by decide +kernel
theorem dX8_copy_26 : decode cX8_copy 26 = .ok (.return_, 1) := by decide +kernel
theorem dX9_init_0 : decode cX9_init 0 = .ok (.aload_n 0, 1) := by decide +kernel
theorem dX9_init_1 : decode cX9_init 1 = .ok (.invokespecial 3, 3) := by decide +kernel
theorem dX9_init_4 : decode cX9_init 4 = .ok (.aload_n 0, 1) := by decide +kernel
theorem dX9_init_5 : decode cX9_init 5 = .ok (.new 9, 3) := by decide +kernel
theorem dX9_init_8 : decode cX9_init 8 = .ok (.dup, 1) := by decide +kernel
theorem dX9_init_9 : decode cX9_init 9 = .ok (.invokespecial 11, 3) := by decide +kernel
theorem dX9_init_12 : decode cX9_init 12 = .ok (.putfield 12, 3) := by decide +kernel
theorem dX9_init_15 : decode cX9_init 15 = .ok (.aload_n 0, 1) := by decide +kernel
theorem dX9_init_16 : decode cX9_init 16 = .ok (.new 9, 3) := by decide +kernel
theorem dX9_init_19 : decode cX9_init 19 = .ok (.dup, 1) := by decide +kernel
theorem dX9_init_20 : decode cX9_init 20 = .ok (.invokespecial 11, 3) := by decide +kernel
theorem dX9_init_23 : decode cX9_init 23 = .ok (.putfield 18, 3) := by decide +kernel
theorem dX9_init_26 : decode cX9_init 26 = .ok (.aload_n 0, 1) := by decide +kernel
theorem dX9_init_27 : decode cX9_init 27 = .ok (.new 21, 3) := by decide +kernel
theorem dX9_init_30 : decode cX9_init 30 = .ok (.dup, 1) := by decide +kernel
theorem dX9_init_31 : decode cX9_init 31 = .ok (.invokespecial 23, 3) := by decide +kernel
theorem dX9_init_34 : decode cX9_init 34 = .ok (.putfield 24, 3) := by decide +kernel
theorem dX9_init_37 : decode cX9_init 37 = .ok (.aload_n 0, 1) := by decide +kernel
theorem dX9_init_38 : decode cX9_init 38 = .ok (.new 21, 3) := by decide +kernel
theorem dX9_init_41 : decode cX9_init 41 = .ok (.dup, 1) := by decide +kernel
theorem dX9_init_42 : decode cX9_init 42 = .ok (.invokespecial 23, 3) := by decide +kernel
theorem dX9_init_45 : decode cX9_init 45 = .ok (.putfield 28, 3) := by decide +kernel
theorem dX9_init_48 : decode cX9_init 48 = .ok (.aload_n 0, 1) := by decide +kernel
theorem dX9_init_49 : decode cX9_init 49 = .ok (.new 31, 3) := by decide +kernel
theorem dX9_init_52 : decode cX9_init 52 = .ok (.dup, 1) := by decide +kernel
theorem dX9_init_53 : decode cX9_init 53 = .ok (.invokespecial 33, 3) := by decide +kernel
theorem dX9_init_56 : decode cX9_init 56 = .ok (.putfield 34, 3) := by decide +kernel
theorem dX9_init_59 : decode cX9_init 59 = .ok (.aload_n 0, 1) := by decide +kernel
theorem dX9_init_60 : decode cX9_init 60 = .ok (.new 38, 3) := by decide +kernel
theorem dX9_init_63 : decode cX9_init 63 = .ok (.dup, 1) := by decide +kernel
theorem dX9_init_64 : decode cX9_init 64 = .ok (.aload_n 0, 1) := by decide +kernel
theorem dX9_init_65 : decode cX9_init 65 = .ok (.getfield 12, 3) := by decide +kernel
theorem dX9_init_68 : decode cX9_init 68 = .ok (.aload_n 0, 1) := by decide +kernel
theorem dX9_init_69 : decode cX9_init 69 = .ok (.getfield 24, 3) := by decide +kernel
theorem dX9_init_72 : decode cX9_init 72 = .ok (.aload_n 0, 1) := by decide +kernel
theorem dX9_init_73 : decode cX9_init 73 = .ok (.getfield 34, 3) := by decide +kernel
theorem dX9_init_76 : decode cX9_init 76 = .ok (.invokespecial 40, 3) := by decide +kernel
theorem dX9_init_79 : decode cX9_init 79 = .ok (.putfield 43, 3) := by decide +kernel
theorem dX9_init_82 : decode cX9_init 82 = .ok (.aload_n 0, 1) := by decide +kernel
theorem dX9_init_83 : decode cX9_init 83 = .ok (.new 47, 3) := by decide +kernel
theorem dX9_init_86 : decode cX9_init 86 = .ok (.dup, 1) := by decide +kernel
theorem dX9_init_87 : decode cX9_init 87 = .ok (.invokespecial 49, 3) := by decide +kernel
theorem dX9_init_90 : decode cX9_init 90 = .ok (.putfield 50, 3) := by decide +kernel
theorem dX9_init_93 : decode cX9_init 93 = .ok (.aload_n 0, 1) := by decide +kernel
theorem dX9_init_94 : decode cX9_init 94 = .ok (.new 54, 3) := by decide +kernel
theorem dX9_init_97 : decode cX9_init 97 = .ok (.dup, 1) := by decide +kernel
theorem dX9_init_98 : decode cX9_init 98 = .ok (.invokespecial 56, 3) := by decide +kernel
theorem dX9_init_101 : decode cX9_init 101 = .ok (.putfield 57, 3) := by decide +kernel
theorem dX9_init_104 : decode cX9_init 104 = .ok (.return_, 1) := by decide +kernel
theorem dX9_goer_0 : decode cX9_goer 0 = .ok (.iload_n 1, 1) := by decide +kernel
theorem dX9_goer_1 : decode cX9_goer 1 = .ok (.invokestatic 61, 3) := by decide +kernel
theorem dX9_goer_4 : decode cX9_goer 4 = .ok (.ifCond .eq 18, 3) := by decide +kernel
theorem dX9_goer_7 : decode cX9_goer 7 = .ok (.iload_n 3, 1) := by decide +kernel
theorem dX9_goer_8 : decode cX9_goer 8 = .ok (.invokestatic 67, 3) := by decide +kernel
theorem dX9_goer_11 : decode cX9_goer 11 = .ok (.ifCond .eq 11, 3) := by decide +kernel
theorem dX9_goer_14 : decode cX9_goer 14 = .ok (.iload 4, 2) := by decide +kernel
theorem dX9_goer_16 : decode cX9_goer 16 = .ok (.invokestatic 67, 3) := by decide +kernel
theorem dX9_goer_19 : decode cX9_goer 19 = .ok (.ifCond .ne 5, 3) := by decide +kernel
theorem dX9_goer_22 : decode cX9_goer 22 = .ok (.iconst (-1), 1) := by decide +kernel
theorem dX9_goer_23 : decode cX9_goer 23 = .ok (.ireturn, 1) := by decide +kernel
theorem dX9_goer_24 : decode cX9_goer 24 = .ok (.iload_n 2, 1) := by decide +kernel
theorem dX9_goer_25 : decode cX9_goer 25 = .ok (.iconst 0, 1) := by decide +kernel
theorem dX9_goer_26 : decode cX9_goer 26 = .ok (.bipush 9, 2) := by decide +kernel
theorem dX9_goer_28 : decode cX9_goer 28 = .ok (.invokestatic 72, 3) := by decide +kernel
theorem dX9_goer_31 : decode cX9_goer 31 = .ok (.ifCond .ne 6, 3) := by decide +kernel
theorem dX9_goer_34 : decode cX9_goer 34 = .ok (.bipush (-2), 2) := by decide +kernel
theorem dX9_goer_36 : decode cX9_goer 36 = .ok (.ireturn, 1) := by decide +kernel
theorem dX9_goer_37 : decode cX9_goer 37 = .ok (.aload_n 0, 1) := by decide +kernel
theorem dX9_goer_38 : decode cX9_goer 38 = .ok (.getfield 12, 3) := by decide +kernel
theorem dX9_goer_41 : decode cX9_goer 41 = .ok (.getfield 76, 3) := by decide +kernel
theorem dX9_goer_44 : decode cX9_goer 44 = .ok (.bipush 6, 2) := by decide +kernel
theorem dX9_goer_46 : decode cX9_goer 46 = .ok (.if_icmp .lt 6, 3) := by decide +kernel
theorem dX9_goer_49 : decode cX9_goer 49 = .ok (.bipush (-4), 2) := by decide +kernel
theorem dX9_goer_51 : decode cX9_goer 51 = .ok (.ireturn, 1) := by decide +kernel
theorem dX9_goer_52 : decode cX9_goer 52 = .ok (.aload_n 0, 1) := by decide +kernel
theorem dX9_goer_53 : decode cX9_goer 53 = .ok (.getfield 12, 3) := by decide +kernel
theorem dX9_goer_56 : decode cX9_goer 56 = .ok (.iload_n 1, 1) := by decide +kernel
theorem dX9_goer_57 : decode cX9_goer 57 = .ok (.iload_n 2, 1) := by decide +kernel
theorem dX9_goer_58 : decode cX9_goer 58 = .ok (.iload_n 3, 1) := by decide +kernel
theorem dX9_goer_59 : decode cX9_goer 59 = .ok (.iload 4, 2) := by decide +kernel
theorem dX9_goer_61 : decode cX9_goer 61 = .ok (.invokevirtual 80, 3) := by decide +kernel
theorem dX9_goer_64 : decode cX9_goer 64 = .ok (.istore 5, 2) := by decide +kernel
theorem dX9_goer_66 : decode cX9_goer 66 = .ok (.aload_n 0, 1) := by decide +kernel
theorem dX9_goer_67 : decode cX9_goer 67 = .ok (.iload 5, 2) := by decide +kernel
theorem dX9_goer_69 : decode cX9_goer 69 = .ok (.invokevirtual 84, 3) := by decide +kernel
theorem dX9_goer_72 : decode cX9_goer 72 = .ok (.iload 5, 2) := by decide +kernel
theorem dX9_goer_74 : decode cX9_goer 74 = .ok (.ireturn, 1) := by decide +kernel
theorem dX9_of_0 : decode cX9_of 0 = .ok (.aload_n 0, 1) := by decide +kernel
theorem dX9_of_1 : decode cX9_of 1 = .ok (.getfield 12, 3) := by decide +kernel
theorem dX9_of_4 : decode cX9_of 4 = .ok (.iload_n 1, 1) := by decide +kernel
theorem dX9_of_5 : decode cX9_of 5 = .ok (.invokevirtual 88, 3) := by decide +kernel
theorem dX9_of_8 : decode cX9_of 8 = .ok (.ifCond .ne 5, 3) := by decide +kernel
theorem dX9_of_11 : decode cX9_of 11 = .ok (.iconst (-1), 1) := by decide +kernel
theorem dX9_of_12 : decode cX9_of 12 = .ok (.ireturn, 1) := by decide +kernel
theorem dX9_of_13 : decode cX9_of 13 = .ok (.iload_n 2, 1) := by decide +kernel
theorem dX9_of_14 : decode cX9_of 14 = .ok (.bipush 10, 2) := by decide +kernel
theorem dX9_of_16 : decode cX9_of 16 = .ok (.invokestatic 91, 3) := by decide +kernel
theorem dX9_of_19 : decode cX9_of 19 = .ok (.ifCond .eq 16, 3) := by decide +kernel
theorem dX9_of_22 : decode cX9_of 22 = .ok (.aload_n 0, 1) := by decide +kernel
theorem dX9_of_23 : decode cX9_of 23 = .ok (.getfield 12, 3) := by decide +kernel
theorem dX9_of_26 : decode cX9_of 26 = .ok (.iload_n 1, 1) := by decide +kernel
theorem dX9_of_27 : decode cX9_of 27 = .ok (.iload_n 2, 1) := by decide +kernel
theorem dX9_of_28 : decode cX9_of 28 = .ok (.bipush 10, 2) := by decide +kernel
theorem dX9_of_30 : decode cX9_of 30 = .ok (.isub, 1) := by decide +kernel
theorem dX9_of_31 : decode cX9_of 31 = .ok (.invokevirtual 95, 3) := by decide +kernel
theorem dX9_of_34 : decode cX9_of 34 = .ok (.ireturn, 1) := by decide +kernel
theorem dX9_of_35 : decode cX9_of 35 = .ok (.iload_n 2, 1) := by decide +kernel
theorem dX9_of_36 : decode cX9_of 36 = .ok (.bipush 30, 2) := by decide +kernel
theorem dX9_of_38 : decode cX9_of 38 = .ok (.invokestatic 91, 3) := by decide +kernel
theorem dX9_of_41 : decode cX9_of 41 = .ok (.ifCond .eq 17, 3) := by decide +kernel
theorem dX9_of_44 : decode cX9_of 44 = .ok (.aload_n 0, 1) := by decide +kernel
theorem dX9_of_45 : decode cX9_of 45 = .ok (.getfield 12, 3) := by decide +kernel
theorem dX9_of_48 : decode cX9_of 48 = .ok (.iload_n 1, 1) := by decide +kernel
theorem dX9_of_49 : decode cX9_of 49 = .ok (.iload_n 2, 1) := by decide +kernel
theorem dX9_of_50 : decode cX9_of 50 = .ok (.bipush 30, 2) := by decide +kernel
theorem dX9_of_52 : decode cX9_of 52 = .ok (.isub, 1) := by decide +kernel
theorem dX9_of_53 : decode cX9_of 53 = .ok (.iconst 1, 1) := by decide +kernel
theorem dX9_of_54 : decode cX9_of 54 = .ok (.invokevirtual 99, 3) := by decide +kernel
theorem dX9_of_57 : decode cX9_of 57 = .ok (.ireturn, 1) := by decide +kernel
theorem dX9_of_58 : decode cX9_of 58 = .ok (.iload_n 2, 1) := by decide +kernel
theorem dX9_of_59 : decode cX9_of 59 = .ok (.bipush 50, 2) := by decide +kernel
theorem dX9_of_61 : decode cX9_of 61 = .ok (.invokestatic 91, 3) := by decide +kernel
theorem dX9_of_64 : decode cX9_of 64 = .ok (.ifCond .eq 21, 3) := by decide +kernel
theorem dX9_of_67 : decode cX9_of 67 = .ok (.aload_n 0, 1) := by decide +kernel
theorem dX9_of_68 : decode cX9_of 68 = .ok (.getfield 12, 3) := by decide +kernel
theorem dX9_of_71 : decode cX9_of 71 = .ok (.getfield 103, 3) := by decide +kernel
theorem dX9_of_74 : decode cX9_of 74 = .ok (.iload_n 1, 1) := by decide +kernel
theorem dX9_of_75 : decode cX9_of 75 = .ok (.bipush 16, 2) := by decide +kernel
theorem dX9_of_77 : decode cX9_of 77 = .ok (.imul, 1) := by decide +kernel
theorem dX9_of_78 : decode cX9_of 78 = .ok (.iload_n 2, 1) := by decide +kernel
theorem dX9_of_79 : decode cX9_of 79 = .ok (.iadd, 1) := by decide +kernel
theorem dX9_of_80 : decode cX9_of 80 = .ok (.bipush 50, 2) := by decide +kernel
theorem dX9_of_82 : decode cX9_of 82 = .ok (.isub, 1) := by decide +kernel
theorem dX9_of_83 : decode cX9_of 83 = .ok (.iaload, 1) := by decide +kernel
theorem dX9_of_84 : decode cX9_of 84 = .ok (.ireturn, 1) := by decide +kernel
theorem dX9_of_85 : decode cX9_of 85 = .ok (.iload_n 2, 1) := by decide +kernel
theorem dX9_of_86 : decode cX9_of 86 = .ok (.tableswitch 103 0 5 #[38, 48, 58, 68, 78, 90], 38) := by decide +kernel
theorem dX9_of_124 : decode cX9_of 124 = .ok (.aload_n 0, 1) := by decide +kernel
theorem dX9_of_125 : decode cX9_of 125 = .ok (.getfield 12, 3) := by decide +kernel
theorem dX9_of_128 : decode cX9_of 128 = .ok (.getfield 107, 3) := by decide +kernel
theorem dX9_of_131 : decode cX9_of 131 = .ok (.iload_n 1, 1) := by decide +kernel
theorem dX9_of_132 : decode cX9_of 132 = .ok (.iaload, 1) := by decide +kernel
theorem dX9_of_133 : decode cX9_of 133 = .ok (.ireturn, 1) := by decide +kernel
theorem dX9_of_134 : decode cX9_of 134 = .ok (.aload_n 0, 1) := by decide +kernel
theorem dX9_of_135 : decode cX9_of 135 = .ok (.getfield 12, 3) := by decide +kernel
theorem dX9_of_138 : decode cX9_of 138 = .ok (.getfield 110, 3) := by decide +kernel
theorem dX9_of_141 : decode cX9_of 141 = .ok (.iload_n 1, 1) := by decide +kernel
theorem dX9_of_142 : decode cX9_of 142 = .ok (.iaload, 1) := by decide +kernel
theorem dX9_of_143 : decode cX9_of 143 = .ok (.ireturn, 1) := by decide +kernel
theorem dX9_of_144 : decode cX9_of 144 = .ok (.aload_n 0, 1) := by decide +kernel
theorem dX9_of_145 : decode cX9_of 145 = .ok (.getfield 12, 3) := by decide +kernel
theorem dX9_of_148 : decode cX9_of 148 = .ok (.getfield 113, 3) := by decide +kernel
theorem dX9_of_151 : decode cX9_of 151 = .ok (.iload_n 1, 1) := by decide +kernel
theorem dX9_of_152 : decode cX9_of 152 = .ok (.iaload, 1) := by decide +kernel
theorem dX9_of_153 : decode cX9_of 153 = .ok (.ireturn, 1) := by decide +kernel
theorem dX9_of_154 : decode cX9_of 154 = .ok (.aload_n 0, 1) := by decide +kernel
theorem dX9_of_155 : decode cX9_of 155 = .ok (.getfield 12, 3) := by decide +kernel
theorem dX9_of_158 : decode cX9_of 158 = .ok (.getfield 116, 3) := by decide +kernel
theorem dX9_of_161 : decode cX9_of 161 = .ok (.iload_n 1, 1) := by decide +kernel
theorem dX9_of_162 : decode cX9_of 162 = .ok (.iaload, 1) := by decide +kernel
theorem dX9_of_163 : decode cX9_of 163 = .ok (.ireturn, 1) := by decide +kernel
theorem dX9_of_164 : decode cX9_of 164 = .ok (.aload_n 0, 1) := by decide +kernel
theorem dX9_of_165 : decode cX9_of 165 = .ok (.getfield 12, 3) := by decide +kernel
theorem dX9_of_168 : decode cX9_of 168 = .ok (.iload_n 1, 1) := by decide +kernel
theorem dX9_of_169 : decode cX9_of 169 = .ok (.invokevirtual 119, 3) := by decide +kernel
theorem dX9_of_172 : decode cX9_of 172 = .ok (.invokestatic 122, 3) := by decide +kernel
theorem dX9_of_175 : decode cX9_of 175 = .ok (.ireturn, 1) := by decide +kernel
theorem dX9_of_176 : decode cX9_of 176 = .ok (.aload_n 0, 1) := by decide +kernel
theorem dX9_of_177 : decode cX9_of 177 = .ok (.getfield 12, 3) := by decide +kernel
theorem dX9_of_180 : decode cX9_of 180 = .ok (.getfield 126, 3) := by decide +kernel
theorem dX9_of_183 : decode cX9_of 183 = .ok (.iload_n 1, 1) := by decide +kernel
theorem dX9_of_184 : decode cX9_of 184 = .ok (.iaload, 1) := by decide +kernel
theorem dX9_of_185 : decode cX9_of 185 = .ok (.invokestatic 129, 3) := by decide +kernel
theorem dX9_of_188 : decode cX9_of 188 = .ok (.ireturn, 1) := by decide +kernel
theorem dX9_of_189 : decode cX9_of 189 = .ok (.iconst (-1), 1) := by decide +kernel
theorem dX9_of_190 : decode cX9_of 190 = .ok (.ireturn, 1) := by decide +kernel
theorem dX9_set_0 : decode cX9_set 0 = .ok (.iload_n 1, 1) := by decide +kernel
theorem dX9_set_1 : decode cX9_set 1 = .ok (.invokestatic 67, 3) := by decide +kernel
theorem dX9_set_4 : decode cX9_set 4 = .ok (.ifCond .ne 5, 3) := by decide +kernel
theorem dX9_set_7 : decode cX9_set 7 = .ok (.iconst (-1), 1) := by decide +kernel
theorem dX9_set_8 : decode cX9_set 8 = .ok (.ireturn, 1) := by decide +kernel
theorem dX9_set_9 : decode cX9_set 9 = .ok (.iload_n 2, 1) := by decide +kernel
theorem dX9_set_10 : decode cX9_set 10 = .ok (.iconst 0, 1) := by decide +kernel
theorem dX9_set_11 : decode cX9_set 11 = .ok (.sipush 9999, 3) := by decide +kernel
theorem dX9_set_14 : decode cX9_set 14 = .ok (.invokestatic 72, 3) := by decide +kernel
theorem dX9_set_17 : decode cX9_set 17 = .ok (.ifCond .ne 6, 3) := by decide +kernel
theorem dX9_set_20 : decode cX9_set 20 = .ok (.bipush (-2), 2) := by decide +kernel
theorem dX9_set_22 : decode cX9_set 22 = .ok (.ireturn, 1) := by decide +kernel
theorem dX9_set_23 : decode cX9_set 23 = .ok (.aload_n 0, 1) := by decide +kernel
theorem dX9_set_24 : decode cX9_set 24 = .ok (.getfield 12, 3) := by decide +kernel
theorem dX9_set_27 : decode cX9_set 27 = .ok (.getfield 133, 3) := by decide +kernel
theorem dX9_set_30 : decode cX9_set 30 = .ok (.iload_n 1, 1) := by decide +kernel
theorem dX9_set_31 : decode cX9_set 31 = .ok (.iaload, 1) := by decide +kernel
theorem dX9_set_32 : decode cX9_set 32 = .ok (.istore_n 3, 1) := by decide +kernel
theorem dX9_set_33 : decode cX9_set 33 = .ok (.aload_n 0, 1) := by decide +kernel
theorem dX9_set_34 : decode cX9_set 34 = .ok (.getfield 12, 3) := by decide +kernel
theorem dX9_set_37 : decode cX9_set 37 = .ok (.getfield 133, 3) := by decide +kernel
theorem dX9_set_40 : decode cX9_set 40 = .ok (.iload_n 1, 1) := by decide +kernel
theorem dX9_set_41 : decode cX9_set 41 = .ok (.iload_n 2, 1) := by decide +kernel
theorem dX9_set_42 : decode cX9_set 42 = .ok (.iastore, 1) := by decide +kernel
theorem dX9_set_43 : decode cX9_set 43 = .ok (.iload_n 3, 1) := by decide +kernel
theorem dX9_set_44 : decode cX9_set 44 = .ok (.ireturn, 1) := by decide +kernel
theorem dX9_move_0 : decode cX9_move 0 = .ok (.aload_n 0, 1) := by decide +kernel
theorem dX9_move_1 : decode cX9_move 1 = .ok (.getfield 12, 3) := by decide +kernel
theorem dX9_move_4 : decode cX9_move 4 = .ok (.iload_n 1, 1) := by decide +kernel
theorem dX9_move_5 : decode cX9_move 5 = .ok (.invokevirtual 88, 3) := by decide +kernel
theorem dX9_move_8 : decode cX9_move 8 = .ok (.ifCond .eq 19, 3) := by decide +kernel
theorem dX9_move_11 : decode cX9_move 11 = .ok (.iload_n 2, 1) := by decide +kernel
theorem dX9_move_12 : decode cX9_move 12 = .ok (.iconst 0, 1) := by decide +kernel
theorem dX9_move_13 : decode cX9_move 13 = .ok (.iconst 1, 1) := by decide +kernel
theorem dX9_move_14 : decode cX9_move 14 = .ok (.invokestatic 72, 3) := by decide +kernel
theorem dX9_move_17 : decode cX9_move 17 = .ok (.ifCond .eq 10, 3) := by decide +kernel
theorem dX9_move_20 : decode cX9_move 20 = .ok (.iload_n 3, 1) := by decide +kernel
theorem dX9_move_21 : decode cX9_move 21 = .ok (.invokestatic 67, 3) := by decide +kernel
theorem dX9_move_24 : decode cX9_move 24 = .ok (.ifCond .ne 5, 3) := by decide +kernel
theorem dX9_move_27 : decode cX9_move 27 = .ok (.iconst (-1), 1) := by decide +kernel
theorem dX9_move_28 : decode cX9_move 28 = .ok (.ireturn, 1) := by decide +kernel
theorem dX9_move_29 : decode cX9_move 29 = .ok (.iload_n 2, 1) := by decide +kernel
theorem dX9_move_30 : decode cX9_move 30 = .ok (.ifCond .ne 13, 3) := by decide +kernel
theorem dX9_move_33 : decode cX9_move 33 = .ok (.aload_n 0, 1) := by decide +kernel
theorem dX9_move_34 : decode cX9_move 34 = .ok (.getfield 12, 3) := by decide +kernel
theorem dX9_move_37 : decode cX9_move 37 = .ok (.getfield 113, 3) := by decide +kernel
theorem dX9_move_40 : decode cX9_move 40 = .ok (.goto 10, 3) := by decide +kernel
theorem dX9_move_43 : decode cX9_move 43 = .ok (.aload_n 0, 1) := by decide +kernel
theorem dX9_move_44 : decode cX9_move 44 = .ok (.getfield 12, 3) := by decide +kernel
theorem dX9_move_47 : decode cX9_move 47 = .ok (.getfield 116, 3) := by decide +kernel
theorem dX9_move_50 : decode cX9_move 50 = .ok (.astore 4, 2) := by decide +kernel
theorem dX9_move_52 : decode cX9_move 52 = .ok (.aload 4, 2) := by decide +kernel
theorem dX9_move_54 : decode cX9_move 54 = .ok (.iload_n 1, 1) := by decide +kernel
theorem dX9_move_55 : decode cX9_move 55 = .ok (.iaload, 1) := by decide +kernel
theorem dX9_move_56 : decode cX9_move 56 = .ok (.istore 5, 2) := by decide +kernel
theorem dX9_move_58 : decode cX9_move 58 = .ok (.aload 4, 2) := by decide +kernel
theorem dX9_move_60 : decode cX9_move 60 = .ok (.iload_n 1, 1) := by decide +kernel
theorem dX9_move_61 : decode cX9_move 61 = .ok (.iload_n 3, 1) := by decide +kernel
theorem dX9_move_62 : decode cX9_move 62 = .ok (.iastore, 1) := by decide +kernel
theorem dX9_move_63 : decode cX9_move 63 = .ok (.aload_n 0, 1) := by decide +kernel
theorem dX9_move_64 : decode cX9_move 64 = .ok (.getfield 12, 3) := by decide +kernel
theorem dX9_move_67 : decode cX9_move 67 = .ok (.iload_n 1, 1) := by decide +kernel
theorem dX9_move_68 : decode cX9_move 68 = .ok (.invokevirtual 136, 3) := by decide +kernel
theorem dX9_move_71 : decode cX9_move 71 = .ok (.iload 5, 2) := by decide +kernel
theorem dX9_move_73 : decode cX9_move 73 = .ok (.ireturn, 1) := by decide +kernel
theorem dX9_away_0 : decode cX9_away 0 = .ok (.aload_n 0, 1) := by decide +kernel
theorem dX9_away_1 : decode cX9_away 1 = .ok (.getfield 12, 3) := by decide +kernel
theorem dX9_away_4 : decode cX9_away 4 = .ok (.iload_n 1, 1) := by decide +kernel
theorem dX9_away_5 : decode cX9_away 5 = .ok (.invokevirtual 88, 3) := by decide +kernel
theorem dX9_away_8 : decode cX9_away 8 = .ok (.ifCond .ne 5, 3) := by decide +kernel
theorem dX9_away_11 : decode cX9_away 11 = .ok (.iconst (-1), 1) := by decide +kernel
theorem dX9_away_12 : decode cX9_away 12 = .ok (.ireturn, 1) := by decide +kernel
theorem dX9_away_13 : decode cX9_away 13 = .ok (.aload_n 0, 1) := by decide +kernel
theorem dX9_away_14 : decode cX9_away 14 = .ok (.getfield 12, 3) := by decide +kernel
theorem dX9_away_17 : decode cX9_away 17 = .ok (.iload_n 1, 1) := by decide +kernel
theorem dX9_away_18 : decode cX9_away 18 = .ok (.invokevirtual 119, 3) := by decide +kernel
theorem dX9_away_21 : decode cX9_away 21 = .ok (.invokestatic 122, 3) := by decide +kernel
theorem dX9_away_24 : decode cX9_away 24 = .ok (.istore_n 3, 1) := by decide +kernel
theorem dX9_away_25 : decode cX9_away 25 = .ok (.aload_n 0, 1) := by decide +kernel
theorem dX9_away_26 : decode cX9_away 26 = .ok (.getfield 12, 3) := by decide +kernel
theorem dX9_away_29 : decode cX9_away 29 = .ok (.iload_n 1, 1) := by decide +kernel
theorem dX9_away_30 : decode cX9_away 30 = .ok (.iload_n 2, 1) := by decide +kernel
theorem dX9_away_31 : decode cX9_away 31 = .ok (.invokevirtual 139, 3) := by decide +kernel
theorem dX9_away_34 : decode cX9_away 34 = .ok (.iload_n 3, 1) := by decide +kernel
theorem dX9_away_35 : decode cX9_away 35 = .ok (.ireturn, 1) := by decide +kernel
theorem dX9_stand_0 : decode cX9_stand 0 = .ok (.iload_n 1, 1) := by decide +kernel
theorem dX9_stand_1 : decode cX9_stand 1 = .ok (.invokestatic 67, 3) := by decide +kernel
theorem dX9_stand_4 : decode cX9_stand 4 = .ok (.ifCond .ne 5, 3) := by decide +kernel
theorem dX9_stand_7 : decode cX9_stand 7 = .ok (.iconst (-1), 1) := by decide +kernel
theorem dX9_stand_8 : decode cX9_stand 8 = .ok (.ireturn, 1) := by decide +kernel
theorem dX9_stand_9 : decode cX9_stand 9 = .ok (.aload_n 0, 1) := by decide +kernel
theorem dX9_stand_10 : decode cX9_stand 10 = .ok (.getfield 12, 3) := by decide +kernel
theorem dX9_stand_13 : decode cX9_stand 13 = .ok (.getfield 143, 3) := by decide +kernel
theorem dX9_stand_16 : decode cX9_stand 16 = .ok (.iload_n 1, 1) := by decide +kernel
theorem dX9_stand_17 : decode cX9_stand 17 = .ok (.invokestatic 146, 3) := by decide +kernel
theorem dX9_stand_20 : decode cX9_stand 20 = .ok (.istore_n 3, 1) := by decide +kernel
theorem dX9_stand_21 : decode cX9_stand 21 = .ok (.iload_n 3, 1) := by decide +kernel
theorem dX9_stand_22 : decode cX9_stand 22 = .ok (.iload_n 2, 1) := by decide +kernel
theorem dX9_stand_23 : decode cX9_stand 23 = .ok (.if_icmp .eq 21, 3) := by decide +kernel
theorem dX9_stand_26 : decode cX9_stand 26 = .ok (.aload_n 0, 1) := by decide +kernel
theorem dX9_stand_27 : decode cX9_stand 27 = .ok (.getfield 12, 3) := by decide +kernel
theorem dX9_stand_30 : decode cX9_stand 30 = .ok (.aload_n 0, 1) := by decide +kernel
theorem dX9_stand_31 : decode cX9_stand 31 = .ok (.getfield 12, 3) := by decide +kernel
theorem dX9_stand_34 : decode cX9_stand 34 = .ok (.getfield 143, 3) := by decide +kernel
theorem dX9_stand_37 : decode cX9_stand 37 = .ok (.iconst 1, 1) := by decide +kernel
theorem dX9_stand_38 : decode cX9_stand 38 = .ok (.iload_n 1, 1) := by decide +kernel
theorem dX9_stand_39 : decode cX9_stand 39 = .ok (.ishl, 1) := by decide +kernel
theorem dX9_stand_40 : decode cX9_stand 40 = .ok (.ixor, 1) := by decide +kernel
theorem dX9_stand_41 : decode cX9_stand 41 = .ok (.invokevirtual 149, 3) := by decide +kernel
theorem dX9_stand_44 : decode cX9_stand 44 = .ok (.iload_n 3, 1) := by decide +kernel
theorem dX9_stand_45 : decode cX9_stand 45 = .ok (.invokestatic 122, 3) := by decide +kernel
theorem dX9_stand_48 : decode cX9_stand 48 = .ok (.ireturn, 1) := by decide +kernel
theorem dX9_row_0 : decode cX9_row 0 = .ok (.aload_n 0, 1) := by decide +kernel
theorem dX9_row_1 : decode cX9_row 1 = .ok (.getfield 12, 3) := by decide +kernel
theorem dX9_row_4 : decode cX9_row 4 = .ok (.iload_n 1, 1) := by decide +kernel
theorem dX9_row_5 : decode cX9_row 5 = .ok (.invokevirtual 88, 3) := by decide +kernel
theorem dX9_row_8 : decode cX9_row 8 = .ok (.ifCond .eq 12, 3) := by decide +kernel
theorem dX9_row_11 : decode cX9_row 11 = .ok (.iload_n 2, 1) := by decide +kernel
theorem dX9_row_12 : decode cX9_row 12 = .ok (.iconst 0, 1) := by decide +kernel
theorem dX9_row_13 : decode cX9_row 13 = .ok (.iconst 3, 1) := by decide +kernel
theorem dX9_row_14 : decode cX9_row 14 = .ok (.invokestatic 72, 3) := by decide +kernel
theorem dX9_row_17 : decode cX9_row 17 = .ok (.ifCond .ne 5, 3) := by decide +kernel
theorem dX9_row_20 : decode cX9_row 20 = .ok (.iconst (-1), 1) := by decide +kernel
theorem dX9_row_21 : decode cX9_row 21 = .ok (.ireturn, 1) := by decide +kernel
theorem dX9_row_22 : decode cX9_row 22 = .ok (.iload_n 3, 1) := by decide +kernel
theorem dX9_row_23 : decode cX9_row 23 = .ok (.iconst 0, 1) := by decide +kernel
theorem dX9_row_24 : decode cX9_row 24 = .ok (.bipush 9, 2) := by decide +kernel
theorem dX9_row_26 : decode cX9_row 26 = .ok (.invokestatic 72, 3) := by decide +kernel
theorem dX9_row_29 : decode cX9_row 29 = .ok (.ifCond .ne 6, 3) := by decide +kernel
theorem dX9_row_32 : decode cX9_row 32 = .ok (.bipush (-2), 2) := by decide +kernel
theorem dX9_row_34 : decode cX9_row 34 = .ok (.ireturn, 1) := by decide +kernel
theorem dX9_row_35 : decode cX9_row 35 = .ok (.aload_n 0, 1) := by decide +kernel
theorem dX9_row_36 : decode cX9_row 36 = .ok (.getfield 12, 3) := by decide +kernel
theorem dX9_row_39 : decode cX9_row 39 = .ok (.getfield 107, 3) := by decide +kernel
theorem dX9_row_42 : decode cX9_row 42 = .ok (.iload_n 1, 1) := by decide +kernel
theorem dX9_row_43 : decode cX9_row 43 = .ok (.iaload, 1) := by decide +kernel
theorem dX9_row_44 : decode cX9_row 44 = .ok (.bipush 6, 2) := by decide +kernel
theorem dX9_row_46 : decode cX9_row 46 = .ok (.if_icmp .eq 6, 3) := by decide +kernel
theorem dX9_row_49 : decode cX9_row 49 = .ok (.bipush (-3), 2) := by decide +kernel
theorem dX9_row_51 : decode cX9_row 51 = .ok (.ireturn, 1) := by decide +kernel
theorem dX9_row_52 : decode cX9_row 52 = .ok (.iload_n 1, 1) := by decide +kernel
theorem dX9_row_53 : decode cX9_row 53 = .ok (.iconst 4, 1) := by decide +kernel
theorem dX9_row_54 : decode cX9_row 54 = .ok (.imul, 1) := by decide +kernel
theorem dX9_row_55 : decode cX9_row 55 = .ok (.iload_n 2, 1) := by decide +kernel
theorem dX9_row_56 : decode cX9_row 56 = .ok (.iadd, 1) := by decide +kernel
theorem dX9_row_57 : decode cX9_row 57 = .ok (.istore 4, 2) := by decide +kernel
theorem dX9_row_59 : decode cX9_row 59 = .ok (.aload_n 0, 1) := by decide +kernel
theorem dX9_row_60 : decode cX9_row 60 = .ok (.getfield 12, 3) := by decide +kernel
theorem dX9_row_63 : decode cX9_row 63 = .ok (.getfield 152, 3) := by decide +kernel
theorem dX9_row_66 : decode cX9_row 66 = .ok (.iload 4, 2) := by decide +kernel
theorem dX9_row_68 : decode cX9_row 68 = .ok (.iaload, 1) := by decide +kernel
theorem dX9_row_69 : decode cX9_row 69 = .ok (.istore 5, 2) := by decide +kernel
theorem dX9_row_71 : decode cX9_row 71 = .ok (.aload_n 0, 1) := by decide +kernel
theorem dX9_row_72 : decode cX9_row 72 = .ok (.getfield 12, 3) := by decide +kernel
theorem dX9_row_75 : decode cX9_row 75 = .ok (.getfield 152, 3) := by decide +kernel
theorem dX9_row_78 : decode cX9_row 78 = .ok (.iload 4, 2) := by decide +kernel
theorem dX9_row_80 : decode cX9_row 80 = .ok (.iload_n 3, 1) := by decide +kernel
theorem dX9_row_81 : decode cX9_row 81 = .ok (.iastore, 1) := by decide +kernel
theorem dX9_row_82 : decode cX9_row 82 = .ok (.iload 5, 2) := by decide +kernel
theorem dX9_row_84 : decode cX9_row 84 = .ok (.ireturn, 1) := by decide +kernel
theorem dX9_feed_0 : decode cX9_feed 0 = .ok (.iload_n 1, 1) := by decide +kernel
theorem dX9_feed_1 : decode cX9_feed 1 = .ok (.iconst 0, 1) := by decide +kernel
theorem dX9_feed_2 : decode cX9_feed 2 = .ok (.bipush 127, 2) := by decide +kernel
theorem dX9_feed_4 : decode cX9_feed 4 = .ok (.invokestatic 72, 3) := by decide +kernel
theorem dX9_feed_7 : decode cX9_feed 7 = .ok (.ifCond .ne 6, 3) := by decide +kernel
theorem dX9_feed_10 : decode cX9_feed 10 = .ok (.bipush (-2), 2) := by decide +kernel
theorem dX9_feed_12 : decode cX9_feed 12 = .ok (.ireturn, 1) := by decide +kernel
theorem dX9_feed_13 : decode cX9_feed 13 = .ok (.aload_n 0, 1) := by decide +kernel
theorem dX9_feed_14 : decode cX9_feed 14 = .ok (.getfield 34, 3) := by decide +kernel
theorem dX9_feed_17 : decode cX9_feed 17 = .ok (.iload_n 1, 1) := by decide +kernel
theorem dX9_feed_18 : decode cX9_feed 18 = .ok (.i2b, 1) := by decide +kernel
theorem dX9_feed_19 : decode cX9_feed 19 = .ok (.invokevirtual 155, 3) := by decide +kernel
theorem dX9_feed_22 : decode cX9_feed 22 = .ok (.ifCond .eq 13, 3) := by decide +kernel
theorem dX9_feed_25 : decode cX9_feed 25 = .ok (.aload_n 0, 1) := by decide +kernel
theorem dX9_feed_26 : decode cX9_feed 26 = .ok (.getfield 34, 3) := by decide +kernel
theorem dX9_feed_29 : decode cX9_feed 29 = .ok (.invokevirtual 159, 3) := by decide +kernel
theorem dX9_feed_32 : decode cX9_feed 32 = .ok (.goto 5, 3) := by decide +kernel
theorem dX9_feed_35 : decode cX9_feed 35 = .ok (.bipush (-4), 2) := by decide +kernel
theorem dX9_feed_37 : decode cX9_feed 37 = .ok (.ireturn, 1) := by decide +kernel
theorem dX9_room_0 : decode cX9_room 0 = .ok (.aload_n 0, 1) := by decide +kernel
theorem dX9_room_1 : decode cX9_room 1 = .ok (.getfield 34, 3) := by decide +kernel
theorem dX9_room_4 : decode cX9_room 4 = .ok (.invokevirtual 163, 3) := by decide +kernel
theorem dX9_room_7 : decode cX9_room 7 = .ok (.istore_n 1, 1) := by decide +kernel
theorem dX9_room_8 : decode cX9_room 8 = .ok (.iload_n 1, 1) := by decide +kernel
theorem dX9_room_9 : decode cX9_room 9 = .ok (.ifCond .ge 5, 3) := by decide +kernel
theorem dX9_room_12 : decode cX9_room 12 = .ok (.iload_n 1, 1) := by decide +kernel
theorem dX9_room_13 : decode cX9_room 13 = .ok (.ireturn, 1) := by decide +kernel
theorem dX9_room_14 : decode cX9_room 14 = .ok (.aload_n 0, 1) := by decide +kernel
theorem dX9_room_15 : decode cX9_room 15 = .ok (.getfield 12, 3) := by decide +kernel
theorem dX9_room_18 : decode cX9_room 18 = .ok (.iload_n 1, 1) := by decide +kernel
theorem dX9_room_19 : decode cX9_room 19 = .ok (.putfield 166, 3) := by decide +kernel
theorem dX9_room_22 : decode cX9_room 22 = .ok (.aload_n 0, 1) := by decide +kernel
theorem dX9_room_23 : decode cX9_room 23 = .ok (.getfield 12, 3) := by decide +kernel
theorem dX9_room_26 : decode cX9_room 26 = .ok (.aload_n 0, 1) := by decide +kernel
theorem dX9_room_27 : decode cX9_room 27 = .ok (.getfield 34, 3) := by decide +kernel
theorem dX9_room_30 : decode cX9_room 30 = .ok (.invokevirtual 169, 3) := by decide +kernel
theorem dX9_room_33 : decode cX9_room 33 = .ok (.putfield 172, 3) := by decide +kernel
theorem dX9_room_36 : decode cX9_room 36 = .ok (.iconst 0, 1) := by decide +kernel
theorem dX9_room_37 : decode cX9_room 37 = .ok (.istore_n 2, 1) := by decide +kernel
theorem dX9_room_38 : decode cX9_room 38 = .ok (.iload_n 2, 1) := by decide +kernel
theorem dX9_room_39 : decode cX9_room 39 = .ok (.aload_n 0, 1) := by decide +kernel
theorem dX9_room_40 : decode cX9_room 40 = .ok (.getfield 12, 3) := by decide +kernel
theorem dX9_room_43 : decode cX9_room 43 = .ok (.getfield 76, 3) := by decide +kernel
theorem dX9_room_46 : decode cX9_room 46 = .ok (.if_icmp .ge 14, 3) := by decide +kernel
theorem dX9_room_49 : decode cX9_room 49 = .ok (.aload_n 0, 1) := by decide +kernel
theorem dX9_room_50 : decode cX9_room 50 = .ok (.iload_n 2, 1) := by decide +kernel
theorem dX9_room_51 : decode cX9_room 51 = .ok (.invokevirtual 84, 3) := by decide +kernel
theorem dX9_room_54 : decode cX9_room 54 = .ok (.iinc 2 1, 3) := by decide +kernel
theorem dX9_room_57 : decode cX9_room 57 = .ok (.goto (-19), 3) := by decide +kernel
theorem dX9_room_60 : decode cX9_room 60 = .ok (.iload_n 1, 1) := by decide +kernel
theorem dX9_room_61 : decode cX9_room 61 = .ok (.ireturn, 1) := by decide +kernel
theorem dX9_told_0 : decode cX9_told 0 = .ok (.iload_n 1, 1) := by decide +kernel
theorem dX9_told_1 : decode cX9_told 1 = .ok (.bipush 10, 2) := by decide +kernel
theorem dX9_told_3 : decode cX9_told 3 = .ok (.invokestatic 91, 3) := by decide +kernel
theorem dX9_told_6 : decode cX9_told 6 = .ok (.ifCond .eq 16, 3) := by decide +kernel
theorem dX9_told_9 : decode cX9_told 9 = .ok (.aload_n 0, 1) := by decide +kernel
theorem dX9_told_10 : decode cX9_told 10 = .ok (.getfield 12, 3) := by decide +kernel
theorem dX9_told_13 : decode cX9_told 13 = .ok (.getfield 133, 3) := by decide +kernel
theorem dX9_told_16 : decode cX9_told 16 = .ok (.iload_n 1, 1) := by decide +kernel
theorem dX9_told_17 : decode cX9_told 17 = .ok (.bipush 10, 2) := by decide +kernel
theorem dX9_told_19 : decode cX9_told 19 = .ok (.isub, 1) := by decide +kernel
theorem dX9_told_20 : decode cX9_told 20 = .ok (.iaload, 1) := by decide +kernel
theorem dX9_told_21 : decode cX9_told 21 = .ok (.ireturn, 1) := by decide +kernel
theorem dX9_told_22 : decode cX9_told 22 = .ok (.iload_n 1, 1) := by decide +kernel
theorem dX9_told_23 : decode cX9_told 23 = .ok (.tableswitch 97 0 6 #[41, 49, 57, 65, 73, 81, 89], 41) := by decide +kernel
theorem dX9_told_64 : decode cX9_told 64 = .ok (.aload_n 0, 1) := by decide +kernel
theorem dX9_told_65 : decode cX9_told 65 = .ok (.getfield 12, 3) := by decide +kernel
theorem dX9_told_68 : decode cX9_told 68 = .ok (.getfield 174, 3) := by decide +kernel
theorem dX9_told_71 : decode cX9_told 71 = .ok (.ireturn, 1) := by decide +kernel
theorem dX9_told_72 : decode cX9_told 72 = .ok (.aload_n 0, 1) := by decide +kernel
theorem dX9_told_73 : decode cX9_told 73 = .ok (.getfield 12, 3) := by decide +kernel
theorem dX9_told_76 : decode cX9_told 76 = .ok (.getfield 172, 3) := by decide +kernel
theorem dX9_told_79 : decode cX9_told 79 = .ok (.ireturn, 1) := by decide +kernel
theorem dX9_told_80 : decode cX9_told 80 = .ok (.aload_n 0, 1) := by decide +kernel
theorem dX9_told_81 : decode cX9_told 81 = .ok (.getfield 12, 3) := by decide +kernel
theorem dX9_told_84 : decode cX9_told 84 = .ok (.getfield 143, 3) := by decide +kernel
theorem dX9_told_87 : decode cX9_told 87 = .ok (.ireturn, 1) := by decide +kernel
theorem dX9_told_88 : decode cX9_told 88 = .ok (.aload_n 0, 1) := by decide +kernel
theorem dX9_told_89 : decode cX9_told 89 = .ok (.getfield 12, 3) := by decide +kernel
theorem dX9_told_92 : decode cX9_told 92 = .ok (.invokevirtual 177, 3) := by decide +kernel
theorem dX9_told_95 : decode cX9_told 95 = .ok (.ireturn, 1) := by decide +kernel
theorem dX9_told_96 : decode cX9_told 96 = .ok (.aload_n 0, 1) := by decide +kernel
theorem dX9_told_97 : decode cX9_told 97 = .ok (.getfield 12, 3) := by decide +kernel
theorem dX9_told_100 : decode cX9_told 100 = .ok (.invokevirtual 180, 3) := by decide +kernel
theorem dX9_told_103 : decode cX9_told 103 = .ok (.ireturn, 1) := by decide +kernel
theorem dX9_told_104 : decode cX9_told 104 = .ok (.aload_n 0, 1) := by decide +kernel
theorem dX9_told_105 : decode cX9_told 105 = .ok (.getfield 12, 3) := by decide +kernel
theorem dX9_told_108 : decode cX9_told 108 = .ok (.invokevirtual 183, 3) := by decide +kernel
theorem dX9_told_111 : decode cX9_told 111 = .ok (.ireturn, 1) := by decide +kernel
theorem dX9_told_112 : decode cX9_told 112 = .ok (.aload_n 0, 1) := by decide +kernel
theorem dX9_told_113 : decode cX9_told 113 = .ok (.getfield 43, 3) := by decide +kernel
theorem dX9_told_116 : decode cX9_told 116 = .ok (.invokevirtual 186, 3) := by decide +kernel
theorem dX9_told_119 : decode cX9_told 119 = .ok (.ireturn, 1) := by decide +kernel
theorem dX9_told_120 : decode cX9_told 120 = .ok (.iconst (-1), 1) := by decide +kernel
theorem dX9_told_121 : decode cX9_told 121 = .ok (.ireturn, 1) := by decide +kernel
theorem dX9_pass_0 : decode cX9_pass 0 = .ok (.iload_n 1, 1) := by decide +kernel
theorem dX9_pass_1 : decode cX9_pass 1 = .ok (.iconst 0, 1) := by decide +kernel
theorem dX9_pass_2 : decode cX9_pass 2 = .ok (.bipush 60, 2) := by decide +kernel
theorem dX9_pass_4 : decode cX9_pass 4 = .ok (.invokestatic 72, 3) := by decide +kernel
theorem dX9_pass_7 : decode cX9_pass 7 = .ok (.ifCond .ne 6, 3) := by decide +kernel
theorem dX9_pass_10 : decode cX9_pass 10 = .ok (.bipush (-2), 2) := by decide +kernel
theorem dX9_pass_12 : decode cX9_pass 12 = .ok (.ireturn, 1) := by decide +kernel
theorem dX9_pass_13 : decode cX9_pass 13 = .ok (.aload_n 0, 1) := by decide +kernel
theorem dX9_pass_14 : decode cX9_pass 14 = .ok (.getfield 12, 3) := by decide +kernel
theorem dX9_pass_17 : decode cX9_pass 17 = .ok (.getfield 174, 3) := by decide +kernel
theorem dX9_pass_20 : decode cX9_pass 20 = .ok (.iload_n 1, 1) := by decide +kernel
theorem dX9_pass_21 : decode cX9_pass 21 = .ok (.iadd, 1) := by decide +kernel
theorem dX9_pass_22 : decode cX9_pass 22 = .ok (.sipush 9999, 3) := by decide +kernel
theorem dX9_pass_25 : decode cX9_pass 25 = .ok (.if_icmp .le 6, 3) := by decide +kernel
theorem dX9_pass_28 : decode cX9_pass 28 = .ok (.bipush (-3), 2) := by decide +kernel
theorem dX9_pass_30 : decode cX9_pass 30 = .ok (.ireturn, 1) := by decide +kernel
theorem dX9_pass_31 : decode cX9_pass 31 = .ok (.aload_n 0, 1) := by decide +kernel
theorem dX9_pass_32 : decode cX9_pass 32 = .ok (.getfield 12, 3) := by decide +kernel
theorem dX9_pass_35 : decode cX9_pass 35 = .ok (.iload_n 1, 1) := by decide +kernel
theorem dX9_pass_36 : decode cX9_pass 36 = .ok (.invokevirtual 189, 3) := by decide +kernel
theorem dX9_pass_39 : decode cX9_pass 39 = .ok (.aload_n 0, 1) := by decide +kernel
theorem dX9_pass_40 : decode cX9_pass 40 = .ok (.getfield 12, 3) := by decide +kernel
theorem dX9_pass_43 : decode cX9_pass 43 = .ok (.invokevirtual 192, 3) := by decide +kernel
theorem dX9_pass_46 : decode cX9_pass 46 = .ok (.aload_n 0, 1) := by decide +kernel
theorem dX9_pass_47 : decode cX9_pass 47 = .ok (.getfield 12, 3) := by decide +kernel
theorem dX9_pass_50 : decode cX9_pass 50 = .ok (.getfield 174, 3) := by decide +kernel
theorem dX9_pass_53 : decode cX9_pass 53 = .ok (.ireturn, 1) := by decide +kernel
theorem dX9_on_0 : decode cX9_on 0 = .ok (.iload_n 2, 1) := by decide +kernel
theorem dX9_on_1 : decode cX9_on 1 = .ok (.bipush 10, 2) := by decide +kernel
theorem dX9_on_3 : decode cX9_on 3 = .ok (.invokestatic 91, 3) := by decide +kernel
theorem dX9_on_6 : decode cX9_on 6 = .ok (.istore_n 3, 1) := by decide +kernel
theorem dX9_on_7 : decode cX9_on 7 = .ok (.iload_n 3, 1) := by decide +kernel
theorem dX9_on_8 : decode cX9_on 8 = .ok (.ifCond .ne 14, 3) := by decide +kernel
theorem dX9_on_11 : decode cX9_on 11 = .ok (.iload_n 2, 1) := by decide +kernel
theorem dX9_on_12 : decode cX9_on 12 = .ok (.iconst 0, 1) := by decide +kernel
theorem dX9_on_13 : decode cX9_on 13 = .ok (.iconst 1, 1) := by decide +kernel
theorem dX9_on_14 : decode cX9_on 14 = .ok (.invokestatic 72, 3) := by decide +kernel
theorem dX9_on_17 : decode cX9_on 17 = .ok (.ifCond .ne 5, 3) := by decide +kernel
theorem dX9_on_20 : decode cX9_on 20 = .ok (.iconst (-1), 1) := by decide +kernel
theorem dX9_on_21 : decode cX9_on 21 = .ok (.ireturn, 1) := by decide +kernel
theorem dX9_on_22 : decode cX9_on 22 = .ok (.iload_n 1, 1) := by decide +kernel
theorem dX9_on_23 : decode cX9_on 23 = .ok (.iconst 0, 1) := by decide +kernel
theorem dX9_on_24 : decode cX9_on 24 = .ok (.bipush 60, 2) := by decide +kernel
theorem dX9_on_26 : decode cX9_on 26 = .ok (.invokestatic 72, 3) := by decide +kernel
theorem dX9_on_29 : decode cX9_on 29 = .ok (.ifCond .ne 6, 3) := by decide +kernel
theorem dX9_on_32 : decode cX9_on 32 = .ok (.bipush (-2), 2) := by decide +kernel
theorem dX9_on_34 : decode cX9_on 34 = .ok (.ireturn, 1) := by decide +kernel
theorem dX9_on_35 : decode cX9_on 35 = .ok (.aload_n 0, 1) := by decide +kernel
theorem dX9_on_36 : decode cX9_on 36 = .ok (.getfield 43, 3) := by decide +kernel
theorem dX9_on_39 : decode cX9_on 39 = .ok (.iload_n 1, 1) := by decide +kernel
theorem dX9_on_40 : decode cX9_on 40 = .ok (.invokevirtual 195, 3) := by decide +kernel
theorem dX9_on_43 : decode cX9_on 43 = .ok (.astore 4, 2) := by decide +kernel
theorem dX9_on_45 : decode cX9_on 45 = .ok (.iload_n 3, 1) := by decide +kernel
theorem dX9_on_46 : decode cX9_on 46 = .ok (.ifCond .eq 14, 3) := by decide +kernel
theorem dX9_on_49 : decode cX9_on 49 = .ok (.aload 4, 2) := by decide +kernel
theorem dX9_on_51 : decode cX9_on 51 = .ok (.getfield 133, 3) := by decide +kernel
theorem dX9_on_54 : decode cX9_on 54 = .ok (.iload_n 2, 1) := by decide +kernel
theorem dX9_on_55 : decode cX9_on 55 = .ok (.bipush 10, 2) := by decide +kernel
theorem dX9_on_57 : decode cX9_on 57 = .ok (.isub, 1) := by decide +kernel
theorem dX9_on_58 : decode cX9_on 58 = .ok (.iaload, 1) := by decide +kernel
theorem dX9_on_59 : decode cX9_on 59 = .ok (.ireturn, 1) := by decide +kernel
theorem dX9_on_60 : decode cX9_on 60 = .ok (.iload_n 2, 1) := by decide +kernel
theorem dX9_on_61 : decode cX9_on 61 = .ok (.ifCond .ne 11, 3) := by decide +kernel
theorem dX9_on_64 : decode cX9_on 64 = .ok (.aload 4, 2) := by decide +kernel
theorem dX9_on_66 : decode cX9_on 66 = .ok (.invokevirtual 177, 3) := by decide +kernel
theorem dX9_on_69 : decode cX9_on 69 = .ok (.goto 8, 3) := by decide +kernel
theorem dX9_on_72 : decode cX9_on 72 = .ok (.aload 4, 2) := by decide +kernel
theorem dX9_on_74 : decode cX9_on 74 = .ok (.invokevirtual 180, 3) := by decide +kernel
theorem dX9_on_77 : decode cX9_on 77 = .ok (.ireturn, 1) := by decide +kernel
theorem dX9_worn_0 : decode cX9_worn 0 = .ok (.iload_n 1, 1) := by decide +kernel
theorem dX9_worn_1 : decode cX9_worn 1 = .ok (.invokestatic 67, 3) := by decide +kernel
theorem dX9_worn_4 : decode cX9_worn 4 = .ok (.ifCond .eq 14, 3) := by decide +kernel
theorem dX9_worn_7 : decode cX9_worn 7 = .ok (.aload_n 0, 1) := by decide +kernel
theorem dX9_worn_8 : decode cX9_worn 8 = .ok (.getfield 43, 3) := by decide +kernel
theorem dX9_worn_11 : decode cX9_worn 11 = .ok (.iload_n 1, 1) := by decide +kernel
theorem dX9_worn_12 : decode cX9_worn 12 = .ok (.invokevirtual 199, 3) := by decide +kernel
theorem dX9_worn_15 : decode cX9_worn 15 = .ok (.goto 4, 3) := by decide +kernel
theorem dX9_worn_18 : decode cX9_worn 18 = .ok (.iconst (-1), 1) := by decide +kernel
theorem dX9_worn_19 : decode cX9_worn 19 = .ok (.ireturn, 1) := by decide +kernel
theorem dX9_meet_0 : decode cX9_meet 0 = .ok (.aload_n 0, 1) := by decide +kernel
theorem dX9_meet_1 : decode cX9_meet 1 = .ok (.getfield 12, 3) := by decide +kernel
theorem dX9_meet_4 : decode cX9_meet 4 = .ok (.iload_n 1, 1) := by decide +kernel
theorem dX9_meet_5 : decode cX9_meet 5 = .ok (.invokevirtual 88, 3) := by decide +kernel
theorem dX9_meet_8 : decode cX9_meet 8 = .ok (.ifCond .eq 14, 3) := by decide +kernel
theorem dX9_meet_11 : decode cX9_meet 11 = .ok (.aload_n 0, 1) := by decide +kernel
theorem dX9_meet_12 : decode cX9_meet 12 = .ok (.getfield 12, 3) := by decide +kernel
theorem dX9_meet_15 : decode cX9_meet 15 = .ok (.iload_n 2, 1) := by decide +kernel
theorem dX9_meet_16 : decode cX9_meet 16 = .ok (.invokevirtual 88, 3) := by decide +kernel
theorem dX9_meet_19 : decode cX9_meet 19 = .ok (.ifCond .ne 5, 3) := by decide +kernel
theorem dX9_meet_22 : decode cX9_meet 22 = .ok (.iconst (-1), 1) := by decide +kernel
theorem dX9_meet_23 : decode cX9_meet 23 = .ok (.ireturn, 1) := by decide +kernel
theorem dX9_meet_24 : decode cX9_meet 24 = .ok (.iload_n 1, 1) := by decide +kernel
theorem dX9_meet_25 : decode cX9_meet 25 = .ok (.iload_n 2, 1) := by decide +kernel
theorem dX9_meet_26 : decode cX9_meet 26 = .ok (.if_icmp .ne 6, 3) := by decide +kernel
theorem dX9_meet_29 : decode cX9_meet 29 = .ok (.bipush (-2), 2) := by decide +kernel
theorem dX9_meet_31 : decode cX9_meet 31 = .ok (.ireturn, 1) := by decide +kernel
theorem dX9_meet_32 : decode cX9_meet 32 = .ok (.aload_n 0, 1) := by decide +kernel
theorem dX9_meet_33 : decode cX9_meet 33 = .ok (.getfield 12, 3) := by decide +kernel
theorem dX9_meet_36 : decode cX9_meet 36 = .ok (.getfield 126, 3) := by decide +kernel
theorem dX9_meet_39 : decode cX9_meet 39 = .ok (.iload_n 1, 1) := by decide +kernel
theorem dX9_meet_40 : decode cX9_meet 40 = .ok (.iaload, 1) := by decide +kernel
theorem dX9_meet_41 : decode cX9_meet 41 = .ok (.aload_n 0, 1) := by decide +kernel
theorem dX9_meet_42 : decode cX9_meet 42 = .ok (.getfield 12, 3) := by decide +kernel
theorem dX9_meet_45 : decode cX9_meet 45 = .ok (.getfield 126, 3) := by decide +kernel
theorem dX9_meet_48 : decode cX9_meet 48 = .ok (.iload_n 2, 1) := by decide +kernel
theorem dX9_meet_49 : decode cX9_meet 49 = .ok (.iaload, 1) := by decide +kernel
theorem dX9_meet_50 : decode cX9_meet 50 = .ok (.iand, 1) := by decide +kernel
theorem dX9_meet_51 : decode cX9_meet 51 = .ok (.ireturn, 1) := by decide +kernel
theorem dX9_who_0 : decode cX9_who 0 = .ok (.iload_n 3, 1) := by decide +kernel
theorem dX9_who_1 : decode cX9_who 1 = .ok (.iconst 0, 1) := by decide +kernel
theorem dX9_who_2 : decode cX9_who 2 = .ok (.iconst 1, 1) := by decide +kernel
theorem dX9_who_3 : decode cX9_who 3 = .ok (.invokestatic 72, 3) := by decide +kernel
theorem dX9_who_6 : decode cX9_who 6 = .ok (.ifCond .ne 5, 3) := by decide +kernel
theorem dX9_who_9 : decode cX9_who 9 = .ok (.iconst (-1), 1) := by decide +kernel
theorem dX9_who_10 : decode cX9_who 10 = .ok (.ireturn, 1) := by decide +kernel
theorem dX9_who_11 : decode cX9_who 11 = .ok (.iload_n 1, 1) := by decide +kernel
theorem dX9_who_12 : decode cX9_who 12 = .ok (.iconst 0, 1) := by decide +kernel
theorem dX9_who_13 : decode cX9_who 13 = .ok (.ldc 202, 2) := by decide +kernel
theorem dX9_who_15 : decode cX9_who 15 = .ok (.invokestatic 72, 3) := by decide +kernel
theorem dX9_who_18 : decode cX9_who 18 = .ok (.ifCond .eq 13, 3) := by decide +kernel
theorem dX9_who_21 : decode cX9_who 21 = .ok (.iload_n 2, 1) := by decide +kernel
theorem dX9_who_22 : decode cX9_who 22 = .ok (.iconst 1, 1) := by decide +kernel
theorem dX9_who_23 : decode cX9_who 23 = .ok (.bipush 20, 2) := by decide +kernel
theorem dX9_who_25 : decode cX9_who 25 = .ok (.invokestatic 72, 3) := by decide +kernel
theorem dX9_who_28 : decode cX9_who 28 = .ok (.ifCond .ne 6, 3) := by decide +kernel
theorem dX9_who_31 : decode cX9_who 31 = .ok (.bipush (-2), 2) := by decide +kernel
theorem dX9_who_33 : decode cX9_who 33 = .ok (.ireturn, 1) := by decide +kernel
theorem dX9_who_34 : decode cX9_who 34 = .ok (.iload_n 3, 1) := by decide +kernel
theorem dX9_who_35 : decode cX9_who 35 = .ok (.ifCond .ne 15, 3) := by decide +kernel
theorem dX9_who_38 : decode cX9_who 38 = .ok (.aload_n 0, 1) := by decide +kernel
theorem dX9_who_39 : decode cX9_who 39 = .ok (.getfield 43, 3) := by decide +kernel
theorem dX9_who_42 : decode cX9_who 42 = .ok (.iload_n 1, 1) := by decide +kernel
theorem dX9_who_43 : decode cX9_who 43 = .ok (.iload_n 2, 1) := by decide +kernel
theorem dX9_who_44 : decode cX9_who 44 = .ok (.invokevirtual 203, 3) := by decide +kernel
theorem dX9_who_47 : decode cX9_who 47 = .ok (.goto 12, 3) := by decide +kernel
theorem dX9_who_50 : decode cX9_who 50 = .ok (.aload_n 0, 1) := by decide +kernel
theorem dX9_who_51 : decode cX9_who 51 = .ok (.getfield 43, 3) := by decide +kernel
theorem dX9_who_54 : decode cX9_who 54 = .ok (.iload_n 1, 1) := by decide +kernel
theorem dX9_who_55 : decode cX9_who 55 = .ok (.iload_n 2, 1) := by decide +kernel
theorem dX9_who_56 : decode cX9_who 56 = .ok (.invokevirtual 206, 3) := by decide +kernel
theorem dX9_who_59 : decode cX9_who 59 = .ok (.ireturn, 1) := by decide +kernel
theorem dX9_best_0 : decode cX9_best 0 = .ok (.iload_n 1, 1) := by decide +kernel
theorem dX9_best_1 : decode cX9_best 1 = .ok (.lookupswitch 43 #[(0, 27), (1, 35)], 27) := by decide +kernel
theorem dX9_best_28 : decode cX9_best 28 = .ok (.aload_n 0, 1) := by decide +kernel
theorem dX9_best_29 : decode cX9_best 29 = .ok (.getfield 43, 3) := by decide +kernel
theorem dX9_best_32 : decode cX9_best 32 = .ok (.invokevirtual 209, 3) := by decide +kernel
theorem dX9_best_35 : decode cX9_best 35 = .ok (.ireturn, 1) := by decide +kernel
theorem dX9_best_36 : decode cX9_best 36 = .ok (.aload_n 0, 1) := by decide +kernel
theorem dX9_best_37 : decode cX9_best 37 = .ok (.getfield 43, 3) := by decide +kernel
theorem dX9_best_40 : decode cX9_best 40 = .ok (.invokevirtual 212, 3) := by decide +kernel
theorem dX9_best_43 : decode cX9_best 43 = .ok (.ireturn, 1) := by decide +kernel
theorem dX9_best_44 : decode cX9_best 44 = .ok (.iconst (-1), 1) := by decide +kernel
theorem dX9_best_45 : decode cX9_best 45 = .ok (.ireturn, 1) := by decide +kernel
theorem dX9_see_0 : decode cX9_see 0 = .ok (.iload_n 1, 1) := by decide +kernel
theorem dX9_see_1 : decode cX9_see 1 = .ok (.iconst (-1), 1) := by decide +kernel
theorem dX9_see_2 : decode cX9_see 2 = .ok (.if_icmp .ne 11, 3) := by decide +kernel
theorem dX9_see_5 : decode cX9_see 5 = .ok (.aload_n 0, 1) := by decide +kernel
theorem dX9_see_6 : decode cX9_see 6 = .ok (.getfield 24, 3) := by decide +kernel
theorem dX9_see_9 : decode cX9_see 9 = .ok (.invokevirtual 215, 3) := by decide +kernel
theorem dX9_see_12 : decode cX9_see 12 = .ok (.ireturn, 1) := by decide +kernel
theorem dX9_see_13 : decode cX9_see 13 = .ok (.iload_n 1, 1) := by decide +kernel
theorem dX9_see_14 : decode cX9_see 14 = .ok (.invokestatic 67, 3) := by decide +kernel
theorem dX9_see_17 : decode cX9_see 17 = .ok (.ifCond .ne 5, 3) := by decide +kernel
theorem dX9_see_20 : decode cX9_see 20 = .ok (.iconst (-1), 1) := by decide +kernel
theorem dX9_see_21 : decode cX9_see 21 = .ok (.ireturn, 1) := by decide +kernel
theorem dX9_see_22 : decode cX9_see 22 = .ok (.iload_n 2, 1) := by decide +kernel
theorem dX9_see_23 : decode cX9_see 23 = .ok (.iconst 0, 1) := by decide +kernel
theorem dX9_see_24 : decode cX9_see 24 = .ok (.sipush 9999, 3) := by decide +kernel
theorem dX9_see_27 : decode cX9_see 27 = .ok (.invokestatic 72, 3) := by decide +kernel
theorem dX9_see_30 : decode cX9_see 30 = .ok (.ifCond .eq 13, 3) := by decide +kernel
theorem dX9_see_33 : decode cX9_see 33 = .ok (.iload_n 3, 1) := by decide +kernel
theorem dX9_see_34 : decode cX9_see 34 = .ok (.iconst 0, 1) := by decide +kernel
theorem dX9_see_35 : decode cX9_see 35 = .ok (.bipush 20, 2) := by decide +kernel
theorem dX9_see_37 : decode cX9_see 37 = .ok (.invokestatic 72, 3) := by decide +kernel
theorem dX9_see_40 : decode cX9_see 40 = .ok (.ifCond .ne 6, 3) := by decide +kernel
theorem dX9_see_43 : decode cX9_see 43 = .ok (.bipush (-2), 2) := by decide +kernel
theorem dX9_see_45 : decode cX9_see 45 = .ok (.ireturn, 1) := by decide +kernel
theorem dX9_see_46 : decode cX9_see 46 = .ok (.aload_n 0, 1) := by decide +kernel
theorem dX9_see_47 : decode cX9_see 47 = .ok (.getfield 24, 3) := by decide +kernel
theorem dX9_see_50 : decode cX9_see 50 = .ok (.iload_n 1, 1) := by decide +kernel
theorem dX9_see_51 : decode cX9_see 51 = .ok (.iload_n 2, 1) := by decide +kernel
theorem dX9_see_52 : decode cX9_see 52 = .ok (.iload_n 3, 1) := by decide +kernel
theorem dX9_see_53 : decode cX9_see 53 = .ok (.invokevirtual 218, 3) := by decide +kernel
theorem dX9_see_56 : decode cX9_see 56 = .ok (.ifCond .eq 13, 3) := by decide +kernel
theorem dX9_see_59 : decode cX9_see 59 = .ok (.aload_n 0, 1) := by decide +kernel
theorem dX9_see_60 : decode cX9_see 60 = .ok (.getfield 24, 3) := by decide +kernel
theorem dX9_see_63 : decode cX9_see 63 = .ok (.getfield 221, 3) := by decide +kernel
theorem dX9_see_66 : decode cX9_see 66 = .ok (.goto 5, 3) := by decide +kernel
theorem dX9_see_69 : decode cX9_see 69 = .ok (.bipush (-4), 2) := by decide +kernel
theorem dX9_see_71 : decode cX9_see 71 = .ok (.ireturn, 1) := by decide +kernel
theorem dX9_starts_0 : decode cX9_starts 0 = .ok (.aload_n 0, 1) := by decide +kernel
theorem dX9_starts_1 : decode cX9_starts 1 = .ok (.getfield 12, 3) := by decide +kernel
theorem dX9_starts_4 : decode cX9_starts 4 = .ok (.iload_n 1, 1) := by decide +kernel
theorem dX9_starts_5 : decode cX9_starts 5 = .ok (.invokevirtual 88, 3) := by decide +kernel
theorem dX9_starts_8 : decode cX9_starts 8 = .ok (.ifCond .eq 14, 3) := by decide +kernel
theorem dX9_starts_11 : decode cX9_starts 11 = .ok (.aload_n 0, 1) := by decide +kernel
theorem dX9_starts_12 : decode cX9_starts 12 = .ok (.getfield 43, 3) := by decide +kernel
theorem dX9_starts_15 : decode cX9_starts 15 = .ok (.iload_n 1, 1) := by decide +kernel
theorem dX9_starts_16 : decode cX9_starts 16 = .ok (.invokevirtual 224, 3) := by decide +kernel
theorem dX9_starts_19 : decode cX9_starts 19 = .ok (.goto 4, 3) := by decide +kernel
theorem dX9_starts_22 : decode cX9_starts 22 = .ok (.iconst (-1), 1) := by decide +kernel
theorem dX9_starts_23 : decode cX9_starts 23 = .ok (.ireturn, 1) := by decide +kernel
theorem dX9_can_0 : decode cX9_can 0 = .ok (.aload_n 0, 1) := by decide +kernel
theorem dX9_can_1 : decode cX9_can 1 = .ok (.getfield 12, 3) := by decide +kernel
theorem dX9_can_4 : decode cX9_can 4 = .ok (.iload_n 1, 1) := by decide +kernel
theorem dX9_can_5 : decode cX9_can 5 = .ok (.invokevirtual 88, 3) := by decide +kernel
theorem dX9_can_8 : decode cX9_can 8 = .ok (.ifCond .eq 12, 3) := by decide +kernel
theorem dX9_can_11 : decode cX9_can 11 = .ok (.iload_n 2, 1) := by decide +kernel
theorem dX9_can_12 : decode cX9_can 12 = .ok (.iconst 0, 1) := by decide +kernel
theorem dX9_can_13 : decode cX9_can 13 = .ok (.iconst 1, 1) := by decide +kernel
theorem dX9_can_14 : decode cX9_can 14 = .ok (.invokestatic 72, 3) := by decide +kernel
theorem dX9_can_17 : decode cX9_can 17 = .ok (.ifCond .ne 5, 3) := by decide +kernel
theorem dX9_can_20 : decode cX9_can 20 = .ok (.iconst (-1), 1) := by decide +kernel
theorem dX9_can_21 : decode cX9_can 21 = .ok (.ireturn, 1) := by decide +kernel
theorem dX9_can_22 : decode cX9_can 22 = .ok (.aload_n 0, 1) := by decide +kernel
theorem dX9_can_23 : decode cX9_can 23 = .ok (.getfield 43, 3) := by decide +kernel
theorem dX9_can_26 : decode cX9_can 26 = .ok (.iload_n 1, 1) := by decide +kernel
theorem dX9_can_27 : decode cX9_can 27 = .ok (.invokevirtual 227, 3) := by decide +kernel
theorem dX9_can_30 : decode cX9_can 30 = .ok (.istore_n 3, 1) := by decide +kernel
theorem dX9_can_31 : decode cX9_can 31 = .ok (.iload_n 2, 1) := by decide +kernel
theorem dX9_can_32 : decode cX9_can 32 = .ok (.ifCond .ne 10, 3) := by decide +kernel
theorem dX9_can_35 : decode cX9_can 35 = .ok (.iload_n 3, 1) := by decide +kernel
theorem dX9_can_36 : decode cX9_can 36 = .ok (.invokestatic 129, 3) := by decide +kernel
theorem dX9_can_39 : decode cX9_can 39 = .ok (.goto 7, 3) := by decide +kernel
theorem dX9_can_42 : decode cX9_can 42 = .ok (.iload_n 3, 1) := by decide +kernel
theorem dX9_can_43 : decode cX9_can 43 = .ok (.invokestatic 230, 3) := by decide +kernel
theorem dX9_can_46 : decode cX9_can 46 = .ok (.ireturn, 1) := by decide +kernel
theorem dX9_sole_0 : decode cX9_sole 0 = .ok (.aload_n 0, 1) := by decide +kernel
theorem dX9_sole_1 : decode cX9_sole 1 = .ok (.getfield 43, 3) := by decide +kernel
theorem dX9_sole_4 : decode cX9_sole 4 = .ok (.invokevirtual 233, 3) := by decide +kernel
theorem dX9_sole_7 : decode cX9_sole 7 = .ok (.ireturn, 1) := by decide +kernel
theorem dX9_odds_0 : decode cX9_odds 0 = .ok (.iload_n 1, 1) := by decide +kernel
theorem dX9_odds_1 : decode cX9_odds 1 = .ok (.invokestatic 67, 3) := by decide +kernel
theorem dX9_odds_4 : decode cX9_odds 4 = .ok (.ifCond .eq 23, 3) := by decide +kernel
theorem dX9_odds_7 : decode cX9_odds 7 = .ok (.iload_n 2, 1) := by decide +kernel
theorem dX9_odds_8 : decode cX9_odds 8 = .ok (.iconst 0, 1) := by decide +kernel
theorem dX9_odds_9 : decode cX9_odds 9 = .ok (.bipush 60, 2) := by decide +kernel
theorem dX9_odds_11 : decode cX9_odds 11 = .ok (.invokestatic 72, 3) := by decide +kernel
theorem dX9_odds_14 : decode cX9_odds 14 = .ok (.ifCond .eq 13, 3) := by decide +kernel
theorem dX9_odds_17 : decode cX9_odds 17 = .ok (.aload_n 0, 1) := by decide +kernel
theorem dX9_odds_18 : decode cX9_odds 18 = .ok (.getfield 12, 3) := by decide +kernel
theorem dX9_odds_21 : decode cX9_odds 21 = .ok (.getfield 76, 3) := by decide +kernel
theorem dX9_odds_24 : decode cX9_odds 24 = .ok (.ifCond .ne 7, 3) := by decide +kernel
theorem dX9_odds_27 : decode cX9_odds 27 = .ok (.ldc2_w 236, 3) := by decide +kernel
theorem dX9_odds_30 : decode cX9_odds 30 = .ok (.lreturn, 1) := by decide +kernel
theorem dX9_odds_31 : decode cX9_odds 31 = .ok (.aload_n 0, 1) := by decide +kernel
theorem dX9_odds_32 : decode cX9_odds 32 = .ok (.getfield 43, 3) := by decide +kernel
theorem dX9_odds_35 : decode cX9_odds 35 = .ok (.iload_n 1, 1) := by decide +kernel
theorem dX9_odds_36 : decode cX9_odds 36 = .ok (.iload_n 2, 1) := by decide +kernel
theorem dX9_odds_37 : decode cX9_odds 37 = .ok (.invokevirtual 238, 3) := by decide +kernel
theorem dX9_odds_40 : decode cX9_odds 40 = .ok (.aload_n 0, 1) := by decide +kernel
theorem dX9_odds_41 : decode cX9_odds 41 = .ok (.getfield 12, 3) := by decide +kernel
theorem dX9_odds_44 : decode cX9_odds 44 = .ok (.getfield 76, 3) := by decide +kernel
theorem dX9_odds_47 : decode cX9_odds 47 = .ok (.iload_n 3, 1) := by decide +kernel
theorem dX9_odds_48 : decode cX9_odds 48 = .ok (.invokestatic 241, 3) := by decide +kernel
theorem dX9_odds_51 : decode cX9_odds 51 = .ok (.lreturn, 1) := by decide +kernel
theorem dX9_mean_0 : decode cX9_mean 0 = .ok (.iload_n 1, 1) := by decide +kernel
theorem dX9_mean_1 : decode cX9_mean 1 = .ok (.iconst 0, 1) := by decide +kernel
theorem dX9_mean_2 : decode cX9_mean 2 = .ok (.bipush 60, 2) := by decide +kernel
theorem dX9_mean_4 : decode cX9_mean 4 = .ok (.invokestatic 72, 3) := by decide +kernel
theorem dX9_mean_7 : decode cX9_mean 7 = .ok (.ifCond .ne 7, 3) := by decide +kernel
theorem dX9_mean_10 : decode cX9_mean 10 = .ok (.ldc2_w 236, 3) := by decide +kernel
theorem dX9_mean_13 : decode cX9_mean 13 = .ok (.lreturn, 1) := by decide +kernel
theorem dX9_mean_14 : decode cX9_mean 14 = .ok (.aload_n 0, 1) := by decide +kernel
theorem dX9_mean_15 : decode cX9_mean 15 = .ok (.getfield 43, 3) := by decide +kernel
theorem dX9_mean_18 : decode cX9_mean 18 = .ok (.iload_n 1, 1) := by decide +kernel
theorem dX9_mean_19 : decode cX9_mean 19 = .ok (.invokevirtual 195, 3) := by decide +kernel
theorem dX9_mean_22 : decode cX9_mean 22 = .ok (.invokevirtual 180, 3) := by decide +kernel
theorem dX9_mean_25 : decode cX9_mean 25 = .ok (.bipush 16, 2) := by decide +kernel
theorem dX9_mean_27 : decode cX9_mean 27 = .ok (.iload_n 2, 1) := by decide +kernel
theorem dX9_mean_28 : decode cX9_mean 28 = .ok (.invokestatic 241, 3) := by decide +kernel
theorem dX9_mean_31 : decode cX9_mean 31 = .ok (.lreturn, 1) := by decide +kernel
theorem dX9_plan_0 : decode cX9_plan 0 = .ok (.iload_n 1, 1) := by decide +kernel
theorem dX9_plan_1 : decode cX9_plan 1 = .ok (.iconst (-1), 1) := by decide +kernel
theorem dX9_plan_2 : decode cX9_plan 2 = .ok (.if_icmp .ne 11, 3) := by decide +kernel
theorem dX9_plan_5 : decode cX9_plan 5 = .ok (.aload_n 0, 1) := by decide +kernel
theorem dX9_plan_6 : decode cX9_plan 6 = .ok (.getfield 24, 3) := by decide +kernel
theorem dX9_plan_9 : decode cX9_plan 9 = .ok (.invokevirtual 245, 3) := by decide +kernel
theorem dX9_plan_12 : decode cX9_plan 12 = .ok (.ireturn, 1) := by decide +kernel
theorem dX9_plan_13 : decode cX9_plan 13 = .ok (.iload_n 1, 1) := by decide +kernel
theorem dX9_plan_14 : decode cX9_plan 14 = .ok (.iconst 0, 1) := by decide +kernel
theorem dX9_plan_15 : decode cX9_plan 15 = .ok (.iconst 3, 1) := by decide +kernel
theorem dX9_plan_16 : decode cX9_plan 16 = .ok (.invokestatic 72, 3) := by decide +kernel
theorem dX9_plan_19 : decode cX9_plan 19 = .ok (.ifCond .ne 5, 3) := by decide +kernel
theorem dX9_plan_22 : decode cX9_plan 22 = .ok (.iconst (-1), 1) := by decide +kernel
theorem dX9_plan_23 : decode cX9_plan 23 = .ok (.ireturn, 1) := by decide +kernel
theorem dX9_plan_24 : decode cX9_plan 24 = .ok (.iload_n 1, 1) := by decide +kernel
theorem dX9_plan_25 : decode cX9_plan 25 = .ok (.iconst 1, 1) := by decide +kernel
theorem dX9_plan_26 : decode cX9_plan 26 = .ok (.if_icmp .ne 16, 3) := by decide +kernel
theorem dX9_plan_29 : decode cX9_plan 29 = .ok (.aload_n 0, 1) := by decide +kernel
theorem dX9_plan_30 : decode cX9_plan 30 = .ok (.getfield 12, 3) := by decide +kernel
theorem dX9_plan_33 : decode cX9_plan 33 = .ok (.iload_n 2, 1) := by decide +kernel
theorem dX9_plan_34 : decode cX9_plan 34 = .ok (.invokevirtual 88, 3) := by decide +kernel
theorem dX9_plan_37 : decode cX9_plan 37 = .ok (.ifCond .ne 5, 3) := by decide +kernel
theorem dX9_plan_40 : decode cX9_plan 40 = .ok (.iconst (-1), 1) := by decide +kernel
theorem dX9_plan_41 : decode cX9_plan 41 = .ok (.ireturn, 1) := by decide +kernel
theorem dX9_plan_42 : decode cX9_plan 42 = .ok (.iload_n 1, 1) := by decide +kernel
theorem dX9_plan_43 : decode cX9_plan 43 = .ok (.iconst 2, 1) := by decide +kernel
theorem dX9_plan_44 : decode cX9_plan 44 = .ok (.if_icmp .lt 12, 3) := by decide +kernel
theorem dX9_plan_47 : decode cX9_plan 47 = .ok (.iload_n 2, 1) := by decide +kernel
theorem dX9_plan_48 : decode cX9_plan 48 = .ok (.invokestatic 67, 3) := by decide +kernel
theorem dX9_plan_51 : decode cX9_plan 51 = .ok (.ifCond .ne 5, 3) := by decide +kernel
theorem dX9_plan_54 : decode cX9_plan 54 = .ok (.iconst (-1), 1) := by decide +kernel
theorem dX9_plan_55 : decode cX9_plan 55 = .ok (.ireturn, 1) := by decide +kernel
theorem dX9_plan_56 : decode cX9_plan 56 = .ok (.aload_n 0, 1) := by decide +kernel
theorem dX9_plan_57 : decode cX9_plan 57 = .ok (.getfield 24, 3) := by decide +kernel
theorem dX9_plan_60 : decode cX9_plan 60 = .ok (.iload_n 1, 1) := by decide +kernel
theorem dX9_plan_61 : decode cX9_plan 61 = .ok (.iload_n 2, 1) := by decide +kernel
theorem dX9_plan_62 : decode cX9_plan 62 = .ok (.invokevirtual 248, 3) := by decide +kernel
theorem dX9_plan_65 : decode cX9_plan 65 = .ok (.ifCond .eq 13, 3) := by decide +kernel
theorem dX9_plan_68 : decode cX9_plan 68 = .ok (.aload_n 0, 1) := by decide +kernel
theorem dX9_plan_69 : decode cX9_plan 69 = .ok (.getfield 24, 3) := by decide +kernel
theorem dX9_plan_72 : decode cX9_plan 72 = .ok (.getfield 251, 3) := by decide +kernel
theorem dX9_plan_75 : decode cX9_plan 75 = .ok (.goto 5, 3) := by decide +kernel
theorem dX9_plan_78 : decode cX9_plan 78 = .ok (.bipush (-4), 2) := by decide +kernel
theorem dX9_plan_80 : decode cX9_plan 80 = .ok (.ireturn, 1) := by decide +kernel
theorem dX9_ends_0 : decode cX9_ends 0 = .ok (.iload_n 1, 1) := by decide +kernel
theorem dX9_ends_1 : decode cX9_ends 1 = .ok (.iconst 0, 1) := by decide +kernel
theorem dX9_ends_2 : decode cX9_ends 2 = .ok (.iconst 1, 1) := by decide +kernel
theorem dX9_ends_3 : decode cX9_ends 3 = .ok (.invokestatic 72, 3) := by decide +kernel
theorem dX9_ends_6 : decode cX9_ends 6 = .ok (.ifCond .ne 5, 3) := by decide +kernel
theorem dX9_ends_9 : decode cX9_ends 9 = .ok (.iconst (-1), 1) := by decide +kernel
theorem dX9_ends_10 : decode cX9_ends 10 = .ok (.ireturn, 1) := by decide +kernel
theorem dX9_ends_11 : decode cX9_ends 11 = .ok (.aload_n 0, 1) := by decide +kernel
theorem dX9_ends_12 : decode cX9_ends 12 = .ok (.getfield 43, 3) := by decide +kernel
theorem dX9_ends_15 : decode cX9_ends 15 = .ok (.invokevirtual 254, 3) := by decide +kernel
theorem dX9_ends_18 : decode cX9_ends 18 = .ok (.astore_n 2, 1) := by decide +kernel
theorem dX9_ends_19 : decode cX9_ends 19 = .ok (.iload_n 1, 1) := by decide +kernel
theorem dX9_ends_20 : decode cX9_ends 20 = .ok (.ifCond .ne 10, 3) := by decide +kernel
theorem dX9_ends_23 : decode cX9_ends 23 = .ok (.aload_n 2, 1) := by decide +kernel
theorem dX9_ends_24 : decode cX9_ends 24 = .ok (.invokevirtual 180, 3) := by decide +kernel
theorem dX9_ends_27 : decode cX9_ends 27 = .ok (.goto 10, 3) := by decide +kernel
theorem dX9_ends_30 : decode cX9_ends 30 = .ok (.aload_n 2, 1) := by decide +kernel
theorem dX9_ends_31 : decode cX9_ends 31 = .ok (.invokevirtual 177, 3) := by decide +kernel
theorem dX9_ends_34 : decode cX9_ends 34 = .ok (.invokestatic 129, 3) := by decide +kernel
theorem dX9_ends_37 : decode cX9_ends 37 = .ok (.ireturn, 1) := by decide +kernel
theorem dX9_book_0 : decode cX9_book 0 = .ok (.iload_n 1, 1) := by decide +kernel
theorem dX9_book_1 : decode cX9_book 1 = .ok (.iconst (-1), 1) := by decide +kernel
theorem dX9_book_2 : decode cX9_book 2 = .ok (.if_icmp .ne 11, 3) := by decide +kernel
theorem dX9_book_5 : decode cX9_book 5 = .ok (.aload_n 0, 1) := by decide +kernel
theorem dX9_book_6 : decode cX9_book 6 = .ok (.getfield 24, 3) := by decide +kernel
theorem dX9_book_9 : decode cX9_book 9 = .ok (.invokevirtual 258, 3) := by decide +kernel
theorem dX9_book_12 : decode cX9_book 12 = .ok (.ireturn, 1) := by decide +kernel
theorem dX9_book_13 : decode cX9_book 13 = .ok (.iload_n 1, 1) := by decide +kernel
theorem dX9_book_14 : decode cX9_book 14 = .ok (.invokestatic 67, 3) := by decide +kernel
theorem dX9_book_17 : decode cX9_book 17 = .ok (.ifCond .ne 5, 3) := by decide +kernel
theorem dX9_book_20 : decode cX9_book 20 = .ok (.iconst (-1), 1) := by decide +kernel
theorem dX9_book_21 : decode cX9_book 21 = .ok (.ireturn, 1) := by decide +kernel
theorem dX9_book_22 : decode cX9_book 22 = .ok (.iload_n 2, 1) := by decide +kernel
theorem dX9_book_23 : decode cX9_book 23 = .ok (.iconst 0, 1) := by decide +kernel
theorem dX9_book_24 : decode cX9_book 24 = .ok (.sipush 9999, 3) := by decide +kernel
theorem dX9_book_27 : decode cX9_book 27 = .ok (.invokestatic 72, 3) := by decide +kernel
theorem dX9_book_30 : decode cX9_book 30 = .ok (.ifCond .ne 6, 3) := by decide +kernel
theorem dX9_book_33 : decode cX9_book 33 = .ok (.bipush (-2), 2) := by decide +kernel
theorem dX9_book_35 : decode cX9_book 35 = .ok (.ireturn, 1) := by decide +kernel
theorem dX9_book_36 : decode cX9_book 36 = .ok (.aload_n 0, 1) := by decide +kernel
theorem dX9_book_37 : decode cX9_book 37 = .ok (.getfield 24, 3) := by decide +kernel
theorem dX9_book_40 : decode cX9_book 40 = .ok (.iload_n 1, 1) := by decide +kernel
theorem dX9_book_41 : decode cX9_book 41 = .ok (.iload_n 2, 1) := by decide +kernel
theorem dX9_book_42 : decode cX9_book 42 = .ok (.invokevirtual 261, 3) := by decide +kernel
theorem dX9_book_45 : decode cX9_book 45 = .ok (.ifCond .eq 13, 3) := by decide +kernel
theorem dX9_book_48 : decode cX9_book 48 = .ok (.aload_n 0, 1) := by decide +kernel
theorem dX9_book_49 : decode cX9_book 49 = .ok (.getfield 24, 3) := by decide +kernel
theorem dX9_book_52 : decode cX9_book 52 = .ok (.getfield 264, 3) := by decide +kernel
theorem dX9_book_55 : decode cX9_book 55 = .ok (.goto 5, 3) := by decide +kernel
theorem dX9_book_58 : decode cX9_book 58 = .ok (.bipush (-4), 2) := by decide +kernel
theorem dX9_book_60 : decode cX9_book 60 = .ok (.ireturn, 1) := by decide +kernel
theorem dX9_looked_0 : decode cX9_looked 0 = .ok (.aload_n 0, 1) := by decide +kernel
theorem dX9_looked_1 : decode cX9_looked 1 = .ok (.getfield 24, 3) := by decide +kernel
theorem dX9_looked_4 : decode cX9_looked 4 = .ok (.aload_n 0, 1) := by decide +kernel
theorem dX9_looked_5 : decode cX9_looked 5 = .ok (.getfield 12, 3) := by decide +kernel
theorem dX9_looked_8 : decode cX9_looked 8 = .ok (.invokevirtual 267, 3) := by decide +kernel
theorem dX9_looked_11 : decode cX9_looked 11 = .ok (.ireturn, 1) := by decide +kernel
theorem dX9_judge_0 : decode cX9_judge 0 = .ok (.iload_n 1, 1) := by decide +kernel
theorem dX9_judge_1 : decode cX9_judge 1 = .ok (.invokestatic 271, 3) := by decide +kernel
theorem dX9_judge_4 : decode cX9_judge 4 = .ok (.ifCond .ne 5, 3) := by decide +kernel
theorem dX9_judge_7 : decode cX9_judge 7 = .ok (.iconst (-1), 1) := by decide +kernel
theorem dX9_judge_8 : decode cX9_judge 8 = .ok (.ireturn, 1) := by decide +kernel
theorem dX9_judge_9 : decode cX9_judge 9 = .ok (.aload_n 0, 1) := by decide +kernel
theorem dX9_judge_10 : decode cX9_judge 10 = .ok (.getfield 57, 3) := by decide +kernel
theorem dX9_judge_13 : decode cX9_judge 13 = .ok (.iload_n 1, 1) := by decide +kernel
theorem dX9_judge_14 : decode cX9_judge 14 = .ok (.invokevirtual 274, 3) := by decide +kernel
theorem dX9_judge_17 : decode cX9_judge 17 = .ok (.ifCond .eq 6, 3) := by decide +kernel
theorem dX9_judge_20 : decode cX9_judge 20 = .ok (.bipush 100, 2) := by decide +kernel
theorem dX9_judge_22 : decode cX9_judge 22 = .ok (.ireturn, 1) := by decide +kernel
theorem dX9_judge_23 : decode cX9_judge 23 = .ok (.aload_n 0, 1) := by decide +kernel
theorem dX9_judge_24 : decode cX9_judge 24 = .ok (.getfield 57, 3) := by decide +kernel
theorem dX9_judge_27 : decode cX9_judge 27 = .ok (.iload_n 1, 1) := by decide +kernel
theorem dX9_judge_28 : decode cX9_judge 28 = .ok (.invokevirtual 277, 3) := by decide +kernel
theorem dX9_judge_31 : decode cX9_judge 31 = .ok (.iconst 1, 1) := by decide +kernel
theorem dX9_judge_32 : decode cX9_judge 32 = .ok (.if_icmp .eq 6, 3) := by decide +kernel
theorem dX9_judge_35 : decode cX9_judge 35 = .ok (.bipush (-12), 2) := by decide +kernel
theorem dX9_judge_37 : decode cX9_judge 37 = .ok (.ireturn, 1) := by decide +kernel
theorem dX9_judge_38 : decode cX9_judge 38 = .ok (.iconst 0, 1) := by decide +kernel
theorem dX9_judge_39 : decode cX9_judge 39 = .ok (.istore_n 3, 1) := by decide +kernel
theorem dX9_judge_40 : decode cX9_judge 40 = .ok (.iload_n 3, 1) := by decide +kernel
theorem dX9_judge_41 : decode cX9_judge 41 = .ok (.bipush 16, 2) := by decide +kernel
theorem dX9_judge_43 : decode cX9_judge 43 = .ok (.if_icmp .ge 55, 3) := by decide +kernel
theorem dX9_judge_46 : decode cX9_judge 46 = .ok (.aload_n 0, 1) := by decide +kernel
theorem dX9_judge_47 : decode cX9_judge 47 = .ok (.getfield 57, 3) := by decide +kernel
theorem dX9_judge_50 : decode cX9_judge 50 = .ok (.iload_n 1, 1) := by decide +kernel
theorem dX9_judge_51 : decode cX9_judge 51 = .ok (.iload_n 2, 1) := by decide +kernel
theorem dX9_judge_52 : decode cX9_judge 52 = .ok (.iload_n 3, 1) := by decide +kernel
theorem dX9_judge_53 : decode cX9_judge 53 = .ok (.iadd, 1) := by decide +kernel
theorem dX9_judge_54 : decode cX9_judge 54 = .ok (.invokevirtual 280, 3) := by decide +kernel
theorem dX9_judge_57 : decode cX9_judge 57 = .ok (.ifCond .ne 8, 3) := by decide +kernel
theorem dX9_judge_60 : decode cX9_judge 60 = .ok (.bipush 100, 2) := by decide +kernel
theorem dX9_judge_62 : decode cX9_judge 62 = .ok (.iload_n 3, 1) := by decide +kernel
theorem dX9_judge_63 : decode cX9_judge 63 = .ok (.iadd, 1) := by decide +kernel
theorem dX9_judge_64 : decode cX9_judge 64 = .ok (.ireturn, 1) := by decide +kernel
theorem dX9_judge_65 : decode cX9_judge 65 = .ok (.aload_n 0, 1) := by decide +kernel
theorem dX9_judge_66 : decode cX9_judge 66 = .ok (.getfield 57, 3) := by decide +kernel
theorem dX9_judge_69 : decode cX9_judge 69 = .ok (.iload_n 1, 1) := by decide +kernel
theorem dX9_judge_70 : decode cX9_judge 70 = .ok (.iload_n 2, 1) := by decide +kernel
theorem dX9_judge_71 : decode cX9_judge 71 = .ok (.iload_n 3, 1) := by decide +kernel
theorem dX9_judge_72 : decode cX9_judge 72 = .ok (.iadd, 1) := by decide +kernel
theorem dX9_judge_73 : decode cX9_judge 73 = .ok (.invokevirtual 283, 3) := by decide +kernel
theorem dX9_judge_76 : decode cX9_judge 76 = .ok (.aload_n 0, 1) := by decide +kernel
theorem dX9_judge_77 : decode cX9_judge 77 = .ok (.getfield 12, 3) := by decide +kernel
theorem dX9_judge_80 : decode cX9_judge 80 = .ok (.getfield 133, 3) := by decide +kernel
theorem dX9_judge_83 : decode cX9_judge 83 = .ok (.iload_n 3, 1) := by decide +kernel
theorem dX9_judge_84 : decode cX9_judge 84 = .ok (.iaload, 1) := by decide +kernel
theorem dX9_judge_85 : decode cX9_judge 85 = .ok (.i2l, 1) := by decide +kernel
theorem dX9_judge_86 : decode cX9_judge 86 = .ok (.lcmp, 1) := by decide +kernel
theorem dX9_judge_87 : decode cX9_judge 87 = .ok (.ifCond .eq 5, 3) := by decide +kernel
theorem dX9_judge_90 : decode cX9_judge 90 = .ok (.iload_n 3, 1) := by decide +kernel
theorem dX9_judge_91 : decode cX9_judge 91 = .ok (.ireturn, 1) := by decide +kernel
theorem dX9_judge_92 : decode cX9_judge 92 = .ok (.iinc 3 1, 3) := by decide +kernel
theorem dX9_judge_95 : decode cX9_judge 95 = .ok (.goto (-55), 3) := by decide +kernel
theorem dX9_judge_98 : decode cX9_judge 98 = .ok (.bipush (-5), 2) := by decide +kernel
theorem dX9_judge_100 : decode cX9_judge 100 = .ok (.ireturn, 1) := by decide +kernel
theorem dX9_image_0 : decode cX9_image 0 = .ok (.aload_n 0, 1) := by decide +kernel
theorem dX9_image_1 : decode cX9_image 1 = .ok (.getfield 18, 3) := by decide +kernel
theorem dX9_image_4 : decode cX9_image 4 = .ok (.aload_n 0, 1) := by decide +kernel
theorem dX9_image_5 : decode cX9_image 5 = .ok (.getfield 12, 3) := by decide +kernel
theorem dX9_image_8 : decode cX9_image 8 = .ok (.invokevirtual 287, 3) := by decide +kernel
theorem dX9_image_11 : decode cX9_image 11 = .ok (.aload_n 0, 1) := by decide +kernel
theorem dX9_image_12 : decode cX9_image 12 = .ok (.getfield 28, 3) := by decide +kernel
theorem dX9_image_15 : decode cX9_image 15 = .ok (.aload_n 0, 1) := by decide +kernel
theorem dX9_image_16 : decode cX9_image 16 = .ok (.getfield 24, 3) := by decide +kernel
theorem dX9_image_19 : decode cX9_image 19 = .ok (.invokevirtual 291, 3) := by decide +kernel
theorem dX9_image_22 : decode cX9_image 22 = .ok (.aload_n 0, 1) := by decide +kernel
theorem dX9_image_23 : decode cX9_image 23 = .ok (.iconst 1, 1) := by decide +kernel
theorem dX9_image_24 : decode cX9_image 24 = .ok (.putfield 294, 3) := by decide +kernel
theorem dX9_image_27 : decode cX9_image 27 = .ok (.aload_n 0, 1) := by decide +kernel
theorem dX9_image_28 : decode cX9_image 28 = .ok (.getfield 12, 3) := by decide +kernel
theorem dX9_image_31 : decode cX9_image 31 = .ok (.getfield 76, 3) := by decide +kernel
theorem dX9_image_34 : decode cX9_image 34 = .ok (.ireturn, 1) := by decide +kernel
theorem dX9_undo_0 : decode cX9_undo 0 = .ok (.aload_n 0, 1) := by decide +kernel
theorem dX9_undo_1 : decode cX9_undo 1 = .ok (.getfield 294, 3) := by decide +kernel
theorem dX9_undo_4 : decode cX9_undo 4 = .ok (.ifCond .ne 6, 3) := by decide +kernel
theorem dX9_undo_7 : decode cX9_undo 7 = .ok (.bipush (-3), 2) := by decide +kernel
theorem dX9_undo_9 : decode cX9_undo 9 = .ok (.ireturn, 1) := by decide +kernel
theorem dX9_undo_10 : decode cX9_undo 10 = .ok (.aload_n 0, 1) := by decide +kernel
theorem dX9_undo_11 : decode cX9_undo 11 = .ok (.getfield 12, 3) := by decide +kernel
theorem dX9_undo_14 : decode cX9_undo 14 = .ok (.aload_n 0, 1) := by decide +kernel
theorem dX9_undo_15 : decode cX9_undo 15 = .ok (.getfield 18, 3) := by decide +kernel
theorem dX9_undo_18 : decode cX9_undo 18 = .ok (.invokevirtual 287, 3) := by decide +kernel
theorem dX9_undo_21 : decode cX9_undo 21 = .ok (.aload_n 0, 1) := by decide +kernel
theorem dX9_undo_22 : decode cX9_undo 22 = .ok (.getfield 24, 3) := by decide +kernel
theorem dX9_undo_25 : decode cX9_undo 25 = .ok (.aload_n 0, 1) := by decide +kernel
theorem dX9_undo_26 : decode cX9_undo 26 = .ok (.getfield 28, 3) := by decide +kernel
theorem dX9_undo_29 : decode cX9_undo 29 = .ok (.invokevirtual 291, 3) := by decide +kernel
theorem dX9_undo_32 : decode cX9_undo 32 = .ok (.aload_n 0, 1) := by decide +kernel
theorem dX9_undo_33 : decode cX9_undo 33 = .ok (.getfield 12, 3) := by decide +kernel
theorem dX9_undo_36 : decode cX9_undo 36 = .ok (.getfield 76, 3) := by decide +kernel
theorem dX9_undo_39 : decode cX9_undo 39 = .ok (.ireturn, 1) := by decide +kernel
theorem dX9_act_0 : decode cX9_act 0 = .ok (.aload_n 0, 1) := by decide +kernel
theorem dX9_act_1 : decode cX9_act 1 = .ok (.getfield 50, 3) := by decide +kernel
theorem dX9_act_4 : decode cX9_act 4 = .ok (.invokevirtual 298, 3) := by decide +kernel
theorem dX9_act_7 : decode cX9_act 7 = .ok (.aload_n 0, 1) := by decide +kernel
theorem dX9_act_8 : decode cX9_act 8 = .ok (.getfield 12, 3) := by decide +kernel
theorem dX9_act_11 : decode cX9_act 11 = .ok (.iload_n 1, 1) := by decide +kernel
theorem dX9_act_12 : decode cX9_act 12 = .ok (.invokevirtual 88, 3) := by decide +kernel
theorem dX9_act_15 : decode cX9_act 15 = .ok (.ifCond .eq 10, 3) := by decide +kernel
theorem dX9_act_18 : decode cX9_act 18 = .ok (.iload_n 2, 1) := by decide +kernel
theorem dX9_act_19 : decode cX9_act 19 = .ok (.invokestatic 301, 3) := by decide +kernel
theorem dX9_act_22 : decode cX9_act 22 = .ok (.ifCond .ne 5, 3) := by decide +kernel
theorem dX9_act_25 : decode cX9_act 25 = .ok (.iconst 0, 1) := by decide +kernel
theorem dX9_act_26 : decode cX9_act 26 = .ok (.ireturn, 1) := by decide +kernel
theorem dX9_act_27 : decode cX9_act 27 = .ok (.aload_n 0, 1) := by decide +kernel
theorem dX9_act_28 : decode cX9_act 28 = .ok (.getfield 50, 3) := by decide +kernel
theorem dX9_act_31 : decode cX9_act 31 = .ok (.iload_n 1, 1) := by decide +kernel
theorem dX9_act_32 : decode cX9_act 32 = .ok (.aload_n 0, 1) := by decide +kernel
theorem dX9_act_33 : decode cX9_act 33 = .ok (.getfield 12, 3) := by decide +kernel
theorem dX9_act_36 : decode cX9_act 36 = .ok (.getfield 107, 3) := by decide +kernel
theorem dX9_act_39 : decode cX9_act 39 = .ok (.iload_n 1, 1) := by decide +kernel
theorem dX9_act_40 : decode cX9_act 40 = .ok (.iaload, 1) := by decide +kernel
theorem dX9_act_41 : decode cX9_act 41 = .ok (.aload_n 0, 1) := by decide +kernel
theorem dX9_act_42 : decode cX9_act 42 = .ok (.getfield 12, 3) := by decide +kernel
theorem dX9_act_45 : decode cX9_act 45 = .ok (.getfield 110, 3) := by decide +kernel
theorem dX9_act_48 : decode cX9_act 48 = .ok (.iload_n 1, 1) := by decide +kernel
theorem dX9_act_49 : decode cX9_act 49 = .ok (.iaload, 1) := by decide +kernel
theorem dX9_act_50 : decode cX9_act 50 = .ok (.iload_n 2, 1) := by decide +kernel
theorem dX9_act_51 : decode cX9_act 51 = .ok (.iload_n 3, 1) := by decide +kernel
theorem dX9_act_52 : decode cX9_act 52 = .ok (.invokevirtual 304, 3) := by decide +kernel
theorem dX9_act_55 : decode cX9_act 55 = .ok (.ireturn, 1) := by decide +kernel
theorem dX9_trace_0 : decode cX9_trace 0 = .ok (.aload_n 0, 1) := by decide +kernel
theorem dX9_trace_1 : decode cX9_trace 1 = .ok (.getfield 50, 3) := by decide +kernel
theorem dX9_trace_4 : decode cX9_trace 4 = .ok (.iload_n 1, 1) := by decide +kernel
theorem dX9_trace_5 : decode cX9_trace 5 = .ok (.invokevirtual 308, 3) := by decide +kernel
theorem dX9_trace_8 : decode cX9_trace 8 = .ok (.ireturn, 1) := by decide +kernel
theorem dX9_taken_0 : decode cX9_taken 0 = .ok (.iload_n 2, 1) := by decide +kernel
theorem dX9_taken_1 : decode cX9_taken 1 = .ok (.invokestatic 61, 3) := by decide +kernel
theorem dX9_taken_4 : decode cX9_taken 4 = .ok (.ifCond .ne 6, 3) := by decide +kernel
theorem dX9_taken_7 : decode cX9_taken 7 = .ok (.bipush (-2), 2) := by decide +kernel
theorem dX9_taken_9 : decode cX9_taken 9 = .ok (.ireturn, 1) := by decide +kernel
theorem dX9_taken_10 : decode cX9_taken 10 = .ok (.aload_n 0, 1) := by decide +kernel
theorem dX9_taken_11 : decode cX9_taken 11 = .ok (.getfield 12, 3) := by decide +kernel
theorem dX9_taken_14 : decode cX9_taken 14 = .ok (.iload_n 1, 1) := by decide +kernel
theorem dX9_taken_15 : decode cX9_taken 15 = .ok (.invokevirtual 88, 3) := by decide +kernel
theorem dX9_taken_18 : decode cX9_taken 18 = .ok (.ifCond .ne 6, 3) := by decide +kernel
theorem dX9_taken_21 : decode cX9_taken 21 = .ok (.bipush (-11), 2) := by decide +kernel
theorem dX9_taken_23 : decode cX9_taken 23 = .ok (.ireturn, 1) := by decide +kernel
theorem dX9_taken_24 : decode cX9_taken 24 = .ok (.aload_n 0, 1) := by decide +kernel
theorem dX9_taken_25 : decode cX9_taken 25 = .ok (.getfield 12, 3) := by decide +kernel
theorem dX9_taken_28 : decode cX9_taken 28 = .ok (.getfield 107, 3) := by decide +kernel
theorem dX9_taken_31 : decode cX9_taken 31 = .ok (.iload_n 1, 1) := by decide +kernel
theorem dX9_taken_32 : decode cX9_taken 32 = .ok (.iaload, 1) := by decide +kernel
theorem dX9_taken_33 : decode cX9_taken 33 = .ok (.istore_n 3, 1) := by decide +kernel
theorem dX9_taken_34 : decode cX9_taken 34 = .ok (.iload_n 3, 1) := by decide +kernel
theorem dX9_taken_35 : decode cX9_taken 35 = .ok (.iload_n 2, 1) := by decide +kernel
theorem dX9_taken_36 : decode cX9_taken 36 = .ok (.invokestatic 311, 3) := by decide +kernel
theorem dX9_taken_39 : decode cX9_taken 39 = .ok (.ifCond .eq 7, 3) := by decide +kernel
theorem dX9_taken_42 : decode cX9_taken 42 = .ok (.iload_n 3, 1) := by decide +kernel
theorem dX9_taken_43 : decode cX9_taken 43 = .ok (.goto 5, 3) := by decide +kernel
theorem dX9_taken_46 : decode cX9_taken 46 = .ok (.bipush (-12), 2) := by decide +kernel
theorem dX9_taken_48 : decode cX9_taken 48 = .ok (.ireturn, 1) := by decide +kernel
theorem dX9_count_0 : decode cX9_count 0 = .ok (.iload_n 1, 1) := by decide +kernel
theorem dX9_count_1 : decode cX9_count 1 = .ok (.tableswitch 99 0 6 #[43, 51, 59, 67, 75, 83, 91], 43) := by decide +kernel
theorem dX9_count_44 : decode cX9_count 44 = .ok (.aload_n 0, 1) := by decide +kernel
theorem dX9_count_45 : decode cX9_count 45 = .ok (.getfield 12, 3) := by decide +kernel
theorem dX9_count_48 : decode cX9_count 48 = .ok (.getfield 76, 3) := by decide +kernel
theorem dX9_count_51 : decode cX9_count 51 = .ok (.ireturn, 1) := by decide +kernel
theorem dX9_count_52 : decode cX9_count 52 = .ok (.aload_n 0, 1) := by decide +kernel
theorem dX9_count_53 : decode cX9_count 53 = .ok (.getfield 34, 3) := by decide +kernel
theorem dX9_count_56 : decode cX9_count 56 = .ok (.invokevirtual 314, 3) := by decide +kernel
theorem dX9_count_59 : decode cX9_count 59 = .ok (.ireturn, 1) := by decide +kernel
theorem dX9_count_60 : decode cX9_count 60 = .ok (.aload_n 0, 1) := by decide +kernel
theorem dX9_count_61 : decode cX9_count 61 = .ok (.getfield 24, 3) := by decide +kernel
theorem dX9_count_64 : decode cX9_count 64 = .ok (.getfield 221, 3) := by decide +kernel
theorem dX9_count_67 : decode cX9_count 67 = .ok (.ireturn, 1) := by decide +kernel
theorem dX9_count_68 : decode cX9_count 68 = .ok (.aload_n 0, 1) := by decide +kernel
theorem dX9_count_69 : decode cX9_count 69 = .ok (.getfield 24, 3) := by decide +kernel
theorem dX9_count_72 : decode cX9_count 72 = .ok (.getfield 251, 3) := by decide +kernel
theorem dX9_count_75 : decode cX9_count 75 = .ok (.ireturn, 1) := by decide +kernel
theorem dX9_count_76 : decode cX9_count 76 = .ok (.aload_n 0, 1) := by decide +kernel
theorem dX9_count_77 : decode cX9_count 77 = .ok (.getfield 24, 3) := by decide +kernel
theorem dX9_count_80 : decode cX9_count 80 = .ok (.getfield 264, 3) := by decide +kernel
theorem dX9_count_83 : decode cX9_count 83 = .ok (.ireturn, 1) := by decide +kernel
theorem dX9_count_84 : decode cX9_count 84 = .ok (.aload_n 0, 1) := by decide +kernel
theorem dX9_count_85 : decode cX9_count 85 = .ok (.getfield 34, 3) := by decide +kernel
theorem dX9_count_88 : decode cX9_count 88 = .ok (.invokevirtual 159, 3) := by decide +kernel
theorem dX9_count_91 : decode cX9_count 91 = .ok (.ireturn, 1) := by decide +kernel
theorem dX9_count_92 : decode cX9_count 92 = .ok (.aload_n 0, 1) := by decide +kernel
theorem dX9_count_93 : decode cX9_count 93 = .ok (.getfield 50, 3) := by decide +kernel
theorem dX9_count_96 : decode cX9_count 96 = .ok (.invokevirtual 316, 3) := by decide +kernel
theorem dX9_count_99 : decode cX9_count 99 = .ok (.ireturn, 1) := by decide +kernel
theorem dX9_count_100 : decode cX9_count 100 = .ok (.bipush (-2), 2) := by decide +kernel
theorem dX9_count_102 : decode cX9_count 102 = .ok (.ireturn, 1) := by decide +kernel
theorem dX9_tape_0 : decode cX9_tape 0 = .ok (.iload_n 1, 1) := by decide +kernel
theorem dX9_tape_1 : decode cX9_tape 1 = .ok (.invokestatic 271, 3) := by decide +kernel
theorem dX9_tape_4 : decode cX9_tape 4 = .ok (.ifCond .ne 5, 3) := by decide +kernel
theorem dX9_tape_7 : decode cX9_tape 7 = .ok (.iconst (-1), 1) := by decide +kernel
theorem dX9_tape_8 : decode cX9_tape 8 = .ok (.ireturn, 1) := by decide +kernel
theorem dX9_tape_9 : decode cX9_tape 9 = .ok (.iload_n 2, 1) := by decide +kernel
theorem dX9_tape_10 : decode cX9_tape 10 = .ok (.iconst (-1), 1) := by decide +kernel
theorem dX9_tape_11 : decode cX9_tape 11 = .ok (.iconst 4, 1) := by decide +kernel
theorem dX9_tape_12 : decode cX9_tape 12 = .ok (.invokestatic 72, 3) := by decide +kernel
theorem dX9_tape_15 : decode cX9_tape 15 = .ok (.ifCond .ne 6, 3) := by decide +kernel
theorem dX9_tape_18 : decode cX9_tape 18 = .ok (.bipush (-2), 2) := by decide +kernel
theorem dX9_tape_20 : decode cX9_tape 20 = .ok (.ireturn, 1) := by decide +kernel
theorem dX9_tape_21 : decode cX9_tape 21 = .ok (.iload_n 2, 1) := by decide +kernel
theorem dX9_tape_22 : decode cX9_tape 22 = .ok (.iconst (-1), 1) := by decide +kernel
theorem dX9_tape_23 : decode cX9_tape 23 = .ok (.if_icmp .eq 12, 3) := by decide +kernel
theorem dX9_tape_26 : decode cX9_tape 26 = .ok (.iload_n 3, 1) := by decide +kernel
theorem dX9_tape_27 : decode cX9_tape 27 = .ok (.bipush 60, 2) := by decide +kernel
theorem dX9_tape_29 : decode cX9_tape 29 = .ok (.if_icmp .le 6, 3) := by decide +kernel
theorem dX9_tape_32 : decode cX9_tape 32 = .ok (.bipush (-2), 2) := by decide +kernel
theorem dX9_tape_34 : decode cX9_tape 34 = .ok (.ireturn, 1) := by decide +kernel
theorem dX9_tape_35 : decode cX9_tape 35 = .ok (.iload_n 2, 1) := by decide +kernel
theorem dX9_tape_36 : decode cX9_tape 36 = .ok (.iconst (-1), 1) := by decide +kernel
theorem dX9_tape_37 : decode cX9_tape 37 = .ok (.if_icmp .eq 10, 3) := by decide +kernel
theorem dX9_tape_40 : decode cX9_tape 40 = .ok (.iload_n 3, 1) := by decide +kernel
theorem dX9_tape_41 : decode cX9_tape 41 = .ok (.ifCond .ge 6, 3) := by decide +kernel
theorem dX9_tape_44 : decode cX9_tape 44 = .ok (.bipush (-14), 2) := by decide +kernel
theorem dX9_tape_46 : decode cX9_tape 46 = .ok (.ireturn, 1) := by decide +kernel
theorem dX9_tape_47 : decode cX9_tape 47 = .ok (.aload_n 0, 1) := by decide +kernel
theorem dX9_tape_48 : decode cX9_tape 48 = .ok (.getfield 57, 3) := by decide +kernel
theorem dX9_tape_51 : decode cX9_tape 51 = .ok (.iload_n 1, 1) := by decide +kernel
theorem dX9_tape_52 : decode cX9_tape 52 = .ok (.iload_n 2, 1) := by decide +kernel
theorem dX9_tape_53 : decode cX9_tape 53 = .ok (.iload_n 3, 1) := by decide +kernel
theorem dX9_tape_54 : decode cX9_tape 54 = .ok (.invokevirtual 319, 3) := by decide +kernel
theorem dX9_tape_57 : decode cX9_tape 57 = .ok (.iconst 1, 1) := by decide +kernel
theorem dX9_tape_58 : decode cX9_tape 58 = .ok (.ireturn, 1) := by decide +kernel
theorem dX9_item_0 : decode cX9_item 0 = .ok (.iload_n 1, 1) := by decide +kernel
theorem dX9_item_1 : decode cX9_item 1 = .ok (.invokestatic 271, 3) := by decide +kernel
theorem dX9_item_4 : decode cX9_item 4 = .ok (.ifCond .ne 5, 3) := by decide +kernel
theorem dX9_item_7 : decode cX9_item 7 = .ok (.iconst (-1), 1) := by decide +kernel
theorem dX9_item_8 : decode cX9_item 8 = .ok (.ireturn, 1) := by decide +kernel
theorem dX9_item_9 : decode cX9_item 9 = .ok (.aload_n 0, 1) := by decide +kernel
theorem dX9_item_10 : decode cX9_item 10 = .ok (.getfield 57, 3) := by decide +kernel
theorem dX9_item_13 : decode cX9_item 13 = .ok (.iload_n 1, 1) := by decide +kernel
theorem dX9_item_14 : decode cX9_item 14 = .ok (.invokevirtual 274, 3) := by decide +kernel
theorem dX9_item_17 : decode cX9_item 17 = .ok (.ifCond .eq 6, 3) := by decide +kernel
theorem dX9_item_20 : decode cX9_item 20 = .ok (.bipush (-11), 2) := by decide +kernel
theorem dX9_item_22 : decode cX9_item 22 = .ok (.ireturn, 1) := by decide +kernel
theorem dX9_item_23 : decode cX9_item 23 = .ok (.aload_n 0, 1) := by decide +kernel
theorem dX9_item_24 : decode cX9_item 24 = .ok (.getfield 57, 3) := by decide +kernel
theorem dX9_item_27 : decode cX9_item 27 = .ok (.iload_n 1, 1) := by decide +kernel
theorem dX9_item_28 : decode cX9_item 28 = .ok (.iload_n 2, 1) := by decide +kernel
theorem dX9_item_29 : decode cX9_item 29 = .ok (.invokevirtual 280, 3) := by decide +kernel
theorem dX9_item_32 : decode cX9_item 32 = .ok (.ifCond .ne 6, 3) := by decide +kernel
theorem dX9_item_35 : decode cX9_item 35 = .ok (.bipush (-13), 2) := by decide +kernel
theorem dX9_item_37 : decode cX9_item 37 = .ok (.ireturn, 1) := by decide +kernel
theorem dX9_item_38 : decode cX9_item 38 = .ok (.aload_n 0, 1) := by decide +kernel
theorem dX9_item_39 : decode cX9_item 39 = .ok (.getfield 57, 3) := by decide +kernel
theorem dX9_item_42 : decode cX9_item 42 = .ok (.iload_n 1, 1) := by decide +kernel
theorem dX9_item_43 : decode cX9_item 43 = .ok (.iload_n 2, 1) := by decide +kernel
theorem dX9_item_44 : decode cX9_item 44 = .ok (.lload_n 3, 1) := by decide +kernel
theorem dX9_item_45 : decode cX9_item 45 = .ok (.invokevirtual 323, 3) := by decide +kernel
theorem dX9_item_48 : decode cX9_item 48 = .ok (.iconst 1, 1) := by decide +kernel
theorem dX9_item_49 : decode cX9_item 49 = .ok (.ireturn, 1) := by decide +kernel
theorem dX9_read_0 : decode cX9_read 0 = .ok (.aload_n 0, 1) := by decide +kernel
theorem dX9_read_1 : decode cX9_read 1 = .ok (.getfield 57, 3) := by decide +kernel
theorem dX9_read_4 : decode cX9_read 4 = .ok (.iload_n 1, 1) := by decide +kernel
theorem dX9_read_5 : decode cX9_read 5 = .ok (.iload_n 2, 1) := by decide +kernel
theorem dX9_read_6 : decode cX9_read 6 = .ok (.invokevirtual 280, 3) := by decide +kernel
theorem dX9_read_9 : decode cX9_read 9 = .ok (.ifCond .eq 15, 3) := by decide +kernel
theorem dX9_read_12 : decode cX9_read 12 = .ok (.aload_n 0, 1) := by decide +kernel
theorem dX9_read_13 : decode cX9_read 13 = .ok (.getfield 57, 3) := by decide +kernel
theorem dX9_read_16 : decode cX9_read 16 = .ok (.iload_n 1, 1) := by decide +kernel
theorem dX9_read_17 : decode cX9_read 17 = .ok (.iload_n 2, 1) := by decide +kernel
theorem dX9_read_18 : decode cX9_read 18 = .ok (.invokevirtual 283, 3) := by decide +kernel
theorem dX9_read_21 : decode cX9_read 21 = .ok (.goto 6, 3) := by decide +kernel
theorem dX9_read_24 : decode cX9_read 24 = .ok (.ldc2_w 236, 3) := by decide +kernel
theorem dX9_read_27 : decode cX9_read 27 = .ok (.lreturn, 1) := by decide +kernel
theorem dX9_shift_0 : decode cX9_shift 0 = .ok (.iload_n 1, 1) := by decide +kernel
theorem dX9_shift_1 : decode cX9_shift 1 = .ok (.invokestatic 271, 3) := by decide +kernel
theorem dX9_shift_4 : decode cX9_shift 4 = .ok (.ifCond .eq 10, 3) := by decide +kernel
theorem dX9_shift_7 : decode cX9_shift 7 = .ok (.iload_n 3, 1) := by decide +kernel
theorem dX9_shift_8 : decode cX9_shift 8 = .ok (.invokestatic 271, 3) := by decide +kernel
theorem dX9_shift_11 : decode cX9_shift 11 = .ok (.ifCond .ne 5, 3) := by decide +kernel
theorem dX9_shift_14 : decode cX9_shift 14 = .ok (.iconst (-1), 1) := by decide +kernel
theorem dX9_shift_15 : decode cX9_shift 15 = .ok (.ireturn, 1) := by decide +kernel
theorem dX9_shift_16 : decode cX9_shift 16 = .ok (.aload_n 0, 1) := by decide +kernel
theorem dX9_shift_17 : decode cX9_shift 17 = .ok (.getfield 57, 3) := by decide +kernel
theorem dX9_shift_20 : decode cX9_shift 20 = .ok (.iload_n 1, 1) := by decide +kernel
theorem dX9_shift_21 : decode cX9_shift 21 = .ok (.invokevirtual 274, 3) := by decide +kernel
theorem dX9_shift_24 : decode cX9_shift 24 = .ok (.ifCond .ne 14, 3) := by decide +kernel
theorem dX9_shift_27 : decode cX9_shift 27 = .ok (.aload_n 0, 1) := by decide +kernel
theorem dX9_shift_28 : decode cX9_shift 28 = .ok (.getfield 57, 3) := by decide +kernel
theorem dX9_shift_31 : decode cX9_shift 31 = .ok (.iload_n 3, 1) := by decide +kernel
theorem dX9_shift_32 : decode cX9_shift 32 = .ok (.invokevirtual 274, 3) := by decide +kernel
theorem dX9_shift_35 : decode cX9_shift 35 = .ok (.ifCond .eq 6, 3) := by decide +kernel
theorem dX9_shift_38 : decode cX9_shift 38 = .ok (.bipush (-11), 2) := by decide +kernel
theorem dX9_shift_40 : decode cX9_shift 40 = .ok (.ireturn, 1) := by decide +kernel
theorem dX9_shift_41 : decode cX9_shift 41 = .ok (.aload_n 0, 1) := by decide +kernel
theorem dX9_shift_42 : decode cX9_shift 42 = .ok (.getfield 57, 3) := by decide +kernel
theorem dX9_shift_45 : decode cX9_shift 45 = .ok (.iload_n 1, 1) := by decide +kernel
theorem dX9_shift_46 : decode cX9_shift 46 = .ok (.invokevirtual 277, 3) := by decide +kernel
theorem dX9_shift_49 : decode cX9_shift 49 = .ok (.aload_n 0, 1) := by decide +kernel
theorem dX9_shift_50 : decode cX9_shift 50 = .ok (.getfield 57, 3) := by decide +kernel
theorem dX9_shift_53 : decode cX9_shift 53 = .ok (.iload_n 3, 1) := by decide +kernel
theorem dX9_shift_54 : decode cX9_shift 54 = .ok (.invokevirtual 277, 3) := by decide +kernel
theorem dX9_shift_57 : decode cX9_shift 57 = .ok (.if_icmp .eq 6, 3) := by decide +kernel
theorem dX9_shift_60 : decode cX9_shift 60 = .ok (.bipush (-12), 2) := by decide +kernel
theorem dX9_shift_62 : decode cX9_shift 62 = .ok (.ireturn, 1) := by decide +kernel
theorem dX9_shift_63 : decode cX9_shift 63 = .ok (.aload_n 0, 1) := by decide +kernel
theorem dX9_shift_64 : decode cX9_shift 64 = .ok (.getfield 57, 3) := by decide +kernel
theorem dX9_shift_67 : decode cX9_shift 67 = .ok (.iload_n 1, 1) := by decide +kernel
theorem dX9_shift_68 : decode cX9_shift 68 = .ok (.iload_n 2, 1) := by decide +kernel
theorem dX9_shift_69 : decode cX9_shift 69 = .ok (.iload 5, 2) := by decide +kernel
theorem dX9_shift_71 : decode cX9_shift 71 = .ok (.invokevirtual 327, 3) := by decide +kernel
theorem dX9_shift_74 : decode cX9_shift 74 = .ok (.ifCond .eq 18, 3) := by decide +kernel
theorem dX9_shift_77 : decode cX9_shift 77 = .ok (.aload_n 0, 1) := by decide +kernel
theorem dX9_shift_78 : decode cX9_shift 78 = .ok (.getfield 57, 3) := by decide +kernel
theorem dX9_shift_81 : decode cX9_shift 81 = .ok (.iload_n 3, 1) := by decide +kernel
theorem dX9_shift_82 : decode cX9_shift 82 = .ok (.iload 4, 2) := by decide +kernel
theorem dX9_shift_84 : decode cX9_shift 84 = .ok (.iload 5, 2) := by decide +kernel
theorem dX9_shift_86 : decode cX9_shift 86 = .ok (.invokevirtual 327, 3) := by decide +kernel
theorem dX9_shift_89 : decode cX9_shift 89 = .ok (.ifCond .ne 6, 3) := by decide +kernel
theorem dX9_shift_92 : decode cX9_shift 92 = .ok (.bipush (-13), 2) := by decide +kernel
theorem dX9_shift_94 : decode cX9_shift 94 = .ok (.ireturn, 1) := by decide +kernel
theorem dX9_shift_95 : decode cX9_shift 95 = .ok (.aload_n 0, 1) := by decide +kernel
theorem dX9_shift_96 : decode cX9_shift 96 = .ok (.getfield 57, 3) := by decide +kernel
theorem dX9_shift_99 : decode cX9_shift 99 = .ok (.iload_n 1, 1) := by decide +kernel
theorem dX9_shift_100 : decode cX9_shift 100 = .ok (.iload_n 2, 1) := by decide +kernel
theorem dX9_shift_101 : decode cX9_shift 101 = .ok (.iload_n 3, 1) := by decide +kernel
theorem dX9_shift_102 : decode cX9_shift 102 = .ok (.iload 4, 2) := by decide +kernel
theorem dX9_shift_104 : decode cX9_shift 104 = .ok (.iload 5, 2) := by decide +kernel
theorem dX9_shift_106 : decode cX9_shift 106 = .ok (.invokevirtual 330, 3) := by decide +kernel
theorem dX9_shift_109 : decode cX9_shift 109 = .ok (.iload 5, 2) := by decide +kernel
theorem dX9_shift_111 : decode cX9_shift 111 = .ok (.ireturn, 1) := by decide +kernel
theorem dX9_learnYields_0 : decode cX9_learnYields 0 = .ok (.aload_n 0, 1) := by decide +kernel
theorem dX9_learnYields_1 : decode cX9_learnYields 1 = .ok (.getfield 34, 3) := by decide +kernel
theorem dX9_learnYields_4 : decode cX9_learnYields 4 = .ok (.aload_n 0, 1) := by decide +kernel
theorem dX9_learnYields_5 : decode cX9_learnYields 5 = .ok (.getfield 12, 3) := by decide +kernel
theorem dX9_learnYields_8 : decode cX9_learnYields 8 = .ok (.getfield 166, 3) := by decide +kernel
theorem dX9_learnYields_11 : decode cX9_learnYields 11 = .ok (.iload_n 1, 1) := by decide +kernel
theorem dX9_learnYields_12 : decode cX9_learnYields 12 = .ok (.aload_n 0, 1) := by decide +kernel
theorem dX9_learnYields_13 : decode cX9_learnYields 13 = .ok (.getfield 12, 3) := by decide +kernel
theorem dX9_learnYields_16 : decode cX9_learnYields 16 = .ok (.getfield 107, 3) := by decide +kernel
theorem dX9_learnYields_19 : decode cX9_learnYields 19 = .ok (.iload_n 1, 1) := by decide +kernel
theorem dX9_learnYields_20 : decode cX9_learnYields 20 = .ok (.iaload, 1) := by decide +kernel
theorem dX9_learnYields_21 : decode cX9_learnYields 21 = .ok (.aload_n 0, 1) := by decide +kernel
theorem dX9_learnYields_22 : decode cX9_learnYields 22 = .ok (.getfield 12, 3) := by decide +kernel
theorem dX9_learnYields_25 : decode cX9_learnYields 25 = .ok (.getfield 110, 3) := by decide +kernel
theorem dX9_learnYields_28 : decode cX9_learnYields 28 = .ok (.iload_n 1, 1) := by decide +kernel
theorem dX9_learnYields_29 : decode cX9_learnYields 29 = .ok (.iaload, 1) := by decide +kernel
theorem dX9_learnYields_30 : decode cX9_learnYields 30 = .ok (.invokevirtual 334, 3) := by decide +kernel
theorem dX9_learnYields_33 : decode cX9_learnYields 33 = .ok (.aload_n 0, 1) := by decide +kernel
theorem dX9_learnYields_34 : decode cX9_learnYields 34 = .ok (.getfield 34, 3) := by decide +kernel
theorem dX9_learnYields_37 : decode cX9_learnYields 37 = .ok (.aload_n 0, 1) := by decide +kernel
theorem dX9_learnYields_38 : decode cX9_learnYields 38 = .ok (.getfield 12, 3) := by decide +kernel
theorem dX9_learnYields_41 : decode cX9_learnYields 41 = .ok (.getfield 103, 3) := by decide +kernel
theorem dX9_learnYields_44 : decode cX9_learnYields 44 = .ok (.iload_n 1, 1) := by decide +kernel
theorem dX9_learnYields_45 : decode cX9_learnYields 45 = .ok (.invokevirtual 338, 3) := by decide +kernel
theorem dX9_learnYields_48 : decode cX9_learnYields 48 = .ok (.return_, 1) := by decide +kernel
theorem dX9_isBetween_0 : decode cX9_isBetween 0 = .ok (.iload_n 0, 1) := by decide +kernel
theorem dX9_isBetween_1 : decode cX9_isBetween 1 = .ok (.iload_n 1, 1) := by decide +kernel
theorem dX9_isBetween_2 : decode cX9_isBetween 2 = .ok (.if_icmp .lt 12, 3) := by decide +kernel
theorem dX9_isBetween_5 : decode cX9_isBetween 5 = .ok (.iload_n 0, 1) := by decide +kernel
theorem dX9_isBetween_6 : decode cX9_isBetween 6 = .ok (.iload_n 2, 1) := by decide +kernel
theorem dX9_isBetween_7 : decode cX9_isBetween 7 = .ok (.if_icmp .gt 7, 3) := by decide +kernel
theorem dX9_isBetween_10 : decode cX9_isBetween 10 = .ok (.iconst 1, 1) := by decide +kernel
theorem dX9_isBetween_11 : decode cX9_isBetween 11 = .ok (.goto 4, 3) := by decide +kernel
theorem dX9_isBetween_14 : decode cX9_isBetween 14 = .ok (.iconst 0, 1) := by decide +kernel
theorem dX9_isBetween_15 : decode cX9_isBetween 15 = .ok (.ireturn, 1) := by decide +kernel
theorem dX9_isCellAsked_0 : decode cX9_isCellAsked 0 = .ok (.iload_n 0, 1) := by decide +kernel
theorem dX9_isCellAsked_1 : decode cX9_isCellAsked 1 = .ok (.iload_n 1, 1) := by decide +kernel
theorem dX9_isCellAsked_2 : decode cX9_isCellAsked 2 = .ok (.if_icmp .lt 15, 3) := by decide +kernel
theorem dX9_isCellAsked_5 : decode cX9_isCellAsked 5 = .ok (.iload_n 0, 1) := by decide +kernel
theorem dX9_isCellAsked_6 : decode cX9_isCellAsked 6 = .ok (.iload_n 1, 1) := by decide +kernel
theorem dX9_isCellAsked_7 : decode cX9_isCellAsked 7 = .ok (.bipush 16, 2) := by decide +kernel
theorem dX9_isCellAsked_9 : decode cX9_isCellAsked 9 = .ok (.iadd, 1) := by decide +kernel
theorem dX9_isCellAsked_10 : decode cX9_isCellAsked 10 = .ok (.if_icmp .ge 7, 3) := by decide +kernel
theorem dX9_isCellAsked_13 : decode cX9_isCellAsked 13 = .ok (.iconst 1, 1) := by decide +kernel
theorem dX9_isCellAsked_14 : decode cX9_isCellAsked 14 = .ok (.goto 4, 3) := by decide +kernel
theorem dX9_isCellAsked_17 : decode cX9_isCellAsked 17 = .ok (.iconst 0, 1) := by decide +kernel
theorem dX9_isCellAsked_18 : decode cX9_isCellAsked 18 = .ok (.ireturn, 1) := by decide +kernel
theorem dX9_oneIf_0 : decode cX9_oneIf 0 = .ok (.iload_n 0, 1) := by decide +kernel
theorem dX9_oneIf_1 : decode cX9_oneIf 1 = .ok (.ifCond .eq 7, 3) := by decide +kernel
theorem dX9_oneIf_4 : decode cX9_oneIf 4 = .ok (.iconst 1, 1) := by decide +kernel
theorem dX9_oneIf_5 : decode cX9_oneIf 5 = .ok (.goto 4, 3) := by decide +kernel
theorem dX9_oneIf_8 : decode cX9_oneIf 8 = .ok (.iconst 0, 1) := by decide +kernel
theorem dX9_oneIf_9 : decode cX9_oneIf 9 = .ok (.ireturn, 1) := by decide +kernel
theorem dX9_partOfFraction_0 : decode cX9_partOfFraction 0 = .ok (.iload_n 2, 1) := by decide +kernel
theorem dX9_partOfFraction_1 : decode cX9_partOfFraction 1 = .ok (.ifCond .eq 12, 3) := by decide +kernel
theorem dX9_partOfFraction_4 : decode cX9_partOfFraction 4 = .ok (.iload_n 2, 1) := by decide +kernel
theorem dX9_partOfFraction_5 : decode cX9_partOfFraction 5 = .ok (.iconst 1, 1) := by decide +kernel
theorem dX9_partOfFraction_6 : decode cX9_partOfFraction 6 = .ok (.if_icmp .eq 7, 3) := by decide +kernel
theorem dX9_partOfFraction_9 : decode cX9_partOfFraction 9 = .ok (.ldc2_w 236, 3) := by decide +kernel
theorem dX9_partOfFraction_12 : decode cX9_partOfFraction 12 = .ok (.lreturn, 1) := by decide +kernel
theorem dX9_partOfFraction_13 : decode cX9_partOfFraction 13 = .ok (.iload_n 0, 1) := by decide +kernel
theorem dX9_partOfFraction_14 : decode cX9_partOfFraction 14 = .ok (.iload_n 1, 1) := by decide +kernel
theorem dX9_partOfFraction_15 : decode cX9_partOfFraction 15 = .ok (.invokestatic 342, 3) := by decide +kernel
theorem dX9_partOfFraction_18 : decode cX9_partOfFraction 18 = .ok (.istore_n 3, 1) := by decide +kernel
theorem dX9_partOfFraction_19 : decode cX9_partOfFraction 19 = .ok (.iload_n 3, 1) := by decide +kernel
theorem dX9_partOfFraction_20 : decode cX9_partOfFraction 20 = .ok (.ifCond .ne 7, 3) := by decide +kernel
theorem dX9_partOfFraction_23 : decode cX9_partOfFraction 23 = .ok (.ldc2_w 236, 3) := by decide +kernel
theorem dX9_partOfFraction_26 : decode cX9_partOfFraction 26 = .ok (.lreturn, 1) := by decide +kernel
theorem dX9_partOfFraction_27 : decode cX9_partOfFraction 27 = .ok (.iload_n 2, 1) := by decide +kernel
theorem dX9_partOfFraction_28 : decode cX9_partOfFraction 28 = .ok (.ifCond .ne 10, 3) := by decide +kernel
theorem dX9_partOfFraction_31 : decode cX9_partOfFraction 31 = .ok (.iload_n 0, 1) := by decide +kernel
theorem dX9_partOfFraction_32 : decode cX9_partOfFraction 32 = .ok (.iload_n 3, 1) := by decide +kernel
theorem dX9_partOfFraction_33 : decode cX9_partOfFraction 33 = .ok (.idiv, 1) := by decide +kernel
theorem dX9_partOfFraction_34 : decode cX9_partOfFraction 34 = .ok (.i2l, 1) := by decide +kernel
theorem dX9_partOfFraction_35 : decode cX9_partOfFraction 35 = .ok (.goto 7, 3) := by decide +kernel
theorem dX9_partOfFraction_38 : decode cX9_partOfFraction 38 = .ok (.iload_n 1, 1) := by decide +kernel
theorem dX9_partOfFraction_39 : decode cX9_partOfFraction 39 = .ok (.iload_n 3, 1) := by decide +kernel
theorem dX9_partOfFraction_40 : decode cX9_partOfFraction 40 = .ok (.idiv, 1) := by decide +kernel
theorem dX9_partOfFraction_41 : decode cX9_partOfFraction 41 = .ok (.i2l, 1) := by decide +kernel
theorem dX9_partOfFraction_42 : decode cX9_partOfFraction 42 = .ok (.lreturn, 1) := by decide +kernel
theorem dX9_commonDivisor_0 : decode cX9_commonDivisor 0 = .ok (.iload_n 0, 1) := by decide +kernel
theorem dX9_commonDivisor_1 : decode cX9_commonDivisor 1 = .ok (.istore_n 2, 1) := by decide +kernel
theorem dX9_commonDivisor_2 : decode cX9_commonDivisor 2 = .ok (.iload_n 1, 1) := by decide +kernel
theorem dX9_commonDivisor_3 : decode cX9_commonDivisor 3 = .ok (.istore_n 3, 1) := by decide +kernel
theorem dX9_commonDivisor_4 : decode cX9_commonDivisor 4 = .ok (.iconst 0, 1) := by decide +kernel
theorem dX9_commonDivisor_5 : decode cX9_commonDivisor 5 = .ok (.istore 4, 2) := by decide +kernel
theorem dX9_commonDivisor_7 : decode cX9_commonDivisor 7 = .ok (.iload 4, 2) := by decide +kernel
theorem dX9_commonDivisor_9 : decode cX9_commonDivisor 9 = .ok (.bipush 50, 2) := by decide +kernel
theorem dX9_commonDivisor_11 : decode cX9_commonDivisor 11 = .ok (.if_icmp .ge 23, 3) := by decide +kernel
theorem dX9_commonDivisor_14 : decode cX9_commonDivisor 14 = .ok (.iload_n 3, 1) := by decide +kernel
theorem dX9_commonDivisor_15 : decode cX9_commonDivisor 15 = .ok (.ifCond .eq 19, 3) := by decide +kernel
theorem dX9_commonDivisor_18 : decode cX9_commonDivisor 18 = .ok (.iload_n 2, 1) := by decide +kernel
theorem dX9_commonDivisor_19 : decode cX9_commonDivisor 19 = .ok (.iload_n 3, 1) := by decide +kernel
theorem dX9_commonDivisor_20 : decode cX9_commonDivisor 20 = .ok (.irem, 1) := by decide +kernel
theorem dX9_commonDivisor_21 : decode cX9_commonDivisor 21 = .ok (.istore 5, 2) := by decide +kernel
theorem dX9_commonDivisor_23 : decode cX9_commonDivisor 23 = .ok (.iload_n 3, 1) := by decide +kernel
theorem dX9_commonDivisor_24 : decode cX9_commonDivisor 24 = .ok (.istore_n 2, 1) := by decide +kernel
theorem dX9_commonDivisor_25 : decode cX9_commonDivisor 25 = .ok (.iload 5, 2) := by decide +kernel
theorem dX9_commonDivisor_27 : decode cX9_commonDivisor 27 = .ok (.istore_n 3, 1) := by decide +kernel
theorem dX9_commonDivisor_28 : decode cX9_commonDivisor 28 = .ok (.iinc 4 1, 3) := by decide +kernel
theorem dX9_commonDivisor_31 : decode cX9_commonDivisor 31 = .ok (.goto (-24), 3) := by decide +kernel
theorem dX9_commonDivisor_34 : decode cX9_commonDivisor 34 = .ok (.iload_n 2, 1) := by decide +kernel
theorem dX9_commonDivisor_35 : decode cX9_commonDivisor 35 = .ok (.ireturn, 1) := by decide +kernel
theorem dJ9_max_7cf53_0 : decode cJ9_max_7cf53 0 = .ok (.iload_n 0, 1) := by decide +kernel
theorem dJ9_max_7cf53_1 : decode cJ9_max_7cf53 1 = .ok (.iload_n 1, 1) := by decide +kernel
theorem dJ9_max_7cf53_2 : decode cJ9_max_7cf53 2 = .ok (.if_icmp .lt 7, 3) := by decide +kernel
theorem dJ9_max_7cf53_5 : decode cJ9_max_7cf53 5 = .ok (.iload_n 0, 1) := by decide +kernel
theorem dJ9_max_7cf53_6 : decode cJ9_max_7cf53 6 = .ok (.goto 4, 3) := by decide +kernel
theorem dJ9_max_7cf53_9 : decode cJ9_max_7cf53 9 = .ok (.iload_n 1, 1) := by decide +kernel
theorem dJ9_max_7cf53_10 : decode cJ9_max_7cf53 10 = .ok (.ireturn, 1) := by decide +kernel
theorem dJ9_min_7cf53_0 : decode cJ9_min_7cf53 0 = .ok (.iload_n 0, 1) := by decide +kernel
theorem dJ9_min_7cf53_1 : decode cJ9_min_7cf53 1 = .ok (.iload_n 1, 1) := by decide +kernel
theorem dJ9_min_7cf53_2 : decode cJ9_min_7cf53 2 = .ok (.if_icmp .gt 7, 3) := by decide +kernel
theorem dJ9_min_7cf53_5 : decode cJ9_min_7cf53 5 = .ok (.iload_n 0, 1) := by decide +kernel
theorem dJ9_min_7cf53_6 : decode cJ9_min_7cf53 6 = .ok (.goto 4, 3) := by decide +kernel
theorem dJ9_min_7cf53_9 : decode cJ9_min_7cf53 9 = .ok (.iload_n 1, 1) := by decide +kernel
theorem dJ9_min_7cf53_10 : decode cJ9_min_7cf53 10 = .ok (.ireturn, 1) := by decide +kernel
theorem dJ0_length_8abf5_0 : decode cJ0_length_8abf5 0 = .ok (.aload_n 0, 1) := by decide +kernel
theorem dJ0_length_8abf5_1 : decode cJ0_length_8abf5 1 = .ok (.getfield 9, 3) := by decide +kernel
theorem dJ0_length_8abf5_4 : decode cJ0_length_8abf5 4 = .ok (.arraylength, 1) := by decide +kernel
theorem dJ0_length_8abf5_5 : decode cJ0_length_8abf5 5 = .ok (.aload_n 0, 1) := by decide +kernel
theorem dJ0_length_8abf5_6 : decode cJ0_length_8abf5 6 = .ok (.invokevirtual 335, 3) := by decide +kernel
theorem dJ0_length_8abf5_9 : decode cJ0_length_8abf5 9 = .ok (.ishr, 1) := by decide +kernel
theorem dJ0_length_8abf5_10 : decode cJ0_length_8abf5 10 = .ok (.ireturn, 1) := by decide +kernel
theorem dJ0_charAt_5068e_0 : decode cJ0_charAt_5068e 0 = .ok (.aload_n 0, 1) := by decide +kernel
theorem dJ0_charAt_5068e_1 : decode cJ0_charAt_5068e 1 = .ok (.invokevirtual 492, 3) := by decide +kernel
theorem dJ0_charAt_5068e_4 : decode cJ0_charAt_5068e 4 = .ok (.ifCond .eq 12, 3) := by decide +kernel
theorem dJ0_charAt_5068e_7 : decode cJ0_charAt_5068e 7 = .ok (.aload_n 0, 1) := by decide +kernel
theorem dJ0_charAt_5068e_8 : decode cJ0_charAt_5068e 8 = .ok (.getfield 9, 3) := by decide +kernel
theorem dJ0_charAt_5068e_11 : decode cJ0_charAt_5068e 11 = .ok (.iload_n 1, 1) := by decide +kernel
theorem dJ0_charAt_5068e_12 : decode cJ0_charAt_5068e 12 = .ok (.invokestatic 495, 3) := by decide +kernel
theorem dJ0_charAt_5068e_15 : decode cJ0_charAt_5068e 15 = .ok (.ireturn, 1) := by decide +kernel
theorem dJ0_charAt_5068e_16 : decode cJ0_charAt_5068e 16 = .ok (.aload_n 0, 1) := by decide +kernel
theorem dJ0_charAt_5068e_17 : decode cJ0_charAt_5068e 17 = .ok (.getfield 9, 3) := by decide +kernel
theorem dJ0_charAt_5068e_20 : decode cJ0_charAt_5068e 20 = .ok (.iload_n 1, 1) := by decide +kernel
theorem dJ0_charAt_5068e_21 : decode cJ0_charAt_5068e 21 = .ok (.invokestatic 498, 3) := by decide +kernel
theorem dJ0_charAt_5068e_24 : decode cJ0_charAt_5068e 24 = .ok (.ireturn, 1) := by decide +kernel
theorem dJ0_coder_7d493_0 : decode cJ0_coder_7d493 0 = .ok (.getstatic 38, 3) := by decide +kernel
theorem dJ0_coder_7d493_3 : decode cJ0_coder_7d493 3 = .ok (.ifCond .eq 10, 3) := by decide +kernel
theorem dJ0_coder_7d493_6 : decode cJ0_coder_7d493 6 = .ok (.aload_n 0, 1) := by decide +kernel
theorem dJ0_coder_7d493_7 : decode cJ0_coder_7d493 7 = .ok (.getfield 15, 3) := by decide +kernel
theorem dJ0_coder_7d493_10 : decode cJ0_coder_7d493 10 = .ok (.goto 4, 3) := by decide +kernel
theorem dJ0_coder_7d493_13 : decode cJ0_coder_7d493 13 = .ok (.iconst 1, 1) := by decide +kernel
theorem dJ0_coder_7d493_14 : decode cJ0_coder_7d493 14 = .ok (.ireturn, 1) := by decide +kernel
theorem dJ0_isLatin1_aae02_0 : decode cJ0_isLatin1_aae02 0 = .ok (.getstatic 38, 3) := by decide +kernel
theorem dJ0_isLatin1_aae02_3 : decode cJ0_isLatin1_aae02 3 = .ok (.ifCond .eq 14, 3) := by decide +kernel
theorem dJ0_isLatin1_aae02_6 : decode cJ0_isLatin1_aae02 6 = .ok (.aload_n 0, 1) := by decide +kernel
theorem dJ0_isLatin1_aae02_7 : decode cJ0_isLatin1_aae02 7 = .ok (.getfield 15, 3) := by decide +kernel
theorem dJ0_isLatin1_aae02_10 : decode cJ0_isLatin1_aae02 10 = .ok (.ifCond .ne 7, 3) := by decide +kernel
theorem dJ0_isLatin1_aae02_13 : decode cJ0_isLatin1_aae02 13 = .ok (.iconst 1, 1) := by decide +kernel
theorem dJ0_isLatin1_aae02_14 : decode cJ0_isLatin1_aae02 14 = .ok (.goto 4, 3) := by decide +kernel
theorem dJ0_isLatin1_aae02_17 : decode cJ0_isLatin1_aae02 17 = .ok (.iconst 0, 1) := by decide +kernel
theorem dJ0_isLatin1_aae02_18 : decode cJ0_isLatin1_aae02 18 = .ok (.ireturn, 1) := by decide +kernel
theorem dJ0_checkIndex_df160_0 : decode cJ0_checkIndex_df160 0 = .ok (.iload_n 0, 1) := by decide +kernel
theorem dJ0_checkIndex_df160_1 : decode cJ0_checkIndex_df160 1 = .ok (.iload_n 1, 1) := by decide +kernel
theorem dJ0_checkIndex_df160_2 : decode cJ0_checkIndex_df160 2 = .ok (.getstatic 1053, 3) := by decide +kernel
theorem dJ0_checkIndex_df160_5 : decode cJ0_checkIndex_df160 5 = .ok (.invokestatic 1059, 3) := by decide +kernel
theorem dJ0_checkIndex_df160_8 : decode cJ0_checkIndex_df160 8 = .ok (.pop, 1) := by decide +kernel
theorem dJ0_checkIndex_df160_9 : decode cJ0_checkIndex_df160 9 = .ok (.return_, 1) := by decide +kernel
theorem dJ1_charAt_3b067_0 : decode cJ1_charAt_3b067 0 = .ok (.iload_n 1, 1) := by decide +kernel
theorem dJ1_charAt_3b067_1 : decode cJ1_charAt_3b067 1 = .ok (.aload_n 0, 1) := by decide +kernel
theorem dJ1_charAt_3b067_2 : decode cJ1_charAt_3b067 2 = .ok (.arraylength, 1) := by decide +kernel
theorem dJ1_charAt_3b067_3 : decode cJ1_charAt_3b067 3 = .ok (.invokestatic 9, 3) := by decide +kernel
theorem dJ1_charAt_3b067_6 : decode cJ1_charAt_3b067 6 = .ok (.aload_n 0, 1) := by decide +kernel
theorem dJ1_charAt_3b067_7 : decode cJ1_charAt_3b067 7 = .ok (.iload_n 1, 1) := by decide +kernel
theorem dJ1_charAt_3b067_8 : decode cJ1_charAt_3b067 8 = .ok (.baload, 1) := by decide +kernel
theorem dJ1_charAt_3b067_9 : decode cJ1_charAt_3b067 9 = .ok (.sipush 255, 3) := by decide +kernel
theorem dJ1_charAt_3b067_12 : decode cJ1_charAt_3b067 12 = .ok (.iand, 1) := by decide +kernel
theorem dJ1_charAt_3b067_13 : decode cJ1_charAt_3b067 13 = .ok (.i2c, 1) := by decide +kernel
theorem dJ1_charAt_3b067_14 : decode cJ1_charAt_3b067 14 = .ok (.ireturn, 1) := by decide +kernel
theorem dJ2_getChar_3b067_0 : decode cJ2_getChar_3b067 0 = .ok (.getstatic 44, 3) := by decide +kernel
theorem dJ2_getChar_3b067_3 : decode cJ2_getChar_3b067 3 = .ok (.ifCond .ne 25, 3) := by decide +kernel
theorem dJ2_getChar_3b067_6 : decode cJ2_getChar_3b067 6 = .ok (.iload_n 1, 1) := by decide +kernel
theorem dJ2_getChar_3b067_7 : decode cJ2_getChar_3b067 7 = .ok (.ifCond .lt 11, 3) := by decide +kernel
theorem dJ2_getChar_3b067_10 : decode cJ2_getChar_3b067 10 = .ok (.iload_n 1, 1) := by decide +kernel
theorem dJ2_getChar_3b067_11 : decode cJ2_getChar_3b067 11 = .ok (.aload_n 0, 1) := by decide +kernel
theorem dJ2_getChar_3b067_12 : decode cJ2_getChar_3b067 12 = .ok (.invokestatic 48, 3) := by decide +kernel
theorem dJ2_getChar_3b067_15 : decode cJ2_getChar_3b067 15 = .ok (.if_icmp .lt 13, 3) := by decide +kernel
theorem dJ2_getChar_3b067_18 : decode cJ2_getChar_3b067 18 = .ok (.new 52, 3) := by decide +kernel
theorem dJ2_getChar_3b067_21 : decode cJ2_getChar_3b067 21 = .ok (.dup, 1) := by decide +kernel
theorem dJ2_getChar_3b067_22 : decode cJ2_getChar_3b067 22 = .ok (.ldc 54, 2) := by decide +kernel
theorem dJ2_getChar_3b067_24 : decode cJ2_getChar_3b067 24 = .ok (.invokespecial 56, 3) := by decide +kernel
theorem dJ2_getChar_3b067_27 : decode cJ2_getChar_3b067 27 = .ok (.athrow, 1) := by decide +kernel
theorem dJ2_getChar_3b067_28 : decode cJ2_getChar_3b067 28 = .ok (.iload_n 1, 1) := by decide +kernel
theorem dJ2_getChar_3b067_29 : decode cJ2_getChar_3b067 29 = .ok (.iconst 1, 1) := by decide +kernel
theorem dJ2_getChar_3b067_30 : decode cJ2_getChar_3b067 30 = .ok (.ishl, 1) := by decide +kernel
theorem dJ2_getChar_3b067_31 : decode cJ2_getChar_3b067 31 = .ok (.istore_n 1, 1) := by decide +kernel
theorem dJ2_getChar_3b067_32 : decode cJ2_getChar_3b067 32 = .ok (.aload_n 0, 1) := by decide +kernel
theorem dJ2_getChar_3b067_33 : decode cJ2_getChar_3b067 33 = .ok (.iload_n 1, 1) := by decide +kernel
theorem dJ2_getChar_3b067_34 : decode cJ2_getChar_3b067 34 = .ok (.iinc 1 1, 3) := by decide +kernel
theorem dJ2_getChar_3b067_37 : decode cJ2_getChar_3b067 37 = .ok (.baload, 1) := by decide +kernel
theorem dJ2_getChar_3b067_38 : decode cJ2_getChar_3b067 38 = .ok (.sipush 255, 3) := by decide +kernel
theorem dJ2_getChar_3b067_41 : decode cJ2_getChar_3b067 41 = .ok (.iand, 1) := by decide +kernel
theorem dJ2_getChar_3b067_42 : decode cJ2_getChar_3b067 42 = .ok (.getstatic 59, 3) := by decide +kernel
theorem dJ2_getChar_3b067_45 : decode cJ2_getChar_3b067 45 = .ok (.ishl, 1) := by decide +kernel
theorem dJ2_getChar_3b067_46 : decode cJ2_getChar_3b067 46 = .ok (.aload_n 0, 1) := by decide +kernel
theorem dJ2_getChar_3b067_47 : decode cJ2_getChar_3b067 47 = .ok (.iload_n 1, 1) := by decide +kernel
theorem dJ2_getChar_3b067_48 : decode cJ2_getChar_3b067 48 = .ok (.baload, 1) := by decide +kernel
theorem dJ2_getChar_3b067_49 : decode cJ2_getChar_3b067 49 = .ok (.sipush 255, 3) := by decide +kernel
theorem dJ2_getChar_3b067_52 : decode cJ2_getChar_3b067 52 = .ok (.iand, 1) := by decide +kernel
theorem dJ2_getChar_3b067_53 : decode cJ2_getChar_3b067 53 = .ok (.getstatic 63, 3) := by decide +kernel
theorem dJ2_getChar_3b067_56 : decode cJ2_getChar_3b067 56 = .ok (.ishl, 1) := by decide +kernel
theorem dJ2_getChar_3b067_57 : decode cJ2_getChar_3b067 57 = .ok (.ior, 1) := by decide +kernel
theorem dJ2_getChar_3b067_58 : decode cJ2_getChar_3b067 58 = .ok (.i2c, 1) := by decide +kernel
theorem dJ2_getChar_3b067_59 : decode cJ2_getChar_3b067 59 = .ok (.ireturn, 1) := by decide +kernel
theorem dJ2_length_9d52b_0 : decode cJ2_length_9d52b 0 = .ok (.aload_n 0, 1) := by decide +kernel
theorem dJ2_length_9d52b_1 : decode cJ2_length_9d52b 1 = .ok (.arraylength, 1) := by decide +kernel
theorem dJ2_length_9d52b_2 : decode cJ2_length_9d52b 2 = .ok (.iconst 1, 1) := by decide +kernel
theorem dJ2_length_9d52b_3 : decode cJ2_length_9d52b 3 = .ok (.ishr, 1) := by decide +kernel
theorem dJ2_length_9d52b_4 : decode cJ2_length_9d52b 4 = .ok (.ireturn, 1) := by decide +kernel
theorem dJ2_charAt_3b067_0 : decode cJ2_charAt_3b067 0 = .ok (.iload_n 1, 1) := by decide +kernel
theorem dJ2_charAt_3b067_1 : decode cJ2_charAt_3b067 1 = .ok (.aload_n 0, 1) := by decide +kernel
theorem dJ2_charAt_3b067_2 : decode cJ2_charAt_3b067 2 = .ok (.invokestatic 67, 3) := by decide +kernel
theorem dJ2_charAt_3b067_5 : decode cJ2_charAt_3b067 5 = .ok (.aload_n 0, 1) := by decide +kernel
theorem dJ2_charAt_3b067_6 : decode cJ2_charAt_3b067 6 = .ok (.iload_n 1, 1) := by decide +kernel
theorem dJ2_charAt_3b067_7 : decode cJ2_charAt_3b067 7 = .ok (.invokestatic 71, 3) := by decide +kernel
theorem dJ2_charAt_3b067_10 : decode cJ2_charAt_3b067 10 = .ok (.ireturn, 1) := by decide +kernel
theorem dJ2_checkIndex_2214a_0 : decode cJ2_checkIndex_2214a 0 = .ok (.iload_n 0, 1) := by decide +kernel
theorem dJ2_checkIndex_2214a_1 : decode cJ2_checkIndex_2214a 1 = .ok (.aload_n 1, 1) := by decide +kernel
theorem dJ2_checkIndex_2214a_2 : decode cJ2_checkIndex_2214a 2 = .ok (.invokestatic 48, 3) := by decide +kernel
theorem dJ2_checkIndex_2214a_5 : decode cJ2_checkIndex_2214a 5 = .ok (.invokestatic 414, 3) := by decide +kernel
theorem dJ2_checkIndex_2214a_8 : decode cJ2_checkIndex_2214a 8 = .ok (.return_, 1) := by decide +kernel
theorem dJ3_checkIndex_8e157_0 : decode cJ3_checkIndex_8e157 0 = .ok (.iload_n 0, 1) := by decide +kernel
theorem dJ3_checkIndex_8e157_1 : decode cJ3_checkIndex_8e157 1 = .ok (.ifCond .lt 8, 3) := by decide +kernel
theorem dJ3_checkIndex_8e157_4 : decode cJ3_checkIndex_8e157 4 = .ok (.iload_n 0, 1) := by decide +kernel
theorem dJ3_checkIndex_8e157_5 : decode cJ3_checkIndex_8e157 5 = .ok (.iload_n 1, 1) := by decide +kernel
theorem dJ3_checkIndex_8e157_6 : decode cJ3_checkIndex_8e157 6 = .ok (.if_icmp .lt 10, 3) := by decide +kernel
theorem dJ3_checkIndex_8e157_9 : decode cJ3_checkIndex_8e157 9 = .ok (.aload_n 2, 1) := by decide +kernel
theorem dJ3_checkIndex_8e157_10 : decode cJ3_checkIndex_8e157 10 = .ok (.iload_n 0, 1) := by decide +kernel
theorem dJ3_checkIndex_8e157_11 : decode cJ3_checkIndex_8e157 11 = .ok (.iload_n 1, 1) := by decide +kernel
theorem dJ3_checkIndex_8e157_12 : decode cJ3_checkIndex_8e157 12 = .ok (.invokestatic 95, 3) := by decide +kernel
theorem dJ3_checkIndex_8e157_15 : decode cJ3_checkIndex_8e157 15 = .ok (.athrow, 1) := by decide +kernel
theorem dJ3_checkIndex_8e157_16 : decode cJ3_checkIndex_8e157 16 = .ok (.iload_n 0, 1) := by decide +kernel
theorem dJ3_checkIndex_8e157_17 : decode cJ3_checkIndex_8e157 17 = .ok (.ireturn, 1) := by decide +kernel
end
section
theorem dX10_init_0 : decode cX10_init 0 = .ok (.aload_n 0, 1) := by decide +kernel
theorem dX10_init_1 : decode cX10_init 1 = .ok (.invokespecial 1, 3) := by decide +kernel
theorem dX10_init_4 : decode cX10_init 4 = .ok (.aload_n 0, 1) := by decide +kernel
theorem dX10_init_5 : decode cX10_init 5 = .ok (.iconst 0, 1) := by decide +kernel
theorem dX10_init_6 : decode cX10_init 6 = .ok (.putfield 7, 3) := by decide +kernel
theorem dX10_init_9 : decode cX10_init 9 = .ok (.aload_n 0, 1) := by decide +kernel
theorem dX10_init_10 : decode cX10_init 10 = .ok (.iconst 0, 1) := by decide +kernel
theorem dX10_init_11 : decode cX10_init 11 = .ok (.putfield 13, 3) := by decide +kernel
theorem dX10_init_14 : decode cX10_init 14 = .ok (.aload_n 0, 1) := by decide +kernel
theorem dX10_init_15 : decode cX10_init 15 = .ok (.iconst 0, 1) := by decide +kernel
theorem dX10_init_16 : decode cX10_init 16 = .ok (.putfield 16, 3) := by decide +kernel
theorem dX10_init_19 : decode cX10_init 19 = .ok (.aload_n 0, 1) := by decide +kernel
theorem dX10_init_20 : decode cX10_init 20 = .ok (.iconst 0, 1) := by decide +kernel
theorem dX10_init_21 : decode cX10_init 21 = .ok (.putfield 19, 3) := by decide +kernel
theorem dX10_init_24 : decode cX10_init 24 = .ok (.aload_n 0, 1) := by decide +kernel
theorem dX10_init_25 : decode cX10_init 25 = .ok (.bipush 16, 2) := by decide +kernel
theorem dX10_init_27 : decode cX10_init 27 = .ok (.newarray .int, 2) := by decide +kernel
theorem dX10_init_29 : decode cX10_init 29 = .ok (.putfield 22, 3) := by decide +kernel
theorem dX10_init_32 : decode cX10_init 32 = .ok (.aload_n 0, 1) := by decide +kernel
theorem dX10_init_33 : decode cX10_init 33 = .ok (.bipush 6, 2) := by decide +kernel
theorem dX10_init_35 : decode cX10_init 35 = .ok (.newarray .int, 2) := by decide +kernel
theorem dX10_init_37 : decode cX10_init 37 = .ok (.putfield 26, 3) := by decide +kernel
theorem dX10_init_40 : decode cX10_init 40 = .ok (.aload_n 0, 1) := by decide +kernel
theorem dX10_init_41 : decode cX10_init 41 = .ok (.bipush 6, 2) := by decide +kernel
theorem dX10_init_43 : decode cX10_init 43 = .ok (.newarray .int, 2) := by decide +kernel
theorem dX10_init_45 : decode cX10_init 45 = .ok (.putfield 29, 3) := by decide +kernel
theorem dX10_init_48 : decode cX10_init 48 = .ok (.aload_n 0, 1) := by decide +kernel
theorem dX10_init_49 : decode cX10_init 49 = .ok (.bipush 6, 2) := by decide +kernel
theorem dX10_init_51 : decode cX10_init 51 = .ok (.newarray .int, 2) := by decide +kernel
theorem dX10_init_53 : decode cX10_init 53 = .ok (.putfield 32, 3) := by decide +kernel
theorem dX10_init_56 : decode cX10_init 56 = .ok (.aload_n 0, 1) := by decide +kernel
theorem dX10_init_57 : decode cX10_init 57 = .ok (.bipush 6, 2) := by decide +kernel
theorem dX10_init_59 : decode cX10_init 59 = .ok (.newarray .int, 2) := by decide +kernel
theorem dX10_init_61 : decode cX10_init 61 = .ok (.putfield 35, 3) := by decide +kernel
theorem dX10_init_64 : decode cX10_init 64 = .ok (.aload_n 0, 1) := by decide +kernel
theorem dX10_init_65 : decode cX10_init 65 = .ok (.bipush 24, 2) := by decide +kernel
theorem dX10_init_67 : decode cX10_init 67 = .ok (.newarray .int, 2) := by decide +kernel
theorem dX10_init_69 : decode cX10_init 69 = .ok (.putfield 38, 3) := by decide +kernel
theorem dX10_init_72 : decode cX10_init 72 = .ok (.aload_n 0, 1) := by decide +kernel
theorem dX10_init_73 : decode cX10_init 73 = .ok (.iconst 0, 1) := by decide +kernel
theorem dX10_init_74 : decode cX10_init 74 = .ok (.putfield 41, 3) := by decide +kernel
theorem dX10_init_77 : decode cX10_init 77 = .ok (.aload_n 0, 1) := by decide +kernel
theorem dX10_init_78 : decode cX10_init 78 = .ok (.iconst (-1), 1) := by decide +kernel
theorem dX10_init_79 : decode cX10_init 79 = .ok (.putfield 44, 3) := by decide +kernel
theorem dX10_init_82 : decode cX10_init 82 = .ok (.aload_n 0, 1) := by decide +kernel
theorem dX10_init_83 : decode cX10_init 83 = .ok (.iconst 0, 1) := by decide +kernel
theorem dX10_init_84 : decode cX10_init 84 = .ok (.putfield 47, 3) := by decide +kernel
theorem dX10_init_87 : decode cX10_init 87 = .ok (.aload_n 0, 1) := by decide +kernel
theorem dX10_init_88 : decode cX10_init 88 = .ok (.iconst 0, 1) := by decide +kernel
theorem dX10_init_89 : decode cX10_init 89 = .ok (.putfield 50, 3) := by decide +kernel
theorem dX10_init_92 : decode cX10_init 92 = .ok (.aload_n 0, 1) := by decide +kernel
theorem dX10_init_93 : decode cX10_init 93 = .ok (.iconst 0, 1) := by decide +kernel
theorem dX10_init_94 : decode cX10_init 94 = .ok (.putfield 53, 3) := by decide +kernel
theorem dX10_init_97 : decode cX10_init 97 = .ok (.aload_n 0, 1) := by decide +kernel
theorem dX10_init_98 : decode cX10_init 98 = .ok (.bipush 100, 2) := by decide +kernel
theorem dX10_init_100 : decode cX10_init 100 = .ok (.newarray .int, 2) := by decide +kernel
theorem dX10_init_102 : decode cX10_init 102 = .ok (.putfield 56, 3) := by decide +kernel
theorem dX10_init_105 : decode cX10_init 105 = .ok (.aload_n 0, 1) := by decide +kernel
theorem dX10_init_106 : decode cX10_init 106 = .ok (.bipush 6, 2) := by decide +kernel
theorem dX10_init_108 : decode cX10_init 108 = .ok (.newarray .int, 2) := by decide +kernel
theorem dX10_init_110 : decode cX10_init 110 = .ok (.putfield 59, 3) := by decide +kernel
theorem dX10_init_113 : decode cX10_init 113 = .ok (.aload_n 0, 1) := by decide +kernel
theorem dX10_init_114 : decode cX10_init 114 = .ok (.bipush 60, 2) := by decide +kernel
theorem dX10_init_116 : decode cX10_init 116 = .ok (.newarray .int, 2) := by decide +kernel
theorem dX10_init_118 : decode cX10_init 118 = .ok (.putfield 62, 3) := by decide +kernel
theorem dX10_init_121 : decode cX10_init 121 = .ok (.aload_n 0, 1) := by decide +kernel
theorem dX10_init_122 : decode cX10_init 122 = .ok (.bipush 60, 2) := by decide +kernel
theorem dX10_init_124 : decode cX10_init 124 = .ok (.newarray .int, 2) := by decide +kernel
theorem dX10_init_126 : decode cX10_init 126 = .ok (.putfield 65, 3) := by decide +kernel
theorem dX10_init_129 : decode cX10_init 129 = .ok (.aload_n 0, 1) := by decide +kernel
theorem dX10_init_130 : decode cX10_init 130 = .ok (.bipush 60, 2) := by decide +kernel
theorem dX10_init_132 : decode cX10_init 132 = .ok (.newarray .int, 2) := by decide +kernel
theorem dX10_init_134 : decode cX10_init 134 = .ok (.putfield 68, 3) := by decide +kernel
theorem dX10_init_137 : decode cX10_init 137 = .ok (.aload_n 0, 1) := by decide +kernel
theorem dX10_init_138 : decode cX10_init 138 = .ok (.bipush 60, 2) := by decide +kernel
theorem dX10_init_140 : decode cX10_init 140 = .ok (.newarray .int, 2) := by decide +kernel
theorem dX10_init_142 : decode cX10_init 142 = .ok (.putfield 71, 3) := by decide +kernel
theorem dX10_init_145 : decode cX10_init 145 = .ok (.aload_n 0, 1) := by decide +kernel
theorem dX10_init_146 : decode cX10_init 146 = .ok (.sipush 600, 3) := by decide +kernel
theorem dX10_init_149 : decode cX10_init 149 = .ok (.newarray .int, 2) := by decide +kernel
theorem dX10_init_151 : decode cX10_init 151 = .ok (.putfield 74, 3) := by decide +kernel
theorem dX10_init_154 : decode cX10_init 154 = .ok (.aload_n 0, 1) := by decide +kernel
theorem dX10_init_155 : decode cX10_init 155 = .ok (.bipush 101, 2) := by decide +kernel
theorem dX10_init_157 : decode cX10_init 157 = .ok (.newarray .int, 2) := by decide +kernel
theorem dX10_init_159 : decode cX10_init 159 = .ok (.putfield 77, 3) := by decide +kernel
theorem dX10_init_162 : decode cX10_init 162 = .ok (.aload_n 0, 1) := by decide +kernel
theorem dX10_init_163 : decode cX10_init 163 = .ok (.iconst 0, 1) := by decide +kernel
theorem dX10_init_164 : decode cX10_init 164 = .ok (.putfield 80, 3) := by decide +kernel
theorem dX10_init_167 : decode cX10_init 167 = .ok (.aload_n 0, 1) := by decide +kernel
theorem dX10_init_168 : decode cX10_init 168 = .ok (.iconst 0, 1) := by decide +kernel
theorem dX10_init_169 : decode cX10_init 169 = .ok (.putfield 83, 3) := by decide +kernel
theorem dX10_init_172 : decode cX10_init 172 = .ok (.aload_n 0, 1) := by decide +kernel
theorem dX10_init_173 : decode cX10_init 173 = .ok (.iconst 0, 1) := by decide +kernel
theorem dX10_init_174 : decode cX10_init 174 = .ok (.putfield 86, 3) := by decide +kernel
theorem dX10_init_177 : decode cX10_init 177 = .ok (.aload_n 0, 1) := by decide +kernel
theorem dX10_init_178 : decode cX10_init 178 = .ok (.bipush 12, 2) := by decide +kernel
theorem dX10_init_180 : decode cX10_init 180 = .ok (.newarray .int, 2) := by decide +kernel
theorem dX10_init_182 : decode cX10_init 182 = .ok (.dup, 1) := by decide +kernel
theorem dX10_init_183 : decode cX10_init 183 = .ok (.iconst 0, 1) := by decide +kernel
theorem dX10_init_184 : decode cX10_init 184 = .ok (.bipush 115, 2) := by decide +kernel
theorem dX10_init_186 : decode cX10_init 186 = .ok (.iastore, 1) := by decide +kernel
theorem dX10_init_187 : decode cX10_init 187 = .ok (.dup, 1) := by decide +kernel
theorem dX10_init_188 : decode cX10_init 188 = .ok (.iconst 1, 1) := by decide +kernel
theorem dX10_init_189 : decode cX10_init 189 = .ok (.bipush 111, 2) := by decide +kernel
theorem dX10_init_191 : decode cX10_init 191 = .ok (.iastore, 1) := by decide +kernel
theorem dX10_init_192 : decode cX10_init 192 = .ok (.dup, 1) := by decide +kernel
theorem dX10_init_193 : decode cX10_init 193 = .ok (.iconst 2, 1) := by decide +kernel
theorem dX10_init_194 : decode cX10_init 194 = .ok (.bipush 102, 2) := by decide +kernel
theorem dX10_init_196 : decode cX10_init 196 = .ok (.iastore, 1) := by decide +kernel
theorem dX10_init_197 : decode cX10_init 197 = .ok (.dup, 1) := by decide +kernel
theorem dX10_init_198 : decode cX10_init 198 = .ok (.iconst 3, 1) := by decide +kernel
theorem dX10_init_199 : decode cX10_init 199 = .ok (.bipush 116, 2) := by decide +kernel
theorem dX10_init_201 : decode cX10_init 201 = .ok (.iastore, 1) := by decide +kernel
theorem dX10_init_202 : decode cX10_init 202 = .ok (.dup, 1) := by decide +kernel
theorem dX10_init_203 : decode cX10_init 203 = .ok (.iconst 4, 1) := by decide +kernel
theorem dX10_init_204 : decode cX10_init 204 = .ok (.bipush 104, 2) := by decide +kernel
theorem dX10_init_206 : decode cX10_init 206 = .ok (.iastore, 1) := by decide +kernel
theorem dX10_init_207 : decode cX10_init 207 = .ok (.dup, 1) := by decide +kernel
theorem dX10_init_208 : decode cX10_init 208 = .ok (.iconst 5, 1) := by decide +kernel
theorem dX10_init_209 : decode cX10_init 209 = .ok (.bipush 97, 2) := by decide +kernel
theorem dX10_init_211 : decode cX10_init 211 = .ok (.iastore, 1) := by decide +kernel
theorem dX10_init_212 : decode cX10_init 212 = .ok (.dup, 1) := by decide +kernel
theorem dX10_init_213 : decode cX10_init 213 = .ok (.bipush 6, 2) := by decide +kernel
theorem dX10_init_215 : decode cX10_init 215 = .ok (.bipush 114, 2) := by decide +kernel
theorem dX10_init_217 : decode cX10_init 217 = .ok (.iastore, 1) := by decide +kernel
theorem dX10_init_218 : decode cX10_init 218 = .ok (.dup, 1) := by decide +kernel
theorem dX10_init_219 : decode cX10_init 219 = .ok (.bipush 7, 2) := by decide +kernel
theorem dX10_init_221 : decode cX10_init 221 = .ok (.bipush 100, 2) := by decide +kernel
theorem dX10_init_223 : decode cX10_init 223 = .ok (.iastore, 1) := by decide +kernel
theorem dX10_init_224 : decode cX10_init 224 = .ok (.dup, 1) := by decide +kernel
theorem dX10_init_225 : decode cX10_init 225 = .ok (.bipush 8, 2) := by decide +kernel
theorem dX10_init_227 : decode cX10_init 227 = .ok (.bipush 98, 2) := by decide +kernel
theorem dX10_init_229 : decode cX10_init 229 = .ok (.iastore, 1) := by decide +kernel
theorem dX10_init_230 : decode cX10_init 230 = .ok (.dup, 1) := by decide +kernel
theorem dX10_init_231 : decode cX10_init 231 = .ok (.bipush 9, 2) := by decide +kernel
theorem dX10_init_233 : decode cX10_init 233 = .ok (.bipush 97, 2) := by decide +kernel
theorem dX10_init_235 : decode cX10_init 235 = .ok (.iastore, 1) := by decide +kernel
theorem dX10_init_236 : decode cX10_init 236 = .ok (.dup, 1) := by decide +kernel
theorem dX10_init_237 : decode cX10_init 237 = .ok (.bipush 10, 2) := by decide +kernel
theorem dX10_init_239 : decode cX10_init 239 = .ok (.bipush 108, 2) := by decide +kernel
theorem dX10_init_241 : decode cX10_init 241 = .ok (.iastore, 1) := by decide +kernel
theorem dX10_init_242 : decode cX10_init 242 = .ok (.dup, 1) := by decide +kernel
theorem dX10_init_243 : decode cX10_init 243 = .ok (.bipush 11, 2) := by decide +kernel
theorem dX10_init_245 : decode cX10_init 245 = .ok (.bipush 100, 2) := by decide +kernel
theorem dX10_init_247 : decode cX10_init 247 = .ok (.iastore, 1) := by decide +kernel
theorem dX10_init_248 : decode cX10_init 248 = .ok (.putfield 89, 3) := by decide +kernel
theorem dX10_init_251 : decode cX10_init 251 = .ok (.aload_n 0, 1) := by decide +kernel
theorem dX10_init_252 : decode cX10_init 252 = .ok (.bipush 100, 2) := by decide +kernel
theorem dX10_init_254 : decode cX10_init 254 = .ok (.newarray .boolean, 2) := by decide +kernel
theorem dX10_init_256 : decode cX10_init 256 = .ok (.putfield 92, 3) := by decide +kernel
theorem dX10_init_259 : decode cX10_init 259 = .ok (.aload_n 0, 1) := by decide +kernel
theorem dX10_init_260 : decode cX10_init 260 = .ok (.bipush 16, 2) := by decide +kernel
theorem dX10_init_262 : decode cX10_init 262 = .ok (.newarray .int, 2) := by decide +kernel
theorem dX10_init_264 : decode cX10_init 264 = .ok (.putfield 96, 3) := by decide +kernel
theorem dX10_init_267 : decode cX10_init 267 = .ok (.aload_n 0, 1) := by decide +kernel
theorem dX10_init_268 : decode cX10_init 268 = .ok (.bipush 16, 2) := by decide +kernel
theorem dX10_init_270 : decode cX10_init 270 = .ok (.newarray .int, 2) := by decide +kernel
theorem dX10_init_272 : decode cX10_init 272 = .ok (.putfield 99, 3) := by decide +kernel
theorem dX10_init_275 : decode cX10_init 275 = .ok (.aload_n 0, 1) := by decide +kernel
theorem dX10_init_276 : decode cX10_init 276 = .ok (.bipush 16, 2) := by decide +kernel
theorem dX10_init_278 : decode cX10_init 278 = .ok (.newarray .int, 2) := by decide +kernel
theorem dX10_init_280 : decode cX10_init 280 = .ok (.putfield 102, 3) := by decide +kernel
theorem dX10_init_283 : decode cX10_init 283 = .ok (.aload_n 0, 1) := by decide +kernel
theorem dX10_init_284 : decode cX10_init 284 = .ok (.iconst 0, 1) := by decide +kernel
theorem dX10_init_285 : decode cX10_init 285 = .ok (.putfield 105, 3) := by decide +kernel
theorem dX10_init_288 : decode cX10_init 288 = .ok (.aload_n 0, 1) := by decide +kernel
theorem dX10_init_289 : decode cX10_init 289 = .ok (.sipush 384, 3) := by decide +kernel
theorem dX10_init_292 : decode cX10_init 292 = .ok (.newarray .int, 2) := by decide +kernel
theorem dX10_init_294 : decode cX10_init 294 = .ok (.putfield 108, 3) := by decide +kernel
theorem dX10_init_297 : decode cX10_init 297 = .ok (.aload_n 0, 1) := by decide +kernel
theorem dX10_init_298 : decode cX10_init 298 = .ok (.sipush 9999, 3) := by decide +kernel
theorem dX10_init_301 : decode cX10_init 301 = .ok (.putfield 111, 3) := by decide +kernel
theorem dX10_init_304 : decode cX10_init 304 = .ok (.aload_n 0, 1) := by decide +kernel
theorem dX10_init_305 : decode cX10_init 305 = .ok (.iconst 0, 1) := by decide +kernel
theorem dX10_init_306 : decode cX10_init 306 = .ok (.putfield 114, 3) := by decide +kernel
theorem dX10_init_309 : decode cX10_init 309 = .ok (.aload_n 0, 1) := by decide +kernel
theorem dX10_init_310 : decode cX10_init 310 = .ok (.iconst 0, 1) := by decide +kernel
theorem dX10_init_311 : decode cX10_init 311 = .ok (.putfield 117, 3) := by decide +kernel
theorem dX10_init_314 : decode cX10_init 314 = .ok (.aload_n 0, 1) := by decide +kernel
theorem dX10_init_315 : decode cX10_init 315 = .ok (.iconst 0, 1) := by decide +kernel
theorem dX10_init_316 : decode cX10_init 316 = .ok (.putfield 120, 3) := by decide +kernel
theorem dX10_init_319 : decode cX10_init 319 = .ok (.aload_n 0, 1) := by decide +kernel
theorem dX10_init_320 : decode cX10_init 320 = .ok (.bipush 16, 2) := by decide +kernel
theorem dX10_init_322 : decode cX10_init 322 = .ok (.newarray .int, 2) := by decide +kernel
theorem dX10_init_324 : decode cX10_init 324 = .ok (.putfield 123, 3) := by decide +kernel
theorem dX10_init_327 : decode cX10_init 327 = .ok (.aload_n 0, 1) := by decide +kernel
theorem dX10_init_328 : decode cX10_init 328 = .ok (.bipush 16, 2) := by decide +kernel
theorem dX10_init_330 : decode cX10_init 330 = .ok (.newarray .int, 2) := by decide +kernel
theorem dX10_init_332 : decode cX10_init 332 = .ok (.putfield 126, 3) := by decide +kernel
theorem dX10_init_335 : decode cX10_init 335 = .ok (.aload_n 0, 1) := by decide +kernel
theorem dX10_init_336 : decode cX10_init 336 = .ok (.iconst 0, 1) := by decide +kernel
theorem dX10_init_337 : decode cX10_init 337 = .ok (.putfield 129, 3) := by decide +kernel
theorem dX10_init_340 : decode cX10_init 340 = .ok (.aload_n 0, 1) := by decide +kernel
theorem dX10_init_341 : decode cX10_init 341 = .ok (.iconst 5, 1) := by decide +kernel
theorem dX10_init_342 : decode cX10_init 342 = .ok (.newarray .int, 2) := by decide +kernel
theorem dX10_init_344 : decode cX10_init 344 = .ok (.putfield 132, 3) := by decide +kernel
theorem dX10_init_347 : decode cX10_init 347 = .ok (.aload_n 0, 1) := by decide +kernel
theorem dX10_init_348 : decode cX10_init 348 = .ok (.iconst 5, 1) := by decide +kernel
theorem dX10_init_349 : decode cX10_init 349 = .ok (.newarray .int, 2) := by decide +kernel
theorem dX10_init_351 : decode cX10_init 351 = .ok (.putfield 135, 3) := by decide +kernel
theorem dX10_init_354 : decode cX10_init 354 = .ok (.aload_n 0, 1) := by decide +kernel
theorem dX10_init_355 : decode cX10_init 355 = .ok (.iconst 5, 1) := by decide +kernel
theorem dX10_init_356 : decode cX10_init 356 = .ok (.newarray .int, 2) := by decide +kernel
theorem dX10_init_358 : decode cX10_init 358 = .ok (.putfield 138, 3) := by decide +kernel
theorem dX10_init_361 : decode cX10_init 361 = .ok (.aload_n 0, 1) := by decide +kernel
theorem dX10_init_362 : decode cX10_init 362 = .ok (.iconst 0, 1) := by decide +kernel
theorem dX10_init_363 : decode cX10_init 363 = .ok (.putfield 141, 3) := by decide +kernel
theorem dX10_init_366 : decode cX10_init 366 = .ok (.aload_n 0, 1) := by decide +kernel
theorem dX10_init_367 : decode cX10_init 367 = .ok (.iconst 0, 1) := by decide +kernel
theorem dX10_init_368 : decode cX10_init 368 = .ok (.putfield 144, 3) := by decide +kernel
theorem dX10_init_371 : decode cX10_init 371 = .ok (.aload_n 0, 1) := by decide +kernel
theorem dX10_init_372 : decode cX10_init 372 = .ok (.bipush 10, 2) := by decide +kernel
theorem dX10_init_374 : decode cX10_init 374 = .ok (.newarray .int, 2) := by decide +kernel
theorem dX10_init_376 : decode cX10_init 376 = .ok (.putfield 147, 3) := by decide +kernel
theorem dX10_init_379 : decode cX10_init 379 = .ok (.aload_n 0, 1) := by decide +kernel
theorem dX10_init_380 : decode cX10_init 380 = .ok (.bipush 10, 2) := by decide +kernel
theorem dX10_init_382 : decode cX10_init 382 = .ok (.newarray .int, 2) := by decide +kernel
theorem dX10_init_384 : decode cX10_init 384 = .ok (.putfield 150, 3) := by decide +kernel
theorem dX10_init_387 : decode cX10_init 387 = .ok (.aload_n 0, 1) := by decide +kernel
theorem dX10_init_388 : decode cX10_init 388 = .ok (.bipush 8, 2) := by decide +kernel
theorem dX10_init_390 : decode cX10_init 390 = .ok (.newarray .int, 2) := by decide +kernel
theorem dX10_init_392 : decode cX10_init 392 = .ok (.putfield 153, 3) := by decide +kernel
theorem dX10_init_395 : decode cX10_init 395 = .ok (.aload_n 0, 1) := by decide +kernel
theorem dX10_init_396 : decode cX10_init 396 = .ok (.bipush 8, 2) := by decide +kernel
theorem dX10_init_398 : decode cX10_init 398 = .ok (.newarray .int, 2) := by decide +kernel
theorem dX10_init_400 : decode cX10_init 400 = .ok (.putfield 156, 3) := by decide +kernel
theorem dX10_init_403 : decode cX10_init 403 = .ok (.aload_n 0, 1) := by decide +kernel
theorem dX10_init_404 : decode cX10_init 404 = .ok (.iconst 0, 1) := by decide +kernel
theorem dX10_init_405 : decode cX10_init 405 = .ok (.putfield 159, 3) := by decide +kernel
theorem dX10_init_408 : decode cX10_init 408 = .ok (.aload_n 0, 1) := by decide +kernel
theorem dX10_init_409 : decode cX10_init 409 = .ok (.iconst (-1), 1) := by decide +kernel
theorem dX10_init_410 : decode cX10_init 410 = .ok (.putfield 163, 3) := by decide +kernel
theorem dX10_init_413 : decode cX10_init 413 = .ok (.aload_n 0, 1) := by decide +kernel
theorem dX10_init_414 : decode cX10_init 414 = .ok (.iconst 0, 1) := by decide +kernel
theorem dX10_init_415 : decode cX10_init 415 = .ok (.putfield 166, 3) := by decide +kernel
theorem dX10_init_418 : decode cX10_init 418 = .ok (.aload_n 0, 1) := by decide +kernel
theorem dX10_init_419 : decode cX10_init 419 = .ok (.iconst 0, 1) := by decide +kernel
theorem dX10_init_420 : decode cX10_init 420 = .ok (.putfield 169, 3) := by decide +kernel
theorem dX10_init_423 : decode cX10_init 423 = .ok (.aload_n 0, 1) := by decide +kernel
theorem dX10_init_424 : decode cX10_init 424 = .ok (.iconst 0, 1) := by decide +kernel
theorem dX10_init_425 : decode cX10_init 425 = .ok (.putfield 172, 3) := by decide +kernel
theorem dX10_init_428 : decode cX10_init 428 = .ok (.aload_n 0, 1) := by decide +kernel
theorem dX10_init_429 : decode cX10_init 429 = .ok (.iconst 0, 1) := by decide +kernel
theorem dX10_init_430 : decode cX10_init 430 = .ok (.putfield 175, 3) := by decide +kernel
theorem dX10_init_433 : decode cX10_init 433 = .ok (.aload_n 0, 1) := by decide +kernel
theorem dX10_init_434 : decode cX10_init 434 = .ok (.iconst 0, 1) := by decide +kernel
theorem dX10_init_435 : decode cX10_init 435 = .ok (.putfield 178, 3) := by decide +kernel
theorem dX10_init_438 : decode cX10_init 438 = .ok (.aload_n 0, 1) := by decide +kernel
theorem dX10_init_439 : decode cX10_init 439 = .ok (.iconst 0, 1) := by decide +kernel
theorem dX10_init_440 : decode cX10_init 440 = .ok (.putfield 181, 3) := by decide +kernel
theorem dX10_init_443 : decode cX10_init 443 = .ok (.aload_n 0, 1) := by decide +kernel
theorem dX10_init_444 : decode cX10_init 444 = .ok (.iconst 0, 1) := by decide +kernel
theorem dX10_init_445 : decode cX10_init 445 = .ok (.putfield 184, 3) := by decide +kernel
theorem dX10_init_448 : decode cX10_init 448 = .ok (.aload_n 0, 1) := by decide +kernel
theorem dX10_init_449 : decode cX10_init 449 = .ok (.bipush 16, 2) := by decide +kernel
theorem dX10_init_451 : decode cX10_init 451 = .ok (.newarray .int, 2) := by decide +kernel
theorem dX10_init_453 : decode cX10_init 453 = .ok (.putfield 187, 3) := by decide +kernel
theorem dX10_init_456 : decode cX10_init 456 = .ok (.aload_n 0, 1) := by decide +kernel
theorem dX10_init_457 : decode cX10_init 457 = .ok (.bipush 6, 2) := by decide +kernel
theorem dX10_init_459 : decode cX10_init 459 = .ok (.newarray .int, 2) := by decide +kernel
theorem dX10_init_461 : decode cX10_init 461 = .ok (.putfield 190, 3) := by decide +kernel
theorem dX10_init_464 : decode cX10_init 464 = .ok (.aload_n 0, 1) := by decide +kernel
theorem dX10_init_465 : decode cX10_init 465 = .ok (.bipush 6, 2) := by decide +kernel
theorem dX10_init_467 : decode cX10_init 467 = .ok (.newarray .int, 2) := by decide +kernel
theorem dX10_init_469 : decode cX10_init 469 = .ok (.putfield 193, 3) := by decide +kernel
theorem dX10_init_472 : decode cX10_init 472 = .ok (.aload_n 0, 1) := by decide +kernel
theorem dX10_init_473 : decode cX10_init 473 = .ok (.bipush 6, 2) := by decide +kernel
theorem dX10_init_475 : decode cX10_init 475 = .ok (.newarray .int, 2) := by decide +kernel
theorem dX10_init_477 : decode cX10_init 477 = .ok (.putfield 196, 3) := by decide +kernel
theorem dX10_init_480 : decode cX10_init 480 = .ok (.aload_n 0, 1) := by decide +kernel
theorem dX10_init_481 : decode cX10_init 481 = .ok (.bipush 6, 2) := by decide +kernel
theorem dX10_init_483 : decode cX10_init 483 = .ok (.newarray .int, 2) := by decide +kernel
theorem dX10_init_485 : decode cX10_init 485 = .ok (.putfield 199, 3) := by decide +kernel
theorem dX10_init_488 : decode cX10_init 488 = .ok (.aload_n 0, 1) := by decide +kernel
theorem dX10_init_489 : decode cX10_init 489 = .ok (.bipush 24, 2) := by decide +kernel
theorem dX10_init_491 : decode cX10_init 491 = .ok (.newarray .int, 2) := by decide +kernel
theorem dX10_init_493 : decode cX10_init 493 = .ok (.putfield 202, 3) := by decide +kernel
theorem dX10_init_496 : decode cX10_init 496 = .ok (.aload_n 0, 1) := by decide +kernel
theorem dX10_init_497 : decode cX10_init 497 = .ok (.iconst 5, 1) := by decide +kernel
theorem dX10_init_498 : decode cX10_init 498 = .ok (.newarray .int, 2) := by decide +kernel
theorem dX10_init_500 : decode cX10_init 500 = .ok (.putfield 205, 3) := by decide +kernel
theorem dX10_init_503 : decode cX10_init 503 = .ok (.aload_n 0, 1) := by decide +kernel
theorem dX10_init_504 : decode cX10_init 504 = .ok (.iconst 5, 1) := by decide +kernel
theorem dX10_init_505 : decode cX10_init 505 = .ok (.newarray .int, 2) := by decide +kernel
theorem dX10_init_507 : decode cX10_init 507 = .ok (.putfield 208, 3) := by decide +kernel
theorem dX10_init_510 : decode cX10_init 510 = .ok (.aload_n 0, 1) := by decide +kernel
theorem dX10_init_511 : decode cX10_init 511 = .ok (.iconst 5, 1) := by decide +kernel
theorem dX10_init_512 : decode cX10_init 512 = .ok (.newarray .int, 2) := by decide +kernel
theorem dX10_init_514 : decode cX10_init 514 = .ok (.putfield 211, 3) := by decide +kernel
theorem dX10_init_517 : decode cX10_init 517 = .ok (.aload_n 0, 1) := by decide +kernel
theorem dX10_init_518 : decode cX10_init 518 = .ok (.bipush 10, 2) := by decide +kernel
theorem dX10_init_520 : decode cX10_init 520 = .ok (.newarray .int, 2) := by decide +kernel
theorem dX10_init_522 : decode cX10_init 522 = .ok (.putfield 214, 3) := by decide +kernel
theorem dX10_init_525 : decode cX10_init 525 = .ok (.aload_n 0, 1) := by decide +kernel
theorem dX10_init_526 : decode cX10_init 526 = .ok (.bipush 10, 2) := by decide +kernel
theorem dX10_init_528 : decode cX10_init 528 = .ok (.newarray .int, 2) := by decide +kernel
theorem dX10_init_530 : decode cX10_init 530 = .ok (.putfield 217, 3) := by decide +kernel
theorem dX10_init_533 : decode cX10_init 533 = .ok (.aload_n 0, 1) := by decide +kernel
theorem dX10_init_534 : decode cX10_init 534 = .ok (.bipush 8, 2) := by decide +kernel
theorem dX10_init_536 : decode cX10_init 536 = .ok (.newarray .int, 2) := by decide +kernel
theorem dX10_init_538 : decode cX10_init 538 = .ok (.putfield 220, 3) := by decide +kernel
theorem dX10_init_541 : decode cX10_init 541 = .ok (.aload_n 0, 1) := by decide +kernel
theorem dX10_init_542 : decode cX10_init 542 = .ok (.bipush 8, 2) := by decide +kernel
theorem dX10_init_544 : decode cX10_init 544 = .ok (.newarray .int, 2) := by decide +kernel
theorem dX10_init_546 : decode cX10_init 546 = .ok (.putfield 223, 3) := by decide +kernel
theorem dX10_init_549 : decode cX10_init 549 = .ok (.aload_n 0, 1) := by decide +kernel
theorem dX10_init_550 : decode cX10_init 550 = .ok (.iconst 0, 1) := by decide +kernel
theorem dX10_init_551 : decode cX10_init 551 = .ok (.putfield 226, 3) := by decide +kernel
theorem dX10_init_554 : decode cX10_init 554 = .ok (.aload_n 0, 1) := by decide +kernel
theorem dX10_init_555 : decode cX10_init 555 = .ok (.bipush 20, 2) := by decide +kernel
theorem dX10_init_557 : decode cX10_init 557 = .ok (.newarray .int, 2) := by decide +kernel
theorem dX10_init_559 : decode cX10_init 559 = .ok (.putfield 229, 3) := by decide +kernel
theorem dX10_init_562 : decode cX10_init 562 = .ok (.aload_n 0, 1) := by decide +kernel
theorem dX10_init_563 : decode cX10_init 563 = .ok (.bipush 6, 2) := by decide +kernel
theorem dX10_init_565 : decode cX10_init 565 = .ok (.newarray .int, 2) := by decide +kernel
theorem dX10_init_567 : decode cX10_init 567 = .ok (.dup, 1) := by decide +kernel
theorem dX10_init_568 : decode cX10_init 568 = .ok (.iconst 0, 1) := by decide +kernel
theorem dX10_init_569 : decode cX10_init 569 = .ok (.iconst (-1), 1) := by decide +kernel
theorem dX10_init_570 : decode cX10_init 570 = .ok (.iastore, 1) := by decide +kernel
theorem dX10_init_571 : decode cX10_init 571 = .ok (.dup, 1) := by decide +kernel
theorem dX10_init_572 : decode cX10_init 572 = .ok (.iconst 1, 1) := by decide +kernel
theorem dX10_init_573 : decode cX10_init 573 = .ok (.iconst (-1), 1) := by decide +kernel
theorem dX10_init_574 : decode cX10_init 574 = .ok (.iastore, 1) := by decide +kernel
theorem dX10_init_575 : decode cX10_init 575 = .ok (.dup, 1) := by decide +kernel
theorem dX10_init_576 : decode cX10_init 576 = .ok (.iconst 2, 1) := by decide +kernel
theorem dX10_init_577 : decode cX10_init 577 = .ok (.iconst (-1), 1) := by decide +kernel
theorem dX10_init_578 : decode cX10_init 578 = .ok (.iastore, 1) := by decide +kernel
theorem dX10_init_579 : decode cX10_init 579 = .ok (.dup, 1) := by decide +kernel
theorem dX10_init_580 : decode cX10_init 580 = .ok (.iconst 3, 1) := by decide +kernel
theorem dX10_init_581 : decode cX10_init 581 = .ok (.iconst (-1), 1) := by decide +kernel
theorem dX10_init_582 : decode cX10_init 582 = .ok (.iastore, 1) := by decide +kernel
theorem dX10_init_583 : decode cX10_init 583 = .ok (.dup, 1) := by decide +kernel
theorem dX10_init_584 : decode cX10_init 584 = .ok (.iconst 4, 1) := by decide +kernel
theorem dX10_init_585 : decode cX10_init 585 = .ok (.iconst (-1), 1) := by decide +kernel
theorem dX10_init_586 : decode cX10_init 586 = .ok (.iastore, 1) := by decide +kernel
theorem dX10_init_587 : decode cX10_init 587 = .ok (.dup, 1) := by decide +kernel
theorem dX10_init_588 : decode cX10_init 588 = .ok (.iconst 5, 1) := by decide +kernel
theorem dX10_init_589 : decode cX10_init 589 = .ok (.iconst (-1), 1) := by decide +kernel
theorem dX10_init_590 : decode cX10_init 590 = .ok (.iastore, 1) := by decide +kernel
theorem dX10_init_591 : decode cX10_init 591 = .ok (.putfield 232, 3) := by decide +kernel
theorem dX10_init_594 : decode cX10_init 594 = .ok (.aload_n 0, 1) := by decide +kernel
theorem dX10_init_595 : decode cX10_init 595 = .ok (.bipush 6, 2) := by decide +kernel
theorem dX10_init_597 : decode cX10_init 597 = .ok (.newarray .int, 2) := by decide +kernel
theorem dX10_init_599 : decode cX10_init 599 = .ok (.putfield 235, 3) := by decide +kernel
theorem dX10_init_602 : decode cX10_init 602 = .ok (.aload_n 0, 1) := by decide +kernel
theorem dX10_init_603 : decode cX10_init 603 = .ok (.sipush 360, 3) := by decide +kernel
theorem dX10_init_606 : decode cX10_init 606 = .ok (.newarray .long, 2) := by decide +kernel
theorem dX10_init_608 : decode cX10_init 608 = .ok (.putfield 238, 3) := by decide +kernel
theorem dX10_init_611 : decode cX10_init 611 = .ok (.aload_n 0, 1) := by decide +kernel
theorem dX10_init_612 : decode cX10_init 612 = .ok (.bipush 60, 2) := by decide +kernel
theorem dX10_init_614 : decode cX10_init 614 = .ok (.newarray .long, 2) := by decide +kernel
theorem dX10_init_616 : decode cX10_init 616 = .ok (.putfield 242, 3) := by decide +kernel
theorem dX10_init_619 : decode cX10_init 619 = .ok (.return_, 1) := by decide +kernel
theorem dX10_in_0 : decode cX10_in 0 = .ok (.iload_n 1, 1) := by decide +kernel
theorem dX10_in_1 : decode cX10_in 1 = .ok (.iload_n 2, 1) := by decide +kernel
theorem dX10_in_2 : decode cX10_in 2 = .ok (.if_icmp .lt 12, 3) := by decide +kernel
theorem dX10_in_5 : decode cX10_in 5 = .ok (.iload_n 1, 1) := by decide +kernel
theorem dX10_in_6 : decode cX10_in 6 = .ok (.iload_n 3, 1) := by decide +kernel
theorem dX10_in_7 : decode cX10_in 7 = .ok (.if_icmp .gt 7, 3) := by decide +kernel
theorem dX10_in_10 : decode cX10_in 10 = .ok (.iconst 1, 1) := by decide +kernel
theorem dX10_in_11 : decode cX10_in 11 = .ok (.goto 4, 3) := by decide +kernel
theorem dX10_in_14 : decode cX10_in 14 = .ok (.iconst 0, 1) := by decide +kernel
theorem dX10_in_15 : decode cX10_in 15 = .ok (.ireturn, 1) := by decide +kernel
theorem dX10_has_0 : decode cX10_has 0 = .ok (.iload_n 1, 1) := by decide +kernel
theorem dX10_has_1 : decode cX10_has 1 = .ok (.iload_n 2, 1) := by decide +kernel
theorem dX10_has_2 : decode cX10_has 2 = .ok (.ishr, 1) := by decide +kernel
theorem dX10_has_3 : decode cX10_has 3 = .ok (.iconst 1, 1) := by decide +kernel
theorem dX10_has_4 : decode cX10_has 4 = .ok (.iand, 1) := by decide +kernel
theorem dX10_has_5 : decode cX10_has 5 = .ok (.iconst 1, 1) := by decide +kernel
theorem dX10_has_6 : decode cX10_has 6 = .ok (.if_icmp .ne 7, 3) := by decide +kernel
theorem dX10_has_9 : decode cX10_has 9 = .ok (.iconst 1, 1) := by decide +kernel
theorem dX10_has_10 : decode cX10_has 10 = .ok (.goto 4, 3) := by decide +kernel
theorem dX10_has_13 : decode cX10_has 13 = .ok (.iconst 0, 1) := by decide +kernel
theorem dX10_has_14 : decode cX10_has 14 = .ok (.ireturn, 1) := by decide +kernel
theorem dX10_least_0 : decode cX10_least 0 = .ok (.iload_n 1, 1) := by decide +kernel
theorem dX10_least_1 : decode cX10_least 1 = .ok (.iload_n 2, 1) := by decide +kernel
theorem dX10_least_2 : decode cX10_least 2 = .ok (.if_icmp .ge 7, 3) := by decide +kernel
theorem dX10_least_5 : decode cX10_least 5 = .ok (.iload_n 1, 1) := by decide +kernel
theorem dX10_least_6 : decode cX10_least 6 = .ok (.goto 4, 3) := by decide +kernel
theorem dX10_least_9 : decode cX10_least 9 = .ok (.iload_n 2, 1) := by decide +kernel
theorem dX10_least_10 : decode cX10_least 10 = .ok (.ireturn, 1) := by decide +kernel
theorem dX10_bits_0 : decode cX10_bits 0 = .ok (.iconst 0, 1) := by decide +kernel
theorem dX10_bits_1 : decode cX10_bits 1 = .ok (.istore_n 2, 1) := by decide +kernel
theorem dX10_bits_2 : decode cX10_bits 2 = .ok (.iconst 0, 1) := by decide +kernel
theorem dX10_bits_3 : decode cX10_bits 3 = .ok (.istore_n 3, 1) := by decide +kernel
theorem dX10_bits_4 : decode cX10_bits 4 = .ok (.iload_n 3, 1) := by decide +kernel
theorem dX10_bits_5 : decode cX10_bits 5 = .ok (.bipush 16, 2) := by decide +kernel
theorem dX10_bits_7 : decode cX10_bits 7 = .ok (.if_icmp .ge 26, 3) := by decide +kernel
theorem dX10_bits_10 : decode cX10_bits 10 = .ok (.iload_n 2, 1) := by decide +kernel
theorem dX10_bits_11 : decode cX10_bits 11 = .ok (.aload_n 0, 1) := by decide +kernel
theorem dX10_bits_12 : decode cX10_bits 12 = .ok (.iload_n 1, 1) := by decide +kernel
theorem dX10_bits_13 : decode cX10_bits 13 = .ok (.iload_n 3, 1) := by decide +kernel
theorem dX10_bits_14 : decode cX10_bits 14 = .ok (.invokevirtual 245, 3) := by decide +kernel
theorem dX10_bits_17 : decode cX10_bits 17 = .ok (.ifCond .eq 7, 3) := by decide +kernel
theorem dX10_bits_20 : decode cX10_bits 20 = .ok (.iconst 1, 1) := by decide +kernel
theorem dX10_bits_21 : decode cX10_bits 21 = .ok (.goto 4, 3) := by decide +kernel
theorem dX10_bits_24 : decode cX10_bits 24 = .ok (.iconst 0, 1) := by decide +kernel
theorem dX10_bits_25 : decode cX10_bits 25 = .ok (.iadd, 1) := by decide +kernel
theorem dX10_bits_26 : decode cX10_bits 26 = .ok (.istore_n 2, 1) := by decide +kernel
theorem dX10_bits_27 : decode cX10_bits 27 = .ok (.iinc 3 1, 3) := by decide +kernel
theorem dX10_bits_30 : decode cX10_bits 30 = .ok (.goto (-26), 3) := by decide +kernel
theorem dX10_bits_33 : decode cX10_bits 33 = .ok (.iload_n 2, 1) := by decide +kernel
theorem dX10_bits_34 : decode cX10_bits 34 = .ok (.ireturn, 1) := by decide +kernel
theorem dX10_apart_0 : decode cX10_apart 0 = .ok (.iload_n 1, 1) := by decide +kernel
theorem dX10_apart_1 : decode cX10_apart 1 = .ok (.iload_n 2, 1) := by decide +kernel
theorem dX10_apart_2 : decode cX10_apart 2 = .ok (.if_icmp .le 9, 3) := by decide +kernel
theorem dX10_apart_5 : decode cX10_apart 5 = .ok (.iload_n 1, 1) := by decide +kernel
theorem dX10_apart_6 : decode cX10_apart 6 = .ok (.iload_n 2, 1) := by decide +kernel
theorem dX10_apart_7 : decode cX10_apart 7 = .ok (.isub, 1) := by decide +kernel
theorem dX10_apart_8 : decode cX10_apart 8 = .ok (.goto 6, 3) := by decide +kernel
theorem dX10_apart_11 : decode cX10_apart 11 = .ok (.iload_n 2, 1) := by decide +kernel
theorem dX10_apart_12 : decode cX10_apart 12 = .ok (.iload_n 1, 1) := by decide +kernel
theorem dX10_apart_13 : decode cX10_apart 13 = .ok (.isub, 1) := by decide +kernel
theorem dX10_apart_14 : decode cX10_apart 14 = .ok (.ireturn, 1) := by decide +kernel
theorem dX10_isNext_0 : decode cX10_isNext 0 = .ok (.aload_n 0, 1) := by decide +kernel
theorem dX10_isNext_1 : decode cX10_isNext 1 = .ok (.iload_n 1, 1) := by decide +kernel
theorem dX10_isNext_2 : decode cX10_isNext 2 = .ok (.iconst 4, 1) := by decide +kernel
theorem dX10_isNext_3 : decode cX10_isNext 3 = .ok (.idiv, 1) := by decide +kernel
theorem dX10_isNext_4 : decode cX10_isNext 4 = .ok (.iload_n 2, 1) := by decide +kernel
theorem dX10_isNext_5 : decode cX10_isNext 5 = .ok (.iconst 4, 1) := by decide +kernel
theorem dX10_isNext_6 : decode cX10_isNext 6 = .ok (.idiv, 1) := by decide +kernel
theorem dX10_isNext_7 : decode cX10_isNext 7 = .ok (.invokevirtual 249, 3) := by decide +kernel
theorem dX10_isNext_10 : decode cX10_isNext 10 = .ok (.aload_n 0, 1) := by decide +kernel
theorem dX10_isNext_11 : decode cX10_isNext 11 = .ok (.iload_n 1, 1) := by decide +kernel
theorem dX10_isNext_12 : decode cX10_isNext 12 = .ok (.iconst 4, 1) := by decide +kernel
theorem dX10_isNext_13 : decode cX10_isNext 13 = .ok (.irem, 1) := by decide +kernel
theorem dX10_isNext_14 : decode cX10_isNext 14 = .ok (.iload_n 2, 1) := by decide +kernel
theorem dX10_isNext_15 : decode cX10_isNext 15 = .ok (.iconst 4, 1) := by decide +kernel
theorem dX10_isNext_16 : decode cX10_isNext 16 = .ok (.irem, 1) := by decide +kernel
theorem dX10_isNext_17 : decode cX10_isNext 17 = .ok (.invokevirtual 249, 3) := by decide +kernel
theorem dX10_isNext_20 : decode cX10_isNext 20 = .ok (.iadd, 1) := by decide +kernel
theorem dX10_isNext_21 : decode cX10_isNext 21 = .ok (.iconst 1, 1) := by decide +kernel
theorem dX10_isNext_22 : decode cX10_isNext 22 = .ok (.if_icmp .ne 7, 3) := by decide +kernel
theorem dX10_isNext_25 : decode cX10_isNext 25 = .ok (.iconst 1, 1) := by decide +kernel
theorem dX10_isNext_26 : decode cX10_isNext 26 = .ok (.goto 4, 3) := by decide +kernel
theorem dX10_isNext_29 : decode cX10_isNext 29 = .ok (.iconst 0, 1) := by decide +kernel
theorem dX10_isNext_30 : decode cX10_isNext 30 = .ok (.ireturn, 1) := by decide +kernel
theorem dX10_isCell_0 : decode cX10_isCell 0 = .ok (.aload_n 0, 1) := by decide +kernel
theorem dX10_isCell_1 : decode cX10_isCell 1 = .ok (.iload_n 1, 1) := by decide +kernel
theorem dX10_isCell_2 : decode cX10_isCell 2 = .ok (.iconst 0, 1) := by decide +kernel
theorem dX10_isCell_3 : decode cX10_isCell 3 = .ok (.bipush 15, 2) := by decide +kernel
theorem dX10_isCell_5 : decode cX10_isCell 5 = .ok (.invokevirtual 253, 3) := by decide +kernel
theorem dX10_isCell_8 : decode cX10_isCell 8 = .ok (.ireturn, 1) := by decide +kernel
theorem dX10_isGoer_0 : decode cX10_isGoer 0 = .ok (.aload_n 0, 1) := by decide +kernel
theorem dX10_isGoer_1 : decode cX10_isGoer 1 = .ok (.iload_n 1, 1) := by decide +kernel
theorem dX10_isGoer_2 : decode cX10_isGoer 2 = .ok (.iconst 0, 1) := by decide +kernel
theorem dX10_isGoer_3 : decode cX10_isGoer 3 = .ok (.aload_n 0, 1) := by decide +kernel
theorem dX10_isGoer_4 : decode cX10_isGoer 4 = .ok (.getfield 7, 3) := by decide +kernel
theorem dX10_isGoer_7 : decode cX10_isGoer 7 = .ok (.iconst 1, 1) := by decide +kernel
theorem dX10_isGoer_8 : decode cX10_isGoer 8 = .ok (.isub, 1) := by decide +kernel
theorem dX10_isGoer_9 : decode cX10_isGoer 9 = .ok (.invokevirtual 253, 3) := by decide +kernel
theorem dX10_isGoer_12 : decode cX10_isGoer 12 = .ok (.ireturn, 1) := by decide +kernel
theorem dX10_isWear_0 : decode cX10_isWear 0 = .ok (.aload_n 0, 1) := by decide +kernel
theorem dX10_isWear_1 : decode cX10_isWear 1 = .ok (.iload_n 1, 1) := by decide +kernel
theorem dX10_isWear_2 : decode cX10_isWear 2 = .ok (.iconst 0, 1) := by decide +kernel
theorem dX10_isWear_3 : decode cX10_isWear 3 = .ok (.sipush 9999, 3) := by decide +kernel
theorem dX10_isWear_6 : decode cX10_isWear 6 = .ok (.invokevirtual 253, 3) := by decide +kernel
theorem dX10_isWear_9 : decode cX10_isWear 9 = .ok (.ireturn, 1) := by decide +kernel
theorem dX10_isDays_0 : decode cX10_isDays 0 = .ok (.aload_n 0, 1) := by decide +kernel
theorem dX10_isDays_1 : decode cX10_isDays 1 = .ok (.iload_n 1, 1) := by decide +kernel
theorem dX10_isDays_2 : decode cX10_isDays 2 = .ok (.iconst 0, 1) := by decide +kernel
theorem dX10_isDays_3 : decode cX10_isDays 3 = .ok (.bipush 60, 2) := by decide +kernel
theorem dX10_isDays_5 : decode cX10_isDays 5 = .ok (.invokevirtual 253, 3) := by decide +kernel
theorem dX10_isDays_8 : decode cX10_isDays 8 = .ok (.ireturn, 1) := by decide +kernel
theorem dX10_goer_0 : decode cX10_goer 0 = .ok (.aload_n 0, 1) := by decide +kernel
theorem dX10_goer_1 : decode cX10_goer 1 = .ok (.iload_n 1, 1) := by decide +kernel
theorem dX10_goer_2 : decode cX10_goer 2 = .ok (.iconst 0, 1) := by decide +kernel
theorem dX10_goer_3 : decode cX10_goer 3 = .ok (.bipush 6, 2) := by decide +kernel
theorem dX10_goer_5 : decode cX10_goer 5 = .ok (.invokevirtual 253, 3) := by decide +kernel
theorem dX10_goer_8 : decode cX10_goer 8 = .ok (.ifCond .eq 20, 3) := by decide +kernel
theorem dX10_goer_11 : decode cX10_goer 11 = .ok (.aload_n 0, 1) := by decide +kernel
theorem dX10_goer_12 : decode cX10_goer 12 = .ok (.iload_n 3, 1) := by decide +kernel
theorem dX10_goer_13 : decode cX10_goer 13 = .ok (.invokevirtual 257, 3) := by decide +kernel
theorem dX10_goer_16 : decode cX10_goer 16 = .ok (.ifCond .eq 12, 3) := by decide +kernel
theorem dX10_goer_19 : decode cX10_goer 19 = .ok (.aload_n 0, 1) := by decide +kernel
theorem dX10_goer_20 : decode cX10_goer 20 = .ok (.iload 4, 2) := by decide +kernel
theorem dX10_goer_22 : decode cX10_goer 22 = .ok (.invokevirtual 257, 3) := by decide +kernel
theorem dX10_goer_25 : decode cX10_goer 25 = .ok (.ifCond .ne 5, 3) := by decide +kernel
theorem dX10_goer_28 : decode cX10_goer 28 = .ok (.iconst (-1), 1) := by decide +kernel
theorem dX10_goer_29 : decode cX10_goer 29 = .ok (.ireturn, 1) := by decide +kernel
theorem dX10_goer_30 : decode cX10_goer 30 = .ok (.aload_n 0, 1) := by decide +kernel
theorem dX10_goer_31 : decode cX10_goer 31 = .ok (.iload_n 2, 1) := by decide +kernel
theorem dX10_goer_32 : decode cX10_goer 32 = .ok (.iconst 0, 1) := by decide +kernel
theorem dX10_goer_33 : decode cX10_goer 33 = .ok (.bipush 9, 2) := by decide +kernel
theorem dX10_goer_35 : decode cX10_goer 35 = .ok (.invokevirtual 253, 3) := by decide +kernel
theorem dX10_goer_38 : decode cX10_goer 38 = .ok (.ifCond .ne 6, 3) := by decide +kernel
theorem dX10_goer_41 : decode cX10_goer 41 = .ok (.bipush (-2), 2) := by decide +kernel
theorem dX10_goer_43 : decode cX10_goer 43 = .ok (.ireturn, 1) := by decide +kernel
theorem dX10_goer_44 : decode cX10_goer 44 = .ok (.aload_n 0, 1) := by decide +kernel
theorem dX10_goer_45 : decode cX10_goer 45 = .ok (.getfield 7, 3) := by decide +kernel
theorem dX10_goer_48 : decode cX10_goer 48 = .ok (.bipush 6, 2) := by decide +kernel
theorem dX10_goer_50 : decode cX10_goer 50 = .ok (.if_icmp .ne 6, 3) := by decide +kernel
theorem dX10_goer_53 : decode cX10_goer 53 = .ok (.bipush (-4), 2) := by decide +kernel
theorem dX10_goer_55 : decode cX10_goer 55 = .ok (.ireturn, 1) := by decide +kernel
theorem dX10_goer_56 : decode cX10_goer 56 = .ok (.aload_n 0, 1) := by decide +kernel
theorem dX10_goer_57 : decode cX10_goer 57 = .ok (.getfield 26, 3) := by decide +kernel
theorem dX10_goer_60 : decode cX10_goer 60 = .ok (.aload_n 0, 1) := by decide +kernel
theorem dX10_goer_61 : decode cX10_goer 61 = .ok (.getfield 7, 3) := by decide +kernel
theorem dX10_goer_64 : decode cX10_goer 64 = .ok (.iload_n 1, 1) := by decide +kernel
theorem dX10_goer_65 : decode cX10_goer 65 = .ok (.iastore, 1) := by decide +kernel
theorem dX10_goer_66 : decode cX10_goer 66 = .ok (.aload_n 0, 1) := by decide +kernel
theorem dX10_goer_67 : decode cX10_goer 67 = .ok (.getfield 29, 3) := by decide +kernel
theorem dX10_goer_70 : decode cX10_goer 70 = .ok (.aload_n 0, 1) := by decide +kernel
theorem dX10_goer_71 : decode cX10_goer 71 = .ok (.getfield 7, 3) := by decide +kernel
theorem dX10_goer_74 : decode cX10_goer 74 = .ok (.iload_n 2, 1) := by decide +kernel
theorem dX10_goer_75 : decode cX10_goer 75 = .ok (.iastore, 1) := by decide +kernel
theorem dX10_goer_76 : decode cX10_goer 76 = .ok (.aload_n 0, 1) := by decide +kernel
theorem dX10_goer_77 : decode cX10_goer 77 = .ok (.getfield 32, 3) := by decide +kernel
theorem dX10_goer_80 : decode cX10_goer 80 = .ok (.aload_n 0, 1) := by decide +kernel
theorem dX10_goer_81 : decode cX10_goer 81 = .ok (.getfield 7, 3) := by decide +kernel
theorem dX10_goer_84 : decode cX10_goer 84 = .ok (.iload_n 3, 1) := by decide +kernel
theorem dX10_goer_85 : decode cX10_goer 85 = .ok (.iastore, 1) := by decide +kernel
theorem dX10_goer_86 : decode cX10_goer 86 = .ok (.aload_n 0, 1) := by decide +kernel
theorem dX10_goer_87 : decode cX10_goer 87 = .ok (.getfield 35, 3) := by decide +kernel
theorem dX10_goer_90 : decode cX10_goer 90 = .ok (.aload_n 0, 1) := by decide +kernel
theorem dX10_goer_91 : decode cX10_goer 91 = .ok (.getfield 7, 3) := by decide +kernel
theorem dX10_goer_94 : decode cX10_goer 94 = .ok (.iload 4, 2) := by decide +kernel
theorem dX10_goer_96 : decode cX10_goer 96 = .ok (.iastore, 1) := by decide +kernel
theorem dX10_goer_97 : decode cX10_goer 97 = .ok (.aload_n 0, 1) := by decide +kernel
theorem dX10_goer_98 : decode cX10_goer 98 = .ok (.dup, 1) := by decide +kernel
theorem dX10_goer_99 : decode cX10_goer 99 = .ok (.getfield 13, 3) := by decide +kernel
theorem dX10_goer_102 : decode cX10_goer 102 = .ok (.iconst 1, 1) := by decide +kernel
theorem dX10_goer_103 : decode cX10_goer 103 = .ok (.aload_n 0, 1) := by decide +kernel
theorem dX10_goer_104 : decode cX10_goer 104 = .ok (.getfield 7, 3) := by decide +kernel
theorem dX10_goer_107 : decode cX10_goer 107 = .ok (.ishl, 1) := by decide +kernel
theorem dX10_goer_108 : decode cX10_goer 108 = .ok (.iconst (-1), 1) := by decide +kernel
theorem dX10_goer_109 : decode cX10_goer 109 = .ok (.ixor, 1) := by decide +kernel
theorem dX10_goer_110 : decode cX10_goer 110 = .ok (.iand, 1) := by decide +kernel
theorem dX10_goer_111 : decode cX10_goer 111 = .ok (.putfield 13, 3) := by decide +kernel
theorem dX10_goer_114 : decode cX10_goer 114 = .ok (.iconst 0, 1) := by decide +kernel
theorem dX10_goer_115 : decode cX10_goer 115 = .ok (.istore 5, 2) := by decide +kernel
theorem dX10_goer_117 : decode cX10_goer 117 = .ok (.iload 5, 2) := by decide +kernel
theorem dX10_goer_119 : decode cX10_goer 119 = .ok (.iconst 4, 1) := by decide +kernel
theorem dX10_goer_120 : decode cX10_goer 120 = .ok (.if_icmp .ge 24, 3) := by decide +kernel
theorem dX10_goer_123 : decode cX10_goer 123 = .ok (.aload_n 0, 1) := by decide +kernel
theorem dX10_goer_124 : decode cX10_goer 124 = .ok (.getfield 38, 3) := by decide +kernel
theorem dX10_goer_127 : decode cX10_goer 127 = .ok (.iconst 4, 1) := by decide +kernel
theorem dX10_goer_128 : decode cX10_goer 128 = .ok (.aload_n 0, 1) := by decide +kernel
theorem dX10_goer_129 : decode cX10_goer 129 = .ok (.getfield 7, 3) := by decide +kernel
theorem dX10_goer_132 : decode cX10_goer 132 = .ok (.imul, 1) := by decide +kernel
theorem dX10_goer_133 : decode cX10_goer 133 = .ok (.iload 5, 2) := by decide +kernel
theorem dX10_goer_135 : decode cX10_goer 135 = .ok (.iadd, 1) := by decide +kernel
theorem dX10_goer_136 : decode cX10_goer 136 = .ok (.iconst 0, 1) := by decide +kernel
theorem dX10_goer_137 : decode cX10_goer 137 = .ok (.iastore, 1) := by decide +kernel
theorem dX10_goer_138 : decode cX10_goer 138 = .ok (.iinc 5 1, 3) := by decide +kernel
theorem dX10_goer_141 : decode cX10_goer 141 = .ok (.goto (-24), 3) := by decide +kernel
theorem dX10_goer_144 : decode cX10_goer 144 = .ok (.aload_n 0, 1) := by decide +kernel
theorem dX10_goer_145 : decode cX10_goer 145 = .ok (.dup, 1) := by decide +kernel
theorem dX10_goer_146 : decode cX10_goer 146 = .ok (.getfield 7, 3) := by decide +kernel
theorem dX10_goer_149 : decode cX10_goer 149 = .ok (.iconst 1, 1) := by decide +kernel
theorem dX10_goer_150 : decode cX10_goer 150 = .ok (.iadd, 1) := by decide +kernel
theorem dX10_goer_151 : decode cX10_goer 151 = .ok (.putfield 7, 3) := by decide +kernel
theorem dX10_goer_154 : decode cX10_goer 154 = .ok (.aload_n 0, 1) := by decide +kernel
theorem dX10_goer_155 : decode cX10_goer 155 = .ok (.getfield 7, 3) := by decide +kernel
theorem dX10_goer_158 : decode cX10_goer 158 = .ok (.iconst 1, 1) := by decide +kernel
theorem dX10_goer_159 : decode cX10_goer 159 = .ok (.isub, 1) := by decide +kernel
theorem dX10_goer_160 : decode cX10_goer 160 = .ok (.ireturn, 1) := by decide +kernel
theorem dX10_set_0 : decode cX10_set 0 = .ok (.aload_n 0, 1) := by decide +kernel
theorem dX10_set_1 : decode cX10_set 1 = .ok (.iload_n 1, 1) := by decide +kernel
theorem dX10_set_2 : decode cX10_set 2 = .ok (.invokevirtual 257, 3) := by decide +kernel
theorem dX10_set_5 : decode cX10_set 5 = .ok (.ifCond .ne 5, 3) := by decide +kernel
theorem dX10_set_8 : decode cX10_set 8 = .ok (.iconst (-1), 1) := by decide +kernel
theorem dX10_set_9 : decode cX10_set 9 = .ok (.ireturn, 1) := by decide +kernel
theorem dX10_set_10 : decode cX10_set 10 = .ok (.aload_n 0, 1) := by decide +kernel
theorem dX10_set_11 : decode cX10_set 11 = .ok (.iload_n 2, 1) := by decide +kernel
theorem dX10_set_12 : decode cX10_set 12 = .ok (.invokevirtual 261, 3) := by decide +kernel
theorem dX10_set_15 : decode cX10_set 15 = .ok (.ifCond .ne 6, 3) := by decide +kernel
theorem dX10_set_18 : decode cX10_set 18 = .ok (.bipush (-2), 2) := by decide +kernel
theorem dX10_set_20 : decode cX10_set 20 = .ok (.ireturn, 1) := by decide +kernel
theorem dX10_set_21 : decode cX10_set 21 = .ok (.aload_n 0, 1) := by decide +kernel
theorem dX10_set_22 : decode cX10_set 22 = .ok (.getfield 22, 3) := by decide +kernel
theorem dX10_set_25 : decode cX10_set 25 = .ok (.iload_n 1, 1) := by decide +kernel
theorem dX10_set_26 : decode cX10_set 26 = .ok (.iaload, 1) := by decide +kernel
theorem dX10_set_27 : decode cX10_set 27 = .ok (.istore_n 3, 1) := by decide +kernel
theorem dX10_set_28 : decode cX10_set 28 = .ok (.aload_n 0, 1) := by decide +kernel
theorem dX10_set_29 : decode cX10_set 29 = .ok (.getfield 22, 3) := by decide +kernel
theorem dX10_set_32 : decode cX10_set 32 = .ok (.iload_n 1, 1) := by decide +kernel
theorem dX10_set_33 : decode cX10_set 33 = .ok (.iload_n 2, 1) := by decide +kernel
theorem dX10_set_34 : decode cX10_set 34 = .ok (.iastore, 1) := by decide +kernel
theorem dX10_set_35 : decode cX10_set 35 = .ok (.iload_n 3, 1) := by decide +kernel
theorem dX10_set_36 : decode cX10_set 36 = .ok (.ireturn, 1) := by decide +kernel
theorem dX10_move_0 : decode cX10_move 0 = .ok (.aload_n 0, 1) := by decide +kernel
theorem dX10_move_1 : decode cX10_move 1 = .ok (.iload_n 1, 1) := by decide +kernel
theorem dX10_move_2 : decode cX10_move 2 = .ok (.invokevirtual 264, 3) := by decide +kernel
theorem dX10_move_5 : decode cX10_move 5 = .ok (.ifCond .eq 21, 3) := by decide +kernel
theorem dX10_move_8 : decode cX10_move 8 = .ok (.aload_n 0, 1) := by decide +kernel
theorem dX10_move_9 : decode cX10_move 9 = .ok (.iload_n 2, 1) := by decide +kernel
theorem dX10_move_10 : decode cX10_move 10 = .ok (.iconst 0, 1) := by decide +kernel
theorem dX10_move_11 : decode cX10_move 11 = .ok (.iconst 1, 1) := by decide +kernel
theorem dX10_move_12 : decode cX10_move 12 = .ok (.invokevirtual 253, 3) := by decide +kernel
theorem dX10_move_15 : decode cX10_move 15 = .ok (.ifCond .eq 11, 3) := by decide +kernel
theorem dX10_move_18 : decode cX10_move 18 = .ok (.aload_n 0, 1) := by decide +kernel
theorem dX10_move_19 : decode cX10_move 19 = .ok (.iload_n 3, 1) := by decide +kernel
theorem dX10_move_20 : decode cX10_move 20 = .ok (.invokevirtual 257, 3) := by decide +kernel
theorem dX10_move_23 : decode cX10_move 23 = .ok (.ifCond .ne 5, 3) := by decide +kernel
theorem dX10_move_26 : decode cX10_move 26 = .ok (.iconst (-1), 1) := by decide +kernel
theorem dX10_move_27 : decode cX10_move 27 = .ok (.ireturn, 1) := by decide +kernel
theorem dX10_move_28 : decode cX10_move 28 = .ok (.iload_n 2, 1) := by decide +kernel
theorem dX10_move_29 : decode cX10_move 29 = .ok (.ifCond .ne 12, 3) := by decide +kernel
theorem dX10_move_32 : decode cX10_move 32 = .ok (.aload_n 0, 1) := by decide +kernel
theorem dX10_move_33 : decode cX10_move 33 = .ok (.getfield 32, 3) := by decide +kernel
theorem dX10_move_36 : decode cX10_move 36 = .ok (.iload_n 1, 1) := by decide +kernel
theorem dX10_move_37 : decode cX10_move 37 = .ok (.iaload, 1) := by decide +kernel
theorem dX10_move_38 : decode cX10_move 38 = .ok (.goto 9, 3) := by decide +kernel
theorem dX10_move_41 : decode cX10_move 41 = .ok (.aload_n 0, 1) := by decide +kernel
theorem dX10_move_42 : decode cX10_move 42 = .ok (.getfield 35, 3) := by decide +kernel
theorem dX10_move_45 : decode cX10_move 45 = .ok (.iload_n 1, 1) := by decide +kernel
theorem dX10_move_46 : decode cX10_move 46 = .ok (.iaload, 1) := by decide +kernel
theorem dX10_move_47 : decode cX10_move 47 = .ok (.istore 4, 2) := by decide +kernel
theorem dX10_move_49 : decode cX10_move 49 = .ok (.iload_n 2, 1) := by decide +kernel
theorem dX10_move_50 : decode cX10_move 50 = .ok (.ifCond .ne 13, 3) := by decide +kernel
theorem dX10_move_53 : decode cX10_move 53 = .ok (.aload_n 0, 1) := by decide +kernel
theorem dX10_move_54 : decode cX10_move 54 = .ok (.getfield 32, 3) := by decide +kernel
theorem dX10_move_57 : decode cX10_move 57 = .ok (.iload_n 1, 1) := by decide +kernel
theorem dX10_move_58 : decode cX10_move 58 = .ok (.iload_n 3, 1) := by decide +kernel
theorem dX10_move_59 : decode cX10_move 59 = .ok (.iastore, 1) := by decide +kernel
theorem dX10_move_60 : decode cX10_move 60 = .ok (.goto 10, 3) := by decide +kernel
theorem dX10_move_63 : decode cX10_move 63 = .ok (.aload_n 0, 1) := by decide +kernel
theorem dX10_move_64 : decode cX10_move 64 = .ok (.getfield 35, 3) := by decide +kernel
theorem dX10_move_67 : decode cX10_move 67 = .ok (.iload_n 1, 1) := by decide +kernel
theorem dX10_move_68 : decode cX10_move 68 = .ok (.iload_n 3, 1) := by decide +kernel
theorem dX10_move_69 : decode cX10_move 69 = .ok (.iastore, 1) := by decide +kernel
theorem dX10_move_70 : decode cX10_move 70 = .ok (.iload 4, 2) := by decide +kernel
theorem dX10_move_72 : decode cX10_move 72 = .ok (.ireturn, 1) := by decide +kernel
theorem dX10_goes_0 : decode cX10_goes 0 = .ok (.aload_n 0, 1) := by decide +kernel
theorem dX10_goes_1 : decode cX10_goes 1 = .ok (.iload_n 2, 1) := by decide +kernel
theorem dX10_goes_2 : decode cX10_goes 2 = .ok (.ifCond .eq 14, 3) := by decide +kernel
theorem dX10_goes_5 : decode cX10_goes 5 = .ok (.aload_n 0, 1) := by decide +kernel
theorem dX10_goes_6 : decode cX10_goes 6 = .ok (.getfield 13, 3) := by decide +kernel
theorem dX10_goes_9 : decode cX10_goes 9 = .ok (.iconst 1, 1) := by decide +kernel
theorem dX10_goes_10 : decode cX10_goes 10 = .ok (.iload_n 1, 1) := by decide +kernel
theorem dX10_goes_11 : decode cX10_goes 11 = .ok (.ishl, 1) := by decide +kernel
theorem dX10_goes_12 : decode cX10_goes 12 = .ok (.ior, 1) := by decide +kernel
theorem dX10_goes_13 : decode cX10_goes 13 = .ok (.goto 13, 3) := by decide +kernel
theorem dX10_goes_16 : decode cX10_goes 16 = .ok (.aload_n 0, 1) := by decide +kernel
theorem dX10_goes_17 : decode cX10_goes 17 = .ok (.getfield 13, 3) := by decide +kernel
theorem dX10_goes_20 : decode cX10_goes 20 = .ok (.iconst 1, 1) := by decide +kernel
theorem dX10_goes_21 : decode cX10_goes 21 = .ok (.iload_n 1, 1) := by decide +kernel
theorem dX10_goes_22 : decode cX10_goes 22 = .ok (.ishl, 1) := by decide +kernel
theorem dX10_goes_23 : decode cX10_goes 23 = .ok (.iconst (-1), 1) := by decide +kernel
theorem dX10_goes_24 : decode cX10_goes 24 = .ok (.ixor, 1) := by decide +kernel
theorem dX10_goes_25 : decode cX10_goes 25 = .ok (.iand, 1) := by decide +kernel
theorem dX10_goes_26 : decode cX10_goes 26 = .ok (.putfield 13, 3) := by decide +kernel
theorem dX10_goes_29 : decode cX10_goes 29 = .ok (.return_, 1) := by decide +kernel
theorem dX10_away_0 : decode cX10_away 0 = .ok (.aload_n 0, 1) := by decide +kernel
theorem dX10_away_1 : decode cX10_away 1 = .ok (.iload_n 1, 1) := by decide +kernel
theorem dX10_away_2 : decode cX10_away 2 = .ok (.invokevirtual 264, 3) := by decide +kernel
theorem dX10_away_5 : decode cX10_away 5 = .ok (.ifCond .ne 5, 3) := by decide +kernel
theorem dX10_away_8 : decode cX10_away 8 = .ok (.iconst (-1), 1) := by decide +kernel
theorem dX10_away_9 : decode cX10_away 9 = .ok (.ireturn, 1) := by decide +kernel
theorem dX10_away_10 : decode cX10_away 10 = .ok (.aload_n 0, 1) := by decide +kernel
theorem dX10_away_11 : decode cX10_away 11 = .ok (.aload_n 0, 1) := by decide +kernel
theorem dX10_away_12 : decode cX10_away 12 = .ok (.getfield 13, 3) := by decide +kernel
theorem dX10_away_15 : decode cX10_away 15 = .ok (.iload_n 1, 1) := by decide +kernel
theorem dX10_away_16 : decode cX10_away 16 = .ok (.invokevirtual 245, 3) := by decide +kernel
theorem dX10_away_19 : decode cX10_away 19 = .ok (.ifCond .eq 7, 3) := by decide +kernel
theorem dX10_away_22 : decode cX10_away 22 = .ok (.iconst 1, 1) := by decide +kernel
theorem dX10_away_23 : decode cX10_away 23 = .ok (.goto 4, 3) := by decide +kernel
theorem dX10_away_26 : decode cX10_away 26 = .ok (.iconst 0, 1) := by decide +kernel
theorem dX10_away_27 : decode cX10_away 27 = .ok (.istore_n 3, 1) := by decide +kernel
theorem dX10_away_28 : decode cX10_away 28 = .ok (.aload_n 0, 1) := by decide +kernel
theorem dX10_away_29 : decode cX10_away 29 = .ok (.iload_n 1, 1) := by decide +kernel
theorem dX10_away_30 : decode cX10_away 30 = .ok (.iload_n 2, 1) := by decide +kernel
theorem dX10_away_31 : decode cX10_away 31 = .ok (.invokevirtual 267, 3) := by decide +kernel
theorem dX10_away_34 : decode cX10_away 34 = .ok (.iload_n 3, 1) := by decide +kernel
theorem dX10_away_35 : decode cX10_away 35 = .ok (.ireturn, 1) := by decide +kernel
theorem dX10_stand_0 : decode cX10_stand 0 = .ok (.aload_n 0, 1) := by decide +kernel
theorem dX10_stand_1 : decode cX10_stand 1 = .ok (.iload_n 1, 1) := by decide +kernel
theorem dX10_stand_2 : decode cX10_stand 2 = .ok (.invokevirtual 257, 3) := by decide +kernel
theorem dX10_stand_5 : decode cX10_stand 5 = .ok (.ifCond .ne 5, 3) := by decide +kernel
theorem dX10_stand_8 : decode cX10_stand 8 = .ok (.iconst (-1), 1) := by decide +kernel
theorem dX10_stand_9 : decode cX10_stand 9 = .ok (.ireturn, 1) := by decide +kernel
theorem dX10_stand_10 : decode cX10_stand 10 = .ok (.aload_n 0, 1) := by decide +kernel
theorem dX10_stand_11 : decode cX10_stand 11 = .ok (.aload_n 0, 1) := by decide +kernel
theorem dX10_stand_12 : decode cX10_stand 12 = .ok (.getfield 16, 3) := by decide +kernel
theorem dX10_stand_15 : decode cX10_stand 15 = .ok (.iload_n 1, 1) := by decide +kernel
theorem dX10_stand_16 : decode cX10_stand 16 = .ok (.invokevirtual 245, 3) := by decide +kernel
theorem dX10_stand_19 : decode cX10_stand 19 = .ok (.ifCond .eq 7, 3) := by decide +kernel
theorem dX10_stand_22 : decode cX10_stand 22 = .ok (.iconst 1, 1) := by decide +kernel
theorem dX10_stand_23 : decode cX10_stand 23 = .ok (.goto 4, 3) := by decide +kernel
theorem dX10_stand_26 : decode cX10_stand 26 = .ok (.iconst 0, 1) := by decide +kernel
theorem dX10_stand_27 : decode cX10_stand 27 = .ok (.istore_n 3, 1) := by decide +kernel
theorem dX10_stand_28 : decode cX10_stand 28 = .ok (.aload_n 0, 1) := by decide +kernel
theorem dX10_stand_29 : decode cX10_stand 29 = .ok (.iload_n 2, 1) := by decide +kernel
theorem dX10_stand_30 : decode cX10_stand 30 = .ok (.ifCond .eq 14, 3) := by decide +kernel
theorem dX10_stand_33 : decode cX10_stand 33 = .ok (.aload_n 0, 1) := by decide +kernel
theorem dX10_stand_34 : decode cX10_stand 34 = .ok (.getfield 16, 3) := by decide +kernel
theorem dX10_stand_37 : decode cX10_stand 37 = .ok (.iconst 1, 1) := by decide +kernel
theorem dX10_stand_38 : decode cX10_stand 38 = .ok (.iload_n 1, 1) := by decide +kernel
theorem dX10_stand_39 : decode cX10_stand 39 = .ok (.ishl, 1) := by decide +kernel
theorem dX10_stand_40 : decode cX10_stand 40 = .ok (.ior, 1) := by decide +kernel
theorem dX10_stand_41 : decode cX10_stand 41 = .ok (.goto 13, 3) := by decide +kernel
theorem dX10_stand_44 : decode cX10_stand 44 = .ok (.aload_n 0, 1) := by decide +kernel
theorem dX10_stand_45 : decode cX10_stand 45 = .ok (.getfield 16, 3) := by decide +kernel
theorem dX10_stand_48 : decode cX10_stand 48 = .ok (.iconst 1, 1) := by decide +kernel
theorem dX10_stand_49 : decode cX10_stand 49 = .ok (.iload_n 1, 1) := by decide +kernel
theorem dX10_stand_50 : decode cX10_stand 50 = .ok (.ishl, 1) := by decide +kernel
theorem dX10_stand_51 : decode cX10_stand 51 = .ok (.iconst (-1), 1) := by decide +kernel
theorem dX10_stand_52 : decode cX10_stand 52 = .ok (.ixor, 1) := by decide +kernel
theorem dX10_stand_53 : decode cX10_stand 53 = .ok (.iand, 1) := by decide +kernel
theorem dX10_stand_54 : decode cX10_stand 54 = .ok (.putfield 16, 3) := by decide +kernel
theorem dX10_stand_57 : decode cX10_stand 57 = .ok (.iload_n 3, 1) := by decide +kernel
theorem dX10_stand_58 : decode cX10_stand 58 = .ok (.ireturn, 1) := by decide +kernel
theorem dX10_row_0 : decode cX10_row 0 = .ok (.aload_n 0, 1) := by decide +kernel
theorem dX10_row_1 : decode cX10_row 1 = .ok (.iload_n 1, 1) := by decide +kernel
theorem dX10_row_2 : decode cX10_row 2 = .ok (.invokevirtual 264, 3) := by decide +kernel
theorem dX10_row_5 : decode cX10_row 5 = .ok (.ifCond .eq 13, 3) := by decide +kernel
theorem dX10_row_8 : decode cX10_row 8 = .ok (.aload_n 0, 1) := by decide +kernel
theorem dX10_row_9 : decode cX10_row 9 = .ok (.iload_n 2, 1) := by decide +kernel
theorem dX10_row_10 : decode cX10_row 10 = .ok (.iconst 0, 1) := by decide +kernel
theorem dX10_row_11 : decode cX10_row 11 = .ok (.iconst 3, 1) := by decide +kernel
theorem dX10_row_12 : decode cX10_row 12 = .ok (.invokevirtual 253, 3) := by decide +kernel
theorem dX10_row_15 : decode cX10_row 15 = .ok (.ifCond .ne 5, 3) := by decide +kernel
theorem dX10_row_18 : decode cX10_row 18 = .ok (.iconst (-1), 1) := by decide +kernel
theorem dX10_row_19 : decode cX10_row 19 = .ok (.ireturn, 1) := by decide +kernel
theorem dX10_row_20 : decode cX10_row 20 = .ok (.aload_n 0, 1) := by decide +kernel
theorem dX10_row_21 : decode cX10_row 21 = .ok (.iload_n 3, 1) := by decide +kernel
theorem dX10_row_22 : decode cX10_row 22 = .ok (.iconst 0, 1) := by decide +kernel
theorem dX10_row_23 : decode cX10_row 23 = .ok (.bipush 9, 2) := by decide +kernel
theorem dX10_row_25 : decode cX10_row 25 = .ok (.invokevirtual 253, 3) := by decide +kernel
theorem dX10_row_28 : decode cX10_row 28 = .ok (.ifCond .ne 6, 3) := by decide +kernel
theorem dX10_row_31 : decode cX10_row 31 = .ok (.bipush (-2), 2) := by decide +kernel
theorem dX10_row_33 : decode cX10_row 33 = .ok (.ireturn, 1) := by decide +kernel
theorem dX10_row_34 : decode cX10_row 34 = .ok (.aload_n 0, 1) := by decide +kernel
theorem dX10_row_35 : decode cX10_row 35 = .ok (.getfield 26, 3) := by decide +kernel
theorem dX10_row_38 : decode cX10_row 38 = .ok (.iload_n 1, 1) := by decide +kernel
theorem dX10_row_39 : decode cX10_row 39 = .ok (.iaload, 1) := by decide +kernel
theorem dX10_row_40 : decode cX10_row 40 = .ok (.bipush 6, 2) := by decide +kernel
theorem dX10_row_42 : decode cX10_row 42 = .ok (.if_icmp .eq 6, 3) := by decide +kernel
theorem dX10_row_45 : decode cX10_row 45 = .ok (.bipush (-3), 2) := by decide +kernel
theorem dX10_row_47 : decode cX10_row 47 = .ok (.ireturn, 1) := by decide +kernel
theorem dX10_row_48 : decode cX10_row 48 = .ok (.aload_n 0, 1) := by decide +kernel
theorem dX10_row_49 : decode cX10_row 49 = .ok (.getfield 38, 3) := by decide +kernel
theorem dX10_row_52 : decode cX10_row 52 = .ok (.iconst 4, 1) := by decide +kernel
theorem dX10_row_53 : decode cX10_row 53 = .ok (.iload_n 1, 1) := by decide +kernel
theorem dX10_row_54 : decode cX10_row 54 = .ok (.imul, 1) := by decide +kernel
theorem dX10_row_55 : decode cX10_row 55 = .ok (.iload_n 2, 1) := by decide +kernel
theorem dX10_row_56 : decode cX10_row 56 = .ok (.iadd, 1) := by decide +kernel
theorem dX10_row_57 : decode cX10_row 57 = .ok (.iaload, 1) := by decide +kernel
theorem dX10_row_58 : decode cX10_row 58 = .ok (.istore 4, 2) := by decide +kernel
theorem dX10_row_60 : decode cX10_row 60 = .ok (.aload_n 0, 1) := by decide +kernel
theorem dX10_row_61 : decode cX10_row 61 = .ok (.getfield 38, 3) := by decide +kernel
theorem dX10_row_64 : decode cX10_row 64 = .ok (.iconst 4, 1) := by decide +kernel
theorem dX10_row_65 : decode cX10_row 65 = .ok (.iload_n 1, 1) := by decide +kernel
theorem dX10_row_66 : decode cX10_row 66 = .ok (.imul, 1) := by decide +kernel
theorem dX10_row_67 : decode cX10_row 67 = .ok (.iload_n 2, 1) := by decide +kernel
theorem dX10_row_68 : decode cX10_row 68 = .ok (.iadd, 1) := by decide +kernel
theorem dX10_row_69 : decode cX10_row 69 = .ok (.iload_n 3, 1) := by decide +kernel
theorem dX10_row_70 : decode cX10_row 70 = .ok (.iastore, 1) := by decide +kernel
theorem dX10_row_71 : decode cX10_row 71 = .ok (.iload 4, 2) := by decide +kernel
theorem dX10_row_73 : decode cX10_row 73 = .ok (.ireturn, 1) := by decide +kernel
theorem dX10_feed_0 : decode cX10_feed 0 = .ok (.aload_n 0, 1) := by decide +kernel
theorem dX10_feed_1 : decode cX10_feed 1 = .ok (.iload_n 1, 1) := by decide +kernel
theorem dX10_feed_2 : decode cX10_feed 2 = .ok (.iconst 0, 1) := by decide +kernel
theorem dX10_feed_3 : decode cX10_feed 3 = .ok (.bipush 127, 2) := by decide +kernel
theorem dX10_feed_5 : decode cX10_feed 5 = .ok (.invokevirtual 253, 3) := by decide +kernel
theorem dX10_feed_8 : decode cX10_feed 8 = .ok (.ifCond .ne 6, 3) := by decide +kernel
theorem dX10_feed_11 : decode cX10_feed 11 = .ok (.bipush (-2), 2) := by decide +kernel
theorem dX10_feed_13 : decode cX10_feed 13 = .ok (.ireturn, 1) := by decide +kernel
theorem dX10_feed_14 : decode cX10_feed 14 = .ok (.aload_n 0, 1) := by decide +kernel
theorem dX10_feed_15 : decode cX10_feed 15 = .ok (.getfield 47, 3) := by decide +kernel
theorem dX10_feed_18 : decode cX10_feed 18 = .ok (.bipush 100, 2) := by decide +kernel
theorem dX10_feed_20 : decode cX10_feed 20 = .ok (.if_icmp .ne 6, 3) := by decide +kernel
theorem dX10_feed_23 : decode cX10_feed 23 = .ok (.bipush (-4), 2) := by decide +kernel
theorem dX10_feed_25 : decode cX10_feed 25 = .ok (.ireturn, 1) := by decide +kernel
theorem dX10_feed_26 : decode cX10_feed 26 = .ok (.aload_n 0, 1) := by decide +kernel
theorem dX10_feed_27 : decode cX10_feed 27 = .ok (.getfield 56, 3) := by decide +kernel
theorem dX10_feed_30 : decode cX10_feed 30 = .ok (.aload_n 0, 1) := by decide +kernel
theorem dX10_feed_31 : decode cX10_feed 31 = .ok (.getfield 47, 3) := by decide +kernel
theorem dX10_feed_34 : decode cX10_feed 34 = .ok (.iload_n 1, 1) := by decide +kernel
theorem dX10_feed_35 : decode cX10_feed 35 = .ok (.iastore, 1) := by decide +kernel
theorem dX10_feed_36 : decode cX10_feed 36 = .ok (.aload_n 0, 1) := by decide +kernel
theorem dX10_feed_37 : decode cX10_feed 37 = .ok (.dup, 1) := by decide +kernel
theorem dX10_feed_38 : decode cX10_feed 38 = .ok (.getfield 47, 3) := by decide +kernel
theorem dX10_feed_41 : decode cX10_feed 41 = .ok (.iconst 1, 1) := by decide +kernel
theorem dX10_feed_42 : decode cX10_feed 42 = .ok (.iadd, 1) := by decide +kernel
theorem dX10_feed_43 : decode cX10_feed 43 = .ok (.putfield 47, 3) := by decide +kernel
theorem dX10_feed_46 : decode cX10_feed 46 = .ok (.aload_n 0, 1) := by decide +kernel
theorem dX10_feed_47 : decode cX10_feed 47 = .ok (.getfield 47, 3) := by decide +kernel
theorem dX10_feed_50 : decode cX10_feed 50 = .ok (.ireturn, 1) := by decide +kernel
theorem dX10_next_0 : decode cX10_next 0 = .ok (.aload_n 0, 1) := by decide +kernel
theorem dX10_next_1 : decode cX10_next 1 = .ok (.getfield 50, 3) := by decide +kernel
theorem dX10_next_4 : decode cX10_next 4 = .ok (.aload_n 0, 1) := by decide +kernel
theorem dX10_next_5 : decode cX10_next 5 = .ok (.getfield 47, 3) := by decide +kernel
theorem dX10_next_8 : decode cX10_next 8 = .ok (.if_icmp .ge 15, 3) := by decide +kernel
theorem dX10_next_11 : decode cX10_next 11 = .ok (.aload_n 0, 1) := by decide +kernel
theorem dX10_next_12 : decode cX10_next 12 = .ok (.getfield 56, 3) := by decide +kernel
theorem dX10_next_15 : decode cX10_next 15 = .ok (.aload_n 0, 1) := by decide +kernel
theorem dX10_next_16 : decode cX10_next 16 = .ok (.getfield 50, 3) := by decide +kernel
theorem dX10_next_19 : decode cX10_next 19 = .ok (.iaload, 1) := by decide +kernel
theorem dX10_next_20 : decode cX10_next 20 = .ok (.goto 4, 3) := by decide +kernel
theorem dX10_next_23 : decode cX10_next 23 = .ok (.iconst (-1), 1) := by decide +kernel
theorem dX10_next_24 : decode cX10_next 24 = .ok (.ireturn, 1) := by decide +kernel
theorem dX10_takes_0 : decode cX10_takes 0 = .ok (.aload_n 0, 1) := by decide +kernel
theorem dX10_takes_1 : decode cX10_takes 1 = .ok (.invokevirtual 271, 3) := by decide +kernel
theorem dX10_takes_4 : decode cX10_takes 4 = .ok (.iload_n 1, 1) := by decide +kernel
theorem dX10_takes_5 : decode cX10_takes 5 = .ok (.if_icmp .eq 5, 3) := by decide +kernel
theorem dX10_takes_8 : decode cX10_takes 8 = .ok (.iconst 0, 1) := by decide +kernel
theorem dX10_takes_9 : decode cX10_takes 9 = .ok (.ireturn, 1) := by decide +kernel
theorem dX10_takes_10 : decode cX10_takes 10 = .ok (.aload_n 0, 1) := by decide +kernel
theorem dX10_takes_11 : decode cX10_takes 11 = .ok (.dup, 1) := by decide +kernel
theorem dX10_takes_12 : decode cX10_takes 12 = .ok (.getfield 50, 3) := by decide +kernel
theorem dX10_takes_15 : decode cX10_takes 15 = .ok (.iconst 1, 1) := by decide +kernel
theorem dX10_takes_16 : decode cX10_takes 16 = .ok (.iadd, 1) := by decide +kernel
theorem dX10_takes_17 : decode cX10_takes 17 = .ok (.putfield 50, 3) := by decide +kernel
theorem dX10_takes_20 : decode cX10_takes 20 = .ok (.iconst 1, 1) := by decide +kernel
theorem dX10_takes_21 : decode cX10_takes 21 = .ok (.ireturn, 1) := by decide +kernel
theorem dX10_takesWord_0 : decode cX10_takesWord 0 = .ok (.iconst 0, 1) := by decide +kernel
theorem dX10_takesWord_1 : decode cX10_takesWord 1 = .ok (.istore_n 3, 1) := by decide +kernel
theorem dX10_takesWord_2 : decode cX10_takesWord 2 = .ok (.iload_n 3, 1) := by decide +kernel
theorem dX10_takesWord_3 : decode cX10_takesWord 3 = .ok (.iload_n 2, 1) := by decide +kernel
theorem dX10_takesWord_4 : decode cX10_takesWord 4 = .ok (.if_icmp .ge 26, 3) := by decide +kernel
theorem dX10_takesWord_7 : decode cX10_takesWord 7 = .ok (.aload_n 0, 1) := by decide +kernel
theorem dX10_takesWord_8 : decode cX10_takesWord 8 = .ok (.aload_n 0, 1) := by decide +kernel
theorem dX10_takesWord_9 : decode cX10_takesWord 9 = .ok (.getfield 89, 3) := by decide +kernel
theorem dX10_takesWord_12 : decode cX10_takesWord 12 = .ok (.iload_n 1, 1) := by decide +kernel
theorem dX10_takesWord_13 : decode cX10_takesWord 13 = .ok (.iload_n 3, 1) := by decide +kernel
theorem dX10_takesWord_14 : decode cX10_takesWord 14 = .ok (.iadd, 1) := by decide +kernel
theorem dX10_takesWord_15 : decode cX10_takesWord 15 = .ok (.iaload, 1) := by decide +kernel
theorem dX10_takesWord_16 : decode cX10_takesWord 16 = .ok (.invokevirtual 275, 3) := by decide +kernel
theorem dX10_takesWord_19 : decode cX10_takesWord 19 = .ok (.ifCond .ne 5, 3) := by decide +kernel
theorem dX10_takesWord_22 : decode cX10_takesWord 22 = .ok (.iconst 0, 1) := by decide +kernel
theorem dX10_takesWord_23 : decode cX10_takesWord 23 = .ok (.ireturn, 1) := by decide +kernel
theorem dX10_takesWord_24 : decode cX10_takesWord 24 = .ok (.iinc 3 1, 3) := by decide +kernel
theorem dX10_takesWord_27 : decode cX10_takesWord 27 = .ok (.goto (-25), 3) := by decide +kernel
theorem dX10_takesWord_30 : decode cX10_takesWord 30 = .ok (.aload_n 0, 1) := by decide +kernel
theorem dX10_takesWord_31 : decode cX10_takesWord 31 = .ok (.bipush 32, 2) := by decide +kernel
theorem dX10_takesWord_33 : decode cX10_takesWord 33 = .ok (.invokevirtual 275, 3) := by decide +kernel
theorem dX10_takesWord_36 : decode cX10_takesWord 36 = .ok (.ireturn, 1) := by decide +kernel
theorem dX10_isDigit_0 : decode cX10_isDigit 0 = .ok (.aload_n 0, 1) := by decide +kernel
theorem dX10_isDigit_1 : decode cX10_isDigit 1 = .ok (.aload_n 0, 1) := by decide +kernel
theorem dX10_isDigit_2 : decode cX10_isDigit 2 = .ok (.invokevirtual 271, 3) := by decide +kernel
theorem dX10_isDigit_5 : decode cX10_isDigit 5 = .ok (.bipush 48, 2) := by decide +kernel
theorem dX10_isDigit_7 : decode cX10_isDigit 7 = .ok (.bipush 57, 2) := by decide +kernel
theorem dX10_isDigit_9 : decode cX10_isDigit 9 = .ok (.invokevirtual 253, 3) := by decide +kernel
theorem dX10_isDigit_12 : decode cX10_isDigit 12 = .ok (.ireturn, 1) := by decide +kernel
theorem dX10_takesNumber_0 : decode cX10_takesNumber 0 = .ok (.aload_n 0, 1) := by decide +kernel
theorem dX10_takesNumber_1 : decode cX10_takesNumber 1 = .ok (.invokevirtual 278, 3) := by decide +kernel
theorem dX10_takesNumber_4 : decode cX10_takesNumber 4 = .ok (.ifCond .ne 5, 3) := by decide +kernel
theorem dX10_takesNumber_7 : decode cX10_takesNumber 7 = .ok (.iconst 0, 1) := by decide +kernel
theorem dX10_takesNumber_8 : decode cX10_takesNumber 8 = .ok (.ireturn, 1) := by decide +kernel
theorem dX10_takesNumber_9 : decode cX10_takesNumber 9 = .ok (.aload_n 0, 1) := by decide +kernel
theorem dX10_takesNumber_10 : decode cX10_takesNumber 10 = .ok (.iconst 0, 1) := by decide +kernel
theorem dX10_takesNumber_11 : decode cX10_takesNumber 11 = .ok (.putfield 53, 3) := by decide +kernel
theorem dX10_takesNumber_14 : decode cX10_takesNumber 14 = .ok (.iconst 0, 1) := by decide +kernel
theorem dX10_takesNumber_15 : decode cX10_takesNumber 15 = .ok (.istore_n 1, 1) := by decide +kernel
theorem dX10_takesNumber_16 : decode cX10_takesNumber 16 = .ok (.iload_n 1, 1) := by decide +kernel
theorem dX10_takesNumber_17 : decode cX10_takesNumber 17 = .ok (.iconst 2, 1) := by decide +kernel
theorem dX10_takesNumber_18 : decode cX10_takesNumber 18 = .ok (.if_icmp .ge 45, 3) := by decide +kernel
theorem dX10_takesNumber_21 : decode cX10_takesNumber 21 = .ok (.aload_n 0, 1) := by decide +kernel
theorem dX10_takesNumber_22 : decode cX10_takesNumber 22 = .ok (.invokevirtual 278, 3) := by decide +kernel
theorem dX10_takesNumber_25 : decode cX10_takesNumber 25 = .ok (.ifCond .eq 38, 3) := by decide +kernel
theorem dX10_takesNumber_28 : decode cX10_takesNumber 28 = .ok (.aload_n 0, 1) := by decide +kernel
theorem dX10_takesNumber_29 : decode cX10_takesNumber 29 = .ok (.bipush 10, 2) := by decide +kernel
theorem dX10_takesNumber_31 : decode cX10_takesNumber 31 = .ok (.aload_n 0, 1) := by decide +kernel
theorem dX10_takesNumber_32 : decode cX10_takesNumber 32 = .ok (.getfield 53, 3) := by decide +kernel
theorem dX10_takesNumber_35 : decode cX10_takesNumber 35 = .ok (.imul, 1) := by decide +kernel
theorem dX10_takesNumber_36 : decode cX10_takesNumber 36 = .ok (.aload_n 0, 1) := by decide +kernel
theorem dX10_takesNumber_37 : decode cX10_takesNumber 37 = .ok (.invokevirtual 271, 3) := by decide +kernel
theorem dX10_takesNumber_40 : decode cX10_takesNumber 40 = .ok (.iadd, 1) := by decide +kernel
theorem dX10_takesNumber_41 : decode cX10_takesNumber 41 = .ok (.bipush 48, 2) := by decide +kernel
theorem dX10_takesNumber_43 : decode cX10_takesNumber 43 = .ok (.isub, 1) := by decide +kernel
theorem dX10_takesNumber_44 : decode cX10_takesNumber 44 = .ok (.putfield 53, 3) := by decide +kernel
theorem dX10_takesNumber_47 : decode cX10_takesNumber 47 = .ok (.aload_n 0, 1) := by decide +kernel
theorem dX10_takesNumber_48 : decode cX10_takesNumber 48 = .ok (.dup, 1) := by decide +kernel
theorem dX10_takesNumber_49 : decode cX10_takesNumber 49 = .ok (.getfield 50, 3) := by decide +kernel
theorem dX10_takesNumber_52 : decode cX10_takesNumber 52 = .ok (.iconst 1, 1) := by decide +kernel
theorem dX10_takesNumber_53 : decode cX10_takesNumber 53 = .ok (.iadd, 1) := by decide +kernel
theorem dX10_takesNumber_54 : decode cX10_takesNumber 54 = .ok (.putfield 50, 3) := by decide +kernel
theorem dX10_takesNumber_57 : decode cX10_takesNumber 57 = .ok (.iinc 1 1, 3) := by decide +kernel
theorem dX10_takesNumber_60 : decode cX10_takesNumber 60 = .ok (.goto (-44), 3) := by decide +kernel
theorem dX10_takesNumber_63 : decode cX10_takesNumber 63 = .ok (.iconst 1, 1) := by decide +kernel
theorem dX10_takesNumber_64 : decode cX10_takesNumber 64 = .ok (.ireturn, 1) := by decide +kernel
theorem dX10_emits_0 : decode cX10_emits 0 = .ok (.aload_n 0, 1) := by decide +kernel
theorem dX10_emits_1 : decode cX10_emits 1 = .ok (.getfield 74, 3) := by decide +kernel
theorem dX10_emits_4 : decode cX10_emits 4 = .ok (.aload_n 0, 1) := by decide +kernel
theorem dX10_emits_5 : decode cX10_emits 5 = .ok (.getfield 80, 3) := by decide +kernel
theorem dX10_emits_8 : decode cX10_emits 8 = .ok (.iload_n 1, 1) := by decide +kernel
theorem dX10_emits_9 : decode cX10_emits 9 = .ok (.iastore, 1) := by decide +kernel
theorem dX10_emits_10 : decode cX10_emits 10 = .ok (.aload_n 0, 1) := by decide +kernel
theorem dX10_emits_11 : decode cX10_emits 11 = .ok (.dup, 1) := by decide +kernel
theorem dX10_emits_12 : decode cX10_emits 12 = .ok (.getfield 80, 3) := by decide +kernel
theorem dX10_emits_15 : decode cX10_emits 15 = .ok (.iconst 1, 1) := by decide +kernel
theorem dX10_emits_16 : decode cX10_emits 16 = .ok (.iadd, 1) := by decide +kernel
theorem dX10_emits_17 : decode cX10_emits 17 = .ok (.putfield 80, 3) := by decide +kernel
theorem dX10_emits_20 : decode cX10_emits 20 = .ok (.return_, 1) := by decide +kernel
theorem dX10_whole_0 : decode cX10_whole 0 = .ok (.aload_n 0, 1) := by decide +kernel
theorem dX10_whole_1 : decode cX10_whole 1 = .ok (.getfield 83, 3) := by decide +kernel
theorem dX10_whole_4 : decode cX10_whole 4 = .ok (.ifCond .le 48, 3) := by decide +kernel
theorem dX10_whole_7 : decode cX10_whole 7 = .ok (.aload_n 0, 1) := by decide +kernel
theorem dX10_whole_8 : decode cX10_whole 8 = .ok (.getfield 77, 3) := by decide +kernel
theorem dX10_whole_11 : decode cX10_whole 11 = .ok (.aload_n 0, 1) := by decide +kernel
theorem dX10_whole_12 : decode cX10_whole 12 = .ok (.getfield 83, 3) := by decide +kernel
theorem dX10_whole_15 : decode cX10_whole 15 = .ok (.iconst 1, 1) := by decide +kernel
theorem dX10_whole_16 : decode cX10_whole 16 = .ok (.isub, 1) := by decide +kernel
theorem dX10_whole_17 : decode cX10_whole 17 = .ok (.iaload, 1) := by decide +kernel
theorem dX10_whole_18 : decode cX10_whole 18 = .ok (.bipush 33, 2) := by decide +kernel
theorem dX10_whole_20 : decode cX10_whole 20 = .ok (.if_icmp .ne 32, 3) := by decide +kernel
theorem dX10_whole_23 : decode cX10_whole 23 = .ok (.aload_n 0, 1) := by decide +kernel
theorem dX10_whole_24 : decode cX10_whole 24 = .ok (.bipush (-33), 2) := by decide +kernel
theorem dX10_whole_26 : decode cX10_whole 26 = .ok (.invokevirtual 282, 3) := by decide +kernel
theorem dX10_whole_29 : decode cX10_whole 29 = .ok (.aload_n 0, 1) := by decide +kernel
theorem dX10_whole_30 : decode cX10_whole 30 = .ok (.dup, 1) := by decide +kernel
theorem dX10_whole_31 : decode cX10_whole 31 = .ok (.getfield 83, 3) := by decide +kernel
theorem dX10_whole_34 : decode cX10_whole 34 = .ok (.iconst 1, 1) := by decide +kernel
theorem dX10_whole_35 : decode cX10_whole 35 = .ok (.isub, 1) := by decide +kernel
theorem dX10_whole_36 : decode cX10_whole 36 = .ok (.putfield 83, 3) := by decide +kernel
theorem dX10_whole_39 : decode cX10_whole 39 = .ok (.aload_n 0, 1) := by decide +kernel
theorem dX10_whole_40 : decode cX10_whole 40 = .ok (.dup, 1) := by decide +kernel
theorem dX10_whole_41 : decode cX10_whole 41 = .ok (.getfield 86, 3) := by decide +kernel
theorem dX10_whole_44 : decode cX10_whole 44 = .ok (.iconst 1, 1) := by decide +kernel
theorem dX10_whole_45 : decode cX10_whole 45 = .ok (.isub, 1) := by decide +kernel
theorem dX10_whole_46 : decode cX10_whole 46 = .ok (.putfield 86, 3) := by decide +kernel
theorem dX10_whole_49 : decode cX10_whole 49 = .ok (.goto (-49), 3) := by decide +kernel
theorem dX10_whole_52 : decode cX10_whole 52 = .ok (.return_, 1) := by decide +kernel
theorem dX10_settle_0 : decode cX10_settle 0 = .ok (.aload_n 0, 1) := by decide +kernel
theorem dX10_settle_1 : decode cX10_settle 1 = .ok (.getfield 83, 3) := by decide +kernel
theorem dX10_settle_4 : decode cX10_settle 4 = .ok (.ifCond .le 68, 3) := by decide +kernel
theorem dX10_settle_7 : decode cX10_settle 7 = .ok (.aload_n 0, 1) := by decide +kernel
theorem dX10_settle_8 : decode cX10_settle 8 = .ok (.getfield 77, 3) := by decide +kernel
theorem dX10_settle_11 : decode cX10_settle 11 = .ok (.aload_n 0, 1) := by decide +kernel
theorem dX10_settle_12 : decode cX10_settle 12 = .ok (.getfield 83, 3) := by decide +kernel
theorem dX10_settle_15 : decode cX10_settle 15 = .ok (.iconst 1, 1) := by decide +kernel
theorem dX10_settle_16 : decode cX10_settle 16 = .ok (.isub, 1) := by decide +kernel
theorem dX10_settle_17 : decode cX10_settle 17 = .ok (.iaload, 1) := by decide +kernel
theorem dX10_settle_18 : decode cX10_settle 18 = .ok (.bipush 38, 2) := by decide +kernel
theorem dX10_settle_20 : decode cX10_settle 20 = .ok (.if_icmp .eq 25, 3) := by decide +kernel
theorem dX10_settle_23 : decode cX10_settle 23 = .ok (.aload_n 0, 1) := by decide +kernel
theorem dX10_settle_24 : decode cX10_settle 24 = .ok (.getfield 77, 3) := by decide +kernel
theorem dX10_settle_27 : decode cX10_settle 27 = .ok (.aload_n 0, 1) := by decide +kernel
theorem dX10_settle_28 : decode cX10_settle 28 = .ok (.getfield 83, 3) := by decide +kernel
theorem dX10_settle_31 : decode cX10_settle 31 = .ok (.iconst 1, 1) := by decide +kernel
theorem dX10_settle_32 : decode cX10_settle 32 = .ok (.isub, 1) := by decide +kernel
theorem dX10_settle_33 : decode cX10_settle 33 = .ok (.iaload, 1) := by decide +kernel
theorem dX10_settle_34 : decode cX10_settle 34 = .ok (.bipush 124, 2) := by decide +kernel
theorem dX10_settle_36 : decode cX10_settle 36 = .ok (.if_icmp .ne 36, 3) := by decide +kernel
theorem dX10_settle_39 : decode cX10_settle 39 = .ok (.iload_n 1, 1) := by decide +kernel
theorem dX10_settle_40 : decode cX10_settle 40 = .ok (.bipush 38, 2) := by decide +kernel
theorem dX10_settle_42 : decode cX10_settle 42 = .ok (.if_icmp .eq 30, 3) := by decide +kernel
theorem dX10_settle_45 : decode cX10_settle 45 = .ok (.aload_n 0, 1) := by decide +kernel
theorem dX10_settle_46 : decode cX10_settle 46 = .ok (.dup, 1) := by decide +kernel
theorem dX10_settle_47 : decode cX10_settle 47 = .ok (.getfield 83, 3) := by decide +kernel
theorem dX10_settle_50 : decode cX10_settle 50 = .ok (.iconst 1, 1) := by decide +kernel
theorem dX10_settle_51 : decode cX10_settle 51 = .ok (.isub, 1) := by decide +kernel
theorem dX10_settle_52 : decode cX10_settle 52 = .ok (.putfield 83, 3) := by decide +kernel
theorem dX10_settle_55 : decode cX10_settle 55 = .ok (.aload_n 0, 1) := by decide +kernel
theorem dX10_settle_56 : decode cX10_settle 56 = .ok (.aload_n 0, 1) := by decide +kernel
theorem dX10_settle_57 : decode cX10_settle 57 = .ok (.getfield 77, 3) := by decide +kernel
theorem dX10_settle_60 : decode cX10_settle 60 = .ok (.aload_n 0, 1) := by decide +kernel
theorem dX10_settle_61 : decode cX10_settle 61 = .ok (.getfield 83, 3) := by decide +kernel
theorem dX10_settle_64 : decode cX10_settle 64 = .ok (.iaload, 1) := by decide +kernel
theorem dX10_settle_65 : decode cX10_settle 65 = .ok (.ineg, 1) := by decide +kernel
theorem dX10_settle_66 : decode cX10_settle 66 = .ok (.invokevirtual 282, 3) := by decide +kernel
theorem dX10_settle_69 : decode cX10_settle 69 = .ok (.goto (-69), 3) := by decide +kernel
theorem dX10_settle_72 : decode cX10_settle 72 = .ok (.return_, 1) := by decide +kernel
theorem dX10_place_0 : decode cX10_place 0 = .ok (.iload_n 1, 1) := by decide +kernel
theorem dX10_place_1 : decode cX10_place 1 = .ok (.lookupswitch 71 #[(99, 59), (103, 65), (107, 67), (114, 61), (118, 69), (120, 63)], 59) := by decide +kernel
theorem dX10_place_60 : decode cX10_place 60 = .ok (.iconst 0, 1) := by decide +kernel
theorem dX10_place_61 : decode cX10_place 61 = .ok (.ireturn, 1) := by decide +kernel
theorem dX10_place_62 : decode cX10_place 62 = .ok (.iconst 1, 1) := by decide +kernel
theorem dX10_place_63 : decode cX10_place 63 = .ok (.ireturn, 1) := by decide +kernel
theorem dX10_place_64 : decode cX10_place 64 = .ok (.iconst 2, 1) := by decide +kernel
theorem dX10_place_65 : decode cX10_place 65 = .ok (.ireturn, 1) := by decide +kernel
theorem dX10_place_66 : decode cX10_place 66 = .ok (.iconst 3, 1) := by decide +kernel
theorem dX10_place_67 : decode cX10_place 67 = .ok (.ireturn, 1) := by decide +kernel
theorem dX10_place_68 : decode cX10_place 68 = .ok (.iconst 4, 1) := by decide +kernel
theorem dX10_place_69 : decode cX10_place 69 = .ok (.ireturn, 1) := by decide +kernel
theorem dX10_place_70 : decode cX10_place 70 = .ok (.iconst 5, 1) := by decide +kernel
theorem dX10_place_71 : decode cX10_place 71 = .ok (.ireturn, 1) := by decide +kernel
theorem dX10_place_72 : decode cX10_place 72 = .ok (.iconst (-1), 1) := by decide +kernel
theorem dX10_place_73 : decode cX10_place 73 = .ok (.ireturn, 1) := by decide +kernel
theorem dX10_takesTest_0 : decode cX10_takesTest 0 = .ok (.aload_n 0, 1) := by decide +kernel
theorem dX10_takesTest_1 : decode cX10_takesTest 1 = .ok (.aload_n 0, 1) := by decide +kernel
theorem dX10_takesTest_2 : decode cX10_takesTest 2 = .ok (.invokevirtual 271, 3) := by decide +kernel
theorem dX10_takesTest_5 : decode cX10_takesTest 5 = .ok (.invokevirtual 286, 3) := by decide +kernel
theorem dX10_takesTest_8 : decode cX10_takesTest 8 = .ok (.istore_n 1, 1) := by decide +kernel
theorem dX10_takesTest_9 : decode cX10_takesTest 9 = .ok (.iload_n 1, 1) := by decide +kernel
theorem dX10_takesTest_10 : decode cX10_takesTest 10 = .ok (.ifCond .ge 5, 3) := by decide +kernel
theorem dX10_takesTest_13 : decode cX10_takesTest 13 = .ok (.iconst 0, 1) := by decide +kernel
theorem dX10_takesTest_14 : decode cX10_takesTest 14 = .ok (.ireturn, 1) := by decide +kernel
theorem dX10_takesTest_15 : decode cX10_takesTest 15 = .ok (.aload_n 0, 1) := by decide +kernel
theorem dX10_takesTest_16 : decode cX10_takesTest 16 = .ok (.dup, 1) := by decide +kernel
theorem dX10_takesTest_17 : decode cX10_takesTest 17 = .ok (.getfield 50, 3) := by decide +kernel
theorem dX10_takesTest_20 : decode cX10_takesTest 20 = .ok (.iconst 1, 1) := by decide +kernel
theorem dX10_takesTest_21 : decode cX10_takesTest 21 = .ok (.iadd, 1) := by decide +kernel
theorem dX10_takesTest_22 : decode cX10_takesTest 22 = .ok (.putfield 50, 3) := by decide +kernel
theorem dX10_takesTest_25 : decode cX10_takesTest 25 = .ok (.aload_n 0, 1) := by decide +kernel
theorem dX10_takesTest_26 : decode cX10_takesTest 26 = .ok (.invokevirtual 271, 3) := by decide +kernel
theorem dX10_takesTest_29 : decode cX10_takesTest 29 = .ok (.istore_n 2, 1) := by decide +kernel
theorem dX10_takesTest_30 : decode cX10_takesTest 30 = .ok (.aload_n 0, 1) := by decide +kernel
theorem dX10_takesTest_31 : decode cX10_takesTest 31 = .ok (.iload_n 2, 1) := by decide +kernel
theorem dX10_takesTest_32 : decode cX10_takesTest 32 = .ok (.bipush 60, 2) := by decide +kernel
theorem dX10_takesTest_34 : decode cX10_takesTest 34 = .ok (.bipush 62, 2) := by decide +kernel
theorem dX10_takesTest_36 : decode cX10_takesTest 36 = .ok (.invokevirtual 253, 3) := by decide +kernel
theorem dX10_takesTest_39 : decode cX10_takesTest 39 = .ok (.ifCond .ne 5, 3) := by decide +kernel
theorem dX10_takesTest_42 : decode cX10_takesTest 42 = .ok (.iconst 0, 1) := by decide +kernel
theorem dX10_takesTest_43 : decode cX10_takesTest 43 = .ok (.ireturn, 1) := by decide +kernel
theorem dX10_takesTest_44 : decode cX10_takesTest 44 = .ok (.aload_n 0, 1) := by decide +kernel
theorem dX10_takesTest_45 : decode cX10_takesTest 45 = .ok (.dup, 1) := by decide +kernel
theorem dX10_takesTest_46 : decode cX10_takesTest 46 = .ok (.getfield 50, 3) := by decide +kernel
theorem dX10_takesTest_49 : decode cX10_takesTest 49 = .ok (.iconst 1, 1) := by decide +kernel
theorem dX10_takesTest_50 : decode cX10_takesTest 50 = .ok (.iadd, 1) := by decide +kernel
theorem dX10_takesTest_51 : decode cX10_takesTest 51 = .ok (.putfield 50, 3) := by decide +kernel
theorem dX10_takesTest_54 : decode cX10_takesTest 54 = .ok (.aload_n 0, 1) := by decide +kernel
theorem dX10_takesTest_55 : decode cX10_takesTest 55 = .ok (.invokevirtual 290, 3) := by decide +kernel
theorem dX10_takesTest_58 : decode cX10_takesTest 58 = .ok (.ifCond .ne 5, 3) := by decide +kernel
theorem dX10_takesTest_61 : decode cX10_takesTest 61 = .ok (.iconst 0, 1) := by decide +kernel
theorem dX10_takesTest_62 : decode cX10_takesTest 62 = .ok (.ireturn, 1) := by decide +kernel
theorem dX10_takesTest_63 : decode cX10_takesTest 63 = .ok (.aload_n 0, 1) := by decide +kernel
theorem dX10_takesTest_64 : decode cX10_takesTest 64 = .ok (.sipush 1000, 3) := by decide +kernel
theorem dX10_takesTest_67 : decode cX10_takesTest 67 = .ok (.iload_n 1, 1) := by decide +kernel
theorem dX10_takesTest_68 : decode cX10_takesTest 68 = .ok (.imul, 1) := by decide +kernel
theorem dX10_takesTest_69 : decode cX10_takesTest 69 = .ok (.bipush 100, 2) := by decide +kernel
theorem dX10_takesTest_71 : decode cX10_takesTest 71 = .ok (.iload_n 2, 1) := by decide +kernel
theorem dX10_takesTest_72 : decode cX10_takesTest 72 = .ok (.bipush 60, 2) := by decide +kernel
theorem dX10_takesTest_74 : decode cX10_takesTest 74 = .ok (.isub, 1) := by decide +kernel
theorem dX10_takesTest_75 : decode cX10_takesTest 75 = .ok (.imul, 1) := by decide +kernel
theorem dX10_takesTest_76 : decode cX10_takesTest 76 = .ok (.iadd, 1) := by decide +kernel
theorem dX10_takesTest_77 : decode cX10_takesTest 77 = .ok (.aload_n 0, 1) := by decide +kernel
theorem dX10_takesTest_78 : decode cX10_takesTest 78 = .ok (.getfield 53, 3) := by decide +kernel
theorem dX10_takesTest_81 : decode cX10_takesTest 81 = .ok (.iadd, 1) := by decide +kernel
theorem dX10_takesTest_82 : decode cX10_takesTest 82 = .ok (.invokevirtual 282, 3) := by decide +kernel
theorem dX10_takesTest_85 : decode cX10_takesTest 85 = .ok (.aload_n 0, 1) := by decide +kernel
theorem dX10_takesTest_86 : decode cX10_takesTest 86 = .ok (.invokevirtual 293, 3) := by decide +kernel
theorem dX10_takesTest_89 : decode cX10_takesTest 89 = .ok (.iconst 1, 1) := by decide +kernel
theorem dX10_takesTest_90 : decode cX10_takesTest 90 = .ok (.ireturn, 1) := by decide +kernel
theorem dX10_takesE_0 : decode cX10_takesE 0 = .ok (.aload_n 0, 1) := by decide +kernel
theorem dX10_takesE_1 : decode cX10_takesE 1 = .ok (.iconst 0, 1) := by decide +kernel
theorem dX10_takesE_2 : decode cX10_takesE 2 = .ok (.putfield 83, 3) := by decide +kernel
theorem dX10_takesE_5 : decode cX10_takesE 5 = .ok (.aload_n 0, 1) := by decide +kernel
theorem dX10_takesE_6 : decode cX10_takesE 6 = .ok (.iconst 0, 1) := by decide +kernel
theorem dX10_takesE_7 : decode cX10_takesE 7 = .ok (.putfield 86, 3) := by decide +kernel
theorem dX10_takesE_10 : decode cX10_takesE 10 = .ok (.aload_n 0, 1) := by decide +kernel
theorem dX10_takesE_11 : decode cX10_takesE 11 = .ok (.getfield 68, 3) := by decide +kernel
theorem dX10_takesE_14 : decode cX10_takesE 14 = .ok (.iload_n 1, 1) := by decide +kernel
theorem dX10_takesE_15 : decode cX10_takesE 15 = .ok (.aload_n 0, 1) := by decide +kernel
theorem dX10_takesE_16 : decode cX10_takesE 16 = .ok (.getfield 80, 3) := by decide +kernel
theorem dX10_takesE_19 : decode cX10_takesE 19 = .ok (.iastore, 1) := by decide +kernel
theorem dX10_takesE_20 : decode cX10_takesE 20 = .ok (.iconst 1, 1) := by decide +kernel
theorem dX10_takesE_21 : decode cX10_takesE 21 = .ok (.istore_n 2, 1) := by decide +kernel
theorem dX10_takesE_22 : decode cX10_takesE 22 = .ok (.aload_n 0, 1) := by decide +kernel
theorem dX10_takesE_23 : decode cX10_takesE 23 = .ok (.invokevirtual 271, 3) := by decide +kernel
theorem dX10_takesE_26 : decode cX10_takesE 26 = .ok (.istore_n 3, 1) := by decide +kernel
theorem dX10_takesE_27 : decode cX10_takesE 27 = .ok (.iload_n 2, 1) := by decide +kernel
theorem dX10_takesE_28 : decode cX10_takesE 28 = .ok (.ifCond .eq 82, 3) := by decide +kernel
theorem dX10_takesE_31 : decode cX10_takesE 31 = .ok (.iload_n 3, 1) := by decide +kernel
theorem dX10_takesE_32 : decode cX10_takesE 32 = .ok (.bipush 33, 2) := by decide +kernel
theorem dX10_takesE_34 : decode cX10_takesE 34 = .ok (.if_icmp .eq 9, 3) := by decide +kernel
theorem dX10_takesE_37 : decode cX10_takesE 37 = .ok (.iload_n 3, 1) := by decide +kernel
theorem dX10_takesE_38 : decode cX10_takesE 38 = .ok (.bipush 40, 2) := by decide +kernel
theorem dX10_takesE_40 : decode cX10_takesE 40 = .ok (.if_icmp .ne 56, 3) := by decide +kernel
theorem dX10_takesE_43 : decode cX10_takesE 43 = .ok (.aload_n 0, 1) := by decide +kernel
theorem dX10_takesE_44 : decode cX10_takesE 44 = .ok (.getfield 86, 3) := by decide +kernel
theorem dX10_takesE_47 : decode cX10_takesE 47 = .ok (.iconst 4, 1) := by decide +kernel
theorem dX10_takesE_48 : decode cX10_takesE 48 = .ok (.if_icmp .ne 5, 3) := by decide +kernel
theorem dX10_takesE_51 : decode cX10_takesE 51 = .ok (.iconst 0, 1) := by decide +kernel
theorem dX10_takesE_52 : decode cX10_takesE 52 = .ok (.ireturn, 1) := by decide +kernel
theorem dX10_takesE_53 : decode cX10_takesE 53 = .ok (.aload_n 0, 1) := by decide +kernel
theorem dX10_takesE_54 : decode cX10_takesE 54 = .ok (.dup, 1) := by decide +kernel
theorem dX10_takesE_55 : decode cX10_takesE 55 = .ok (.getfield 86, 3) := by decide +kernel
theorem dX10_takesE_58 : decode cX10_takesE 58 = .ok (.iconst 1, 1) := by decide +kernel
theorem dX10_takesE_59 : decode cX10_takesE 59 = .ok (.iadd, 1) := by decide +kernel
theorem dX10_takesE_60 : decode cX10_takesE 60 = .ok (.putfield 86, 3) := by decide +kernel
theorem dX10_takesE_63 : decode cX10_takesE 63 = .ok (.aload_n 0, 1) := by decide +kernel
theorem dX10_takesE_64 : decode cX10_takesE 64 = .ok (.getfield 77, 3) := by decide +kernel
theorem dX10_takesE_67 : decode cX10_takesE 67 = .ok (.aload_n 0, 1) := by decide +kernel
theorem dX10_takesE_68 : decode cX10_takesE 68 = .ok (.getfield 83, 3) := by decide +kernel
theorem dX10_takesE_71 : decode cX10_takesE 71 = .ok (.iload_n 3, 1) := by decide +kernel
theorem dX10_takesE_72 : decode cX10_takesE 72 = .ok (.iastore, 1) := by decide +kernel
theorem dX10_takesE_73 : decode cX10_takesE 73 = .ok (.aload_n 0, 1) := by decide +kernel
theorem dX10_takesE_74 : decode cX10_takesE 74 = .ok (.dup, 1) := by decide +kernel
theorem dX10_takesE_75 : decode cX10_takesE 75 = .ok (.getfield 83, 3) := by decide +kernel
theorem dX10_takesE_78 : decode cX10_takesE 78 = .ok (.iconst 1, 1) := by decide +kernel
theorem dX10_takesE_79 : decode cX10_takesE 79 = .ok (.iadd, 1) := by decide +kernel
theorem dX10_takesE_80 : decode cX10_takesE 80 = .ok (.putfield 83, 3) := by decide +kernel
theorem dX10_takesE_83 : decode cX10_takesE 83 = .ok (.aload_n 0, 1) := by decide +kernel
theorem dX10_takesE_84 : decode cX10_takesE 84 = .ok (.dup, 1) := by decide +kernel
theorem dX10_takesE_85 : decode cX10_takesE 85 = .ok (.getfield 50, 3) := by decide +kernel
theorem dX10_takesE_88 : decode cX10_takesE 88 = .ok (.iconst 1, 1) := by decide +kernel
theorem dX10_takesE_89 : decode cX10_takesE 89 = .ok (.iadd, 1) := by decide +kernel
theorem dX10_takesE_90 : decode cX10_takesE 90 = .ok (.putfield 50, 3) := by decide +kernel
theorem dX10_takesE_93 : decode cX10_takesE 93 = .ok (.goto (-71), 3) := by decide +kernel
theorem dX10_takesE_96 : decode cX10_takesE 96 = .ok (.aload_n 0, 1) := by decide +kernel
theorem dX10_takesE_97 : decode cX10_takesE 97 = .ok (.invokevirtual 296, 3) := by decide +kernel
theorem dX10_takesE_100 : decode cX10_takesE 100 = .ok (.ifCond .eq 8, 3) := by decide +kernel
theorem dX10_takesE_103 : decode cX10_takesE 103 = .ok (.iconst 0, 1) := by decide +kernel
theorem dX10_takesE_104 : decode cX10_takesE 104 = .ok (.istore_n 2, 1) := by decide +kernel
theorem dX10_takesE_105 : decode cX10_takesE 105 = .ok (.goto (-83), 3) := by decide +kernel
theorem dX10_takesE_108 : decode cX10_takesE 108 = .ok (.iconst 0, 1) := by decide +kernel
theorem dX10_takesE_109 : decode cX10_takesE 109 = .ok (.ireturn, 1) := by decide +kernel
theorem dX10_takesE_110 : decode cX10_takesE 110 = .ok (.iload_n 3, 1) := by decide +kernel
theorem dX10_takesE_111 : decode cX10_takesE 111 = .ok (.bipush 38, 2) := by decide +kernel
theorem dX10_takesE_113 : decode cX10_takesE 113 = .ok (.if_icmp .eq 9, 3) := by decide +kernel
theorem dX10_takesE_116 : decode cX10_takesE 116 = .ok (.iload_n 3, 1) := by decide +kernel
theorem dX10_takesE_117 : decode cX10_takesE 117 = .ok (.bipush 124, 2) := by decide +kernel
theorem dX10_takesE_119 : decode cX10_takesE 119 = .ok (.if_icmp .ne 43, 3) := by decide +kernel
theorem dX10_takesE_122 : decode cX10_takesE 122 = .ok (.aload_n 0, 1) := by decide +kernel
theorem dX10_takesE_123 : decode cX10_takesE 123 = .ok (.iload_n 3, 1) := by decide +kernel
theorem dX10_takesE_124 : decode cX10_takesE 124 = .ok (.invokevirtual 299, 3) := by decide +kernel
theorem dX10_takesE_127 : decode cX10_takesE 127 = .ok (.aload_n 0, 1) := by decide +kernel
theorem dX10_takesE_128 : decode cX10_takesE 128 = .ok (.getfield 77, 3) := by decide +kernel
theorem dX10_takesE_131 : decode cX10_takesE 131 = .ok (.aload_n 0, 1) := by decide +kernel
theorem dX10_takesE_132 : decode cX10_takesE 132 = .ok (.getfield 83, 3) := by decide +kernel
theorem dX10_takesE_135 : decode cX10_takesE 135 = .ok (.iload_n 3, 1) := by decide +kernel
theorem dX10_takesE_136 : decode cX10_takesE 136 = .ok (.iastore, 1) := by decide +kernel
theorem dX10_takesE_137 : decode cX10_takesE 137 = .ok (.aload_n 0, 1) := by decide +kernel
theorem dX10_takesE_138 : decode cX10_takesE 138 = .ok (.dup, 1) := by decide +kernel
theorem dX10_takesE_139 : decode cX10_takesE 139 = .ok (.getfield 83, 3) := by decide +kernel
theorem dX10_takesE_142 : decode cX10_takesE 142 = .ok (.iconst 1, 1) := by decide +kernel
theorem dX10_takesE_143 : decode cX10_takesE 143 = .ok (.iadd, 1) := by decide +kernel
theorem dX10_takesE_144 : decode cX10_takesE 144 = .ok (.putfield 83, 3) := by decide +kernel
theorem dX10_takesE_147 : decode cX10_takesE 147 = .ok (.iconst 1, 1) := by decide +kernel
theorem dX10_takesE_148 : decode cX10_takesE 148 = .ok (.istore_n 2, 1) := by decide +kernel
theorem dX10_takesE_149 : decode cX10_takesE 149 = .ok (.aload_n 0, 1) := by decide +kernel
theorem dX10_takesE_150 : decode cX10_takesE 150 = .ok (.dup, 1) := by decide +kernel
theorem dX10_takesE_151 : decode cX10_takesE 151 = .ok (.getfield 50, 3) := by decide +kernel
theorem dX10_takesE_154 : decode cX10_takesE 154 = .ok (.iconst 1, 1) := by decide +kernel
theorem dX10_takesE_155 : decode cX10_takesE 155 = .ok (.iadd, 1) := by decide +kernel
theorem dX10_takesE_156 : decode cX10_takesE 156 = .ok (.putfield 50, 3) := by decide +kernel
theorem dX10_takesE_159 : decode cX10_takesE 159 = .ok (.goto (-137), 3) := by decide +kernel
theorem dX10_takesE_162 : decode cX10_takesE 162 = .ok (.aload_n 0, 1) := by decide +kernel
theorem dX10_takesE_163 : decode cX10_takesE 163 = .ok (.bipush 124, 2) := by decide +kernel
theorem dX10_takesE_165 : decode cX10_takesE 165 = .ok (.invokevirtual 299, 3) := by decide +kernel
theorem dX10_takesE_168 : decode cX10_takesE 168 = .ok (.aload_n 0, 1) := by decide +kernel
theorem dX10_takesE_169 : decode cX10_takesE 169 = .ok (.getfield 71, 3) := by decide +kernel
theorem dX10_takesE_172 : decode cX10_takesE 172 = .ok (.iload_n 1, 1) := by decide +kernel
theorem dX10_takesE_173 : decode cX10_takesE 173 = .ok (.aload_n 0, 1) := by decide +kernel
theorem dX10_takesE_174 : decode cX10_takesE 174 = .ok (.getfield 80, 3) := by decide +kernel
theorem dX10_takesE_177 : decode cX10_takesE 177 = .ok (.iastore, 1) := by decide +kernel
theorem dX10_takesE_178 : decode cX10_takesE 178 = .ok (.aload_n 0, 1) := by decide +kernel
theorem dX10_takesE_179 : decode cX10_takesE 179 = .ok (.getfield 83, 3) := by decide +kernel
theorem dX10_takesE_182 : decode cX10_takesE 182 = .ok (.ifCond .ne 5, 3) := by decide +kernel
theorem dX10_takesE_185 : decode cX10_takesE 185 = .ok (.iconst 1, 1) := by decide +kernel
theorem dX10_takesE_186 : decode cX10_takesE 186 = .ok (.ireturn, 1) := by decide +kernel
theorem dX10_takesE_187 : decode cX10_takesE 187 = .ok (.iload_n 3, 1) := by decide +kernel
theorem dX10_takesE_188 : decode cX10_takesE 188 = .ok (.bipush 41, 2) := by decide +kernel
theorem dX10_takesE_190 : decode cX10_takesE 190 = .ok (.if_icmp .eq 5, 3) := by decide +kernel
theorem dX10_takesE_193 : decode cX10_takesE 193 = .ok (.iconst 0, 1) := by decide +kernel
theorem dX10_takesE_194 : decode cX10_takesE 194 = .ok (.ireturn, 1) := by decide +kernel
theorem dX10_takesE_195 : decode cX10_takesE 195 = .ok (.aload_n 0, 1) := by decide +kernel
theorem dX10_takesE_196 : decode cX10_takesE 196 = .ok (.dup, 1) := by decide +kernel
theorem dX10_takesE_197 : decode cX10_takesE 197 = .ok (.getfield 83, 3) := by decide +kernel
theorem dX10_takesE_200 : decode cX10_takesE 200 = .ok (.iconst 1, 1) := by decide +kernel
theorem dX10_takesE_201 : decode cX10_takesE 201 = .ok (.isub, 1) := by decide +kernel
theorem dX10_takesE_202 : decode cX10_takesE 202 = .ok (.putfield 83, 3) := by decide +kernel
theorem dX10_takesE_205 : decode cX10_takesE 205 = .ok (.aload_n 0, 1) := by decide +kernel
theorem dX10_takesE_206 : decode cX10_takesE 206 = .ok (.dup, 1) := by decide +kernel
theorem dX10_takesE_207 : decode cX10_takesE 207 = .ok (.getfield 86, 3) := by decide +kernel
theorem dX10_takesE_210 : decode cX10_takesE 210 = .ok (.iconst 1, 1) := by decide +kernel
theorem dX10_takesE_211 : decode cX10_takesE 211 = .ok (.isub, 1) := by decide +kernel
theorem dX10_takesE_212 : decode cX10_takesE 212 = .ok (.putfield 86, 3) := by decide +kernel
theorem dX10_takesE_215 : decode cX10_takesE 215 = .ok (.aload_n 0, 1) := by decide +kernel
theorem dX10_takesE_216 : decode cX10_takesE 216 = .ok (.dup, 1) := by decide +kernel
theorem dX10_takesE_217 : decode cX10_takesE 217 = .ok (.getfield 50, 3) := by decide +kernel
theorem dX10_takesE_220 : decode cX10_takesE 220 = .ok (.iconst 1, 1) := by decide +kernel
theorem dX10_takesE_221 : decode cX10_takesE 221 = .ok (.iadd, 1) := by decide +kernel
theorem dX10_takesE_222 : decode cX10_takesE 222 = .ok (.putfield 50, 3) := by decide +kernel
theorem dX10_takesE_225 : decode cX10_takesE 225 = .ok (.aload_n 0, 1) := by decide +kernel
theorem dX10_takesE_226 : decode cX10_takesE 226 = .ok (.invokevirtual 293, 3) := by decide +kernel
theorem dX10_takesE_229 : decode cX10_takesE 229 = .ok (.goto (-207), 3) := by decide +kernel
theorem dX10_takesHead_0 : decode cX10_takesHead 0 = .ok (.aload_n 0, 1) := by decide +kernel
theorem dX10_takesHead_1 : decode cX10_takesHead 1 = .ok (.invokevirtual 271, 3) := by decide +kernel
theorem dX10_takesHead_4 : decode cX10_takesHead 4 = .ok (.lookupswitch 56 #[(104, 42), (115, 28)], 28) := by decide +kernel
theorem dX10_takesHead_32 : decode cX10_takesHead 32 = .ok (.aload_n 0, 1) := by decide +kernel
theorem dX10_takesHead_33 : decode cX10_takesHead 33 = .ok (.getfield 62, 3) := by decide +kernel
theorem dX10_takesHead_36 : decode cX10_takesHead 36 = .ok (.iload_n 1, 1) := by decide +kernel
theorem dX10_takesHead_37 : decode cX10_takesHead 37 = .ok (.iconst 0, 1) := by decide +kernel
theorem dX10_takesHead_38 : decode cX10_takesHead 38 = .ok (.iastore, 1) := by decide +kernel
theorem dX10_takesHead_39 : decode cX10_takesHead 39 = .ok (.aload_n 0, 1) := by decide +kernel
theorem dX10_takesHead_40 : decode cX10_takesHead 40 = .ok (.iconst 0, 1) := by decide +kernel
theorem dX10_takesHead_41 : decode cX10_takesHead 41 = .ok (.iconst 4, 1) := by decide +kernel
theorem dX10_takesHead_42 : decode cX10_takesHead 42 = .ok (.invokevirtual 302, 3) := by decide +kernel
theorem dX10_takesHead_45 : decode cX10_takesHead 45 = .ok (.ireturn, 1) := by decide +kernel
theorem dX10_takesHead_46 : decode cX10_takesHead 46 = .ok (.aload_n 0, 1) := by decide +kernel
theorem dX10_takesHead_47 : decode cX10_takesHead 47 = .ok (.getfield 62, 3) := by decide +kernel
theorem dX10_takesHead_50 : decode cX10_takesHead 50 = .ok (.iload_n 1, 1) := by decide +kernel
theorem dX10_takesHead_51 : decode cX10_takesHead 51 = .ok (.iconst 1, 1) := by decide +kernel
theorem dX10_takesHead_52 : decode cX10_takesHead 52 = .ok (.iastore, 1) := by decide +kernel
theorem dX10_takesHead_53 : decode cX10_takesHead 53 = .ok (.aload_n 0, 1) := by decide +kernel
theorem dX10_takesHead_54 : decode cX10_takesHead 54 = .ok (.iconst 4, 1) := by decide +kernel
theorem dX10_takesHead_55 : decode cX10_takesHead 55 = .ok (.iconst 4, 1) := by decide +kernel
theorem dX10_takesHead_56 : decode cX10_takesHead 56 = .ok (.invokevirtual 302, 3) := by decide +kernel
theorem dX10_takesHead_59 : decode cX10_takesHead 59 = .ok (.ireturn, 1) := by decide +kernel
theorem dX10_takesHead_60 : decode cX10_takesHead 60 = .ok (.aload_n 0, 1) := by decide +kernel
theorem dX10_takesHead_61 : decode cX10_takesHead 61 = .ok (.getfield 62, 3) := by decide +kernel
theorem dX10_takesHead_64 : decode cX10_takesHead 64 = .ok (.iload_n 1, 1) := by decide +kernel
theorem dX10_takesHead_65 : decode cX10_takesHead 65 = .ok (.iconst 2, 1) := by decide +kernel
theorem dX10_takesHead_66 : decode cX10_takesHead 66 = .ok (.iastore, 1) := by decide +kernel
theorem dX10_takesHead_67 : decode cX10_takesHead 67 = .ok (.aload_n 0, 1) := by decide +kernel
theorem dX10_takesHead_68 : decode cX10_takesHead 68 = .ok (.bipush 8, 2) := by decide +kernel
theorem dX10_takesHead_70 : decode cX10_takesHead 70 = .ok (.iconst 4, 1) := by decide +kernel
theorem dX10_takesHead_71 : decode cX10_takesHead 71 = .ok (.invokevirtual 302, 3) := by decide +kernel
theorem dX10_takesHead_74 : decode cX10_takesHead 74 = .ok (.ireturn, 1) := by decide +kernel
theorem dX10_takesClause_0 : decode cX10_takesClause 0 = .ok (.aload_n 0, 1) := by decide +kernel
theorem dX10_takesClause_1 : decode cX10_takesClause 1 = .ok (.iload_n 1, 1) := by decide +kernel
theorem dX10_takesClause_2 : decode cX10_takesClause 2 = .ok (.invokevirtual 305, 3) := by decide +kernel
theorem dX10_takesClause_5 : decode cX10_takesClause 5 = .ok (.ifCond .eq 10, 3) := by decide +kernel
theorem dX10_takesClause_8 : decode cX10_takesClause 8 = .ok (.aload_n 0, 1) := by decide +kernel
theorem dX10_takesClause_9 : decode cX10_takesClause 9 = .ok (.invokevirtual 290, 3) := by decide +kernel
theorem dX10_takesClause_12 : decode cX10_takesClause 12 = .ok (.ifCond .ne 5, 3) := by decide +kernel
theorem dX10_takesClause_15 : decode cX10_takesClause 15 = .ok (.iconst 0, 1) := by decide +kernel
theorem dX10_takesClause_16 : decode cX10_takesClause 16 = .ok (.ireturn, 1) := by decide +kernel
theorem dX10_takesClause_17 : decode cX10_takesClause 17 = .ok (.aload_n 0, 1) := by decide +kernel
theorem dX10_takesClause_18 : decode cX10_takesClause 18 = .ok (.getfield 65, 3) := by decide +kernel
theorem dX10_takesClause_21 : decode cX10_takesClause 21 = .ok (.iload_n 1, 1) := by decide +kernel
theorem dX10_takesClause_22 : decode cX10_takesClause 22 = .ok (.aload_n 0, 1) := by decide +kernel
theorem dX10_takesClause_23 : decode cX10_takesClause 23 = .ok (.getfield 53, 3) := by decide +kernel
theorem dX10_takesClause_26 : decode cX10_takesClause 26 = .ok (.iastore, 1) := by decide +kernel
theorem dX10_takesClause_27 : decode cX10_takesClause 27 = .ok (.aload_n 0, 1) := by decide +kernel
theorem dX10_takesClause_28 : decode cX10_takesClause 28 = .ok (.getfield 62, 3) := by decide +kernel
theorem dX10_takesClause_31 : decode cX10_takesClause 31 = .ok (.iload_n 1, 1) := by decide +kernel
theorem dX10_takesClause_32 : decode cX10_takesClause 32 = .ok (.iaload, 1) := by decide +kernel
theorem dX10_takesClause_33 : decode cX10_takesClause 33 = .ok (.iconst 2, 1) := by decide +kernel
theorem dX10_takesClause_34 : decode cX10_takesClause 34 = .ok (.if_icmp .eq 20, 3) := by decide +kernel
theorem dX10_takesClause_37 : decode cX10_takesClause 37 = .ok (.aload_n 0, 1) := by decide +kernel
theorem dX10_takesClause_38 : decode cX10_takesClause 38 = .ok (.bipush 32, 2) := by decide +kernel
theorem dX10_takesClause_40 : decode cX10_takesClause 40 = .ok (.invokevirtual 275, 3) := by decide +kernel
theorem dX10_takesClause_43 : decode cX10_takesClause 43 = .ok (.ifCond .eq 15, 3) := by decide +kernel
theorem dX10_takesClause_46 : decode cX10_takesClause 46 = .ok (.aload_n 0, 1) := by decide +kernel
theorem dX10_takesClause_47 : decode cX10_takesClause 47 = .ok (.iload_n 1, 1) := by decide +kernel
theorem dX10_takesClause_48 : decode cX10_takesClause 48 = .ok (.invokevirtual 308, 3) := by decide +kernel
theorem dX10_takesClause_51 : decode cX10_takesClause 51 = .ok (.ifCond .eq 7, 3) := by decide +kernel
theorem dX10_takesClause_54 : decode cX10_takesClause 54 = .ok (.iconst 1, 1) := by decide +kernel
theorem dX10_takesClause_55 : decode cX10_takesClause 55 = .ok (.goto 4, 3) := by decide +kernel
theorem dX10_takesClause_58 : decode cX10_takesClause 58 = .ok (.iconst 0, 1) := by decide +kernel
theorem dX10_takesClause_59 : decode cX10_takesClause 59 = .ok (.ireturn, 1) := by decide +kernel
theorem dX10_goesText_0 : decode cX10_goesText 0 = .ok (.aload_n 0, 1) := by decide +kernel
theorem dX10_goesText_1 : decode cX10_goesText 1 = .ok (.iconst 0, 1) := by decide +kernel
theorem dX10_goesText_2 : decode cX10_goesText 2 = .ok (.putfield 50, 3) := by decide +kernel
theorem dX10_goesText_5 : decode cX10_goesText 5 = .ok (.aload_n 0, 1) := by decide +kernel
theorem dX10_goesText_6 : decode cX10_goesText 6 = .ok (.bipush 100, 2) := by decide +kernel
theorem dX10_goesText_8 : decode cX10_goesText 8 = .ok (.iload_n 1, 1) := by decide +kernel
theorem dX10_goesText_9 : decode cX10_goesText 9 = .ok (.imul, 1) := by decide +kernel
theorem dX10_goesText_10 : decode cX10_goesText 10 = .ok (.putfield 80, 3) := by decide +kernel
theorem dX10_goesText_13 : decode cX10_goesText 13 = .ok (.iconst 0, 1) := by decide +kernel
theorem dX10_goesText_14 : decode cX10_goesText 14 = .ok (.istore_n 2, 1) := by decide +kernel
theorem dX10_goesText_15 : decode cX10_goesText 15 = .ok (.aload_n 0, 1) := by decide +kernel
theorem dX10_goesText_16 : decode cX10_goesText 16 = .ok (.bipush 10, 2) := by decide +kernel
theorem dX10_goesText_18 : decode cX10_goesText 18 = .ok (.iload_n 1, 1) := by decide +kernel
theorem dX10_goesText_19 : decode cX10_goesText 19 = .ok (.imul, 1) := by decide +kernel
theorem dX10_goesText_20 : decode cX10_goesText 20 = .ok (.iload_n 2, 1) := by decide +kernel
theorem dX10_goesText_21 : decode cX10_goesText 21 = .ok (.iadd, 1) := by decide +kernel
theorem dX10_goesText_22 : decode cX10_goesText 22 = .ok (.invokevirtual 311, 3) := by decide +kernel
theorem dX10_goesText_25 : decode cX10_goesText 25 = .ok (.ifCond .ne 5, 3) := by decide +kernel
theorem dX10_goesText_28 : decode cX10_goesText 28 = .ok (.iconst 0, 1) := by decide +kernel
theorem dX10_goesText_29 : decode cX10_goesText 29 = .ok (.ireturn, 1) := by decide +kernel
theorem dX10_goesText_30 : decode cX10_goesText 30 = .ok (.iinc 2 1, 3) := by decide +kernel
theorem dX10_goesText_33 : decode cX10_goesText 33 = .ok (.aload_n 0, 1) := by decide +kernel
theorem dX10_goesText_34 : decode cX10_goesText 34 = .ok (.getfield 59, 3) := by decide +kernel
theorem dX10_goesText_37 : decode cX10_goesText 37 = .ok (.iload_n 1, 1) := by decide +kernel
theorem dX10_goesText_38 : decode cX10_goesText 38 = .ok (.iload_n 2, 1) := by decide +kernel
theorem dX10_goesText_39 : decode cX10_goesText 39 = .ok (.iastore, 1) := by decide +kernel
theorem dX10_goesText_40 : decode cX10_goesText 40 = .ok (.aload_n 0, 1) := by decide +kernel
theorem dX10_goesText_41 : decode cX10_goesText 41 = .ok (.getfield 50, 3) := by decide +kernel
theorem dX10_goesText_44 : decode cX10_goesText 44 = .ok (.aload_n 0, 1) := by decide +kernel
theorem dX10_goesText_45 : decode cX10_goesText 45 = .ok (.getfield 47, 3) := by decide +kernel
theorem dX10_goesText_48 : decode cX10_goesText 48 = .ok (.if_icmp .ne 5, 3) := by decide +kernel
theorem dX10_goesText_51 : decode cX10_goesText 51 = .ok (.iconst 1, 1) := by decide +kernel
theorem dX10_goesText_52 : decode cX10_goesText 52 = .ok (.ireturn, 1) := by decide +kernel
theorem dX10_goesText_53 : decode cX10_goesText 53 = .ok (.iload_n 2, 1) := by decide +kernel
theorem dX10_goesText_54 : decode cX10_goesText 54 = .ok (.bipush 10, 2) := by decide +kernel
theorem dX10_goesText_56 : decode cX10_goesText 56 = .ok (.if_icmp .eq 12, 3) := by decide +kernel
theorem dX10_goesText_59 : decode cX10_goesText 59 = .ok (.aload_n 0, 1) := by decide +kernel
theorem dX10_goesText_60 : decode cX10_goesText 60 = .ok (.bipush 59, 2) := by decide +kernel
theorem dX10_goesText_62 : decode cX10_goesText 62 = .ok (.invokevirtual 275, 3) := by decide +kernel
theorem dX10_goesText_65 : decode cX10_goesText 65 = .ok (.ifCond .ne (-50), 3) := by decide +kernel
theorem dX10_goesText_68 : decode cX10_goesText 68 = .ok (.iconst 0, 1) := by decide +kernel
theorem dX10_goesText_69 : decode cX10_goesText 69 = .ok (.ireturn, 1) := by decide +kernel
theorem dX10_room_0 : decode cX10_room 0 = .ok (.aload_n 0, 1) := by decide +kernel
theorem dX10_room_1 : decode cX10_room 1 = .ok (.getfield 41, 3) := by decide +kernel
theorem dX10_room_4 : decode cX10_room 4 = .ok (.bipush 6, 2) := by decide +kernel
theorem dX10_room_6 : decode cX10_room 6 = .ok (.if_icmp .ne 6, 3) := by decide +kernel
theorem dX10_room_9 : decode cX10_room 9 = .ok (.bipush (-4), 2) := by decide +kernel
theorem dX10_room_11 : decode cX10_room 11 = .ok (.ireturn, 1) := by decide +kernel
theorem dX10_room_12 : decode cX10_room 12 = .ok (.aload_n 0, 1) := by decide +kernel
theorem dX10_room_13 : decode cX10_room 13 = .ok (.aload_n 0, 1) := by decide +kernel
theorem dX10_room_14 : decode cX10_room 14 = .ok (.getfield 41, 3) := by decide +kernel
theorem dX10_room_17 : decode cX10_room 17 = .ok (.invokevirtual 314, 3) := by decide +kernel
theorem dX10_room_20 : decode cX10_room 20 = .ok (.istore_n 1, 1) := by decide +kernel
theorem dX10_room_21 : decode cX10_room 21 = .ok (.aload_n 0, 1) := by decide +kernel
theorem dX10_room_22 : decode cX10_room 22 = .ok (.iconst 0, 1) := by decide +kernel
theorem dX10_room_23 : decode cX10_room 23 = .ok (.putfield 47, 3) := by decide +kernel
theorem dX10_room_26 : decode cX10_room 26 = .ok (.iload_n 1, 1) := by decide +kernel
theorem dX10_room_27 : decode cX10_room 27 = .ok (.ifCond .ne 11, 3) := by decide +kernel
theorem dX10_room_30 : decode cX10_room 30 = .ok (.bipush (-10), 2) := by decide +kernel
theorem dX10_room_32 : decode cX10_room 32 = .ok (.aload_n 0, 1) := by decide +kernel
theorem dX10_room_33 : decode cX10_room 33 = .ok (.getfield 50, 3) := by decide +kernel
theorem dX10_room_36 : decode cX10_room 36 = .ok (.isub, 1) := by decide +kernel
theorem dX10_room_37 : decode cX10_room 37 = .ok (.ireturn, 1) := by decide +kernel
theorem dX10_room_38 : decode cX10_room 38 = .ok (.aload_n 0, 1) := by decide +kernel
theorem dX10_room_39 : decode cX10_room 39 = .ok (.aload_n 0, 1) := by decide +kernel
theorem dX10_room_40 : decode cX10_room 40 = .ok (.getfield 41, 3) := by decide +kernel
theorem dX10_room_43 : decode cX10_room 43 = .ok (.putfield 44, 3) := by decide +kernel
theorem dX10_room_46 : decode cX10_room 46 = .ok (.aload_n 0, 1) := by decide +kernel
theorem dX10_room_47 : decode cX10_room 47 = .ok (.dup, 1) := by decide +kernel
theorem dX10_room_48 : decode cX10_room 48 = .ok (.getfield 41, 3) := by decide +kernel
theorem dX10_room_51 : decode cX10_room 51 = .ok (.iconst 1, 1) := by decide +kernel
theorem dX10_room_52 : decode cX10_room 52 = .ok (.iadd, 1) := by decide +kernel
theorem dX10_room_53 : decode cX10_room 53 = .ok (.putfield 41, 3) := by decide +kernel
theorem dX10_room_56 : decode cX10_room 56 = .ok (.aload_n 0, 1) := by decide +kernel
theorem dX10_room_57 : decode cX10_room 57 = .ok (.getfield 44, 3) := by decide +kernel
theorem dX10_room_60 : decode cX10_room 60 = .ok (.ireturn, 1) := by decide +kernel
theorem dX10_begin_0 : decode cX10_begin 0 = .ok (.aload_n 0, 1) := by decide +kernel
theorem dX10_begin_1 : decode cX10_begin 1 = .ok (.getfield 44, 3) := by decide +kernel
theorem dX10_begin_4 : decode cX10_begin 4 = .ok (.ifCond .ge 7, 3) := by decide +kernel
theorem dX10_begin_7 : decode cX10_begin 7 = .ok (.iconst 0, 1) := by decide +kernel
theorem dX10_begin_8 : decode cX10_begin 8 = .ok (.goto 10, 3) := by decide +kernel
theorem dX10_begin_11 : decode cX10_begin 11 = .ok (.bipush 10, 2) := by decide +kernel
theorem dX10_begin_13 : decode cX10_begin 13 = .ok (.aload_n 0, 1) := by decide +kernel
theorem dX10_begin_14 : decode cX10_begin 14 = .ok (.getfield 44, 3) := by decide +kernel
theorem dX10_begin_17 : decode cX10_begin 17 = .ok (.imul, 1) := by decide +kernel
theorem dX10_begin_18 : decode cX10_begin 18 = .ok (.ireturn, 1) := by decide +kernel
theorem dX10_behind_0 : decode cX10_behind 0 = .ok (.aload_n 0, 1) := by decide +kernel
theorem dX10_behind_1 : decode cX10_behind 1 = .ok (.getfield 44, 3) := by decide +kernel
theorem dX10_behind_4 : decode cX10_behind 4 = .ok (.ifCond .ge 7, 3) := by decide +kernel
theorem dX10_behind_7 : decode cX10_behind 7 = .ok (.iconst 0, 1) := by decide +kernel
theorem dX10_behind_8 : decode cX10_behind 8 = .ok (.goto 20, 3) := by decide +kernel
theorem dX10_behind_11 : decode cX10_behind 11 = .ok (.bipush 10, 2) := by decide +kernel
theorem dX10_behind_13 : decode cX10_behind 13 = .ok (.aload_n 0, 1) := by decide +kernel
theorem dX10_behind_14 : decode cX10_behind 14 = .ok (.getfield 44, 3) := by decide +kernel
theorem dX10_behind_17 : decode cX10_behind 17 = .ok (.imul, 1) := by decide +kernel
theorem dX10_behind_18 : decode cX10_behind 18 = .ok (.aload_n 0, 1) := by decide +kernel
theorem dX10_behind_19 : decode cX10_behind 19 = .ok (.getfield 59, 3) := by decide +kernel
theorem dX10_behind_22 : decode cX10_behind 22 = .ok (.aload_n 0, 1) := by decide +kernel
theorem dX10_behind_23 : decode cX10_behind 23 = .ok (.getfield 44, 3) := by decide +kernel
theorem dX10_behind_26 : decode cX10_behind 26 = .ok (.iaload, 1) := by decide +kernel
theorem dX10_behind_27 : decode cX10_behind 27 = .ok (.iadd, 1) := by decide +kernel
theorem dX10_behind_28 : decode cX10_behind 28 = .ok (.ireturn, 1) := by decide +kernel
theorem dX10_bald_0 : decode cX10_bald 0 = .ok (.bipush 30, 2) := by decide +kernel
theorem dX10_bald_2 : decode cX10_bald 2 = .ok (.istore_n 1, 1) := by decide +kernel
theorem dX10_bald_3 : decode cX10_bald 3 = .ok (.aload_n 0, 1) := by decide +kernel
theorem dX10_bald_4 : decode cX10_bald 4 = .ok (.invokevirtual 317, 3) := by decide +kernel
theorem dX10_bald_7 : decode cX10_bald 7 = .ok (.istore_n 2, 1) := by decide +kernel
theorem dX10_bald_8 : decode cX10_bald 8 = .ok (.iload_n 2, 1) := by decide +kernel
theorem dX10_bald_9 : decode cX10_bald 9 = .ok (.aload_n 0, 1) := by decide +kernel
theorem dX10_bald_10 : decode cX10_bald 10 = .ok (.invokevirtual 320, 3) := by decide +kernel
theorem dX10_bald_13 : decode cX10_bald 13 = .ok (.if_icmp .ge 30, 3) := by decide +kernel
theorem dX10_bald_16 : decode cX10_bald 16 = .ok (.aload_n 0, 1) := by decide +kernel
theorem dX10_bald_17 : decode cX10_bald 17 = .ok (.getfield 62, 3) := by decide +kernel
theorem dX10_bald_20 : decode cX10_bald 20 = .ok (.iload_n 2, 1) := by decide +kernel
theorem dX10_bald_21 : decode cX10_bald 21 = .ok (.iaload, 1) := by decide +kernel
theorem dX10_bald_22 : decode cX10_bald 22 = .ok (.iconst 2, 1) := by decide +kernel
theorem dX10_bald_23 : decode cX10_bald 23 = .ok (.if_icmp .ne 12, 3) := by decide +kernel
theorem dX10_bald_26 : decode cX10_bald 26 = .ok (.aload_n 0, 1) := by decide +kernel
theorem dX10_bald_27 : decode cX10_bald 27 = .ok (.getfield 65, 3) := by decide +kernel
theorem dX10_bald_30 : decode cX10_bald 30 = .ok (.iload_n 2, 1) := by decide +kernel
theorem dX10_bald_31 : decode cX10_bald 31 = .ok (.iaload, 1) := by decide +kernel
theorem dX10_bald_32 : decode cX10_bald 32 = .ok (.goto 4, 3) := by decide +kernel
theorem dX10_bald_35 : decode cX10_bald 35 = .ok (.iload_n 1, 1) := by decide +kernel
theorem dX10_bald_36 : decode cX10_bald 36 = .ok (.istore_n 1, 1) := by decide +kernel
theorem dX10_bald_37 : decode cX10_bald 37 = .ok (.iinc 2 1, 3) := by decide +kernel
theorem dX10_bald_40 : decode cX10_bald 40 = .ok (.goto (-32), 3) := by decide +kernel
theorem dX10_bald_43 : decode cX10_bald 43 = .ok (.iload_n 1, 1) := by decide +kernel
theorem dX10_bald_44 : decode cX10_bald 44 = .ok (.ireturn, 1) := by decide +kernel
theorem dX10_factOf_0 : decode cX10_factOf 0 = .ok (.iload_n 1, 1) := by decide +kernel
theorem dX10_factOf_1 : decode cX10_factOf 1 = .ok (.tableswitch 54 0 4 #[35, 37, 41, 45, 47], 35) := by decide +kernel
theorem dX10_factOf_36 : decode cX10_factOf 36 = .ok (.iload_n 2, 1) := by decide +kernel
theorem dX10_factOf_37 : decode cX10_factOf 37 = .ok (.ireturn, 1) := by decide +kernel
theorem dX10_factOf_38 : decode cX10_factOf 38 = .ok (.iload_n 2, 1) := by decide +kernel
theorem dX10_factOf_39 : decode cX10_factOf 39 = .ok (.iconst 4, 1) := by decide +kernel
theorem dX10_factOf_40 : decode cX10_factOf 40 = .ok (.idiv, 1) := by decide +kernel
theorem dX10_factOf_41 : decode cX10_factOf 41 = .ok (.ireturn, 1) := by decide +kernel
theorem dX10_factOf_42 : decode cX10_factOf 42 = .ok (.iload_n 2, 1) := by decide +kernel
theorem dX10_factOf_43 : decode cX10_factOf 43 = .ok (.iconst 4, 1) := by decide +kernel
theorem dX10_factOf_44 : decode cX10_factOf 44 = .ok (.irem, 1) := by decide +kernel
theorem dX10_factOf_45 : decode cX10_factOf 45 = .ok (.ireturn, 1) := by decide +kernel
theorem dX10_factOf_46 : decode cX10_factOf 46 = .ok (.iload_n 3, 1) := by decide +kernel
theorem dX10_factOf_47 : decode cX10_factOf 47 = .ok (.ireturn, 1) := by decide +kernel
theorem dX10_factOf_48 : decode cX10_factOf 48 = .ok (.aload_n 0, 1) := by decide +kernel
theorem dX10_factOf_49 : decode cX10_factOf 49 = .ok (.getfield 26, 3) := by decide +kernel
theorem dX10_factOf_52 : decode cX10_factOf 52 = .ok (.iload_n 3, 1) := by decide +kernel
theorem dX10_factOf_53 : decode cX10_factOf 53 = .ok (.iaload, 1) := by decide +kernel
theorem dX10_factOf_54 : decode cX10_factOf 54 = .ok (.ireturn, 1) := by decide +kernel
theorem dX10_factOf_55 : decode cX10_factOf 55 = .ok (.aload_n 0, 1) := by decide +kernel
theorem dX10_factOf_56 : decode cX10_factOf 56 = .ok (.getfield 29, 3) := by decide +kernel
theorem dX10_factOf_59 : decode cX10_factOf 59 = .ok (.iload_n 3, 1) := by decide +kernel
theorem dX10_factOf_60 : decode cX10_factOf 60 = .ok (.iaload, 1) := by decide +kernel
theorem dX10_factOf_61 : decode cX10_factOf 61 = .ok (.ireturn, 1) := by decide +kernel
theorem dX10_holds_0 : decode cX10_holds 0 = .ok (.iconst 0, 1) := by decide +kernel
theorem dX10_holds_1 : decode cX10_holds 1 = .ok (.istore 4, 2) := by decide +kernel
theorem dX10_holds_3 : decode cX10_holds 3 = .ok (.aload_n 0, 1) := by decide +kernel
theorem dX10_holds_4 : decode cX10_holds 4 = .ok (.getfield 68, 3) := by decide +kernel
theorem dX10_holds_7 : decode cX10_holds 7 = .ok (.iload_n 1, 1) := by decide +kernel
theorem dX10_holds_8 : decode cX10_holds 8 = .ok (.iaload, 1) := by decide +kernel
theorem dX10_holds_9 : decode cX10_holds 9 = .ok (.istore 5, 2) := by decide +kernel
theorem dX10_holds_11 : decode cX10_holds 11 = .ok (.iload 5, 2) := by decide +kernel
theorem dX10_holds_13 : decode cX10_holds 13 = .ok (.aload_n 0, 1) := by decide +kernel
theorem dX10_holds_14 : decode cX10_holds 14 = .ok (.getfield 71, 3) := by decide +kernel
theorem dX10_holds_17 : decode cX10_holds 17 = .ok (.iload_n 1, 1) := by decide +kernel
theorem dX10_holds_18 : decode cX10_holds 18 = .ok (.iaload, 1) := by decide +kernel
theorem dX10_holds_19 : decode cX10_holds 19 = .ok (.if_icmp .ge 234, 3) := by decide +kernel
theorem dX10_holds_22 : decode cX10_holds 22 = .ok (.aload_n 0, 1) := by decide +kernel
theorem dX10_holds_23 : decode cX10_holds 23 = .ok (.getfield 74, 3) := by decide +kernel
theorem dX10_holds_26 : decode cX10_holds 26 = .ok (.iload 5, 2) := by decide +kernel
theorem dX10_holds_28 : decode cX10_holds 28 = .ok (.iaload, 1) := by decide +kernel
theorem dX10_holds_29 : decode cX10_holds 29 = .ok (.istore 6, 2) := by decide +kernel
theorem dX10_holds_31 : decode cX10_holds 31 = .ok (.iload 6, 2) := by decide +kernel
theorem dX10_holds_33 : decode cX10_holds 33 = .ok (.bipush (-33), 2) := by decide +kernel
theorem dX10_holds_35 : decode cX10_holds 35 = .ok (.if_icmp .ne 32, 3) := by decide +kernel
theorem dX10_holds_38 : decode cX10_holds 38 = .ok (.aload_n 0, 1) := by decide +kernel
theorem dX10_holds_39 : decode cX10_holds 39 = .ok (.getfield 92, 3) := by decide +kernel
theorem dX10_holds_42 : decode cX10_holds 42 = .ok (.iload 4, 2) := by decide +kernel
theorem dX10_holds_44 : decode cX10_holds 44 = .ok (.iconst 1, 1) := by decide +kernel
theorem dX10_holds_45 : decode cX10_holds 45 = .ok (.isub, 1) := by decide +kernel
theorem dX10_holds_46 : decode cX10_holds 46 = .ok (.aload_n 0, 1) := by decide +kernel
theorem dX10_holds_47 : decode cX10_holds 47 = .ok (.getfield 92, 3) := by decide +kernel
theorem dX10_holds_50 : decode cX10_holds 50 = .ok (.iload 4, 2) := by decide +kernel
theorem dX10_holds_52 : decode cX10_holds 52 = .ok (.iconst 1, 1) := by decide +kernel
theorem dX10_holds_53 : decode cX10_holds 53 = .ok (.isub, 1) := by decide +kernel
theorem dX10_holds_54 : decode cX10_holds 54 = .ok (.baload, 1) := by decide +kernel
theorem dX10_holds_55 : decode cX10_holds 55 = .ok (.ifCond .ne 7, 3) := by decide +kernel
theorem dX10_holds_58 : decode cX10_holds 58 = .ok (.iconst 1, 1) := by decide +kernel
theorem dX10_holds_59 : decode cX10_holds 59 = .ok (.goto 4, 3) := by decide +kernel
theorem dX10_holds_62 : decode cX10_holds 62 = .ok (.iconst 0, 1) := by decide +kernel
theorem dX10_holds_63 : decode cX10_holds 63 = .ok (.bastore, 1) := by decide +kernel
theorem dX10_holds_64 : decode cX10_holds 64 = .ok (.goto 183, 3) := by decide +kernel
theorem dX10_holds_67 : decode cX10_holds 67 = .ok (.iload 6, 2) := by decide +kernel
theorem dX10_holds_69 : decode cX10_holds 69 = .ok (.ifCond .ge 82, 3) := by decide +kernel
theorem dX10_holds_72 : decode cX10_holds 72 = .ok (.iinc 4 (-1), 3) := by decide +kernel
theorem dX10_holds_75 : decode cX10_holds 75 = .ok (.aload_n 0, 1) := by decide +kernel
theorem dX10_holds_76 : decode cX10_holds 76 = .ok (.getfield 92, 3) := by decide +kernel
theorem dX10_holds_79 : decode cX10_holds 79 = .ok (.iload 4, 2) := by decide +kernel
theorem dX10_holds_81 : decode cX10_holds 81 = .ok (.iconst 1, 1) := by decide +kernel
theorem dX10_holds_82 : decode cX10_holds 82 = .ok (.isub, 1) := by decide +kernel
theorem dX10_holds_83 : decode cX10_holds 83 = .ok (.iload 6, 2) := by decide +kernel
theorem dX10_holds_85 : decode cX10_holds 85 = .ok (.bipush (-38), 2) := by decide +kernel
theorem dX10_holds_87 : decode cX10_holds 87 = .ok (.if_icmp .ne 33, 3) := by decide +kernel
theorem dX10_holds_90 : decode cX10_holds 90 = .ok (.aload_n 0, 1) := by decide +kernel
theorem dX10_holds_91 : decode cX10_holds 91 = .ok (.getfield 92, 3) := by decide +kernel
theorem dX10_holds_94 : decode cX10_holds 94 = .ok (.iload 4, 2) := by decide +kernel
theorem dX10_holds_96 : decode cX10_holds 96 = .ok (.iconst 1, 1) := by decide +kernel
theorem dX10_holds_97 : decode cX10_holds 97 = .ok (.isub, 1) := by decide +kernel
theorem dX10_holds_98 : decode cX10_holds 98 = .ok (.baload, 1) := by decide +kernel
theorem dX10_holds_99 : decode cX10_holds 99 = .ok (.ifCond .eq 17, 3) := by decide +kernel
theorem dX10_holds_102 : decode cX10_holds 102 = .ok (.aload_n 0, 1) := by decide +kernel
theorem dX10_holds_103 : decode cX10_holds 103 = .ok (.getfield 92, 3) := by decide +kernel
theorem dX10_holds_106 : decode cX10_holds 106 = .ok (.iload 4, 2) := by decide +kernel
theorem dX10_holds_108 : decode cX10_holds 108 = .ok (.baload, 1) := by decide +kernel
theorem dX10_holds_109 : decode cX10_holds 109 = .ok (.ifCond .eq 7, 3) := by decide +kernel
theorem dX10_holds_112 : decode cX10_holds 112 = .ok (.iconst 1, 1) := by decide +kernel
theorem dX10_holds_113 : decode cX10_holds 113 = .ok (.goto 34, 3) := by decide +kernel
theorem dX10_holds_116 : decode cX10_holds 116 = .ok (.iconst 0, 1) := by decide +kernel
theorem dX10_holds_117 : decode cX10_holds 117 = .ok (.goto 30, 3) := by decide +kernel
theorem dX10_holds_120 : decode cX10_holds 120 = .ok (.aload_n 0, 1) := by decide +kernel
theorem dX10_holds_121 : decode cX10_holds 121 = .ok (.getfield 92, 3) := by decide +kernel
theorem dX10_holds_124 : decode cX10_holds 124 = .ok (.iload 4, 2) := by decide +kernel
theorem dX10_holds_126 : decode cX10_holds 126 = .ok (.iconst 1, 1) := by decide +kernel
theorem dX10_holds_127 : decode cX10_holds 127 = .ok (.isub, 1) := by decide +kernel
theorem dX10_holds_128 : decode cX10_holds 128 = .ok (.baload, 1) := by decide +kernel
theorem dX10_holds_129 : decode cX10_holds 129 = .ok (.ifCond .ne 13, 3) := by decide +kernel
theorem dX10_holds_132 : decode cX10_holds 132 = .ok (.aload_n 0, 1) := by decide +kernel
theorem dX10_holds_133 : decode cX10_holds 133 = .ok (.getfield 92, 3) := by decide +kernel
theorem dX10_holds_136 : decode cX10_holds 136 = .ok (.iload 4, 2) := by decide +kernel
theorem dX10_holds_138 : decode cX10_holds 138 = .ok (.baload, 1) := by decide +kernel
theorem dX10_holds_139 : decode cX10_holds 139 = .ok (.ifCond .eq 7, 3) := by decide +kernel
theorem dX10_holds_142 : decode cX10_holds 142 = .ok (.iconst 1, 1) := by decide +kernel
theorem dX10_holds_143 : decode cX10_holds 143 = .ok (.goto 4, 3) := by decide +kernel
theorem dX10_holds_146 : decode cX10_holds 146 = .ok (.iconst 0, 1) := by decide +kernel
theorem dX10_holds_147 : decode cX10_holds 147 = .ok (.bastore, 1) := by decide +kernel
theorem dX10_holds_148 : decode cX10_holds 148 = .ok (.goto 99, 3) := by decide +kernel
theorem dX10_holds_151 : decode cX10_holds 151 = .ok (.aload_n 0, 1) := by decide +kernel
theorem dX10_holds_152 : decode cX10_holds 152 = .ok (.iload 6, 2) := by decide +kernel
theorem dX10_holds_154 : decode cX10_holds 154 = .ok (.sipush 1000, 3) := by decide +kernel
theorem dX10_holds_157 : decode cX10_holds 157 = .ok (.idiv, 1) := by decide +kernel
theorem dX10_holds_158 : decode cX10_holds 158 = .ok (.iload_n 2, 1) := by decide +kernel
theorem dX10_holds_159 : decode cX10_holds 159 = .ok (.iload_n 3, 1) := by decide +kernel
theorem dX10_holds_160 : decode cX10_holds 160 = .ok (.invokevirtual 323, 3) := by decide +kernel
theorem dX10_holds_163 : decode cX10_holds 163 = .ok (.istore 7, 2) := by decide +kernel
theorem dX10_holds_165 : decode cX10_holds 165 = .ok (.iload 6, 2) := by decide +kernel
theorem dX10_holds_167 : decode cX10_holds 167 = .ok (.bipush 100, 2) := by decide +kernel
theorem dX10_holds_169 : decode cX10_holds 169 = .ok (.idiv, 1) := by decide +kernel
theorem dX10_holds_170 : decode cX10_holds 170 = .ok (.bipush 10, 2) := by decide +kernel
theorem dX10_holds_172 : decode cX10_holds 172 = .ok (.irem, 1) := by decide +kernel
theorem dX10_holds_173 : decode cX10_holds 173 = .ok (.istore 8, 2) := by decide +kernel
theorem dX10_holds_175 : decode cX10_holds 175 = .ok (.aload_n 0, 1) := by decide +kernel
theorem dX10_holds_176 : decode cX10_holds 176 = .ok (.getfield 92, 3) := by decide +kernel
theorem dX10_holds_179 : decode cX10_holds 179 = .ok (.iload 4, 2) := by decide +kernel
theorem dX10_holds_181 : decode cX10_holds 181 = .ok (.iload 8, 2) := by decide +kernel
theorem dX10_holds_183 : decode cX10_holds 183 = .ok (.ifCond .ne 21, 3) := by decide +kernel
theorem dX10_holds_186 : decode cX10_holds 186 = .ok (.iload 7, 2) := by decide +kernel
theorem dX10_holds_188 : decode cX10_holds 188 = .ok (.iload 6, 2) := by decide +kernel
theorem dX10_holds_190 : decode cX10_holds 190 = .ok (.bipush 100, 2) := by decide +kernel
theorem dX10_holds_192 : decode cX10_holds 192 = .ok (.irem, 1) := by decide +kernel
theorem dX10_holds_193 : decode cX10_holds 193 = .ok (.if_icmp .ge 7, 3) := by decide +kernel
theorem dX10_holds_196 : decode cX10_holds 196 = .ok (.iconst 1, 1) := by decide +kernel
theorem dX10_holds_197 : decode cX10_holds 197 = .ok (.goto 46, 3) := by decide +kernel
theorem dX10_holds_200 : decode cX10_holds 200 = .ok (.iconst 0, 1) := by decide +kernel
theorem dX10_holds_201 : decode cX10_holds 201 = .ok (.goto 42, 3) := by decide +kernel
theorem dX10_holds_204 : decode cX10_holds 204 = .ok (.iload 8, 2) := by decide +kernel
theorem dX10_holds_206 : decode cX10_holds 206 = .ok (.iconst 1, 1) := by decide +kernel
theorem dX10_holds_207 : decode cX10_holds 207 = .ok (.if_icmp .ne 21, 3) := by decide +kernel
theorem dX10_holds_210 : decode cX10_holds 210 = .ok (.iload 7, 2) := by decide +kernel
theorem dX10_holds_212 : decode cX10_holds 212 = .ok (.iload 6, 2) := by decide +kernel
theorem dX10_holds_214 : decode cX10_holds 214 = .ok (.bipush 100, 2) := by decide +kernel
theorem dX10_holds_216 : decode cX10_holds 216 = .ok (.irem, 1) := by decide +kernel
theorem dX10_holds_217 : decode cX10_holds 217 = .ok (.if_icmp .ne 7, 3) := by decide +kernel
theorem dX10_holds_220 : decode cX10_holds 220 = .ok (.iconst 1, 1) := by decide +kernel
theorem dX10_holds_221 : decode cX10_holds 221 = .ok (.goto 22, 3) := by decide +kernel
theorem dX10_holds_224 : decode cX10_holds 224 = .ok (.iconst 0, 1) := by decide +kernel
theorem dX10_holds_225 : decode cX10_holds 225 = .ok (.goto 18, 3) := by decide +kernel
theorem dX10_holds_228 : decode cX10_holds 228 = .ok (.iload 7, 2) := by decide +kernel
theorem dX10_holds_230 : decode cX10_holds 230 = .ok (.iload 6, 2) := by decide +kernel
theorem dX10_holds_232 : decode cX10_holds 232 = .ok (.bipush 100, 2) := by decide +kernel
theorem dX10_holds_234 : decode cX10_holds 234 = .ok (.irem, 1) := by decide +kernel
theorem dX10_holds_235 : decode cX10_holds 235 = .ok (.if_icmp .le 7, 3) := by decide +kernel
theorem dX10_holds_238 : decode cX10_holds 238 = .ok (.iconst 1, 1) := by decide +kernel
theorem dX10_holds_239 : decode cX10_holds 239 = .ok (.goto 4, 3) := by decide +kernel
theorem dX10_holds_242 : decode cX10_holds 242 = .ok (.iconst 0, 1) := by decide +kernel
theorem dX10_holds_243 : decode cX10_holds 243 = .ok (.bastore, 1) := by decide +kernel
theorem dX10_holds_244 : decode cX10_holds 244 = .ok (.iinc 4 1, 3) := by decide +kernel
theorem dX10_holds_247 : decode cX10_holds 247 = .ok (.iinc 5 1, 3) := by decide +kernel
theorem dX10_holds_250 : decode cX10_holds 250 = .ok (.goto (-239), 3) := by decide +kernel
theorem dX10_holds_253 : decode cX10_holds 253 = .ok (.aload_n 0, 1) := by decide +kernel
theorem dX10_holds_254 : decode cX10_holds 254 = .ok (.getfield 92, 3) := by decide +kernel
theorem dX10_holds_257 : decode cX10_holds 257 = .ok (.iconst 0, 1) := by decide +kernel
theorem dX10_holds_258 : decode cX10_holds 258 = .ok (.baload, 1) := by decide +kernel
theorem dX10_holds_259 : decode cX10_holds 259 = .ok (.ireturn, 1) := by decide +kernel
theorem dX10_yieldsOf_0 : decode cX10_yieldsOf 0 = .ok (.iconst 1, 1) := by decide +kernel
theorem dX10_yieldsOf_1 : decode cX10_yieldsOf 1 = .ok (.istore_n 3, 1) := by decide +kernel
theorem dX10_yieldsOf_2 : decode cX10_yieldsOf 2 = .ok (.aload_n 0, 1) := by decide +kernel
theorem dX10_yieldsOf_3 : decode cX10_yieldsOf 3 = .ok (.invokevirtual 317, 3) := by decide +kernel
theorem dX10_yieldsOf_6 : decode cX10_yieldsOf 6 = .ok (.istore 4, 2) := by decide +kernel
theorem dX10_yieldsOf_8 : decode cX10_yieldsOf 8 = .ok (.iload 4, 2) := by decide +kernel
theorem dX10_yieldsOf_10 : decode cX10_yieldsOf 10 = .ok (.aload_n 0, 1) := by decide +kernel
theorem dX10_yieldsOf_11 : decode cX10_yieldsOf 11 = .ok (.invokevirtual 320, 3) := by decide +kernel
theorem dX10_yieldsOf_14 : decode cX10_yieldsOf 14 = .ok (.if_icmp .ge 65, 3) := by decide +kernel
theorem dX10_yieldsOf_17 : decode cX10_yieldsOf 17 = .ok (.aload_n 0, 1) := by decide +kernel
theorem dX10_yieldsOf_18 : decode cX10_yieldsOf 18 = .ok (.getfield 62, 3) := by decide +kernel
theorem dX10_yieldsOf_21 : decode cX10_yieldsOf 21 = .ok (.iload 4, 2) := by decide +kernel
theorem dX10_yieldsOf_23 : decode cX10_yieldsOf 23 = .ok (.iaload, 1) := by decide +kernel
theorem dX10_yieldsOf_24 : decode cX10_yieldsOf 24 = .ok (.iconst 1, 1) := by decide +kernel
theorem dX10_yieldsOf_25 : decode cX10_yieldsOf 25 = .ok (.if_icmp .gt 48, 3) := by decide +kernel
theorem dX10_yieldsOf_28 : decode cX10_yieldsOf 28 = .ok (.aload_n 0, 1) := by decide +kernel
theorem dX10_yieldsOf_29 : decode cX10_yieldsOf 29 = .ok (.iload 4, 2) := by decide +kernel
theorem dX10_yieldsOf_31 : decode cX10_yieldsOf 31 = .ok (.iload_n 1, 1) := by decide +kernel
theorem dX10_yieldsOf_32 : decode cX10_yieldsOf 32 = .ok (.iload_n 2, 1) := by decide +kernel
theorem dX10_yieldsOf_33 : decode cX10_yieldsOf 33 = .ok (.invokevirtual 327, 3) := by decide +kernel
theorem dX10_yieldsOf_36 : decode cX10_yieldsOf 36 = .ok (.ifCond .ne 6, 3) := by decide +kernel
theorem dX10_yieldsOf_39 : decode cX10_yieldsOf 39 = .ok (.goto 34, 3) := by decide +kernel
theorem dX10_yieldsOf_42 : decode cX10_yieldsOf 42 = .ok (.iload_n 3, 1) := by decide +kernel
theorem dX10_yieldsOf_43 : decode cX10_yieldsOf 43 = .ok (.aload_n 0, 1) := by decide +kernel
theorem dX10_yieldsOf_44 : decode cX10_yieldsOf 44 = .ok (.getfield 62, 3) := by decide +kernel
theorem dX10_yieldsOf_47 : decode cX10_yieldsOf 47 = .ok (.iload 4, 2) := by decide +kernel
theorem dX10_yieldsOf_49 : decode cX10_yieldsOf 49 = .ok (.iaload, 1) := by decide +kernel
theorem dX10_yieldsOf_50 : decode cX10_yieldsOf 50 = .ok (.ifCond .ne 13, 3) := by decide +kernel
theorem dX10_yieldsOf_53 : decode cX10_yieldsOf 53 = .ok (.aload_n 0, 1) := by decide +kernel
theorem dX10_yieldsOf_54 : decode cX10_yieldsOf 54 = .ok (.getfield 65, 3) := by decide +kernel
theorem dX10_yieldsOf_57 : decode cX10_yieldsOf 57 = .ok (.iload 4, 2) := by decide +kernel
theorem dX10_yieldsOf_59 : decode cX10_yieldsOf 59 = .ok (.iaload, 1) := by decide +kernel
theorem dX10_yieldsOf_60 : decode cX10_yieldsOf 60 = .ok (.goto 11, 3) := by decide +kernel
theorem dX10_yieldsOf_63 : decode cX10_yieldsOf 63 = .ok (.aload_n 0, 1) := by decide +kernel
theorem dX10_yieldsOf_64 : decode cX10_yieldsOf 64 = .ok (.getfield 65, 3) := by decide +kernel
theorem dX10_yieldsOf_67 : decode cX10_yieldsOf 67 = .ok (.iload 4, 2) := by decide +kernel
theorem dX10_yieldsOf_69 : decode cX10_yieldsOf 69 = .ok (.iaload, 1) := by decide +kernel
theorem dX10_yieldsOf_70 : decode cX10_yieldsOf 70 = .ok (.ineg, 1) := by decide +kernel
theorem dX10_yieldsOf_71 : decode cX10_yieldsOf 71 = .ok (.iadd, 1) := by decide +kernel
theorem dX10_yieldsOf_72 : decode cX10_yieldsOf 72 = .ok (.istore_n 3, 1) := by decide +kernel
theorem dX10_yieldsOf_73 : decode cX10_yieldsOf 73 = .ok (.iinc 4 1, 3) := by decide +kernel
theorem dX10_yieldsOf_76 : decode cX10_yieldsOf 76 = .ok (.goto (-68), 3) := by decide +kernel
theorem dX10_yieldsOf_79 : decode cX10_yieldsOf 79 = .ok (.iload_n 3, 1) := by decide +kernel
theorem dX10_yieldsOf_80 : decode cX10_yieldsOf 80 = .ok (.ifCond .ge 7, 3) := by decide +kernel
theorem dX10_yieldsOf_83 : decode cX10_yieldsOf 83 = .ok (.iconst 0, 1) := by decide +kernel
theorem dX10_yieldsOf_84 : decode cX10_yieldsOf 84 = .ok (.goto 4, 3) := by decide +kernel
theorem dX10_yieldsOf_87 : decode cX10_yieldsOf 87 = .ok (.iload_n 3, 1) := by decide +kernel
theorem dX10_yieldsOf_88 : decode cX10_yieldsOf 88 = .ok (.ireturn, 1) := by decide +kernel
theorem dX10_isFree_0 : decode cX10_isFree 0 = .ok (.aload_n 0, 1) := by decide +kernel
theorem dX10_isFree_1 : decode cX10_isFree 1 = .ok (.getfield 26, 3) := by decide +kernel
theorem dX10_isFree_4 : decode cX10_isFree 4 = .ok (.iload_n 1, 1) := by decide +kernel
theorem dX10_isFree_5 : decode cX10_isFree 5 = .ok (.iaload, 1) := by decide +kernel
theorem dX10_isFree_6 : decode cX10_isFree 6 = .ok (.iconst 2, 1) := by decide +kernel
theorem dX10_isFree_7 : decode cX10_isFree 7 = .ok (.if_icmp .eq 25, 3) := by decide +kernel
theorem dX10_isFree_10 : decode cX10_isFree 10 = .ok (.aload_n 0, 1) := by decide +kernel
theorem dX10_isFree_11 : decode cX10_isFree 11 = .ok (.getfield 26, 3) := by decide +kernel
theorem dX10_isFree_14 : decode cX10_isFree 14 = .ok (.iload_n 1, 1) := by decide +kernel
theorem dX10_isFree_15 : decode cX10_isFree 15 = .ok (.iaload, 1) := by decide +kernel
theorem dX10_isFree_16 : decode cX10_isFree 16 = .ok (.iconst 5, 1) := by decide +kernel
theorem dX10_isFree_17 : decode cX10_isFree 17 = .ok (.if_icmp .eq 15, 3) := by decide +kernel
theorem dX10_isFree_20 : decode cX10_isFree 20 = .ok (.aload_n 0, 1) := by decide +kernel
theorem dX10_isFree_21 : decode cX10_isFree 21 = .ok (.aload_n 0, 1) := by decide +kernel
theorem dX10_isFree_22 : decode cX10_isFree 22 = .ok (.getfield 16, 3) := by decide +kernel
theorem dX10_isFree_25 : decode cX10_isFree 25 = .ok (.iload_n 2, 1) := by decide +kernel
theorem dX10_isFree_26 : decode cX10_isFree 26 = .ok (.invokevirtual 245, 3) := by decide +kernel
theorem dX10_isFree_29 : decode cX10_isFree 29 = .ok (.ifCond .ne 7, 3) := by decide +kernel
theorem dX10_isFree_32 : decode cX10_isFree 32 = .ok (.iconst 1, 1) := by decide +kernel
theorem dX10_isFree_33 : decode cX10_isFree 33 = .ok (.goto 4, 3) := by decide +kernel
theorem dX10_isFree_36 : decode cX10_isFree 36 = .ok (.iconst 0, 1) := by decide +kernel
theorem dX10_isFree_37 : decode cX10_isFree 37 = .ok (.ireturn, 1) := by decide +kernel
theorem dX10_layFar_0 : decode cX10_layFar 0 = .ok (.iconst 0, 1) := by decide +kernel
theorem dX10_layFar_1 : decode cX10_layFar 1 = .ok (.istore_n 2, 1) := by decide +kernel
theorem dX10_layFar_2 : decode cX10_layFar 2 = .ok (.iload_n 2, 1) := by decide +kernel
theorem dX10_layFar_3 : decode cX10_layFar 3 = .ok (.bipush 16, 2) := by decide +kernel
theorem dX10_layFar_5 : decode cX10_layFar 5 = .ok (.if_icmp .ge 17, 3) := by decide +kernel
theorem dX10_layFar_8 : decode cX10_layFar 8 = .ok (.aload_n 0, 1) := by decide +kernel
theorem dX10_layFar_9 : decode cX10_layFar 9 = .ok (.getfield 96, 3) := by decide +kernel
theorem dX10_layFar_12 : decode cX10_layFar 12 = .ok (.iload_n 2, 1) := by decide +kernel
theorem dX10_layFar_13 : decode cX10_layFar 13 = .ok (.bipush (-5), 2) := by decide +kernel
theorem dX10_layFar_15 : decode cX10_layFar 15 = .ok (.iastore, 1) := by decide +kernel
theorem dX10_layFar_16 : decode cX10_layFar 16 = .ok (.iinc 2 1, 3) := by decide +kernel
theorem dX10_layFar_19 : decode cX10_layFar 19 = .ok (.goto (-17), 3) := by decide +kernel
theorem dX10_layFar_22 : decode cX10_layFar 22 = .ok (.iconst 0, 1) := by decide +kernel
theorem dX10_layFar_23 : decode cX10_layFar 23 = .ok (.istore_n 2, 1) := by decide +kernel
theorem dX10_layFar_24 : decode cX10_layFar 24 = .ok (.aload_n 0, 1) := by decide +kernel
theorem dX10_layFar_25 : decode cX10_layFar 25 = .ok (.iload_n 1, 1) := by decide +kernel
theorem dX10_layFar_26 : decode cX10_layFar 26 = .ok (.aload_n 0, 1) := by decide +kernel
theorem dX10_layFar_27 : decode cX10_layFar 27 = .ok (.getfield 35, 3) := by decide +kernel
theorem dX10_layFar_30 : decode cX10_layFar 30 = .ok (.iload_n 1, 1) := by decide +kernel
theorem dX10_layFar_31 : decode cX10_layFar 31 = .ok (.iaload, 1) := by decide +kernel
theorem dX10_layFar_32 : decode cX10_layFar 32 = .ok (.invokevirtual 330, 3) := by decide +kernel
theorem dX10_layFar_35 : decode cX10_layFar 35 = .ok (.ifCond .eq 29, 3) := by decide +kernel
theorem dX10_layFar_38 : decode cX10_layFar 38 = .ok (.aload_n 0, 1) := by decide +kernel
theorem dX10_layFar_39 : decode cX10_layFar 39 = .ok (.getfield 96, 3) := by decide +kernel
theorem dX10_layFar_42 : decode cX10_layFar 42 = .ok (.aload_n 0, 1) := by decide +kernel
theorem dX10_layFar_43 : decode cX10_layFar 43 = .ok (.getfield 35, 3) := by decide +kernel
theorem dX10_layFar_46 : decode cX10_layFar 46 = .ok (.iload_n 1, 1) := by decide +kernel
theorem dX10_layFar_47 : decode cX10_layFar 47 = .ok (.iaload, 1) := by decide +kernel
theorem dX10_layFar_48 : decode cX10_layFar 48 = .ok (.iconst 0, 1) := by decide +kernel
theorem dX10_layFar_49 : decode cX10_layFar 49 = .ok (.iastore, 1) := by decide +kernel
theorem dX10_layFar_50 : decode cX10_layFar 50 = .ok (.aload_n 0, 1) := by decide +kernel
theorem dX10_layFar_51 : decode cX10_layFar 51 = .ok (.getfield 99, 3) := by decide +kernel
theorem dX10_layFar_54 : decode cX10_layFar 54 = .ok (.iconst 0, 1) := by decide +kernel
theorem dX10_layFar_55 : decode cX10_layFar 55 = .ok (.aload_n 0, 1) := by decide +kernel
theorem dX10_layFar_56 : decode cX10_layFar 56 = .ok (.getfield 35, 3) := by decide +kernel
theorem dX10_layFar_59 : decode cX10_layFar 59 = .ok (.iload_n 1, 1) := by decide +kernel
theorem dX10_layFar_60 : decode cX10_layFar 60 = .ok (.iaload, 1) := by decide +kernel
theorem dX10_layFar_61 : decode cX10_layFar 61 = .ok (.iastore, 1) := by decide +kernel
theorem dX10_layFar_62 : decode cX10_layFar 62 = .ok (.iconst 1, 1) := by decide +kernel
theorem dX10_layFar_63 : decode cX10_layFar 63 = .ok (.istore_n 2, 1) := by decide +kernel
theorem dX10_layFar_64 : decode cX10_layFar 64 = .ok (.iconst 0, 1) := by decide +kernel
theorem dX10_layFar_65 : decode cX10_layFar 65 = .ok (.istore_n 3, 1) := by decide +kernel
theorem dX10_layFar_66 : decode cX10_layFar 66 = .ok (.iload_n 3, 1) := by decide +kernel
theorem dX10_layFar_67 : decode cX10_layFar 67 = .ok (.iload_n 2, 1) := by decide +kernel
theorem dX10_layFar_68 : decode cX10_layFar 68 = .ok (.if_icmp .ge 94, 3) := by decide +kernel
theorem dX10_layFar_71 : decode cX10_layFar 71 = .ok (.aload_n 0, 1) := by decide +kernel
theorem dX10_layFar_72 : decode cX10_layFar 72 = .ok (.getfield 99, 3) := by decide +kernel
theorem dX10_layFar_75 : decode cX10_layFar 75 = .ok (.iload_n 3, 1) := by decide +kernel
theorem dX10_layFar_76 : decode cX10_layFar 76 = .ok (.iaload, 1) := by decide +kernel
theorem dX10_layFar_77 : decode cX10_layFar 77 = .ok (.istore 4, 2) := by decide +kernel
theorem dX10_layFar_79 : decode cX10_layFar 79 = .ok (.iconst 0, 1) := by decide +kernel
theorem dX10_layFar_80 : decode cX10_layFar 80 = .ok (.istore 5, 2) := by decide +kernel
theorem dX10_layFar_82 : decode cX10_layFar 82 = .ok (.iload 5, 2) := by decide +kernel
theorem dX10_layFar_84 : decode cX10_layFar 84 = .ok (.bipush 16, 2) := by decide +kernel
theorem dX10_layFar_86 : decode cX10_layFar 86 = .ok (.if_icmp .ge 70, 3) := by decide +kernel
theorem dX10_layFar_89 : decode cX10_layFar 89 = .ok (.aload_n 0, 1) := by decide +kernel
theorem dX10_layFar_90 : decode cX10_layFar 90 = .ok (.iload 4, 2) := by decide +kernel
theorem dX10_layFar_92 : decode cX10_layFar 92 = .ok (.iload 5, 2) := by decide +kernel
theorem dX10_layFar_94 : decode cX10_layFar 94 = .ok (.invokevirtual 333, 3) := by decide +kernel
theorem dX10_layFar_97 : decode cX10_layFar 97 = .ok (.ifCond .eq 53, 3) := by decide +kernel
theorem dX10_layFar_100 : decode cX10_layFar 100 = .ok (.aload_n 0, 1) := by decide +kernel
theorem dX10_layFar_101 : decode cX10_layFar 101 = .ok (.getfield 96, 3) := by decide +kernel
theorem dX10_layFar_104 : decode cX10_layFar 104 = .ok (.iload 5, 2) := by decide +kernel
theorem dX10_layFar_106 : decode cX10_layFar 106 = .ok (.iaload, 1) := by decide +kernel
theorem dX10_layFar_107 : decode cX10_layFar 107 = .ok (.ifCond .ge 43, 3) := by decide +kernel
theorem dX10_layFar_110 : decode cX10_layFar 110 = .ok (.aload_n 0, 1) := by decide +kernel
theorem dX10_layFar_111 : decode cX10_layFar 111 = .ok (.iload_n 1, 1) := by decide +kernel
theorem dX10_layFar_112 : decode cX10_layFar 112 = .ok (.iload 5, 2) := by decide +kernel
theorem dX10_layFar_114 : decode cX10_layFar 114 = .ok (.invokevirtual 330, 3) := by decide +kernel
theorem dX10_layFar_117 : decode cX10_layFar 117 = .ok (.ifCond .ne 6, 3) := by decide +kernel
theorem dX10_layFar_120 : decode cX10_layFar 120 = .ok (.goto 30, 3) := by decide +kernel
theorem dX10_layFar_123 : decode cX10_layFar 123 = .ok (.aload_n 0, 1) := by decide +kernel
theorem dX10_layFar_124 : decode cX10_layFar 124 = .ok (.getfield 96, 3) := by decide +kernel
theorem dX10_layFar_127 : decode cX10_layFar 127 = .ok (.iload 5, 2) := by decide +kernel
theorem dX10_layFar_129 : decode cX10_layFar 129 = .ok (.aload_n 0, 1) := by decide +kernel
theorem dX10_layFar_130 : decode cX10_layFar 130 = .ok (.getfield 96, 3) := by decide +kernel
theorem dX10_layFar_133 : decode cX10_layFar 133 = .ok (.iload 4, 2) := by decide +kernel
theorem dX10_layFar_135 : decode cX10_layFar 135 = .ok (.iaload, 1) := by decide +kernel
theorem dX10_layFar_136 : decode cX10_layFar 136 = .ok (.iconst 1, 1) := by decide +kernel
theorem dX10_layFar_137 : decode cX10_layFar 137 = .ok (.iadd, 1) := by decide +kernel
theorem dX10_layFar_138 : decode cX10_layFar 138 = .ok (.iastore, 1) := by decide +kernel
theorem dX10_layFar_139 : decode cX10_layFar 139 = .ok (.aload_n 0, 1) := by decide +kernel
theorem dX10_layFar_140 : decode cX10_layFar 140 = .ok (.getfield 99, 3) := by decide +kernel
theorem dX10_layFar_143 : decode cX10_layFar 143 = .ok (.iload_n 2, 1) := by decide +kernel
theorem dX10_layFar_144 : decode cX10_layFar 144 = .ok (.iload 5, 2) := by decide +kernel
theorem dX10_layFar_146 : decode cX10_layFar 146 = .ok (.iastore, 1) := by decide +kernel
theorem dX10_layFar_147 : decode cX10_layFar 147 = .ok (.iinc 2 1, 3) := by decide +kernel
theorem dX10_layFar_150 : decode cX10_layFar 150 = .ok (.iinc 5 1, 3) := by decide +kernel
theorem dX10_layFar_153 : decode cX10_layFar 153 = .ok (.goto (-71), 3) := by decide +kernel
theorem dX10_layFar_156 : decode cX10_layFar 156 = .ok (.iinc 3 1, 3) := by decide +kernel
theorem dX10_layFar_159 : decode cX10_layFar 159 = .ok (.goto (-93), 3) := by decide +kernel
theorem dX10_layFar_162 : decode cX10_layFar 162 = .ok (.return_, 1) := by decide +kernel
theorem dX10_layWay_0 : decode cX10_layWay 0 = .ok (.aload_n 0, 1) := by decide +kernel
theorem dX10_layWay_1 : decode cX10_layWay 1 = .ok (.iload_n 1, 1) := by decide +kernel
theorem dX10_layWay_2 : decode cX10_layWay 2 = .ok (.invokevirtual 336, 3) := by decide +kernel
theorem dX10_layWay_5 : decode cX10_layWay 5 = .ok (.aload_n 0, 1) := by decide +kernel
theorem dX10_layWay_6 : decode cX10_layWay 6 = .ok (.iconst 0, 1) := by decide +kernel
theorem dX10_layWay_7 : decode cX10_layWay 7 = .ok (.putfield 105, 3) := by decide +kernel
theorem dX10_layWay_10 : decode cX10_layWay 10 = .ok (.aload_n 0, 1) := by decide +kernel
theorem dX10_layWay_11 : decode cX10_layWay 11 = .ok (.getfield 32, 3) := by decide +kernel
theorem dX10_layWay_14 : decode cX10_layWay 14 = .ok (.iload_n 1, 1) := by decide +kernel
theorem dX10_layWay_15 : decode cX10_layWay 15 = .ok (.iaload, 1) := by decide +kernel
theorem dX10_layWay_16 : decode cX10_layWay 16 = .ok (.istore_n 2, 1) := by decide +kernel
theorem dX10_layWay_17 : decode cX10_layWay 17 = .ok (.aload_n 0, 1) := by decide +kernel
theorem dX10_layWay_18 : decode cX10_layWay 18 = .ok (.getfield 96, 3) := by decide +kernel
theorem dX10_layWay_21 : decode cX10_layWay 21 = .ok (.iload_n 2, 1) := by decide +kernel
theorem dX10_layWay_22 : decode cX10_layWay 22 = .ok (.iaload, 1) := by decide +kernel
theorem dX10_layWay_23 : decode cX10_layWay 23 = .ok (.ifCond .ge 4, 3) := by decide +kernel
theorem dX10_layWay_26 : decode cX10_layWay 26 = .ok (.return_, 1) := by decide +kernel
theorem dX10_layWay_27 : decode cX10_layWay 27 = .ok (.aload_n 0, 1) := by decide +kernel
theorem dX10_layWay_28 : decode cX10_layWay 28 = .ok (.getfield 102, 3) := by decide +kernel
theorem dX10_layWay_31 : decode cX10_layWay 31 = .ok (.aload_n 0, 1) := by decide +kernel
theorem dX10_layWay_32 : decode cX10_layWay 32 = .ok (.getfield 105, 3) := by decide +kernel
theorem dX10_layWay_35 : decode cX10_layWay 35 = .ok (.iload_n 2, 1) := by decide +kernel
theorem dX10_layWay_36 : decode cX10_layWay 36 = .ok (.iastore, 1) := by decide +kernel
theorem dX10_layWay_37 : decode cX10_layWay 37 = .ok (.aload_n 0, 1) := by decide +kernel
theorem dX10_layWay_38 : decode cX10_layWay 38 = .ok (.dup, 1) := by decide +kernel
theorem dX10_layWay_39 : decode cX10_layWay 39 = .ok (.getfield 105, 3) := by decide +kernel
theorem dX10_layWay_42 : decode cX10_layWay 42 = .ok (.iconst 1, 1) := by decide +kernel
theorem dX10_layWay_43 : decode cX10_layWay 43 = .ok (.iadd, 1) := by decide +kernel
theorem dX10_layWay_44 : decode cX10_layWay 44 = .ok (.putfield 105, 3) := by decide +kernel
theorem dX10_layWay_47 : decode cX10_layWay 47 = .ok (.aload_n 0, 1) := by decide +kernel
theorem dX10_layWay_48 : decode cX10_layWay 48 = .ok (.getfield 96, 3) := by decide +kernel
theorem dX10_layWay_51 : decode cX10_layWay 51 = .ok (.iload_n 2, 1) := by decide +kernel
theorem dX10_layWay_52 : decode cX10_layWay 52 = .ok (.iaload, 1) := by decide +kernel
theorem dX10_layWay_53 : decode cX10_layWay 53 = .ok (.ifCond .ne 4, 3) := by decide +kernel
theorem dX10_layWay_56 : decode cX10_layWay 56 = .ok (.return_, 1) := by decide +kernel
theorem dX10_layWay_57 : decode cX10_layWay 57 = .ok (.iconst 0, 1) := by decide +kernel
theorem dX10_layWay_58 : decode cX10_layWay 58 = .ok (.istore_n 3, 1) := by decide +kernel
theorem dX10_layWay_59 : decode cX10_layWay 59 = .ok (.aload_n 0, 1) := by decide +kernel
theorem dX10_layWay_60 : decode cX10_layWay 60 = .ok (.iload_n 2, 1) := by decide +kernel
theorem dX10_layWay_61 : decode cX10_layWay 61 = .ok (.iload_n 3, 1) := by decide +kernel
theorem dX10_layWay_62 : decode cX10_layWay 62 = .ok (.invokevirtual 333, 3) := by decide +kernel
theorem dX10_layWay_65 : decode cX10_layWay 65 = .ok (.ifCond .eq 20, 3) := by decide +kernel
theorem dX10_layWay_68 : decode cX10_layWay 68 = .ok (.aload_n 0, 1) := by decide +kernel
theorem dX10_layWay_69 : decode cX10_layWay 69 = .ok (.getfield 96, 3) := by decide +kernel
theorem dX10_layWay_72 : decode cX10_layWay 72 = .ok (.iload_n 3, 1) := by decide +kernel
theorem dX10_layWay_73 : decode cX10_layWay 73 = .ok (.iaload, 1) := by decide +kernel
theorem dX10_layWay_74 : decode cX10_layWay 74 = .ok (.aload_n 0, 1) := by decide +kernel
theorem dX10_layWay_75 : decode cX10_layWay 75 = .ok (.getfield 96, 3) := by decide +kernel
theorem dX10_layWay_78 : decode cX10_layWay 78 = .ok (.iload_n 2, 1) := by decide +kernel
theorem dX10_layWay_79 : decode cX10_layWay 79 = .ok (.iaload, 1) := by decide +kernel
theorem dX10_layWay_80 : decode cX10_layWay 80 = .ok (.iconst 1, 1) := by decide +kernel
theorem dX10_layWay_81 : decode cX10_layWay 81 = .ok (.isub, 1) := by decide +kernel
theorem dX10_layWay_82 : decode cX10_layWay 82 = .ok (.if_icmp .eq 9, 3) := by decide +kernel
theorem dX10_layWay_85 : decode cX10_layWay 85 = .ok (.iinc 3 1, 3) := by decide +kernel
theorem dX10_layWay_88 : decode cX10_layWay 88 = .ok (.goto (-29), 3) := by decide +kernel
theorem dX10_layWay_91 : decode cX10_layWay 91 = .ok (.iload_n 3, 1) := by decide +kernel
theorem dX10_layWay_92 : decode cX10_layWay 92 = .ok (.istore_n 2, 1) := by decide +kernel
theorem dX10_layWay_93 : decode cX10_layWay 93 = .ok (.goto (-66), 3) := by decide +kernel
theorem dX10_waySet_0 : decode cX10_waySet 0 = .ok (.aload_n 0, 1) := by decide +kernel
theorem dX10_waySet_1 : decode cX10_waySet 1 = .ok (.iload_n 1, 1) := by decide +kernel
theorem dX10_waySet_2 : decode cX10_waySet 2 = .ok (.invokevirtual 339, 3) := by decide +kernel
theorem dX10_waySet_5 : decode cX10_waySet 5 = .ok (.iconst 0, 1) := by decide +kernel
theorem dX10_waySet_6 : decode cX10_waySet 6 = .ok (.istore_n 2, 1) := by decide +kernel
theorem dX10_waySet_7 : decode cX10_waySet 7 = .ok (.iconst 0, 1) := by decide +kernel
theorem dX10_waySet_8 : decode cX10_waySet 8 = .ok (.istore_n 3, 1) := by decide +kernel
theorem dX10_waySet_9 : decode cX10_waySet 9 = .ok (.iload_n 3, 1) := by decide +kernel
theorem dX10_waySet_10 : decode cX10_waySet 10 = .ok (.aload_n 0, 1) := by decide +kernel
theorem dX10_waySet_11 : decode cX10_waySet 11 = .ok (.getfield 105, 3) := by decide +kernel
theorem dX10_waySet_14 : decode cX10_waySet 14 = .ok (.if_icmp .ge 20, 3) := by decide +kernel
theorem dX10_waySet_17 : decode cX10_waySet 17 = .ok (.iload_n 2, 1) := by decide +kernel
theorem dX10_waySet_18 : decode cX10_waySet 18 = .ok (.iconst 1, 1) := by decide +kernel
theorem dX10_waySet_19 : decode cX10_waySet 19 = .ok (.aload_n 0, 1) := by decide +kernel
theorem dX10_waySet_20 : decode cX10_waySet 20 = .ok (.getfield 102, 3) := by decide +kernel
theorem dX10_waySet_23 : decode cX10_waySet 23 = .ok (.iload_n 3, 1) := by decide +kernel
theorem dX10_waySet_24 : decode cX10_waySet 24 = .ok (.iaload, 1) := by decide +kernel
theorem dX10_waySet_25 : decode cX10_waySet 25 = .ok (.ishl, 1) := by decide +kernel
theorem dX10_waySet_26 : decode cX10_waySet 26 = .ok (.ior, 1) := by decide +kernel
theorem dX10_waySet_27 : decode cX10_waySet 27 = .ok (.istore_n 2, 1) := by decide +kernel
theorem dX10_waySet_28 : decode cX10_waySet 28 = .ok (.iinc 3 1, 3) := by decide +kernel
theorem dX10_waySet_31 : decode cX10_waySet 31 = .ok (.goto (-22), 3) := by decide +kernel
theorem dX10_waySet_34 : decode cX10_waySet 34 = .ok (.iload_n 2, 1) := by decide +kernel
theorem dX10_waySet_35 : decode cX10_waySet 35 = .ok (.ireturn, 1) := by decide +kernel
theorem dX10_treadsBy_0 : decode cX10_treadsBy 0 = .ok (.iload_n 2, 1) := by decide +kernel
theorem dX10_treadsBy_1 : decode cX10_treadsBy 1 = .ok (.ifCond .ne 5, 3) := by decide +kernel
theorem dX10_treadsBy_4 : decode cX10_treadsBy 4 = .ok (.iconst 0, 1) := by decide +kernel
theorem dX10_treadsBy_5 : decode cX10_treadsBy 5 = .ok (.ireturn, 1) := by decide +kernel
theorem dX10_treadsBy_6 : decode cX10_treadsBy 6 = .ok (.aload_n 0, 1) := by decide +kernel
theorem dX10_treadsBy_7 : decode cX10_treadsBy 7 = .ok (.iload_n 2, 1) := by decide +kernel
theorem dX10_treadsBy_8 : decode cX10_treadsBy 8 = .ok (.iload_n 3, 1) := by decide +kernel
theorem dX10_treadsBy_9 : decode cX10_treadsBy 9 = .ok (.invokevirtual 245, 3) := by decide +kernel
theorem dX10_treadsBy_12 : decode cX10_treadsBy 12 = .ok (.ifCond .eq 7, 3) := by decide +kernel
theorem dX10_treadsBy_15 : decode cX10_treadsBy 15 = .ok (.iconst 1, 1) := by decide +kernel
theorem dX10_treadsBy_16 : decode cX10_treadsBy 16 = .ok (.goto 4, 3) := by decide +kernel
theorem dX10_treadsBy_19 : decode cX10_treadsBy 19 = .ok (.iconst 0, 1) := by decide +kernel
theorem dX10_treadsBy_20 : decode cX10_treadsBy 20 = .ok (.istore 5, 2) := by decide +kernel
theorem dX10_treadsBy_22 : decode cX10_treadsBy 22 = .ok (.aload_n 0, 1) := by decide +kernel
theorem dX10_treadsBy_23 : decode cX10_treadsBy 23 = .ok (.getfield 26, 3) := by decide +kernel
theorem dX10_treadsBy_26 : decode cX10_treadsBy 26 = .ok (.iload_n 1, 1) := by decide +kernel
theorem dX10_treadsBy_27 : decode cX10_treadsBy 27 = .ok (.iaload, 1) := by decide +kernel
theorem dX10_treadsBy_28 : decode cX10_treadsBy 28 = .ok (.tableswitch 152 1 6 #[40, 152, 45, 60, 86, 109], 40) := by decide +kernel
theorem dX10_treadsBy_68 : decode cX10_treadsBy 68 = .ok (.iconst 2, 1) := by decide +kernel
theorem dX10_treadsBy_69 : decode cX10_treadsBy 69 = .ok (.iload 5, 2) := by decide +kernel
theorem dX10_treadsBy_71 : decode cX10_treadsBy 71 = .ok (.imul, 1) := by decide +kernel
theorem dX10_treadsBy_72 : decode cX10_treadsBy 72 = .ok (.ireturn, 1) := by decide +kernel
theorem dX10_treadsBy_73 : decode cX10_treadsBy 73 = .ok (.iload 4, 2) := by decide +kernel
theorem dX10_treadsBy_75 : decode cX10_treadsBy 75 = .ok (.iconst 2, 1) := by decide +kernel
theorem dX10_treadsBy_76 : decode cX10_treadsBy 76 = .ok (.irem, 1) := by decide +kernel
theorem dX10_treadsBy_77 : decode cX10_treadsBy 77 = .ok (.iconst 1, 1) := by decide +kernel
theorem dX10_treadsBy_78 : decode cX10_treadsBy 78 = .ok (.if_icmp .ne 8, 3) := by decide +kernel
theorem dX10_treadsBy_81 : decode cX10_treadsBy 81 = .ok (.iload 5, 2) := by decide +kernel
theorem dX10_treadsBy_83 : decode cX10_treadsBy 83 = .ok (.goto 4, 3) := by decide +kernel
theorem dX10_treadsBy_86 : decode cX10_treadsBy 86 = .ok (.iconst 0, 1) := by decide +kernel
theorem dX10_treadsBy_87 : decode cX10_treadsBy 87 = .ok (.ireturn, 1) := by decide +kernel
theorem dX10_treadsBy_88 : decode cX10_treadsBy 88 = .ok (.iconst 2, 1) := by decide +kernel
theorem dX10_treadsBy_89 : decode cX10_treadsBy 89 = .ok (.iload 5, 2) := by decide +kernel
theorem dX10_treadsBy_91 : decode cX10_treadsBy 91 = .ok (.imul, 1) := by decide +kernel
theorem dX10_treadsBy_92 : decode cX10_treadsBy 92 = .ok (.iload_n 3, 1) := by decide +kernel
theorem dX10_treadsBy_93 : decode cX10_treadsBy 93 = .ok (.aload_n 0, 1) := by decide +kernel
theorem dX10_treadsBy_94 : decode cX10_treadsBy 94 = .ok (.getfield 35, 3) := by decide +kernel
theorem dX10_treadsBy_97 : decode cX10_treadsBy 97 = .ok (.iload_n 1, 1) := by decide +kernel
theorem dX10_treadsBy_98 : decode cX10_treadsBy 98 = .ok (.iaload, 1) := by decide +kernel
theorem dX10_treadsBy_99 : decode cX10_treadsBy 99 = .ok (.if_icmp .ne 12, 3) := by decide +kernel
theorem dX10_treadsBy_102 : decode cX10_treadsBy 102 = .ok (.aload_n 0, 1) := by decide +kernel
theorem dX10_treadsBy_103 : decode cX10_treadsBy 103 = .ok (.getfield 29, 3) := by decide +kernel
theorem dX10_treadsBy_106 : decode cX10_treadsBy 106 = .ok (.iload_n 1, 1) := by decide +kernel
theorem dX10_treadsBy_107 : decode cX10_treadsBy 107 = .ok (.iaload, 1) := by decide +kernel
theorem dX10_treadsBy_108 : decode cX10_treadsBy 108 = .ok (.goto 4, 3) := by decide +kernel
theorem dX10_treadsBy_111 : decode cX10_treadsBy 111 = .ok (.iconst 0, 1) := by decide +kernel
theorem dX10_treadsBy_112 : decode cX10_treadsBy 112 = .ok (.iadd, 1) := by decide +kernel
theorem dX10_treadsBy_113 : decode cX10_treadsBy 113 = .ok (.ireturn, 1) := by decide +kernel
theorem dX10_treadsBy_114 : decode cX10_treadsBy 114 = .ok (.iload 5, 2) := by decide +kernel
theorem dX10_treadsBy_116 : decode cX10_treadsBy 116 = .ok (.aload_n 0, 1) := by decide +kernel
theorem dX10_treadsBy_117 : decode cX10_treadsBy 117 = .ok (.iload_n 3, 1) := by decide +kernel
theorem dX10_treadsBy_118 : decode cX10_treadsBy 118 = .ok (.aload_n 0, 1) := by decide +kernel
theorem dX10_treadsBy_119 : decode cX10_treadsBy 119 = .ok (.getfield 35, 3) := by decide +kernel
theorem dX10_treadsBy_122 : decode cX10_treadsBy 122 = .ok (.iload_n 1, 1) := by decide +kernel
theorem dX10_treadsBy_123 : decode cX10_treadsBy 123 = .ok (.iaload, 1) := by decide +kernel
theorem dX10_treadsBy_124 : decode cX10_treadsBy 124 = .ok (.invokevirtual 333, 3) := by decide +kernel
theorem dX10_treadsBy_127 : decode cX10_treadsBy 127 = .ok (.ifCond .eq 7, 3) := by decide +kernel
theorem dX10_treadsBy_130 : decode cX10_treadsBy 130 = .ok (.iconst 1, 1) := by decide +kernel
theorem dX10_treadsBy_131 : decode cX10_treadsBy 131 = .ok (.goto 4, 3) := by decide +kernel
theorem dX10_treadsBy_134 : decode cX10_treadsBy 134 = .ok (.iconst 0, 1) := by decide +kernel
theorem dX10_treadsBy_135 : decode cX10_treadsBy 135 = .ok (.iadd, 1) := by decide +kernel
theorem dX10_treadsBy_136 : decode cX10_treadsBy 136 = .ok (.ireturn, 1) := by decide +kernel
theorem dX10_treadsBy_137 : decode cX10_treadsBy 137 = .ok (.iload 4, 2) := by decide +kernel
theorem dX10_treadsBy_139 : decode cX10_treadsBy 139 = .ok (.iconst 2, 1) := by decide +kernel
theorem dX10_treadsBy_140 : decode cX10_treadsBy 140 = .ok (.irem, 1) := by decide +kernel
theorem dX10_treadsBy_141 : decode cX10_treadsBy 141 = .ok (.iconst 1, 1) := by decide +kernel
theorem dX10_treadsBy_142 : decode cX10_treadsBy 142 = .ok (.if_icmp .ne 8, 3) := by decide +kernel
theorem dX10_treadsBy_145 : decode cX10_treadsBy 145 = .ok (.iload 5, 2) := by decide +kernel
theorem dX10_treadsBy_147 : decode cX10_treadsBy 147 = .ok (.goto 4, 3) := by decide +kernel
theorem dX10_treadsBy_150 : decode cX10_treadsBy 150 = .ok (.iconst 0, 1) := by decide +kernel
theorem dX10_treadsBy_151 : decode cX10_treadsBy 151 = .ok (.iload_n 3, 1) := by decide +kernel
theorem dX10_treadsBy_152 : decode cX10_treadsBy 152 = .ok (.aload_n 0, 1) := by decide +kernel
theorem dX10_treadsBy_153 : decode cX10_treadsBy 153 = .ok (.getfield 32, 3) := by decide +kernel
theorem dX10_treadsBy_156 : decode cX10_treadsBy 156 = .ok (.iload_n 1, 1) := by decide +kernel
theorem dX10_treadsBy_157 : decode cX10_treadsBy 157 = .ok (.iaload, 1) := by decide +kernel
theorem dX10_treadsBy_158 : decode cX10_treadsBy 158 = .ok (.if_icmp .ne 19, 3) := by decide +kernel
theorem dX10_treadsBy_161 : decode cX10_treadsBy 161 = .ok (.aload_n 0, 1) := by decide +kernel
theorem dX10_treadsBy_162 : decode cX10_treadsBy 162 = .ok (.getfield 38, 3) := by decide +kernel
theorem dX10_treadsBy_165 : decode cX10_treadsBy 165 = .ok (.iconst 4, 1) := by decide +kernel
theorem dX10_treadsBy_166 : decode cX10_treadsBy 166 = .ok (.iload_n 1, 1) := by decide +kernel
theorem dX10_treadsBy_167 : decode cX10_treadsBy 167 = .ok (.imul, 1) := by decide +kernel
theorem dX10_treadsBy_168 : decode cX10_treadsBy 168 = .ok (.iload 4, 2) := by decide +kernel
theorem dX10_treadsBy_170 : decode cX10_treadsBy 170 = .ok (.iconst 4, 1) := by decide +kernel
theorem dX10_treadsBy_171 : decode cX10_treadsBy 171 = .ok (.irem, 1) := by decide +kernel
theorem dX10_treadsBy_172 : decode cX10_treadsBy 172 = .ok (.iadd, 1) := by decide +kernel
theorem dX10_treadsBy_173 : decode cX10_treadsBy 173 = .ok (.iaload, 1) := by decide +kernel
theorem dX10_treadsBy_174 : decode cX10_treadsBy 174 = .ok (.goto 4, 3) := by decide +kernel
theorem dX10_treadsBy_177 : decode cX10_treadsBy 177 = .ok (.iconst 0, 1) := by decide +kernel
theorem dX10_treadsBy_178 : decode cX10_treadsBy 178 = .ok (.iadd, 1) := by decide +kernel
theorem dX10_treadsBy_179 : decode cX10_treadsBy 179 = .ok (.ireturn, 1) := by decide +kernel
theorem dX10_treadsBy_180 : decode cX10_treadsBy 180 = .ok (.iload 5, 2) := by decide +kernel
theorem dX10_treadsBy_182 : decode cX10_treadsBy 182 = .ok (.ireturn, 1) := by decide +kernel
theorem dX10_layWorn_0 : decode cX10_layWorn 0 = .ok (.iconst 0, 1) := by decide +kernel
theorem dX10_layWorn_1 : decode cX10_layWorn 1 = .ok (.istore_n 1, 1) := by decide +kernel
theorem dX10_layWorn_2 : decode cX10_layWorn 2 = .ok (.iload_n 1, 1) := by decide +kernel
theorem dX10_layWorn_3 : decode cX10_layWorn 3 = .ok (.aload_n 0, 1) := by decide +kernel
theorem dX10_layWorn_4 : decode cX10_layWorn 4 = .ok (.getfield 7, 3) := by decide +kernel
theorem dX10_layWorn_7 : decode cX10_layWorn 7 = .ok (.if_icmp .ge 80, 3) := by decide +kernel
theorem dX10_layWorn_10 : decode cX10_layWorn 10 = .ok (.aload_n 0, 1) := by decide +kernel
theorem dX10_layWorn_11 : decode cX10_layWorn 11 = .ok (.iload_n 1, 1) := by decide +kernel
theorem dX10_layWorn_12 : decode cX10_layWorn 12 = .ok (.invokevirtual 342, 3) := by decide +kernel
theorem dX10_layWorn_15 : decode cX10_layWorn 15 = .ok (.istore_n 2, 1) := by decide +kernel
theorem dX10_layWorn_16 : decode cX10_layWorn 16 = .ok (.iconst 0, 1) := by decide +kernel
theorem dX10_layWorn_17 : decode cX10_layWorn 17 = .ok (.istore_n 3, 1) := by decide +kernel
theorem dX10_layWorn_18 : decode cX10_layWorn 18 = .ok (.iload_n 3, 1) := by decide +kernel
theorem dX10_layWorn_19 : decode cX10_layWorn 19 = .ok (.bipush 16, 2) := by decide +kernel
theorem dX10_layWorn_21 : decode cX10_layWorn 21 = .ok (.if_icmp .ge 60, 3) := by decide +kernel
theorem dX10_layWorn_24 : decode cX10_layWorn 24 = .ok (.aload_n 0, 1) := by decide +kernel
theorem dX10_layWorn_25 : decode cX10_layWorn 25 = .ok (.iload_n 3, 1) := by decide +kernel
theorem dX10_layWorn_26 : decode cX10_layWorn 26 = .ok (.iload_n 1, 1) := by decide +kernel
theorem dX10_layWorn_27 : decode cX10_layWorn 27 = .ok (.invokevirtual 345, 3) := by decide +kernel
theorem dX10_layWorn_30 : decode cX10_layWorn 30 = .ok (.istore 4, 2) := by decide +kernel
theorem dX10_layWorn_32 : decode cX10_layWorn 32 = .ok (.iconst 0, 1) := by decide +kernel
theorem dX10_layWorn_33 : decode cX10_layWorn 33 = .ok (.istore 5, 2) := by decide +kernel
theorem dX10_layWorn_35 : decode cX10_layWorn 35 = .ok (.iload 5, 2) := by decide +kernel
theorem dX10_layWorn_37 : decode cX10_layWorn 37 = .ok (.iconst 4, 1) := by decide +kernel
theorem dX10_layWorn_38 : decode cX10_layWorn 38 = .ok (.if_icmp .ge 37, 3) := by decide +kernel
theorem dX10_layWorn_41 : decode cX10_layWorn 41 = .ok (.aload_n 0, 1) := by decide +kernel
theorem dX10_layWorn_42 : decode cX10_layWorn 42 = .ok (.getfield 108, 3) := by decide +kernel
theorem dX10_layWorn_45 : decode cX10_layWorn 45 = .ok (.bipush 64, 2) := by decide +kernel
theorem dX10_layWorn_47 : decode cX10_layWorn 47 = .ok (.iload_n 1, 1) := by decide +kernel
theorem dX10_layWorn_48 : decode cX10_layWorn 48 = .ok (.imul, 1) := by decide +kernel
theorem dX10_layWorn_49 : decode cX10_layWorn 49 = .ok (.iconst 4, 1) := by decide +kernel
theorem dX10_layWorn_50 : decode cX10_layWorn 50 = .ok (.iload_n 3, 1) := by decide +kernel
theorem dX10_layWorn_51 : decode cX10_layWorn 51 = .ok (.imul, 1) := by decide +kernel
theorem dX10_layWorn_52 : decode cX10_layWorn 52 = .ok (.iadd, 1) := by decide +kernel
theorem dX10_layWorn_53 : decode cX10_layWorn 53 = .ok (.iload 5, 2) := by decide +kernel
theorem dX10_layWorn_55 : decode cX10_layWorn 55 = .ok (.iadd, 1) := by decide +kernel
theorem dX10_layWorn_56 : decode cX10_layWorn 56 = .ok (.iload 4, 2) := by decide +kernel
theorem dX10_layWorn_58 : decode cX10_layWorn 58 = .ok (.aload_n 0, 1) := by decide +kernel
theorem dX10_layWorn_59 : decode cX10_layWorn 59 = .ok (.iload_n 1, 1) := by decide +kernel
theorem dX10_layWorn_60 : decode cX10_layWorn 60 = .ok (.iload_n 2, 1) := by decide +kernel
theorem dX10_layWorn_61 : decode cX10_layWorn 61 = .ok (.iload_n 3, 1) := by decide +kernel
theorem dX10_layWorn_62 : decode cX10_layWorn 62 = .ok (.iload 5, 2) := by decide +kernel
theorem dX10_layWorn_64 : decode cX10_layWorn 64 = .ok (.invokevirtual 348, 3) := by decide +kernel
theorem dX10_layWorn_67 : decode cX10_layWorn 67 = .ok (.imul, 1) := by decide +kernel
theorem dX10_layWorn_68 : decode cX10_layWorn 68 = .ok (.iastore, 1) := by decide +kernel
theorem dX10_layWorn_69 : decode cX10_layWorn 69 = .ok (.iinc 5 1, 3) := by decide +kernel
theorem dX10_layWorn_72 : decode cX10_layWorn 72 = .ok (.goto (-37), 3) := by decide +kernel
theorem dX10_layWorn_75 : decode cX10_layWorn 75 = .ok (.iinc 3 1, 3) := by decide +kernel
theorem dX10_layWorn_78 : decode cX10_layWorn 78 = .ok (.goto (-60), 3) := by decide +kernel
theorem dX10_layWorn_81 : decode cX10_layWorn 81 = .ok (.iinc 1 1, 3) := by decide +kernel
theorem dX10_layWorn_84 : decode cX10_layWorn 84 = .ok (.goto (-82), 3) := by decide +kernel
theorem dX10_layWorn_87 : decode cX10_layWorn 87 = .ok (.return_, 1) := by decide +kernel
theorem dX10_here_0 : decode cX10_here 0 = .ok (.bipush 63, 2) := by decide +kernel
theorem dX10_here_2 : decode cX10_here 2 = .ok (.aload_n 0, 1) := by decide +kernel
theorem dX10_here_3 : decode cX10_here 3 = .ok (.getfield 13, 3) := by decide +kernel
theorem dX10_here_6 : decode cX10_here 6 = .ok (.iconst (-1), 1) := by decide +kernel
theorem dX10_here_7 : decode cX10_here 7 = .ok (.ixor, 1) := by decide +kernel
theorem dX10_here_8 : decode cX10_here 8 = .ok (.iand, 1) := by decide +kernel
theorem dX10_here_9 : decode cX10_here 9 = .ok (.ireturn, 1) := by decide +kernel
theorem dX10_goDay_0 : decode cX10_goDay 0 = .ok (.iconst 0, 1) := by decide +kernel
theorem dX10_goDay_1 : decode cX10_goDay 1 = .ok (.istore_n 2, 1) := by decide +kernel
theorem dX10_goDay_2 : decode cX10_goDay 2 = .ok (.iload_n 2, 1) := by decide +kernel
theorem dX10_goDay_3 : decode cX10_goDay 3 = .ok (.bipush 16, 2) := by decide +kernel
theorem dX10_goDay_5 : decode cX10_goDay 5 = .ok (.if_icmp .ge 87, 3) := by decide +kernel
theorem dX10_goDay_8 : decode cX10_goDay 8 = .ok (.aload_n 0, 1) := by decide +kernel
theorem dX10_goDay_9 : decode cX10_goDay 9 = .ok (.getfield 22, 3) := by decide +kernel
theorem dX10_goDay_12 : decode cX10_goDay 12 = .ok (.iload_n 2, 1) := by decide +kernel
theorem dX10_goDay_13 : decode cX10_goDay 13 = .ok (.iaload, 1) := by decide +kernel
theorem dX10_goDay_14 : decode cX10_goDay 14 = .ok (.istore_n 3, 1) := by decide +kernel
theorem dX10_goDay_15 : decode cX10_goDay 15 = .ok (.iconst 0, 1) := by decide +kernel
theorem dX10_goDay_16 : decode cX10_goDay 16 = .ok (.istore 4, 2) := by decide +kernel
theorem dX10_goDay_18 : decode cX10_goDay 18 = .ok (.iload 4, 2) := by decide +kernel
theorem dX10_goDay_20 : decode cX10_goDay 20 = .ok (.aload_n 0, 1) := by decide +kernel
theorem dX10_goDay_21 : decode cX10_goDay 21 = .ok (.getfield 7, 3) := by decide +kernel
theorem dX10_goDay_24 : decode cX10_goDay 24 = .ok (.if_icmp .ge 47, 3) := by decide +kernel
theorem dX10_goDay_27 : decode cX10_goDay 27 = .ok (.iload_n 3, 1) := by decide +kernel
theorem dX10_goDay_28 : decode cX10_goDay 28 = .ok (.aload_n 0, 1) := by decide +kernel
theorem dX10_goDay_29 : decode cX10_goDay 29 = .ok (.iload_n 1, 1) := by decide +kernel
theorem dX10_goDay_30 : decode cX10_goDay 30 = .ok (.iload 4, 2) := by decide +kernel
theorem dX10_goDay_32 : decode cX10_goDay 32 = .ok (.invokevirtual 245, 3) := by decide +kernel
theorem dX10_goDay_35 : decode cX10_goDay 35 = .ok (.ifCond .eq 27, 3) := by decide +kernel
theorem dX10_goDay_38 : decode cX10_goDay 38 = .ok (.aload_n 0, 1) := by decide +kernel
theorem dX10_goDay_39 : decode cX10_goDay 39 = .ok (.getfield 108, 3) := by decide +kernel
theorem dX10_goDay_42 : decode cX10_goDay 42 = .ok (.bipush 64, 2) := by decide +kernel
theorem dX10_goDay_44 : decode cX10_goDay 44 = .ok (.iload 4, 2) := by decide +kernel
theorem dX10_goDay_46 : decode cX10_goDay 46 = .ok (.imul, 1) := by decide +kernel
theorem dX10_goDay_47 : decode cX10_goDay 47 = .ok (.iconst 4, 1) := by decide +kernel
theorem dX10_goDay_48 : decode cX10_goDay 48 = .ok (.iload_n 2, 1) := by decide +kernel
theorem dX10_goDay_49 : decode cX10_goDay 49 = .ok (.imul, 1) := by decide +kernel
theorem dX10_goDay_50 : decode cX10_goDay 50 = .ok (.iadd, 1) := by decide +kernel
theorem dX10_goDay_51 : decode cX10_goDay 51 = .ok (.aload_n 0, 1) := by decide +kernel
theorem dX10_goDay_52 : decode cX10_goDay 52 = .ok (.getfield 19, 3) := by decide +kernel
theorem dX10_goDay_55 : decode cX10_goDay 55 = .ok (.iconst 4, 1) := by decide +kernel
theorem dX10_goDay_56 : decode cX10_goDay 56 = .ok (.irem, 1) := by decide +kernel
theorem dX10_goDay_57 : decode cX10_goDay 57 = .ok (.iadd, 1) := by decide +kernel
theorem dX10_goDay_58 : decode cX10_goDay 58 = .ok (.iaload, 1) := by decide +kernel
theorem dX10_goDay_59 : decode cX10_goDay 59 = .ok (.goto 4, 3) := by decide +kernel
theorem dX10_goDay_62 : decode cX10_goDay 62 = .ok (.iconst 0, 1) := by decide +kernel
theorem dX10_goDay_63 : decode cX10_goDay 63 = .ok (.iadd, 1) := by decide +kernel
theorem dX10_goDay_64 : decode cX10_goDay 64 = .ok (.istore_n 3, 1) := by decide +kernel
theorem dX10_goDay_65 : decode cX10_goDay 65 = .ok (.iinc 4 1, 3) := by decide +kernel
theorem dX10_goDay_68 : decode cX10_goDay 68 = .ok (.goto (-50), 3) := by decide +kernel
theorem dX10_goDay_71 : decode cX10_goDay 71 = .ok (.aload_n 0, 1) := by decide +kernel
theorem dX10_goDay_72 : decode cX10_goDay 72 = .ok (.getfield 22, 3) := by decide +kernel
theorem dX10_goDay_75 : decode cX10_goDay 75 = .ok (.iload_n 2, 1) := by decide +kernel
theorem dX10_goDay_76 : decode cX10_goDay 76 = .ok (.aload_n 0, 1) := by decide +kernel
theorem dX10_goDay_77 : decode cX10_goDay 77 = .ok (.iload_n 3, 1) := by decide +kernel
theorem dX10_goDay_78 : decode cX10_goDay 78 = .ok (.aload_n 0, 1) := by decide +kernel
theorem dX10_goDay_79 : decode cX10_goDay 79 = .ok (.getfield 111, 3) := by decide +kernel
theorem dX10_goDay_82 : decode cX10_goDay 82 = .ok (.invokevirtual 352, 3) := by decide +kernel
theorem dX10_goDay_85 : decode cX10_goDay 85 = .ok (.iastore, 1) := by decide +kernel
theorem dX10_goDay_86 : decode cX10_goDay 86 = .ok (.iinc 2 1, 3) := by decide +kernel
theorem dX10_goDay_89 : decode cX10_goDay 89 = .ok (.goto (-87), 3) := by decide +kernel
theorem dX10_goDay_92 : decode cX10_goDay 92 = .ok (.aload_n 0, 1) := by decide +kernel
theorem dX10_goDay_93 : decode cX10_goDay 93 = .ok (.dup, 1) := by decide +kernel
theorem dX10_goDay_94 : decode cX10_goDay 94 = .ok (.getfield 19, 3) := by decide +kernel
theorem dX10_goDay_97 : decode cX10_goDay 97 = .ok (.iconst 1, 1) := by decide +kernel
theorem dX10_goDay_98 : decode cX10_goDay 98 = .ok (.iadd, 1) := by decide +kernel
theorem dX10_goDay_99 : decode cX10_goDay 99 = .ok (.putfield 19, 3) := by decide +kernel
theorem dX10_goDay_102 : decode cX10_goDay 102 = .ok (.return_, 1) := by decide +kernel
theorem dX10_goDays_0 : decode cX10_goDays 0 = .ok (.iconst 0, 1) := by decide +kernel
theorem dX10_goDays_1 : decode cX10_goDays 1 = .ok (.istore_n 3, 1) := by decide +kernel
theorem dX10_goDays_2 : decode cX10_goDays 2 = .ok (.iload_n 3, 1) := by decide +kernel
theorem dX10_goDays_3 : decode cX10_goDays 3 = .ok (.iload_n 2, 1) := by decide +kernel
theorem dX10_goDays_4 : decode cX10_goDays 4 = .ok (.if_icmp .ge 14, 3) := by decide +kernel
theorem dX10_goDays_7 : decode cX10_goDays 7 = .ok (.aload_n 0, 1) := by decide +kernel
theorem dX10_goDays_8 : decode cX10_goDays 8 = .ok (.iload_n 1, 1) := by decide +kernel
theorem dX10_goDays_9 : decode cX10_goDays 9 = .ok (.invokevirtual 355, 3) := by decide +kernel
theorem dX10_goDays_12 : decode cX10_goDays 12 = .ok (.iinc 3 1, 3) := by decide +kernel
theorem dX10_goDays_15 : decode cX10_goDays 15 = .ok (.goto (-13), 3) := by decide +kernel
theorem dX10_goDays_18 : decode cX10_goDays 18 = .ok (.return_, 1) := by decide +kernel
theorem dX10_pass_0 : decode cX10_pass 0 = .ok (.aload_n 0, 1) := by decide +kernel
theorem dX10_pass_1 : decode cX10_pass 1 = .ok (.iload_n 1, 1) := by decide +kernel
theorem dX10_pass_2 : decode cX10_pass 2 = .ok (.invokevirtual 358, 3) := by decide +kernel
theorem dX10_pass_5 : decode cX10_pass 5 = .ok (.ifCond .ne 6, 3) := by decide +kernel
theorem dX10_pass_8 : decode cX10_pass 8 = .ok (.bipush (-2), 2) := by decide +kernel
theorem dX10_pass_10 : decode cX10_pass 10 = .ok (.ireturn, 1) := by decide +kernel
theorem dX10_pass_11 : decode cX10_pass 11 = .ok (.aload_n 0, 1) := by decide +kernel
theorem dX10_pass_12 : decode cX10_pass 12 = .ok (.getfield 19, 3) := by decide +kernel
theorem dX10_pass_15 : decode cX10_pass 15 = .ok (.iload_n 1, 1) := by decide +kernel
theorem dX10_pass_16 : decode cX10_pass 16 = .ok (.iadd, 1) := by decide +kernel
theorem dX10_pass_17 : decode cX10_pass 17 = .ok (.sipush 9999, 3) := by decide +kernel
theorem dX10_pass_20 : decode cX10_pass 20 = .ok (.if_icmp .le 6, 3) := by decide +kernel
theorem dX10_pass_23 : decode cX10_pass 23 = .ok (.bipush (-3), 2) := by decide +kernel
theorem dX10_pass_25 : decode cX10_pass 25 = .ok (.ireturn, 1) := by decide +kernel
theorem dX10_pass_26 : decode cX10_pass 26 = .ok (.aload_n 0, 1) := by decide +kernel
theorem dX10_pass_27 : decode cX10_pass 27 = .ok (.invokevirtual 361, 3) := by decide +kernel
theorem dX10_pass_30 : decode cX10_pass 30 = .ok (.aload_n 0, 1) := by decide +kernel
theorem dX10_pass_31 : decode cX10_pass 31 = .ok (.aload_n 0, 1) := by decide +kernel
theorem dX10_pass_32 : decode cX10_pass 32 = .ok (.invokevirtual 364, 3) := by decide +kernel
theorem dX10_pass_35 : decode cX10_pass 35 = .ok (.iload_n 1, 1) := by decide +kernel
theorem dX10_pass_36 : decode cX10_pass 36 = .ok (.invokevirtual 367, 3) := by decide +kernel
theorem dX10_pass_39 : decode cX10_pass 39 = .ok (.aload_n 0, 1) := by decide +kernel
theorem dX10_pass_40 : decode cX10_pass 40 = .ok (.getfield 19, 3) := by decide +kernel
theorem dX10_pass_43 : decode cX10_pass 43 = .ok (.ireturn, 1) := by decide +kernel
theorem dX10_baldSet_0 : decode cX10_baldSet 0 = .ok (.iconst 0, 1) := by decide +kernel
theorem dX10_baldSet_1 : decode cX10_baldSet 1 = .ok (.istore_n 1, 1) := by decide +kernel
theorem dX10_baldSet_2 : decode cX10_baldSet 2 = .ok (.iconst 0, 1) := by decide +kernel
theorem dX10_baldSet_3 : decode cX10_baldSet 3 = .ok (.istore_n 2, 1) := by decide +kernel
theorem dX10_baldSet_4 : decode cX10_baldSet 4 = .ok (.iload_n 2, 1) := by decide +kernel
theorem dX10_baldSet_5 : decode cX10_baldSet 5 = .ok (.bipush 16, 2) := by decide +kernel
theorem dX10_baldSet_7 : decode cX10_baldSet 7 = .ok (.if_icmp .ge 32, 3) := by decide +kernel
theorem dX10_baldSet_10 : decode cX10_baldSet 10 = .ok (.iload_n 1, 1) := by decide +kernel
theorem dX10_baldSet_11 : decode cX10_baldSet 11 = .ok (.aload_n 0, 1) := by decide +kernel
theorem dX10_baldSet_12 : decode cX10_baldSet 12 = .ok (.getfield 22, 3) := by decide +kernel
theorem dX10_baldSet_15 : decode cX10_baldSet 15 = .ok (.iload_n 2, 1) := by decide +kernel
theorem dX10_baldSet_16 : decode cX10_baldSet 16 = .ok (.iaload, 1) := by decide +kernel
theorem dX10_baldSet_17 : decode cX10_baldSet 17 = .ok (.aload_n 0, 1) := by decide +kernel
theorem dX10_baldSet_18 : decode cX10_baldSet 18 = .ok (.invokevirtual 371, 3) := by decide +kernel
theorem dX10_baldSet_21 : decode cX10_baldSet 21 = .ok (.if_icmp .lt 9, 3) := by decide +kernel
theorem dX10_baldSet_24 : decode cX10_baldSet 24 = .ok (.iconst 1, 1) := by decide +kernel
theorem dX10_baldSet_25 : decode cX10_baldSet 25 = .ok (.iload_n 2, 1) := by decide +kernel
theorem dX10_baldSet_26 : decode cX10_baldSet 26 = .ok (.ishl, 1) := by decide +kernel
theorem dX10_baldSet_27 : decode cX10_baldSet 27 = .ok (.goto 4, 3) := by decide +kernel
theorem dX10_baldSet_30 : decode cX10_baldSet 30 = .ok (.iconst 0, 1) := by decide +kernel
theorem dX10_baldSet_31 : decode cX10_baldSet 31 = .ok (.ior, 1) := by decide +kernel
theorem dX10_baldSet_32 : decode cX10_baldSet 32 = .ok (.istore_n 1, 1) := by decide +kernel
theorem dX10_baldSet_33 : decode cX10_baldSet 33 = .ok (.iinc 2 1, 3) := by decide +kernel
theorem dX10_baldSet_36 : decode cX10_baldSet 36 = .ok (.goto (-32), 3) := by decide +kernel
theorem dX10_baldSet_39 : decode cX10_baldSet 39 = .ok (.iload_n 1, 1) := by decide +kernel
theorem dX10_baldSet_40 : decode cX10_baldSet 40 = .ok (.ireturn, 1) := by decide +kernel
theorem dX10_allWear_0 : decode cX10_allWear 0 = .ok (.iconst 0, 1) := by decide +kernel
theorem dX10_allWear_1 : decode cX10_allWear 1 = .ok (.istore_n 1, 1) := by decide +kernel
theorem dX10_allWear_2 : decode cX10_allWear 2 = .ok (.iconst 0, 1) := by decide +kernel
theorem dX10_allWear_3 : decode cX10_allWear 3 = .ok (.istore_n 2, 1) := by decide +kernel
theorem dX10_allWear_4 : decode cX10_allWear 4 = .ok (.iload_n 2, 1) := by decide +kernel
theorem dX10_allWear_5 : decode cX10_allWear 5 = .ok (.bipush 16, 2) := by decide +kernel
theorem dX10_allWear_7 : decode cX10_allWear 7 = .ok (.if_icmp .ge 18, 3) := by decide +kernel
theorem dX10_allWear_10 : decode cX10_allWear 10 = .ok (.iload_n 1, 1) := by decide +kernel
theorem dX10_allWear_11 : decode cX10_allWear 11 = .ok (.aload_n 0, 1) := by decide +kernel
theorem dX10_allWear_12 : decode cX10_allWear 12 = .ok (.getfield 22, 3) := by decide +kernel
theorem dX10_allWear_15 : decode cX10_allWear 15 = .ok (.iload_n 2, 1) := by decide +kernel
theorem dX10_allWear_16 : decode cX10_allWear 16 = .ok (.iaload, 1) := by decide +kernel
theorem dX10_allWear_17 : decode cX10_allWear 17 = .ok (.iadd, 1) := by decide +kernel
theorem dX10_allWear_18 : decode cX10_allWear 18 = .ok (.istore_n 1, 1) := by decide +kernel
theorem dX10_allWear_19 : decode cX10_allWear 19 = .ok (.iinc 2 1, 3) := by decide +kernel
theorem dX10_allWear_22 : decode cX10_allWear 22 = .ok (.goto (-18), 3) := by decide +kernel
theorem dX10_allWear_25 : decode cX10_allWear 25 = .ok (.iload_n 1, 1) := by decide +kernel
theorem dX10_allWear_26 : decode cX10_allWear 26 = .ok (.ireturn, 1) := by decide +kernel
theorem dX10_allWays_0 : decode cX10_allWays 0 = .ok (.iconst 0, 1) := by decide +kernel
theorem dX10_allWays_1 : decode cX10_allWays 1 = .ok (.istore_n 1, 1) := by decide +kernel
theorem dX10_allWays_2 : decode cX10_allWays 2 = .ok (.iconst 0, 1) := by decide +kernel
theorem dX10_allWays_3 : decode cX10_allWays 3 = .ok (.istore_n 2, 1) := by decide +kernel
theorem dX10_allWays_4 : decode cX10_allWays 4 = .ok (.iload_n 2, 1) := by decide +kernel
theorem dX10_allWays_5 : decode cX10_allWays 5 = .ok (.aload_n 0, 1) := by decide +kernel
theorem dX10_allWays_6 : decode cX10_allWays 6 = .ok (.getfield 7, 3) := by decide +kernel
theorem dX10_allWays_9 : decode cX10_allWays 9 = .ok (.if_icmp .ge 72, 3) := by decide +kernel
theorem dX10_allWays_12 : decode cX10_allWays 12 = .ok (.aload_n 0, 1) := by decide +kernel
theorem dX10_allWays_13 : decode cX10_allWays 13 = .ok (.aload_n 0, 1) := by decide +kernel
theorem dX10_allWays_14 : decode cX10_allWays 14 = .ok (.getfield 13, 3) := by decide +kernel
theorem dX10_allWays_17 : decode cX10_allWays 17 = .ok (.iload_n 2, 1) := by decide +kernel
theorem dX10_allWays_18 : decode cX10_allWays 18 = .ok (.invokevirtual 245, 3) := by decide +kernel
theorem dX10_allWays_21 : decode cX10_allWays 21 = .ok (.ifCond .eq 6, 3) := by decide +kernel
theorem dX10_allWays_24 : decode cX10_allWays 24 = .ok (.goto 51, 3) := by decide +kernel
theorem dX10_allWays_27 : decode cX10_allWays 27 = .ok (.aload_n 0, 1) := by decide +kernel
theorem dX10_allWays_28 : decode cX10_allWays 28 = .ok (.iload_n 2, 1) := by decide +kernel
theorem dX10_allWays_29 : decode cX10_allWays 29 = .ok (.invokevirtual 342, 3) := by decide +kernel
theorem dX10_allWays_32 : decode cX10_allWays 32 = .ok (.istore_n 3, 1) := by decide +kernel
theorem dX10_allWays_33 : decode cX10_allWays 33 = .ok (.iconst 0, 1) := by decide +kernel
theorem dX10_allWays_34 : decode cX10_allWays 34 = .ok (.istore 4, 2) := by decide +kernel
theorem dX10_allWays_36 : decode cX10_allWays 36 = .ok (.iload 4, 2) := by decide +kernel
theorem dX10_allWays_38 : decode cX10_allWays 38 = .ok (.bipush 16, 2) := by decide +kernel
theorem dX10_allWays_40 : decode cX10_allWays 40 = .ok (.if_icmp .ge 35, 3) := by decide +kernel
theorem dX10_allWays_43 : decode cX10_allWays 43 = .ok (.iload_n 1, 1) := by decide +kernel
theorem dX10_allWays_44 : decode cX10_allWays 44 = .ok (.aload_n 0, 1) := by decide +kernel
theorem dX10_allWays_45 : decode cX10_allWays 45 = .ok (.iload_n 2, 1) := by decide +kernel
theorem dX10_allWays_46 : decode cX10_allWays 46 = .ok (.iload_n 3, 1) := by decide +kernel
theorem dX10_allWays_47 : decode cX10_allWays 47 = .ok (.iload 4, 2) := by decide +kernel
theorem dX10_allWays_49 : decode cX10_allWays 49 = .ok (.aload_n 0, 1) := by decide +kernel
theorem dX10_allWays_50 : decode cX10_allWays 50 = .ok (.getfield 19, 3) := by decide +kernel
theorem dX10_allWays_53 : decode cX10_allWays 53 = .ok (.invokevirtual 348, 3) := by decide +kernel
theorem dX10_allWays_56 : decode cX10_allWays 56 = .ok (.ifCond .le 10, 3) := by decide +kernel
theorem dX10_allWays_59 : decode cX10_allWays 59 = .ok (.iconst 1, 1) := by decide +kernel
theorem dX10_allWays_60 : decode cX10_allWays 60 = .ok (.iload 4, 2) := by decide +kernel
theorem dX10_allWays_62 : decode cX10_allWays 62 = .ok (.ishl, 1) := by decide +kernel
theorem dX10_allWays_63 : decode cX10_allWays 63 = .ok (.goto 4, 3) := by decide +kernel
theorem dX10_allWays_66 : decode cX10_allWays 66 = .ok (.iconst 0, 1) := by decide +kernel
theorem dX10_allWays_67 : decode cX10_allWays 67 = .ok (.ior, 1) := by decide +kernel
theorem dX10_allWays_68 : decode cX10_allWays 68 = .ok (.istore_n 1, 1) := by decide +kernel
theorem dX10_allWays_69 : decode cX10_allWays 69 = .ok (.iinc 4 1, 3) := by decide +kernel
theorem dX10_allWays_72 : decode cX10_allWays 72 = .ok (.goto (-36), 3) := by decide +kernel
theorem dX10_allWays_75 : decode cX10_allWays 75 = .ok (.iinc 2 1, 3) := by decide +kernel
theorem dX10_allWays_78 : decode cX10_allWays 78 = .ok (.goto (-74), 3) := by decide +kernel
theorem dX10_allWays_81 : decode cX10_allWays 81 = .ok (.iload_n 1, 1) := by decide +kernel
theorem dX10_allWays_82 : decode cX10_allWays 82 = .ok (.ireturn, 1) := by decide +kernel
theorem dX10_of_0 : decode cX10_of 0 = .ok (.aload_n 0, 1) := by decide +kernel
theorem dX10_of_1 : decode cX10_of 1 = .ok (.iload_n 1, 1) := by decide +kernel
theorem dX10_of_2 : decode cX10_of 2 = .ok (.invokevirtual 264, 3) := by decide +kernel
theorem dX10_of_5 : decode cX10_of 5 = .ok (.ifCond .ne 5, 3) := by decide +kernel
theorem dX10_of_8 : decode cX10_of 8 = .ok (.iconst (-1), 1) := by decide +kernel
theorem dX10_of_9 : decode cX10_of 9 = .ok (.ireturn, 1) := by decide +kernel
theorem dX10_of_10 : decode cX10_of 10 = .ok (.aload_n 0, 1) := by decide +kernel
theorem dX10_of_11 : decode cX10_of 11 = .ok (.iload_n 2, 1) := by decide +kernel
theorem dX10_of_12 : decode cX10_of 12 = .ok (.bipush 30, 2) := by decide +kernel
theorem dX10_of_14 : decode cX10_of 14 = .ok (.bipush 45, 2) := by decide +kernel
theorem dX10_of_16 : decode cX10_of 16 = .ok (.invokevirtual 253, 3) := by decide +kernel
theorem dX10_of_19 : decode cX10_of 19 = .ok (.ifCond .eq 38, 3) := by decide +kernel
theorem dX10_of_22 : decode cX10_of 22 = .ok (.aload_n 0, 1) := by decide +kernel
theorem dX10_of_23 : decode cX10_of 23 = .ok (.aload_n 0, 1) := by decide +kernel
theorem dX10_of_24 : decode cX10_of 24 = .ok (.getfield 13, 3) := by decide +kernel
theorem dX10_of_27 : decode cX10_of 27 = .ok (.iload_n 1, 1) := by decide +kernel
theorem dX10_of_28 : decode cX10_of 28 = .ok (.invokevirtual 245, 3) := by decide +kernel
theorem dX10_of_31 : decode cX10_of 31 = .ok (.ifCond .eq 7, 3) := by decide +kernel
theorem dX10_of_34 : decode cX10_of 34 = .ok (.iconst 0, 1) := by decide +kernel
theorem dX10_of_35 : decode cX10_of 35 = .ok (.goto 21, 3) := by decide +kernel
theorem dX10_of_38 : decode cX10_of 38 = .ok (.aload_n 0, 1) := by decide +kernel
theorem dX10_of_39 : decode cX10_of 39 = .ok (.iload_n 1, 1) := by decide +kernel
theorem dX10_of_40 : decode cX10_of 40 = .ok (.aload_n 0, 1) := by decide +kernel
theorem dX10_of_41 : decode cX10_of 41 = .ok (.iload_n 1, 1) := by decide +kernel
theorem dX10_of_42 : decode cX10_of 42 = .ok (.invokevirtual 342, 3) := by decide +kernel
theorem dX10_of_45 : decode cX10_of 45 = .ok (.iload_n 2, 1) := by decide +kernel
theorem dX10_of_46 : decode cX10_of 46 = .ok (.bipush 30, 2) := by decide +kernel
theorem dX10_of_48 : decode cX10_of 48 = .ok (.isub, 1) := by decide +kernel
theorem dX10_of_49 : decode cX10_of 49 = .ok (.aload_n 0, 1) := by decide +kernel
theorem dX10_of_50 : decode cX10_of 50 = .ok (.getfield 19, 3) := by decide +kernel
theorem dX10_of_53 : decode cX10_of 53 = .ok (.invokevirtual 348, 3) := by decide +kernel
theorem dX10_of_56 : decode cX10_of 56 = .ok (.ireturn, 1) := by decide +kernel
theorem dX10_of_57 : decode cX10_of 57 = .ok (.aload_n 0, 1) := by decide +kernel
theorem dX10_of_58 : decode cX10_of 58 = .ok (.iload_n 2, 1) := by decide +kernel
theorem dX10_of_59 : decode cX10_of 59 = .ok (.bipush 50, 2) := by decide +kernel
theorem dX10_of_61 : decode cX10_of 61 = .ok (.bipush 65, 2) := by decide +kernel
theorem dX10_of_63 : decode cX10_of 63 = .ok (.invokevirtual 253, 3) := by decide +kernel
theorem dX10_of_66 : decode cX10_of 66 = .ok (.ifCond .eq 13, 3) := by decide +kernel
theorem dX10_of_69 : decode cX10_of 69 = .ok (.aload_n 0, 1) := by decide +kernel
theorem dX10_of_70 : decode cX10_of 70 = .ok (.iload_n 2, 1) := by decide +kernel
theorem dX10_of_71 : decode cX10_of 71 = .ok (.bipush 50, 2) := by decide +kernel
theorem dX10_of_73 : decode cX10_of 73 = .ok (.isub, 1) := by decide +kernel
theorem dX10_of_74 : decode cX10_of 74 = .ok (.iload_n 1, 1) := by decide +kernel
theorem dX10_of_75 : decode cX10_of 75 = .ok (.invokevirtual 345, 3) := by decide +kernel
theorem dX10_of_78 : decode cX10_of 78 = .ok (.ireturn, 1) := by decide +kernel
theorem dX10_of_79 : decode cX10_of 79 = .ok (.aload_n 0, 1) := by decide +kernel
theorem dX10_of_80 : decode cX10_of 80 = .ok (.iload_n 2, 1) := by decide +kernel
theorem dX10_of_81 : decode cX10_of 81 = .ok (.bipush 10, 2) := by decide +kernel
theorem dX10_of_83 : decode cX10_of 83 = .ok (.bipush 25, 2) := by decide +kernel
theorem dX10_of_85 : decode cX10_of 85 = .ok (.invokevirtual 253, 3) := by decide +kernel
theorem dX10_of_88 : decode cX10_of 88 = .ok (.ifCond .eq 34, 3) := by decide +kernel
theorem dX10_of_91 : decode cX10_of 91 = .ok (.aload_n 0, 1) := by decide +kernel
theorem dX10_of_92 : decode cX10_of 92 = .ok (.iload_n 1, 1) := by decide +kernel
theorem dX10_of_93 : decode cX10_of 93 = .ok (.invokevirtual 339, 3) := by decide +kernel
theorem dX10_of_96 : decode cX10_of 96 = .ok (.iload_n 2, 1) := by decide +kernel
theorem dX10_of_97 : decode cX10_of 97 = .ok (.bipush 10, 2) := by decide +kernel
theorem dX10_of_99 : decode cX10_of 99 = .ok (.isub, 1) := by decide +kernel
theorem dX10_of_100 : decode cX10_of 100 = .ok (.aload_n 0, 1) := by decide +kernel
theorem dX10_of_101 : decode cX10_of 101 = .ok (.getfield 105, 3) := by decide +kernel
theorem dX10_of_104 : decode cX10_of 104 = .ok (.if_icmp .ge 15, 3) := by decide +kernel
theorem dX10_of_107 : decode cX10_of 107 = .ok (.aload_n 0, 1) := by decide +kernel
theorem dX10_of_108 : decode cX10_of 108 = .ok (.getfield 102, 3) := by decide +kernel
theorem dX10_of_111 : decode cX10_of 111 = .ok (.iload_n 2, 1) := by decide +kernel
theorem dX10_of_112 : decode cX10_of 112 = .ok (.bipush 10, 2) := by decide +kernel
theorem dX10_of_114 : decode cX10_of 114 = .ok (.isub, 1) := by decide +kernel
theorem dX10_of_115 : decode cX10_of 115 = .ok (.iaload, 1) := by decide +kernel
theorem dX10_of_116 : decode cX10_of 116 = .ok (.goto 5, 3) := by decide +kernel
theorem dX10_of_119 : decode cX10_of 119 = .ok (.bipush (-5), 2) := by decide +kernel
theorem dX10_of_121 : decode cX10_of 121 = .ok (.ireturn, 1) := by decide +kernel
theorem dX10_of_122 : decode cX10_of 122 = .ok (.iload_n 2, 1) := by decide +kernel
theorem dX10_of_123 : decode cX10_of 123 = .ok (.tableswitch 93 0 5 #[37, 44, 51, 58, 65, 83], 37) := by decide +kernel
theorem dX10_of_160 : decode cX10_of 160 = .ok (.aload_n 0, 1) := by decide +kernel
theorem dX10_of_161 : decode cX10_of 161 = .ok (.getfield 26, 3) := by decide +kernel
theorem dX10_of_164 : decode cX10_of 164 = .ok (.iload_n 1, 1) := by decide +kernel
theorem dX10_of_165 : decode cX10_of 165 = .ok (.iaload, 1) := by decide +kernel
theorem dX10_of_166 : decode cX10_of 166 = .ok (.ireturn, 1) := by decide +kernel
theorem dX10_of_167 : decode cX10_of 167 = .ok (.aload_n 0, 1) := by decide +kernel
theorem dX10_of_168 : decode cX10_of 168 = .ok (.getfield 29, 3) := by decide +kernel
theorem dX10_of_171 : decode cX10_of 171 = .ok (.iload_n 1, 1) := by decide +kernel
theorem dX10_of_172 : decode cX10_of 172 = .ok (.iaload, 1) := by decide +kernel
theorem dX10_of_173 : decode cX10_of 173 = .ok (.ireturn, 1) := by decide +kernel
theorem dX10_of_174 : decode cX10_of 174 = .ok (.aload_n 0, 1) := by decide +kernel
theorem dX10_of_175 : decode cX10_of 175 = .ok (.getfield 32, 3) := by decide +kernel
theorem dX10_of_178 : decode cX10_of 178 = .ok (.iload_n 1, 1) := by decide +kernel
theorem dX10_of_179 : decode cX10_of 179 = .ok (.iaload, 1) := by decide +kernel
theorem dX10_of_180 : decode cX10_of 180 = .ok (.ireturn, 1) := by decide +kernel
theorem dX10_of_181 : decode cX10_of 181 = .ok (.aload_n 0, 1) := by decide +kernel
theorem dX10_of_182 : decode cX10_of 182 = .ok (.getfield 35, 3) := by decide +kernel
theorem dX10_of_185 : decode cX10_of 185 = .ok (.iload_n 1, 1) := by decide +kernel
theorem dX10_of_186 : decode cX10_of 186 = .ok (.iaload, 1) := by decide +kernel
theorem dX10_of_187 : decode cX10_of 187 = .ok (.ireturn, 1) := by decide +kernel
theorem dX10_of_188 : decode cX10_of 188 = .ok (.aload_n 0, 1) := by decide +kernel
theorem dX10_of_189 : decode cX10_of 189 = .ok (.aload_n 0, 1) := by decide +kernel
theorem dX10_of_190 : decode cX10_of 190 = .ok (.getfield 13, 3) := by decide +kernel
theorem dX10_of_193 : decode cX10_of 193 = .ok (.iload_n 1, 1) := by decide +kernel
theorem dX10_of_194 : decode cX10_of 194 = .ok (.invokevirtual 245, 3) := by decide +kernel
theorem dX10_of_197 : decode cX10_of 197 = .ok (.ifCond .eq 7, 3) := by decide +kernel
theorem dX10_of_200 : decode cX10_of 200 = .ok (.iconst 1, 1) := by decide +kernel
theorem dX10_of_201 : decode cX10_of 201 = .ok (.goto 4, 3) := by decide +kernel
theorem dX10_of_204 : decode cX10_of 204 = .ok (.iconst 0, 1) := by decide +kernel
theorem dX10_of_205 : decode cX10_of 205 = .ok (.ireturn, 1) := by decide +kernel
theorem dX10_of_206 : decode cX10_of 206 = .ok (.aload_n 0, 1) := by decide +kernel
theorem dX10_of_207 : decode cX10_of 207 = .ok (.iload_n 1, 1) := by decide +kernel
theorem dX10_of_208 : decode cX10_of 208 = .ok (.invokevirtual 339, 3) := by decide +kernel
theorem dX10_of_211 : decode cX10_of 211 = .ok (.aload_n 0, 1) := by decide +kernel
theorem dX10_of_212 : decode cX10_of 212 = .ok (.getfield 105, 3) := by decide +kernel
theorem dX10_of_215 : decode cX10_of 215 = .ok (.ireturn, 1) := by decide +kernel
theorem dX10_of_216 : decode cX10_of 216 = .ok (.iconst (-1), 1) := by decide +kernel
theorem dX10_of_217 : decode cX10_of 217 = .ok (.ireturn, 1) := by decide +kernel
theorem dX10_save_0 : decode cX10_save 0 = .ok (.aload_n 0, 1) := by decide +kernel
theorem dX10_save_1 : decode cX10_save 1 = .ok (.ldc_w 374, 3) := by decide +kernel
theorem dX10_save_4 : decode cX10_save 4 = .ok (.putfield 111, 3) := by decide +kernel
theorem dX10_save_7 : decode cX10_save 7 = .ok (.aload_n 0, 1) := by decide +kernel
theorem dX10_save_8 : decode cX10_save 8 = .ok (.aload_n 0, 1) := by decide +kernel
theorem dX10_save_9 : decode cX10_save 9 = .ok (.getfield 13, 3) := by decide +kernel
theorem dX10_save_12 : decode cX10_save 12 = .ok (.putfield 114, 3) := by decide +kernel
theorem dX10_save_15 : decode cX10_save 15 = .ok (.aload_n 0, 1) := by decide +kernel
theorem dX10_save_16 : decode cX10_save 16 = .ok (.aload_n 0, 1) := by decide +kernel
theorem dX10_save_17 : decode cX10_save 17 = .ok (.getfield 16, 3) := by decide +kernel
theorem dX10_save_20 : decode cX10_save 20 = .ok (.putfield 117, 3) := by decide +kernel
theorem dX10_save_23 : decode cX10_save 23 = .ok (.aload_n 0, 1) := by decide +kernel
theorem dX10_save_24 : decode cX10_save 24 = .ok (.aload_n 0, 1) := by decide +kernel
theorem dX10_save_25 : decode cX10_save 25 = .ok (.getfield 19, 3) := by decide +kernel
theorem dX10_save_28 : decode cX10_save 28 = .ok (.putfield 120, 3) := by decide +kernel
theorem dX10_save_31 : decode cX10_save 31 = .ok (.iconst 0, 1) := by decide +kernel
theorem dX10_save_32 : decode cX10_save 32 = .ok (.istore_n 1, 1) := by decide +kernel
theorem dX10_save_33 : decode cX10_save 33 = .ok (.iload_n 1, 1) := by decide +kernel
theorem dX10_save_34 : decode cX10_save 34 = .ok (.bipush 16, 2) := by decide +kernel
theorem dX10_save_36 : decode cX10_save 36 = .ok (.if_icmp .ge 21, 3) := by decide +kernel
theorem dX10_save_39 : decode cX10_save 39 = .ok (.aload_n 0, 1) := by decide +kernel
theorem dX10_save_40 : decode cX10_save 40 = .ok (.getfield 123, 3) := by decide +kernel
theorem dX10_save_43 : decode cX10_save 43 = .ok (.iload_n 1, 1) := by decide +kernel
theorem dX10_save_44 : decode cX10_save 44 = .ok (.aload_n 0, 1) := by decide +kernel
theorem dX10_save_45 : decode cX10_save 45 = .ok (.getfield 22, 3) := by decide +kernel
theorem dX10_save_48 : decode cX10_save 48 = .ok (.iload_n 1, 1) := by decide +kernel
theorem dX10_save_49 : decode cX10_save 49 = .ok (.iaload, 1) := by decide +kernel
theorem dX10_save_50 : decode cX10_save 50 = .ok (.iastore, 1) := by decide +kernel
theorem dX10_save_51 : decode cX10_save 51 = .ok (.iinc 1 1, 3) := by decide +kernel
theorem dX10_save_54 : decode cX10_save 54 = .ok (.goto (-21), 3) := by decide +kernel
theorem dX10_save_57 : decode cX10_save 57 = .ok (.return_, 1) := by decide +kernel
theorem dX10_putBack_0 : decode cX10_putBack 0 = .ok (.aload_n 0, 1) := by decide +kernel
theorem dX10_putBack_1 : decode cX10_putBack 1 = .ok (.sipush 9999, 3) := by decide +kernel
theorem dX10_putBack_4 : decode cX10_putBack 4 = .ok (.putfield 111, 3) := by decide +kernel
theorem dX10_putBack_7 : decode cX10_putBack 7 = .ok (.aload_n 0, 1) := by decide +kernel
theorem dX10_putBack_8 : decode cX10_putBack 8 = .ok (.aload_n 0, 1) := by decide +kernel
theorem dX10_putBack_9 : decode cX10_putBack 9 = .ok (.getfield 114, 3) := by decide +kernel
theorem dX10_putBack_12 : decode cX10_putBack 12 = .ok (.putfield 13, 3) := by decide +kernel
theorem dX10_putBack_15 : decode cX10_putBack 15 = .ok (.aload_n 0, 1) := by decide +kernel
theorem dX10_putBack_16 : decode cX10_putBack 16 = .ok (.aload_n 0, 1) := by decide +kernel
theorem dX10_putBack_17 : decode cX10_putBack 17 = .ok (.getfield 117, 3) := by decide +kernel
theorem dX10_putBack_20 : decode cX10_putBack 20 = .ok (.putfield 16, 3) := by decide +kernel
theorem dX10_putBack_23 : decode cX10_putBack 23 = .ok (.aload_n 0, 1) := by decide +kernel
theorem dX10_putBack_24 : decode cX10_putBack 24 = .ok (.aload_n 0, 1) := by decide +kernel
theorem dX10_putBack_25 : decode cX10_putBack 25 = .ok (.getfield 120, 3) := by decide +kernel
theorem dX10_putBack_28 : decode cX10_putBack 28 = .ok (.putfield 19, 3) := by decide +kernel
theorem dX10_putBack_31 : decode cX10_putBack 31 = .ok (.iconst 0, 1) := by decide +kernel
theorem dX10_putBack_32 : decode cX10_putBack 32 = .ok (.istore_n 1, 1) := by decide +kernel
theorem dX10_putBack_33 : decode cX10_putBack 33 = .ok (.iload_n 1, 1) := by decide +kernel
theorem dX10_putBack_34 : decode cX10_putBack 34 = .ok (.bipush 16, 2) := by decide +kernel
theorem dX10_putBack_36 : decode cX10_putBack 36 = .ok (.if_icmp .ge 21, 3) := by decide +kernel
theorem dX10_putBack_39 : decode cX10_putBack 39 = .ok (.aload_n 0, 1) := by decide +kernel
theorem dX10_putBack_40 : decode cX10_putBack 40 = .ok (.getfield 22, 3) := by decide +kernel
theorem dX10_putBack_43 : decode cX10_putBack 43 = .ok (.iload_n 1, 1) := by decide +kernel
theorem dX10_putBack_44 : decode cX10_putBack 44 = .ok (.aload_n 0, 1) := by decide +kernel
theorem dX10_putBack_45 : decode cX10_putBack 45 = .ok (.getfield 123, 3) := by decide +kernel
theorem dX10_putBack_48 : decode cX10_putBack 48 = .ok (.iload_n 1, 1) := by decide +kernel
theorem dX10_putBack_49 : decode cX10_putBack 49 = .ok (.iaload, 1) := by decide +kernel
theorem dX10_putBack_50 : decode cX10_putBack 50 = .ok (.iastore, 1) := by decide +kernel
theorem dX10_putBack_51 : decode cX10_putBack 51 = .ok (.iinc 1 1, 3) := by decide +kernel
theorem dX10_putBack_54 : decode cX10_putBack 54 = .ok (.goto (-21), 3) := by decide +kernel
theorem dX10_putBack_57 : decode cX10_putBack 57 = .ok (.return_, 1) := by decide +kernel
theorem dX10_laySoon_0 : decode cX10_laySoon 0 = .ok (.aload_n 0, 1) := by decide +kernel
theorem dX10_laySoon_1 : decode cX10_laySoon 1 = .ok (.invokevirtual 361, 3) := by decide +kernel
theorem dX10_laySoon_4 : decode cX10_laySoon 4 = .ok (.aload_n 0, 1) := by decide +kernel
theorem dX10_laySoon_5 : decode cX10_laySoon 5 = .ok (.invokevirtual 375, 3) := by decide +kernel
theorem dX10_laySoon_8 : decode cX10_laySoon 8 = .ok (.iconst 0, 1) := by decide +kernel
theorem dX10_laySoon_9 : decode cX10_laySoon 9 = .ok (.istore_n 1, 1) := by decide +kernel
theorem dX10_laySoon_10 : decode cX10_laySoon 10 = .ok (.iload_n 1, 1) := by decide +kernel
theorem dX10_laySoon_11 : decode cX10_laySoon 11 = .ok (.bipush 16, 2) := by decide +kernel
theorem dX10_laySoon_13 : decode cX10_laySoon 13 = .ok (.if_icmp .ge 17, 3) := by decide +kernel
theorem dX10_laySoon_16 : decode cX10_laySoon 16 = .ok (.aload_n 0, 1) := by decide +kernel
theorem dX10_laySoon_17 : decode cX10_laySoon 17 = .ok (.getfield 126, 3) := by decide +kernel
theorem dX10_laySoon_20 : decode cX10_laySoon 20 = .ok (.iload_n 1, 1) := by decide +kernel
theorem dX10_laySoon_21 : decode cX10_laySoon 21 = .ok (.bipush (-5), 2) := by decide +kernel
theorem dX10_laySoon_23 : decode cX10_laySoon 23 = .ok (.iastore, 1) := by decide +kernel
theorem dX10_laySoon_24 : decode cX10_laySoon 24 = .ok (.iinc 1 1, 3) := by decide +kernel
theorem dX10_laySoon_27 : decode cX10_laySoon 27 = .ok (.goto (-17), 3) := by decide +kernel
theorem dX10_laySoon_30 : decode cX10_laySoon 30 = .ok (.iconst 0, 1) := by decide +kernel
theorem dX10_laySoon_31 : decode cX10_laySoon 31 = .ok (.istore_n 1, 1) := by decide +kernel
theorem dX10_laySoon_32 : decode cX10_laySoon 32 = .ok (.iload_n 1, 1) := by decide +kernel
theorem dX10_laySoon_33 : decode cX10_laySoon 33 = .ok (.bipush 61, 2) := by decide +kernel
theorem dX10_laySoon_35 : decode cX10_laySoon 35 = .ok (.if_icmp .ge 69, 3) := by decide +kernel
theorem dX10_laySoon_38 : decode cX10_laySoon 38 = .ok (.iconst 0, 1) := by decide +kernel
theorem dX10_laySoon_39 : decode cX10_laySoon 39 = .ok (.istore_n 2, 1) := by decide +kernel
theorem dX10_laySoon_40 : decode cX10_laySoon 40 = .ok (.iload_n 2, 1) := by decide +kernel
theorem dX10_laySoon_41 : decode cX10_laySoon 41 = .ok (.bipush 16, 2) := by decide +kernel
theorem dX10_laySoon_43 : decode cX10_laySoon 43 = .ok (.if_icmp .ge 47, 3) := by decide +kernel
theorem dX10_laySoon_46 : decode cX10_laySoon 46 = .ok (.aload_n 0, 1) := by decide +kernel
theorem dX10_laySoon_47 : decode cX10_laySoon 47 = .ok (.getfield 126, 3) := by decide +kernel
theorem dX10_laySoon_50 : decode cX10_laySoon 50 = .ok (.iload_n 2, 1) := by decide +kernel
theorem dX10_laySoon_51 : decode cX10_laySoon 51 = .ok (.aload_n 0, 1) := by decide +kernel
theorem dX10_laySoon_52 : decode cX10_laySoon 52 = .ok (.getfield 126, 3) := by decide +kernel
theorem dX10_laySoon_55 : decode cX10_laySoon 55 = .ok (.iload_n 2, 1) := by decide +kernel
theorem dX10_laySoon_56 : decode cX10_laySoon 56 = .ok (.iaload, 1) := by decide +kernel
theorem dX10_laySoon_57 : decode cX10_laySoon 57 = .ok (.ifCond .ge 20, 3) := by decide +kernel
theorem dX10_laySoon_60 : decode cX10_laySoon 60 = .ok (.aload_n 0, 1) := by decide +kernel
theorem dX10_laySoon_61 : decode cX10_laySoon 61 = .ok (.getfield 22, 3) := by decide +kernel
theorem dX10_laySoon_64 : decode cX10_laySoon 64 = .ok (.iload_n 2, 1) := by decide +kernel
theorem dX10_laySoon_65 : decode cX10_laySoon 65 = .ok (.iaload, 1) := by decide +kernel
theorem dX10_laySoon_66 : decode cX10_laySoon 66 = .ok (.aload_n 0, 1) := by decide +kernel
theorem dX10_laySoon_67 : decode cX10_laySoon 67 = .ok (.invokevirtual 371, 3) := by decide +kernel
theorem dX10_laySoon_70 : decode cX10_laySoon 70 = .ok (.if_icmp .lt 7, 3) := by decide +kernel
theorem dX10_laySoon_73 : decode cX10_laySoon 73 = .ok (.iload_n 1, 1) := by decide +kernel
theorem dX10_laySoon_74 : decode cX10_laySoon 74 = .ok (.goto 9, 3) := by decide +kernel
theorem dX10_laySoon_77 : decode cX10_laySoon 77 = .ok (.aload_n 0, 1) := by decide +kernel
theorem dX10_laySoon_78 : decode cX10_laySoon 78 = .ok (.getfield 126, 3) := by decide +kernel
theorem dX10_laySoon_81 : decode cX10_laySoon 81 = .ok (.iload_n 2, 1) := by decide +kernel
theorem dX10_laySoon_82 : decode cX10_laySoon 82 = .ok (.iaload, 1) := by decide +kernel
theorem dX10_laySoon_83 : decode cX10_laySoon 83 = .ok (.iastore, 1) := by decide +kernel
theorem dX10_laySoon_84 : decode cX10_laySoon 84 = .ok (.iinc 2 1, 3) := by decide +kernel
theorem dX10_laySoon_87 : decode cX10_laySoon 87 = .ok (.goto (-47), 3) := by decide +kernel
theorem dX10_laySoon_90 : decode cX10_laySoon 90 = .ok (.aload_n 0, 1) := by decide +kernel
theorem dX10_laySoon_91 : decode cX10_laySoon 91 = .ok (.aload_n 0, 1) := by decide +kernel
theorem dX10_laySoon_92 : decode cX10_laySoon 92 = .ok (.invokevirtual 364, 3) := by decide +kernel
theorem dX10_laySoon_95 : decode cX10_laySoon 95 = .ok (.invokevirtual 355, 3) := by decide +kernel
theorem dX10_laySoon_98 : decode cX10_laySoon 98 = .ok (.iinc 1 1, 3) := by decide +kernel
theorem dX10_laySoon_101 : decode cX10_laySoon 101 = .ok (.goto (-69), 3) := by decide +kernel
theorem dX10_laySoon_104 : decode cX10_laySoon 104 = .ok (.aload_n 0, 1) := by decide +kernel
theorem dX10_laySoon_105 : decode cX10_laySoon 105 = .ok (.invokevirtual 378, 3) := by decide +kernel
theorem dX10_laySoon_108 : decode cX10_laySoon 108 = .ok (.return_, 1) := by decide +kernel
theorem dX10_worn_0 : decode cX10_worn 0 = .ok (.aload_n 0, 1) := by decide +kernel
theorem dX10_worn_1 : decode cX10_worn 1 = .ok (.iload_n 1, 1) := by decide +kernel
theorem dX10_worn_2 : decode cX10_worn 2 = .ok (.invokevirtual 257, 3) := by decide +kernel
theorem dX10_worn_5 : decode cX10_worn 5 = .ok (.ifCond .ne 5, 3) := by decide +kernel
theorem dX10_worn_8 : decode cX10_worn 8 = .ok (.iconst (-1), 1) := by decide +kernel
theorem dX10_worn_9 : decode cX10_worn 9 = .ok (.ireturn, 1) := by decide +kernel
theorem dX10_worn_10 : decode cX10_worn 10 = .ok (.aload_n 0, 1) := by decide +kernel
theorem dX10_worn_11 : decode cX10_worn 11 = .ok (.invokevirtual 381, 3) := by decide +kernel
theorem dX10_worn_14 : decode cX10_worn 14 = .ok (.aload_n 0, 1) := by decide +kernel
theorem dX10_worn_15 : decode cX10_worn 15 = .ok (.getfield 126, 3) := by decide +kernel
theorem dX10_worn_18 : decode cX10_worn 18 = .ok (.iload_n 1, 1) := by decide +kernel
theorem dX10_worn_19 : decode cX10_worn 19 = .ok (.iaload, 1) := by decide +kernel
theorem dX10_worn_20 : decode cX10_worn 20 = .ok (.ireturn, 1) := by decide +kernel
theorem dX10_firstOf_0 : decode cX10_firstOf 0 = .ok (.aload_n 0, 1) := by decide +kernel
theorem dX10_firstOf_1 : decode cX10_firstOf 1 = .ok (.invokevirtual 381, 3) := by decide +kernel
theorem dX10_firstOf_4 : decode cX10_firstOf 4 = .ok (.bipush (-5), 2) := by decide +kernel
theorem dX10_firstOf_6 : decode cX10_firstOf 6 = .ok (.istore_n 1, 1) := by decide +kernel
theorem dX10_firstOf_7 : decode cX10_firstOf 7 = .ok (.iconst 0, 1) := by decide +kernel
theorem dX10_firstOf_8 : decode cX10_firstOf 8 = .ok (.istore_n 2, 1) := by decide +kernel
theorem dX10_firstOf_9 : decode cX10_firstOf 9 = .ok (.iload_n 2, 1) := by decide +kernel
theorem dX10_firstOf_10 : decode cX10_firstOf 10 = .ok (.bipush 16, 2) := by decide +kernel
theorem dX10_firstOf_12 : decode cX10_firstOf 12 = .ok (.if_icmp .ge 39, 3) := by decide +kernel
theorem dX10_firstOf_15 : decode cX10_firstOf 15 = .ok (.aload_n 0, 1) := by decide +kernel
theorem dX10_firstOf_16 : decode cX10_firstOf 16 = .ok (.getfield 126, 3) := by decide +kernel
theorem dX10_firstOf_19 : decode cX10_firstOf 19 = .ok (.iload_n 2, 1) := by decide +kernel
theorem dX10_firstOf_20 : decode cX10_firstOf 20 = .ok (.iaload, 1) := by decide +kernel
theorem dX10_firstOf_21 : decode cX10_firstOf 21 = .ok (.ifCond .le 24, 3) := by decide +kernel
theorem dX10_firstOf_24 : decode cX10_firstOf 24 = .ok (.iload_n 1, 1) := by decide +kernel
theorem dX10_firstOf_25 : decode cX10_firstOf 25 = .ok (.ifCond .lt 18, 3) := by decide +kernel
theorem dX10_firstOf_28 : decode cX10_firstOf 28 = .ok (.aload_n 0, 1) := by decide +kernel
theorem dX10_firstOf_29 : decode cX10_firstOf 29 = .ok (.getfield 126, 3) := by decide +kernel
theorem dX10_firstOf_32 : decode cX10_firstOf 32 = .ok (.iload_n 2, 1) := by decide +kernel
theorem dX10_firstOf_33 : decode cX10_firstOf 33 = .ok (.iaload, 1) := by decide +kernel
theorem dX10_firstOf_34 : decode cX10_firstOf 34 = .ok (.aload_n 0, 1) := by decide +kernel
theorem dX10_firstOf_35 : decode cX10_firstOf 35 = .ok (.getfield 126, 3) := by decide +kernel
theorem dX10_firstOf_38 : decode cX10_firstOf 38 = .ok (.iload_n 1, 1) := by decide +kernel
theorem dX10_firstOf_39 : decode cX10_firstOf 39 = .ok (.iaload, 1) := by decide +kernel
theorem dX10_firstOf_40 : decode cX10_firstOf 40 = .ok (.if_icmp .ge 5, 3) := by decide +kernel
theorem dX10_firstOf_43 : decode cX10_firstOf 43 = .ok (.iload_n 2, 1) := by decide +kernel
theorem dX10_firstOf_44 : decode cX10_firstOf 44 = .ok (.istore_n 1, 1) := by decide +kernel
theorem dX10_firstOf_45 : decode cX10_firstOf 45 = .ok (.iinc 2 1, 3) := by decide +kernel
theorem dX10_firstOf_48 : decode cX10_firstOf 48 = .ok (.goto (-39), 3) := by decide +kernel
theorem dX10_firstOf_51 : decode cX10_firstOf 51 = .ok (.iload_n 1, 1) := by decide +kernel
theorem dX10_firstOf_52 : decode cX10_firstOf 52 = .ok (.ireturn, 1) := by decide +kernel
theorem dX10_told_0 : decode cX10_told 0 = .ok (.aload_n 0, 1) := by decide +kernel
theorem dX10_told_1 : decode cX10_told 1 = .ok (.iload_n 1, 1) := by decide +kernel
theorem dX10_told_2 : decode cX10_told 2 = .ok (.bipush 10, 2) := by decide +kernel
theorem dX10_told_4 : decode cX10_told 4 = .ok (.bipush 25, 2) := by decide +kernel
theorem dX10_told_6 : decode cX10_told 6 = .ok (.invokevirtual 253, 3) := by decide +kernel
theorem dX10_told_9 : decode cX10_told 9 = .ok (.ifCond .eq 13, 3) := by decide +kernel
theorem dX10_told_12 : decode cX10_told 12 = .ok (.aload_n 0, 1) := by decide +kernel
theorem dX10_told_13 : decode cX10_told 13 = .ok (.getfield 22, 3) := by decide +kernel
theorem dX10_told_16 : decode cX10_told 16 = .ok (.iload_n 1, 1) := by decide +kernel
theorem dX10_told_17 : decode cX10_told 17 = .ok (.bipush 10, 2) := by decide +kernel
theorem dX10_told_19 : decode cX10_told 19 = .ok (.isub, 1) := by decide +kernel
theorem dX10_told_20 : decode cX10_told 20 = .ok (.iaload, 1) := by decide +kernel
theorem dX10_told_21 : decode cX10_told 21 = .ok (.ireturn, 1) := by decide +kernel
theorem dX10_told_22 : decode cX10_told 22 = .ok (.iload_n 1, 1) := by decide +kernel
theorem dX10_told_23 : decode cX10_told 23 = .ok (.tableswitch 76 0 6 #[41, 46, 51, 56, 61, 66, 71], 41) := by decide +kernel
theorem dX10_told_64 : decode cX10_told 64 = .ok (.aload_n 0, 1) := by decide +kernel
theorem dX10_told_65 : decode cX10_told 65 = .ok (.getfield 19, 3) := by decide +kernel
theorem dX10_told_68 : decode cX10_told 68 = .ok (.ireturn, 1) := by decide +kernel
theorem dX10_told_69 : decode cX10_told 69 = .ok (.aload_n 0, 1) := by decide +kernel
theorem dX10_told_70 : decode cX10_told 70 = .ok (.invokevirtual 371, 3) := by decide +kernel
theorem dX10_told_73 : decode cX10_told 73 = .ok (.ireturn, 1) := by decide +kernel
theorem dX10_told_74 : decode cX10_told 74 = .ok (.aload_n 0, 1) := by decide +kernel
theorem dX10_told_75 : decode cX10_told 75 = .ok (.getfield 16, 3) := by decide +kernel
theorem dX10_told_78 : decode cX10_told 78 = .ok (.ireturn, 1) := by decide +kernel
theorem dX10_told_79 : decode cX10_told 79 = .ok (.aload_n 0, 1) := by decide +kernel
theorem dX10_told_80 : decode cX10_told 80 = .ok (.invokevirtual 384, 3) := by decide +kernel
theorem dX10_told_83 : decode cX10_told 83 = .ok (.ireturn, 1) := by decide +kernel
theorem dX10_told_84 : decode cX10_told 84 = .ok (.aload_n 0, 1) := by decide +kernel
theorem dX10_told_85 : decode cX10_told 85 = .ok (.invokevirtual 387, 3) := by decide +kernel
theorem dX10_told_88 : decode cX10_told 88 = .ok (.ireturn, 1) := by decide +kernel
theorem dX10_told_89 : decode cX10_told 89 = .ok (.aload_n 0, 1) := by decide +kernel
theorem dX10_told_90 : decode cX10_told 90 = .ok (.invokevirtual 390, 3) := by decide +kernel
theorem dX10_told_93 : decode cX10_told 93 = .ok (.ireturn, 1) := by decide +kernel
theorem dX10_told_94 : decode cX10_told 94 = .ok (.aload_n 0, 1) := by decide +kernel
theorem dX10_told_95 : decode cX10_told 95 = .ok (.invokevirtual 393, 3) := by decide +kernel
theorem dX10_told_98 : decode cX10_told 98 = .ok (.ireturn, 1) := by decide +kernel
theorem dX10_told_99 : decode cX10_told 99 = .ok (.iconst (-1), 1) := by decide +kernel
theorem dX10_told_100 : decode cX10_told 100 = .ok (.ireturn, 1) := by decide +kernel
theorem dX10_on_0 : decode cX10_on 0 = .ok (.aload_n 0, 1) := by decide +kernel
theorem dX10_on_1 : decode cX10_on 1 = .ok (.iload_n 2, 1) := by decide +kernel
theorem dX10_on_2 : decode cX10_on 2 = .ok (.iconst 0, 1) := by decide +kernel
theorem dX10_on_3 : decode cX10_on 3 = .ok (.iconst 1, 1) := by decide +kernel
theorem dX10_on_4 : decode cX10_on 4 = .ok (.invokevirtual 253, 3) := by decide +kernel
theorem dX10_on_7 : decode cX10_on 7 = .ok (.ifCond .ne 17, 3) := by decide +kernel
theorem dX10_on_10 : decode cX10_on 10 = .ok (.aload_n 0, 1) := by decide +kernel
theorem dX10_on_11 : decode cX10_on 11 = .ok (.iload_n 2, 1) := by decide +kernel
theorem dX10_on_12 : decode cX10_on 12 = .ok (.bipush 10, 2) := by decide +kernel
theorem dX10_on_14 : decode cX10_on 14 = .ok (.bipush 25, 2) := by decide +kernel
theorem dX10_on_16 : decode cX10_on 16 = .ok (.invokevirtual 253, 3) := by decide +kernel
theorem dX10_on_19 : decode cX10_on 19 = .ok (.ifCond .ne 5, 3) := by decide +kernel
theorem dX10_on_22 : decode cX10_on 22 = .ok (.iconst (-1), 1) := by decide +kernel
theorem dX10_on_23 : decode cX10_on 23 = .ok (.ireturn, 1) := by decide +kernel
theorem dX10_on_24 : decode cX10_on 24 = .ok (.aload_n 0, 1) := by decide +kernel
theorem dX10_on_25 : decode cX10_on 25 = .ok (.iload_n 1, 1) := by decide +kernel
theorem dX10_on_26 : decode cX10_on 26 = .ok (.invokevirtual 358, 3) := by decide +kernel
theorem dX10_on_29 : decode cX10_on 29 = .ok (.ifCond .ne 6, 3) := by decide +kernel
theorem dX10_on_32 : decode cX10_on 32 = .ok (.bipush (-2), 2) := by decide +kernel
theorem dX10_on_34 : decode cX10_on 34 = .ok (.ireturn, 1) := by decide +kernel
theorem dX10_on_35 : decode cX10_on 35 = .ok (.aload_n 0, 1) := by decide +kernel
theorem dX10_on_36 : decode cX10_on 36 = .ok (.invokevirtual 361, 3) := by decide +kernel
theorem dX10_on_39 : decode cX10_on 39 = .ok (.aload_n 0, 1) := by decide +kernel
theorem dX10_on_40 : decode cX10_on 40 = .ok (.invokevirtual 375, 3) := by decide +kernel
theorem dX10_on_43 : decode cX10_on 43 = .ok (.aload_n 0, 1) := by decide +kernel
theorem dX10_on_44 : decode cX10_on 44 = .ok (.aload_n 0, 1) := by decide +kernel
theorem dX10_on_45 : decode cX10_on 45 = .ok (.invokevirtual 364, 3) := by decide +kernel
theorem dX10_on_48 : decode cX10_on 48 = .ok (.iload_n 1, 1) := by decide +kernel
theorem dX10_on_49 : decode cX10_on 49 = .ok (.invokevirtual 367, 3) := by decide +kernel
theorem dX10_on_52 : decode cX10_on 52 = .ok (.iload_n 2, 1) := by decide +kernel
theorem dX10_on_53 : decode cX10_on 53 = .ok (.ifCond .ne 10, 3) := by decide +kernel
theorem dX10_on_56 : decode cX10_on 56 = .ok (.aload_n 0, 1) := by decide +kernel
theorem dX10_on_57 : decode cX10_on 57 = .ok (.invokevirtual 384, 3) := by decide +kernel
theorem dX10_on_60 : decode cX10_on 60 = .ok (.goto 24, 3) := by decide +kernel
theorem dX10_on_63 : decode cX10_on 63 = .ok (.iload_n 2, 1) := by decide +kernel
theorem dX10_on_64 : decode cX10_on 64 = .ok (.iconst 1, 1) := by decide +kernel
theorem dX10_on_65 : decode cX10_on 65 = .ok (.if_icmp .ne 10, 3) := by decide +kernel
theorem dX10_on_68 : decode cX10_on 68 = .ok (.aload_n 0, 1) := by decide +kernel
theorem dX10_on_69 : decode cX10_on 69 = .ok (.invokevirtual 387, 3) := by decide +kernel
theorem dX10_on_72 : decode cX10_on 72 = .ok (.goto 12, 3) := by decide +kernel
theorem dX10_on_75 : decode cX10_on 75 = .ok (.aload_n 0, 1) := by decide +kernel
theorem dX10_on_76 : decode cX10_on 76 = .ok (.getfield 22, 3) := by decide +kernel
theorem dX10_on_79 : decode cX10_on 79 = .ok (.iload_n 2, 1) := by decide +kernel
theorem dX10_on_80 : decode cX10_on 80 = .ok (.bipush 10, 2) := by decide +kernel
theorem dX10_on_82 : decode cX10_on 82 = .ok (.isub, 1) := by decide +kernel
theorem dX10_on_83 : decode cX10_on 83 = .ok (.iaload, 1) := by decide +kernel
theorem dX10_on_84 : decode cX10_on 84 = .ok (.istore_n 3, 1) := by decide +kernel
theorem dX10_on_85 : decode cX10_on 85 = .ok (.aload_n 0, 1) := by decide +kernel
theorem dX10_on_86 : decode cX10_on 86 = .ok (.invokevirtual 378, 3) := by decide +kernel
theorem dX10_on_89 : decode cX10_on 89 = .ok (.iload_n 3, 1) := by decide +kernel
theorem dX10_on_90 : decode cX10_on 90 = .ok (.ireturn, 1) := by decide +kernel
theorem dX10_meet_0 : decode cX10_meet 0 = .ok (.aload_n 0, 1) := by decide +kernel
theorem dX10_meet_1 : decode cX10_meet 1 = .ok (.iload_n 1, 1) := by decide +kernel
theorem dX10_meet_2 : decode cX10_meet 2 = .ok (.invokevirtual 264, 3) := by decide +kernel
theorem dX10_meet_5 : decode cX10_meet 5 = .ok (.ifCond .eq 11, 3) := by decide +kernel
theorem dX10_meet_8 : decode cX10_meet 8 = .ok (.aload_n 0, 1) := by decide +kernel
theorem dX10_meet_9 : decode cX10_meet 9 = .ok (.iload_n 2, 1) := by decide +kernel
theorem dX10_meet_10 : decode cX10_meet 10 = .ok (.invokevirtual 264, 3) := by decide +kernel
theorem dX10_meet_13 : decode cX10_meet 13 = .ok (.ifCond .ne 5, 3) := by decide +kernel
theorem dX10_meet_16 : decode cX10_meet 16 = .ok (.iconst (-1), 1) := by decide +kernel
theorem dX10_meet_17 : decode cX10_meet 17 = .ok (.ireturn, 1) := by decide +kernel
theorem dX10_meet_18 : decode cX10_meet 18 = .ok (.iload_n 1, 1) := by decide +kernel
theorem dX10_meet_19 : decode cX10_meet 19 = .ok (.iload_n 2, 1) := by decide +kernel
theorem dX10_meet_20 : decode cX10_meet 20 = .ok (.if_icmp .ne 8, 3) := by decide +kernel
theorem dX10_meet_23 : decode cX10_meet 23 = .ok (.bipush (-2), 2) := by decide +kernel
theorem dX10_meet_25 : decode cX10_meet 25 = .ok (.goto 14, 3) := by decide +kernel
theorem dX10_meet_28 : decode cX10_meet 28 = .ok (.aload_n 0, 1) := by decide +kernel
theorem dX10_meet_29 : decode cX10_meet 29 = .ok (.iload_n 1, 1) := by decide +kernel
theorem dX10_meet_30 : decode cX10_meet 30 = .ok (.invokevirtual 342, 3) := by decide +kernel
theorem dX10_meet_33 : decode cX10_meet 33 = .ok (.aload_n 0, 1) := by decide +kernel
theorem dX10_meet_34 : decode cX10_meet 34 = .ok (.iload_n 2, 1) := by decide +kernel
theorem dX10_meet_35 : decode cX10_meet 35 = .ok (.invokevirtual 342, 3) := by decide +kernel
theorem dX10_meet_38 : decode cX10_meet 38 = .ok (.iand, 1) := by decide +kernel
theorem dX10_meet_39 : decode cX10_meet 39 = .ok (.ireturn, 1) := by decide +kernel
theorem dX10_isPrint_0 : decode cX10_isPrint 0 = .ok (.aload_n 0, 1) := by decide +kernel
theorem dX10_isPrint_1 : decode cX10_isPrint 1 = .ok (.invokevirtual 375, 3) := by decide +kernel
theorem dX10_isPrint_4 : decode cX10_isPrint 4 = .ok (.iconst 0, 1) := by decide +kernel
theorem dX10_isPrint_5 : decode cX10_isPrint 5 = .ok (.istore 4, 2) := by decide +kernel
theorem dX10_isPrint_7 : decode cX10_isPrint 7 = .ok (.iload 4, 2) := by decide +kernel
theorem dX10_isPrint_9 : decode cX10_isPrint 9 = .ok (.bipush 16, 2) := by decide +kernel
theorem dX10_isPrint_11 : decode cX10_isPrint 11 = .ok (.if_icmp .ge 17, 3) := by decide +kernel
theorem dX10_isPrint_14 : decode cX10_isPrint 14 = .ok (.aload_n 0, 1) := by decide +kernel
theorem dX10_isPrint_15 : decode cX10_isPrint 15 = .ok (.getfield 22, 3) := by decide +kernel
theorem dX10_isPrint_18 : decode cX10_isPrint 18 = .ok (.iload 4, 2) := by decide +kernel
theorem dX10_isPrint_20 : decode cX10_isPrint 20 = .ok (.iconst 0, 1) := by decide +kernel
theorem dX10_isPrint_21 : decode cX10_isPrint 21 = .ok (.iastore, 1) := by decide +kernel
theorem dX10_isPrint_22 : decode cX10_isPrint 22 = .ok (.iinc 4 1, 3) := by decide +kernel
theorem dX10_isPrint_25 : decode cX10_isPrint 25 = .ok (.goto (-18), 3) := by decide +kernel
theorem dX10_isPrint_28 : decode cX10_isPrint 28 = .ok (.aload_n 0, 1) := by decide +kernel
theorem dX10_isPrint_29 : decode cX10_isPrint 29 = .ok (.iload_n 1, 1) := by decide +kernel
theorem dX10_isPrint_30 : decode cX10_isPrint 30 = .ok (.iload_n 3, 1) := by decide +kernel
theorem dX10_isPrint_31 : decode cX10_isPrint 31 = .ok (.invokevirtual 367, 3) := by decide +kernel
theorem dX10_isPrint_34 : decode cX10_isPrint 34 = .ok (.iconst 0, 1) := by decide +kernel
theorem dX10_isPrint_35 : decode cX10_isPrint 35 = .ok (.istore 4, 2) := by decide +kernel
theorem dX10_isPrint_37 : decode cX10_isPrint 37 = .ok (.iconst 0, 1) := by decide +kernel
theorem dX10_isPrint_38 : decode cX10_isPrint 38 = .ok (.istore 5, 2) := by decide +kernel
theorem dX10_isPrint_40 : decode cX10_isPrint 40 = .ok (.iload 5, 2) := by decide +kernel
theorem dX10_isPrint_42 : decode cX10_isPrint 42 = .ok (.bipush 16, 2) := by decide +kernel
theorem dX10_isPrint_44 : decode cX10_isPrint 44 = .ok (.if_icmp .ge 32, 3) := by decide +kernel
theorem dX10_isPrint_47 : decode cX10_isPrint 47 = .ok (.iload 4, 2) := by decide +kernel
theorem dX10_isPrint_49 : decode cX10_isPrint 49 = .ok (.aload_n 0, 1) := by decide +kernel
theorem dX10_isPrint_50 : decode cX10_isPrint 50 = .ok (.getfield 22, 3) := by decide +kernel
theorem dX10_isPrint_53 : decode cX10_isPrint 53 = .ok (.iload 5, 2) := by decide +kernel
theorem dX10_isPrint_55 : decode cX10_isPrint 55 = .ok (.iaload, 1) := by decide +kernel
theorem dX10_isPrint_56 : decode cX10_isPrint 56 = .ok (.ifCond .le 10, 3) := by decide +kernel
theorem dX10_isPrint_59 : decode cX10_isPrint 59 = .ok (.iconst 1, 1) := by decide +kernel
theorem dX10_isPrint_60 : decode cX10_isPrint 60 = .ok (.iload 5, 2) := by decide +kernel
theorem dX10_isPrint_62 : decode cX10_isPrint 62 = .ok (.ishl, 1) := by decide +kernel
theorem dX10_isPrint_63 : decode cX10_isPrint 63 = .ok (.goto 4, 3) := by decide +kernel
theorem dX10_isPrint_66 : decode cX10_isPrint 66 = .ok (.iconst 0, 1) := by decide +kernel
theorem dX10_isPrint_67 : decode cX10_isPrint 67 = .ok (.ior, 1) := by decide +kernel
theorem dX10_isPrint_68 : decode cX10_isPrint 68 = .ok (.istore 4, 2) := by decide +kernel
theorem dX10_isPrint_70 : decode cX10_isPrint 70 = .ok (.iinc 5 1, 3) := by decide +kernel
theorem dX10_isPrint_73 : decode cX10_isPrint 73 = .ok (.goto (-33), 3) := by decide +kernel
theorem dX10_isPrint_76 : decode cX10_isPrint 76 = .ok (.aload_n 0, 1) := by decide +kernel
theorem dX10_isPrint_77 : decode cX10_isPrint 77 = .ok (.invokevirtual 378, 3) := by decide +kernel
theorem dX10_isPrint_80 : decode cX10_isPrint 80 = .ok (.iload 4, 2) := by decide +kernel
theorem dX10_isPrint_82 : decode cX10_isPrint 82 = .ok (.iload_n 2, 1) := by decide +kernel
theorem dX10_isPrint_83 : decode cX10_isPrint 83 = .ok (.if_icmp .ne 7, 3) := by decide +kernel
theorem dX10_isPrint_86 : decode cX10_isPrint 86 = .ok (.iconst 1, 1) := by decide +kernel
theorem dX10_isPrint_87 : decode cX10_isPrint 87 = .ok (.goto 4, 3) := by decide +kernel
theorem dX10_isPrint_90 : decode cX10_isPrint 90 = .ok (.iconst 0, 1) := by decide +kernel
theorem dX10_isPrint_91 : decode cX10_isPrint 91 = .ok (.ireturn, 1) := by decide +kernel
theorem dX10_who_0 : decode cX10_who 0 = .ok (.aload_n 0, 1) := by decide +kernel
theorem dX10_who_1 : decode cX10_who 1 = .ok (.iload_n 3, 1) := by decide +kernel
theorem dX10_who_2 : decode cX10_who 2 = .ok (.iconst 0, 1) := by decide +kernel
theorem dX10_who_3 : decode cX10_who 3 = .ok (.iconst 1, 1) := by decide +kernel
theorem dX10_who_4 : decode cX10_who 4 = .ok (.invokevirtual 253, 3) := by decide +kernel
theorem dX10_who_7 : decode cX10_who 7 = .ok (.ifCond .ne 5, 3) := by decide +kernel
theorem dX10_who_10 : decode cX10_who 10 = .ok (.iconst (-1), 1) := by decide +kernel
theorem dX10_who_11 : decode cX10_who 11 = .ok (.ireturn, 1) := by decide +kernel
theorem dX10_who_12 : decode cX10_who 12 = .ok (.aload_n 0, 1) := by decide +kernel
theorem dX10_who_13 : decode cX10_who 13 = .ok (.iload_n 1, 1) := by decide +kernel
theorem dX10_who_14 : decode cX10_who 14 = .ok (.iconst 0, 1) := by decide +kernel
theorem dX10_who_15 : decode cX10_who 15 = .ok (.ldc_w 396, 3) := by decide +kernel
theorem dX10_who_18 : decode cX10_who 18 = .ok (.invokevirtual 253, 3) := by decide +kernel
theorem dX10_who_21 : decode cX10_who 21 = .ok (.ifCond .eq 14, 3) := by decide +kernel
theorem dX10_who_24 : decode cX10_who 24 = .ok (.aload_n 0, 1) := by decide +kernel
theorem dX10_who_25 : decode cX10_who 25 = .ok (.iload_n 2, 1) := by decide +kernel
theorem dX10_who_26 : decode cX10_who 26 = .ok (.iconst 1, 1) := by decide +kernel
theorem dX10_who_27 : decode cX10_who 27 = .ok (.bipush 20, 2) := by decide +kernel
theorem dX10_who_29 : decode cX10_who 29 = .ok (.invokevirtual 253, 3) := by decide +kernel
theorem dX10_who_32 : decode cX10_who 32 = .ok (.ifCond .ne 6, 3) := by decide +kernel
theorem dX10_who_35 : decode cX10_who 35 = .ok (.bipush (-2), 2) := by decide +kernel
theorem dX10_who_37 : decode cX10_who 37 = .ok (.ireturn, 1) := by decide +kernel
theorem dX10_who_38 : decode cX10_who 38 = .ok (.aload_n 0, 1) := by decide +kernel
theorem dX10_who_39 : decode cX10_who 39 = .ok (.invokevirtual 361, 3) := by decide +kernel
theorem dX10_who_42 : decode cX10_who 42 = .ok (.bipush (-5), 2) := by decide +kernel
theorem dX10_who_44 : decode cX10_who 44 = .ok (.istore 4, 2) := by decide +kernel
theorem dX10_who_46 : decode cX10_who 46 = .ok (.iconst 0, 1) := by decide +kernel
theorem dX10_who_47 : decode cX10_who 47 = .ok (.istore 5, 2) := by decide +kernel
theorem dX10_who_49 : decode cX10_who 49 = .ok (.iconst 0, 1) := by decide +kernel
theorem dX10_who_50 : decode cX10_who 50 = .ok (.istore 6, 2) := by decide +kernel
theorem dX10_who_52 : decode cX10_who 52 = .ok (.iload 6, 2) := by decide +kernel
theorem dX10_who_54 : decode cX10_who 54 = .ok (.iconst 1, 1) := by decide +kernel
theorem dX10_who_55 : decode cX10_who 55 = .ok (.aload_n 0, 1) := by decide +kernel
theorem dX10_who_56 : decode cX10_who 56 = .ok (.getfield 7, 3) := by decide +kernel
theorem dX10_who_59 : decode cX10_who 59 = .ok (.ishl, 1) := by decide +kernel
theorem dX10_who_60 : decode cX10_who 60 = .ok (.if_icmp .ge 60, 3) := by decide +kernel
theorem dX10_who_63 : decode cX10_who 63 = .ok (.iload 6, 2) := by decide +kernel
theorem dX10_who_65 : decode cX10_who 65 = .ok (.aload_n 0, 1) := by decide +kernel
theorem dX10_who_66 : decode cX10_who 66 = .ok (.getfield 13, 3) := by decide +kernel
theorem dX10_who_69 : decode cX10_who 69 = .ok (.iand, 1) := by decide +kernel
theorem dX10_who_70 : decode cX10_who 70 = .ok (.ifCond .ne 44, 3) := by decide +kernel
theorem dX10_who_73 : decode cX10_who 73 = .ok (.aload_n 0, 1) := by decide +kernel
theorem dX10_who_74 : decode cX10_who 74 = .ok (.iload 6, 2) := by decide +kernel
theorem dX10_who_76 : decode cX10_who 76 = .ok (.iload_n 1, 1) := by decide +kernel
theorem dX10_who_77 : decode cX10_who 77 = .ok (.iload_n 2, 1) := by decide +kernel
theorem dX10_who_78 : decode cX10_who 78 = .ok (.invokevirtual 397, 3) := by decide +kernel
theorem dX10_who_81 : decode cX10_who 81 = .ok (.ifCond .ne 6, 3) := by decide +kernel
theorem dX10_who_84 : decode cX10_who 84 = .ok (.goto 30, 3) := by decide +kernel
theorem dX10_who_87 : decode cX10_who 87 = .ok (.iinc 5 1, 3) := by decide +kernel
theorem dX10_who_90 : decode cX10_who 90 = .ok (.iload 4, 2) := by decide +kernel
theorem dX10_who_92 : decode cX10_who 92 = .ok (.ifCond .lt 18, 3) := by decide +kernel
theorem dX10_who_95 : decode cX10_who 95 = .ok (.aload_n 0, 1) := by decide +kernel
theorem dX10_who_96 : decode cX10_who 96 = .ok (.iload 6, 2) := by decide +kernel
theorem dX10_who_98 : decode cX10_who 98 = .ok (.invokevirtual 400, 3) := by decide +kernel
theorem dX10_who_101 : decode cX10_who 101 = .ok (.aload_n 0, 1) := by decide +kernel
theorem dX10_who_102 : decode cX10_who 102 = .ok (.iload 4, 2) := by decide +kernel
theorem dX10_who_104 : decode cX10_who 104 = .ok (.invokevirtual 400, 3) := by decide +kernel
theorem dX10_who_107 : decode cX10_who 107 = .ok (.if_icmp .ge 7, 3) := by decide +kernel
theorem dX10_who_110 : decode cX10_who 110 = .ok (.iload 6, 2) := by decide +kernel
theorem dX10_who_112 : decode cX10_who 112 = .ok (.istore 4, 2) := by decide +kernel
theorem dX10_who_114 : decode cX10_who 114 = .ok (.iinc 6 1, 3) := by decide +kernel
theorem dX10_who_117 : decode cX10_who 117 = .ok (.goto (-65), 3) := by decide +kernel
theorem dX10_who_120 : decode cX10_who 120 = .ok (.iload_n 3, 1) := by decide +kernel
theorem dX10_who_121 : decode cX10_who 121 = .ok (.ifCond .ne 8, 3) := by decide +kernel
theorem dX10_who_124 : decode cX10_who 124 = .ok (.iload 4, 2) := by decide +kernel
theorem dX10_who_126 : decode cX10_who 126 = .ok (.goto 5, 3) := by decide +kernel
theorem dX10_who_129 : decode cX10_who 129 = .ok (.iload 5, 2) := by decide +kernel
theorem dX10_who_131 : decode cX10_who 131 = .ok (.ireturn, 1) := by decide +kernel
theorem dX10_wearIf_0 : decode cX10_wearIf 0 = .ok (.aload_n 0, 1) := by decide +kernel
theorem dX10_wearIf_1 : decode cX10_wearIf 1 = .ok (.invokevirtual 375, 3) := by decide +kernel
theorem dX10_wearIf_4 : decode cX10_wearIf 4 = .ok (.aload_n 0, 1) := by decide +kernel
theorem dX10_wearIf_5 : decode cX10_wearIf 5 = .ok (.dup, 1) := by decide +kernel
theorem dX10_wearIf_6 : decode cX10_wearIf 6 = .ok (.getfield 16, 3) := by decide +kernel
theorem dX10_wearIf_9 : decode cX10_wearIf 9 = .ok (.iload_n 1, 1) := by decide +kernel
theorem dX10_wearIf_10 : decode cX10_wearIf 10 = .ok (.ior, 1) := by decide +kernel
theorem dX10_wearIf_11 : decode cX10_wearIf 11 = .ok (.putfield 16, 3) := by decide +kernel
theorem dX10_wearIf_14 : decode cX10_wearIf 14 = .ok (.aload_n 0, 1) := by decide +kernel
theorem dX10_wearIf_15 : decode cX10_wearIf 15 = .ok (.invokevirtual 361, 3) := by decide +kernel
theorem dX10_wearIf_18 : decode cX10_wearIf 18 = .ok (.aload_n 0, 1) := by decide +kernel
theorem dX10_wearIf_19 : decode cX10_wearIf 19 = .ok (.aload_n 0, 1) := by decide +kernel
theorem dX10_wearIf_20 : decode cX10_wearIf 20 = .ok (.invokevirtual 364, 3) := by decide +kernel
theorem dX10_wearIf_23 : decode cX10_wearIf 23 = .ok (.bipush 10, 2) := by decide +kernel
theorem dX10_wearIf_25 : decode cX10_wearIf 25 = .ok (.invokevirtual 367, 3) := by decide +kernel
theorem dX10_wearIf_28 : decode cX10_wearIf 28 = .ok (.aload_n 0, 1) := by decide +kernel
theorem dX10_wearIf_29 : decode cX10_wearIf 29 = .ok (.invokevirtual 387, 3) := by decide +kernel
theorem dX10_wearIf_32 : decode cX10_wearIf 32 = .ok (.istore_n 2, 1) := by decide +kernel
theorem dX10_wearIf_33 : decode cX10_wearIf 33 = .ok (.aload_n 0, 1) := by decide +kernel
theorem dX10_wearIf_34 : decode cX10_wearIf 34 = .ok (.invokevirtual 378, 3) := by decide +kernel
theorem dX10_wearIf_37 : decode cX10_wearIf 37 = .ok (.iload_n 2, 1) := by decide +kernel
theorem dX10_wearIf_38 : decode cX10_wearIf 38 = .ok (.ireturn, 1) := by decide +kernel
theorem dX10_busy_0 : decode cX10_busy 0 = .ok (.aload_n 0, 1) := by decide +kernel
theorem dX10_busy_1 : decode cX10_busy 1 = .ok (.getfield 16, 3) := by decide +kernel
theorem dX10_busy_4 : decode cX10_busy 4 = .ok (.istore_n 1, 1) := by decide +kernel
theorem dX10_busy_5 : decode cX10_busy 5 = .ok (.iconst 0, 1) := by decide +kernel
theorem dX10_busy_6 : decode cX10_busy 6 = .ok (.istore_n 2, 1) := by decide +kernel
theorem dX10_busy_7 : decode cX10_busy 7 = .ok (.iload_n 2, 1) := by decide +kernel
theorem dX10_busy_8 : decode cX10_busy 8 = .ok (.aload_n 0, 1) := by decide +kernel
theorem dX10_busy_9 : decode cX10_busy 9 = .ok (.getfield 7, 3) := by decide +kernel
theorem dX10_busy_12 : decode cX10_busy 12 = .ok (.if_icmp .ge 29, 3) := by decide +kernel
theorem dX10_busy_15 : decode cX10_busy 15 = .ok (.iload_n 1, 1) := by decide +kernel
theorem dX10_busy_16 : decode cX10_busy 16 = .ok (.iconst 1, 1) := by decide +kernel
theorem dX10_busy_17 : decode cX10_busy 17 = .ok (.aload_n 0, 1) := by decide +kernel
theorem dX10_busy_18 : decode cX10_busy 18 = .ok (.getfield 32, 3) := by decide +kernel
theorem dX10_busy_21 : decode cX10_busy 21 = .ok (.iload_n 2, 1) := by decide +kernel
theorem dX10_busy_22 : decode cX10_busy 22 = .ok (.iaload, 1) := by decide +kernel
theorem dX10_busy_23 : decode cX10_busy 23 = .ok (.ishl, 1) := by decide +kernel
theorem dX10_busy_24 : decode cX10_busy 24 = .ok (.iconst 1, 1) := by decide +kernel
theorem dX10_busy_25 : decode cX10_busy 25 = .ok (.aload_n 0, 1) := by decide +kernel
theorem dX10_busy_26 : decode cX10_busy 26 = .ok (.getfield 35, 3) := by decide +kernel
theorem dX10_busy_29 : decode cX10_busy 29 = .ok (.iload_n 2, 1) := by decide +kernel
theorem dX10_busy_30 : decode cX10_busy 30 = .ok (.iaload, 1) := by decide +kernel
theorem dX10_busy_31 : decode cX10_busy 31 = .ok (.ishl, 1) := by decide +kernel
theorem dX10_busy_32 : decode cX10_busy 32 = .ok (.ior, 1) := by decide +kernel
theorem dX10_busy_33 : decode cX10_busy 33 = .ok (.ior, 1) := by decide +kernel
theorem dX10_busy_34 : decode cX10_busy 34 = .ok (.istore_n 1, 1) := by decide +kernel
theorem dX10_busy_35 : decode cX10_busy 35 = .ok (.iinc 2 1, 3) := by decide +kernel
theorem dX10_busy_38 : decode cX10_busy 38 = .ok (.goto (-31), 3) := by decide +kernel
theorem dX10_busy_41 : decode cX10_busy 41 = .ok (.iload_n 1, 1) := by decide +kernel
theorem dX10_busy_42 : decode cX10_busy 42 = .ok (.ireturn, 1) := by decide +kernel
theorem dX10_standOf_0 : decode cX10_standOf 0 = .ok (.aload_n 0, 1) := by decide +kernel
theorem dX10_standOf_1 : decode cX10_standOf 1 = .ok (.iconst 0, 1) := by decide +kernel
theorem dX10_standOf_2 : decode cX10_standOf 2 = .ok (.invokevirtual 403, 3) := by decide +kernel
theorem dX10_standOf_5 : decode cX10_standOf 5 = .ok (.istore_n 1, 1) := by decide +kernel
theorem dX10_standOf_6 : decode cX10_standOf 6 = .ok (.bipush (-5), 2) := by decide +kernel
theorem dX10_standOf_8 : decode cX10_standOf 8 = .ok (.istore_n 2, 1) := by decide +kernel
theorem dX10_standOf_9 : decode cX10_standOf 9 = .ok (.aload_n 0, 1) := by decide +kernel
theorem dX10_standOf_10 : decode cX10_standOf 10 = .ok (.invokevirtual 406, 3) := by decide +kernel
theorem dX10_standOf_13 : decode cX10_standOf 13 = .ok (.istore_n 3, 1) := by decide +kernel
theorem dX10_standOf_14 : decode cX10_standOf 14 = .ok (.iconst 0, 1) := by decide +kernel
theorem dX10_standOf_15 : decode cX10_standOf 15 = .ok (.istore 4, 2) := by decide +kernel
theorem dX10_standOf_17 : decode cX10_standOf 17 = .ok (.iload 4, 2) := by decide +kernel
theorem dX10_standOf_19 : decode cX10_standOf 19 = .ok (.bipush 16, 2) := by decide +kernel
theorem dX10_standOf_21 : decode cX10_standOf 21 = .ok (.if_icmp .ge 78, 3) := by decide +kernel
theorem dX10_standOf_24 : decode cX10_standOf 24 = .ok (.iconst (-1), 1) := by decide +kernel
theorem dX10_standOf_25 : decode cX10_standOf 25 = .ok (.istore 5, 2) := by decide +kernel
theorem dX10_standOf_27 : decode cX10_standOf 27 = .ok (.iload 5, 2) := by decide +kernel
theorem dX10_standOf_29 : decode cX10_standOf 29 = .ok (.iload 4, 2) := by decide +kernel
theorem dX10_standOf_31 : decode cX10_standOf 31 = .ok (.if_icmp .ge 62, 3) := by decide +kernel
theorem dX10_standOf_34 : decode cX10_standOf 34 = .ok (.iconst 1, 1) := by decide +kernel
theorem dX10_standOf_35 : decode cX10_standOf 35 = .ok (.iload 4, 2) := by decide +kernel
theorem dX10_standOf_37 : decode cX10_standOf 37 = .ok (.ishl, 1) := by decide +kernel
theorem dX10_standOf_38 : decode cX10_standOf 38 = .ok (.iload 5, 2) := by decide +kernel
theorem dX10_standOf_40 : decode cX10_standOf 40 = .ok (.ifCond .ge 7, 3) := by decide +kernel
theorem dX10_standOf_43 : decode cX10_standOf 43 = .ok (.iconst 0, 1) := by decide +kernel
theorem dX10_standOf_44 : decode cX10_standOf 44 = .ok (.goto 7, 3) := by decide +kernel
theorem dX10_standOf_47 : decode cX10_standOf 47 = .ok (.iconst 1, 1) := by decide +kernel
theorem dX10_standOf_48 : decode cX10_standOf 48 = .ok (.iload 5, 2) := by decide +kernel
theorem dX10_standOf_50 : decode cX10_standOf 50 = .ok (.ishl, 1) := by decide +kernel
theorem dX10_standOf_51 : decode cX10_standOf 51 = .ok (.ior, 1) := by decide +kernel
theorem dX10_standOf_52 : decode cX10_standOf 52 = .ok (.istore 6, 2) := by decide +kernel
theorem dX10_standOf_54 : decode cX10_standOf 54 = .ok (.iload 6, 2) := by decide +kernel
theorem dX10_standOf_56 : decode cX10_standOf 56 = .ok (.iload_n 3, 1) := by decide +kernel
theorem dX10_standOf_57 : decode cX10_standOf 57 = .ok (.iand, 1) := by decide +kernel
theorem dX10_standOf_58 : decode cX10_standOf 58 = .ok (.ifCond .eq 6, 3) := by decide +kernel
theorem dX10_standOf_61 : decode cX10_standOf 61 = .ok (.goto 26, 3) := by decide +kernel
theorem dX10_standOf_64 : decode cX10_standOf 64 = .ok (.aload_n 0, 1) := by decide +kernel
theorem dX10_standOf_65 : decode cX10_standOf 65 = .ok (.iload 6, 2) := by decide +kernel
theorem dX10_standOf_67 : decode cX10_standOf 67 = .ok (.invokevirtual 403, 3) := by decide +kernel
theorem dX10_standOf_70 : decode cX10_standOf 70 = .ok (.istore 7, 2) := by decide +kernel
theorem dX10_standOf_72 : decode cX10_standOf 72 = .ok (.iload 7, 2) := by decide +kernel
theorem dX10_standOf_74 : decode cX10_standOf 74 = .ok (.iload_n 1, 1) := by decide +kernel
theorem dX10_standOf_75 : decode cX10_standOf 75 = .ok (.if_icmp .lt 6, 3) := by decide +kernel
theorem dX10_standOf_78 : decode cX10_standOf 78 = .ok (.goto 9, 3) := by decide +kernel
theorem dX10_standOf_81 : decode cX10_standOf 81 = .ok (.iload 6, 2) := by decide +kernel
theorem dX10_standOf_83 : decode cX10_standOf 83 = .ok (.istore_n 2, 1) := by decide +kernel
theorem dX10_standOf_84 : decode cX10_standOf 84 = .ok (.iload 7, 2) := by decide +kernel
theorem dX10_standOf_86 : decode cX10_standOf 86 = .ok (.istore_n 1, 1) := by decide +kernel
theorem dX10_standOf_87 : decode cX10_standOf 87 = .ok (.iinc 5 1, 3) := by decide +kernel
theorem dX10_standOf_90 : decode cX10_standOf 90 = .ok (.goto (-63), 3) := by decide +kernel
theorem dX10_standOf_93 : decode cX10_standOf 93 = .ok (.iinc 4 1, 3) := by decide +kernel
theorem dX10_standOf_96 : decode cX10_standOf 96 = .ok (.goto (-79), 3) := by decide +kernel
theorem dX10_standOf_99 : decode cX10_standOf 99 = .ok (.iload_n 2, 1) := by decide +kernel
theorem dX10_standOf_100 : decode cX10_standOf 100 = .ok (.ireturn, 1) := by decide +kernel
theorem dX10_baldIf_0 : decode cX10_baldIf 0 = .ok (.aload_n 0, 1) := by decide +kernel
theorem dX10_baldIf_1 : decode cX10_baldIf 1 = .ok (.invokevirtual 375, 3) := by decide +kernel
theorem dX10_baldIf_4 : decode cX10_baldIf 4 = .ok (.iload_n 1, 1) := by decide +kernel
theorem dX10_baldIf_5 : decode cX10_baldIf 5 = .ok (.ifCond .lt 10, 3) := by decide +kernel
theorem dX10_baldIf_8 : decode cX10_baldIf 8 = .ok (.aload_n 0, 1) := by decide +kernel
theorem dX10_baldIf_9 : decode cX10_baldIf 9 = .ok (.getfield 22, 3) := by decide +kernel
theorem dX10_baldIf_12 : decode cX10_baldIf 12 = .ok (.iload_n 1, 1) := by decide +kernel
theorem dX10_baldIf_13 : decode cX10_baldIf 13 = .ok (.iconst 0, 1) := by decide +kernel
theorem dX10_baldIf_14 : decode cX10_baldIf 14 = .ok (.iastore, 1) := by decide +kernel
theorem dX10_baldIf_15 : decode cX10_baldIf 15 = .ok (.aload_n 0, 1) := by decide +kernel
theorem dX10_baldIf_16 : decode cX10_baldIf 16 = .ok (.aload_n 0, 1) := by decide +kernel
theorem dX10_baldIf_17 : decode cX10_baldIf 17 = .ok (.invokevirtual 364, 3) := by decide +kernel
theorem dX10_baldIf_20 : decode cX10_baldIf 20 = .ok (.bipush 20, 2) := by decide +kernel
theorem dX10_baldIf_22 : decode cX10_baldIf 22 = .ok (.invokevirtual 367, 3) := by decide +kernel
theorem dX10_baldIf_25 : decode cX10_baldIf 25 = .ok (.aload_n 0, 1) := by decide +kernel
theorem dX10_baldIf_26 : decode cX10_baldIf 26 = .ok (.aload_n 0, 1) := by decide +kernel
theorem dX10_baldIf_27 : decode cX10_baldIf 27 = .ok (.invokevirtual 384, 3) := by decide +kernel
theorem dX10_baldIf_30 : decode cX10_baldIf 30 = .ok (.invokevirtual 400, 3) := by decide +kernel
theorem dX10_baldIf_33 : decode cX10_baldIf 33 = .ok (.istore_n 2, 1) := by decide +kernel
theorem dX10_baldIf_34 : decode cX10_baldIf 34 = .ok (.aload_n 0, 1) := by decide +kernel
theorem dX10_baldIf_35 : decode cX10_baldIf 35 = .ok (.invokevirtual 378, 3) := by decide +kernel
theorem dX10_baldIf_38 : decode cX10_baldIf 38 = .ok (.iload_n 2, 1) := by decide +kernel
theorem dX10_baldIf_39 : decode cX10_baldIf 39 = .ok (.ireturn, 1) := by decide +kernel
theorem dX10_layOf_0 : decode cX10_layOf 0 = .ok (.aload_n 0, 1) := by decide +kernel
theorem dX10_layOf_1 : decode cX10_layOf 1 = .ok (.invokevirtual 361, 3) := by decide +kernel
theorem dX10_layOf_4 : decode cX10_layOf 4 = .ok (.aload_n 0, 1) := by decide +kernel
theorem dX10_layOf_5 : decode cX10_layOf 5 = .ok (.bipush (-5), 2) := by decide +kernel
theorem dX10_layOf_7 : decode cX10_layOf 7 = .ok (.invokevirtual 409, 3) := by decide +kernel
theorem dX10_layOf_10 : decode cX10_layOf 10 = .ok (.istore_n 1, 1) := by decide +kernel
theorem dX10_layOf_11 : decode cX10_layOf 11 = .ok (.bipush (-5), 2) := by decide +kernel
theorem dX10_layOf_13 : decode cX10_layOf 13 = .ok (.istore_n 2, 1) := by decide +kernel
theorem dX10_layOf_14 : decode cX10_layOf 14 = .ok (.iconst 0, 1) := by decide +kernel
theorem dX10_layOf_15 : decode cX10_layOf 15 = .ok (.istore_n 3, 1) := by decide +kernel
theorem dX10_layOf_16 : decode cX10_layOf 16 = .ok (.iload_n 3, 1) := by decide +kernel
theorem dX10_layOf_17 : decode cX10_layOf 17 = .ok (.bipush 16, 2) := by decide +kernel
theorem dX10_layOf_19 : decode cX10_layOf 19 = .ok (.if_icmp .ge 30, 3) := by decide +kernel
theorem dX10_layOf_22 : decode cX10_layOf 22 = .ok (.aload_n 0, 1) := by decide +kernel
theorem dX10_layOf_23 : decode cX10_layOf 23 = .ok (.iload_n 3, 1) := by decide +kernel
theorem dX10_layOf_24 : decode cX10_layOf 24 = .ok (.invokevirtual 409, 3) := by decide +kernel
theorem dX10_layOf_27 : decode cX10_layOf 27 = .ok (.istore 4, 2) := by decide +kernel
theorem dX10_layOf_29 : decode cX10_layOf 29 = .ok (.iload 4, 2) := by decide +kernel
theorem dX10_layOf_31 : decode cX10_layOf 31 = .ok (.iload_n 1, 1) := by decide +kernel
theorem dX10_layOf_32 : decode cX10_layOf 32 = .ok (.if_icmp .lt 6, 3) := by decide +kernel
theorem dX10_layOf_35 : decode cX10_layOf 35 = .ok (.goto 8, 3) := by decide +kernel
theorem dX10_layOf_38 : decode cX10_layOf 38 = .ok (.iload_n 3, 1) := by decide +kernel
theorem dX10_layOf_39 : decode cX10_layOf 39 = .ok (.istore_n 2, 1) := by decide +kernel
theorem dX10_layOf_40 : decode cX10_layOf 40 = .ok (.iload 4, 2) := by decide +kernel
theorem dX10_layOf_42 : decode cX10_layOf 42 = .ok (.istore_n 1, 1) := by decide +kernel
theorem dX10_layOf_43 : decode cX10_layOf 43 = .ok (.iinc 3 1, 3) := by decide +kernel
theorem dX10_layOf_46 : decode cX10_layOf 46 = .ok (.goto (-30), 3) := by decide +kernel
theorem dX10_layOf_49 : decode cX10_layOf 49 = .ok (.iload_n 2, 1) := by decide +kernel
theorem dX10_layOf_50 : decode cX10_layOf 50 = .ok (.ireturn, 1) := by decide +kernel
theorem dX10_best_0 : decode cX10_best 0 = .ok (.iload_n 1, 1) := by decide +kernel
theorem dX10_best_1 : decode cX10_best 1 = .ok (.ifCond .ne 10, 3) := by decide +kernel
theorem dX10_best_4 : decode cX10_best 4 = .ok (.aload_n 0, 1) := by decide +kernel
theorem dX10_best_5 : decode cX10_best 5 = .ok (.invokevirtual 412, 3) := by decide +kernel
theorem dX10_best_8 : decode cX10_best 8 = .ok (.goto 16, 3) := by decide +kernel
theorem dX10_best_11 : decode cX10_best 11 = .ok (.iload_n 1, 1) := by decide +kernel
theorem dX10_best_12 : decode cX10_best 12 = .ok (.iconst 1, 1) := by decide +kernel
theorem dX10_best_13 : decode cX10_best 13 = .ok (.if_icmp .ne 10, 3) := by decide +kernel
theorem dX10_best_16 : decode cX10_best 16 = .ok (.aload_n 0, 1) := by decide +kernel
theorem dX10_best_17 : decode cX10_best 17 = .ok (.invokevirtual 415, 3) := by decide +kernel
theorem dX10_best_20 : decode cX10_best 20 = .ok (.goto 4, 3) := by decide +kernel
theorem dX10_best_23 : decode cX10_best 23 = .ok (.iconst (-1), 1) := by decide +kernel
theorem dX10_best_24 : decode cX10_best 24 = .ok (.ireturn, 1) := by decide +kernel
theorem dX10_see_0 : decode cX10_see 0 = .ok (.iload_n 1, 1) := by decide +kernel
theorem dX10_see_1 : decode cX10_see 1 = .ok (.iconst (-1), 1) := by decide +kernel
theorem dX10_see_2 : decode cX10_see 2 = .ok (.if_icmp .ne 10, 3) := by decide +kernel
theorem dX10_see_5 : decode cX10_see 5 = .ok (.aload_n 0, 1) := by decide +kernel
theorem dX10_see_6 : decode cX10_see 6 = .ok (.iconst 0, 1) := by decide +kernel
theorem dX10_see_7 : decode cX10_see 7 = .ok (.putfield 129, 3) := by decide +kernel
theorem dX10_see_10 : decode cX10_see 10 = .ok (.iconst 0, 1) := by decide +kernel
theorem dX10_see_11 : decode cX10_see 11 = .ok (.ireturn, 1) := by decide +kernel
theorem dX10_see_12 : decode cX10_see 12 = .ok (.aload_n 0, 1) := by decide +kernel
theorem dX10_see_13 : decode cX10_see 13 = .ok (.iload_n 1, 1) := by decide +kernel
theorem dX10_see_14 : decode cX10_see 14 = .ok (.invokevirtual 257, 3) := by decide +kernel
theorem dX10_see_17 : decode cX10_see 17 = .ok (.ifCond .ne 5, 3) := by decide +kernel
theorem dX10_see_20 : decode cX10_see 20 = .ok (.iconst (-1), 1) := by decide +kernel
theorem dX10_see_21 : decode cX10_see 21 = .ok (.ireturn, 1) := by decide +kernel
theorem dX10_see_22 : decode cX10_see 22 = .ok (.aload_n 0, 1) := by decide +kernel
theorem dX10_see_23 : decode cX10_see 23 = .ok (.iload_n 2, 1) := by decide +kernel
theorem dX10_see_24 : decode cX10_see 24 = .ok (.invokevirtual 261, 3) := by decide +kernel
theorem dX10_see_27 : decode cX10_see 27 = .ok (.ifCond .eq 14, 3) := by decide +kernel
theorem dX10_see_30 : decode cX10_see 30 = .ok (.aload_n 0, 1) := by decide +kernel
theorem dX10_see_31 : decode cX10_see 31 = .ok (.iload_n 3, 1) := by decide +kernel
theorem dX10_see_32 : decode cX10_see 32 = .ok (.iconst 0, 1) := by decide +kernel
theorem dX10_see_33 : decode cX10_see 33 = .ok (.bipush 20, 2) := by decide +kernel
theorem dX10_see_35 : decode cX10_see 35 = .ok (.invokevirtual 253, 3) := by decide +kernel
theorem dX10_see_38 : decode cX10_see 38 = .ok (.ifCond .ne 6, 3) := by decide +kernel
theorem dX10_see_41 : decode cX10_see 41 = .ok (.bipush (-2), 2) := by decide +kernel
theorem dX10_see_43 : decode cX10_see 43 = .ok (.ireturn, 1) := by decide +kernel
theorem dX10_see_44 : decode cX10_see 44 = .ok (.aload_n 0, 1) := by decide +kernel
theorem dX10_see_45 : decode cX10_see 45 = .ok (.getfield 129, 3) := by decide +kernel
theorem dX10_see_48 : decode cX10_see 48 = .ok (.iconst 5, 1) := by decide +kernel
theorem dX10_see_49 : decode cX10_see 49 = .ok (.if_icmp .ne 6, 3) := by decide +kernel
theorem dX10_see_52 : decode cX10_see 52 = .ok (.bipush (-4), 2) := by decide +kernel
theorem dX10_see_54 : decode cX10_see 54 = .ok (.ireturn, 1) := by decide +kernel
theorem dX10_see_55 : decode cX10_see 55 = .ok (.aload_n 0, 1) := by decide +kernel
theorem dX10_see_56 : decode cX10_see 56 = .ok (.getfield 132, 3) := by decide +kernel
theorem dX10_see_59 : decode cX10_see 59 = .ok (.aload_n 0, 1) := by decide +kernel
theorem dX10_see_60 : decode cX10_see 60 = .ok (.getfield 129, 3) := by decide +kernel
theorem dX10_see_63 : decode cX10_see 63 = .ok (.iload_n 1, 1) := by decide +kernel
theorem dX10_see_64 : decode cX10_see 64 = .ok (.iastore, 1) := by decide +kernel
theorem dX10_see_65 : decode cX10_see 65 = .ok (.aload_n 0, 1) := by decide +kernel
theorem dX10_see_66 : decode cX10_see 66 = .ok (.getfield 135, 3) := by decide +kernel
theorem dX10_see_69 : decode cX10_see 69 = .ok (.aload_n 0, 1) := by decide +kernel
theorem dX10_see_70 : decode cX10_see 70 = .ok (.getfield 129, 3) := by decide +kernel
theorem dX10_see_73 : decode cX10_see 73 = .ok (.iload_n 2, 1) := by decide +kernel
theorem dX10_see_74 : decode cX10_see 74 = .ok (.iastore, 1) := by decide +kernel
theorem dX10_see_75 : decode cX10_see 75 = .ok (.aload_n 0, 1) := by decide +kernel
theorem dX10_see_76 : decode cX10_see 76 = .ok (.getfield 138, 3) := by decide +kernel
theorem dX10_see_79 : decode cX10_see 79 = .ok (.aload_n 0, 1) := by decide +kernel
theorem dX10_see_80 : decode cX10_see 80 = .ok (.getfield 129, 3) := by decide +kernel
theorem dX10_see_83 : decode cX10_see 83 = .ok (.iload_n 3, 1) := by decide +kernel
theorem dX10_see_84 : decode cX10_see 84 = .ok (.iastore, 1) := by decide +kernel
theorem dX10_see_85 : decode cX10_see 85 = .ok (.aload_n 0, 1) := by decide +kernel
theorem dX10_see_86 : decode cX10_see 86 = .ok (.dup, 1) := by decide +kernel
theorem dX10_see_87 : decode cX10_see 87 = .ok (.getfield 129, 3) := by decide +kernel
theorem dX10_see_90 : decode cX10_see 90 = .ok (.iconst 1, 1) := by decide +kernel
theorem dX10_see_91 : decode cX10_see 91 = .ok (.iadd, 1) := by decide +kernel
theorem dX10_see_92 : decode cX10_see 92 = .ok (.putfield 129, 3) := by decide +kernel
theorem dX10_see_95 : decode cX10_see 95 = .ok (.aload_n 0, 1) := by decide +kernel
theorem dX10_see_96 : decode cX10_see 96 = .ok (.getfield 129, 3) := by decide +kernel
theorem dX10_see_99 : decode cX10_see 99 = .ok (.ireturn, 1) := by decide +kernel
theorem dX10_isSeen_0 : decode cX10_isSeen 0 = .ok (.aload_n 0, 1) := by decide +kernel
theorem dX10_isSeen_1 : decode cX10_isSeen 1 = .ok (.invokevirtual 361, 3) := by decide +kernel
theorem dX10_isSeen_4 : decode cX10_isSeen 4 = .ok (.iconst 0, 1) := by decide +kernel
theorem dX10_isSeen_5 : decode cX10_isSeen 5 = .ok (.istore_n 2, 1) := by decide +kernel
theorem dX10_isSeen_6 : decode cX10_isSeen 6 = .ok (.iload_n 2, 1) := by decide +kernel
theorem dX10_isSeen_7 : decode cX10_isSeen 7 = .ok (.aload_n 0, 1) := by decide +kernel
theorem dX10_isSeen_8 : decode cX10_isSeen 8 = .ok (.getfield 129, 3) := by decide +kernel
theorem dX10_isSeen_11 : decode cX10_isSeen 11 = .ok (.if_icmp .ge 107, 3) := by decide +kernel
theorem dX10_isSeen_14 : decode cX10_isSeen 14 = .ok (.iconst 0, 1) := by decide +kernel
theorem dX10_isSeen_15 : decode cX10_isSeen 15 = .ok (.istore_n 3, 1) := by decide +kernel
theorem dX10_isSeen_16 : decode cX10_isSeen 16 = .ok (.iconst 0, 1) := by decide +kernel
theorem dX10_isSeen_17 : decode cX10_isSeen 17 = .ok (.istore 4, 2) := by decide +kernel
theorem dX10_isSeen_19 : decode cX10_isSeen 19 = .ok (.iload 4, 2) := by decide +kernel
theorem dX10_isSeen_21 : decode cX10_isSeen 21 = .ok (.aload_n 0, 1) := by decide +kernel
theorem dX10_isSeen_22 : decode cX10_isSeen 22 = .ok (.getfield 138, 3) := by decide +kernel
theorem dX10_isSeen_25 : decode cX10_isSeen 25 = .ok (.iload_n 2, 1) := by decide +kernel
theorem dX10_isSeen_26 : decode cX10_isSeen 26 = .ok (.iaload, 1) := by decide +kernel
theorem dX10_isSeen_27 : decode cX10_isSeen 27 = .ok (.if_icmp .ge 73, 3) := by decide +kernel
theorem dX10_isSeen_30 : decode cX10_isSeen 30 = .ok (.iconst 0, 1) := by decide +kernel
theorem dX10_isSeen_31 : decode cX10_isSeen 31 = .ok (.istore 5, 2) := by decide +kernel
theorem dX10_isSeen_33 : decode cX10_isSeen 33 = .ok (.iload 5, 2) := by decide +kernel
theorem dX10_isSeen_35 : decode cX10_isSeen 35 = .ok (.aload_n 0, 1) := by decide +kernel
theorem dX10_isSeen_36 : decode cX10_isSeen 36 = .ok (.getfield 7, 3) := by decide +kernel
theorem dX10_isSeen_39 : decode cX10_isSeen 39 = .ok (.if_icmp .ge 55, 3) := by decide +kernel
theorem dX10_isSeen_42 : decode cX10_isSeen 42 = .ok (.iload_n 3, 1) := by decide +kernel
theorem dX10_isSeen_43 : decode cX10_isSeen 43 = .ok (.aload_n 0, 1) := by decide +kernel
theorem dX10_isSeen_44 : decode cX10_isSeen 44 = .ok (.iload_n 1, 1) := by decide +kernel
theorem dX10_isSeen_45 : decode cX10_isSeen 45 = .ok (.iload 5, 2) := by decide +kernel
theorem dX10_isSeen_47 : decode cX10_isSeen 47 = .ok (.invokevirtual 245, 3) := by decide +kernel
theorem dX10_isSeen_50 : decode cX10_isSeen 50 = .ok (.ifCond .eq 35, 3) := by decide +kernel
theorem dX10_isSeen_53 : decode cX10_isSeen 53 = .ok (.aload_n 0, 1) := by decide +kernel
theorem dX10_isSeen_54 : decode cX10_isSeen 54 = .ok (.getfield 108, 3) := by decide +kernel
theorem dX10_isSeen_57 : decode cX10_isSeen 57 = .ok (.bipush 64, 2) := by decide +kernel
theorem dX10_isSeen_59 : decode cX10_isSeen 59 = .ok (.iload 5, 2) := by decide +kernel
theorem dX10_isSeen_61 : decode cX10_isSeen 61 = .ok (.imul, 1) := by decide +kernel
theorem dX10_isSeen_62 : decode cX10_isSeen 62 = .ok (.iconst 4, 1) := by decide +kernel
theorem dX10_isSeen_63 : decode cX10_isSeen 63 = .ok (.aload_n 0, 1) := by decide +kernel
theorem dX10_isSeen_64 : decode cX10_isSeen 64 = .ok (.getfield 132, 3) := by decide +kernel
theorem dX10_isSeen_67 : decode cX10_isSeen 67 = .ok (.iload_n 2, 1) := by decide +kernel
theorem dX10_isSeen_68 : decode cX10_isSeen 68 = .ok (.iaload, 1) := by decide +kernel
theorem dX10_isSeen_69 : decode cX10_isSeen 69 = .ok (.imul, 1) := by decide +kernel
theorem dX10_isSeen_70 : decode cX10_isSeen 70 = .ok (.iadd, 1) := by decide +kernel
theorem dX10_isSeen_71 : decode cX10_isSeen 71 = .ok (.aload_n 0, 1) := by decide +kernel
theorem dX10_isSeen_72 : decode cX10_isSeen 72 = .ok (.getfield 19, 3) := by decide +kernel
theorem dX10_isSeen_75 : decode cX10_isSeen 75 = .ok (.iload 4, 2) := by decide +kernel
theorem dX10_isSeen_77 : decode cX10_isSeen 77 = .ok (.iadd, 1) := by decide +kernel
theorem dX10_isSeen_78 : decode cX10_isSeen 78 = .ok (.iconst 4, 1) := by decide +kernel
theorem dX10_isSeen_79 : decode cX10_isSeen 79 = .ok (.irem, 1) := by decide +kernel
theorem dX10_isSeen_80 : decode cX10_isSeen 80 = .ok (.iadd, 1) := by decide +kernel
theorem dX10_isSeen_81 : decode cX10_isSeen 81 = .ok (.iaload, 1) := by decide +kernel
theorem dX10_isSeen_82 : decode cX10_isSeen 82 = .ok (.goto 4, 3) := by decide +kernel
theorem dX10_isSeen_85 : decode cX10_isSeen 85 = .ok (.iconst 0, 1) := by decide +kernel
theorem dX10_isSeen_86 : decode cX10_isSeen 86 = .ok (.iadd, 1) := by decide +kernel
theorem dX10_isSeen_87 : decode cX10_isSeen 87 = .ok (.istore_n 3, 1) := by decide +kernel
theorem dX10_isSeen_88 : decode cX10_isSeen 88 = .ok (.iinc 5 1, 3) := by decide +kernel
theorem dX10_isSeen_91 : decode cX10_isSeen 91 = .ok (.goto (-58), 3) := by decide +kernel
theorem dX10_isSeen_94 : decode cX10_isSeen 94 = .ok (.iinc 4 1, 3) := by decide +kernel
theorem dX10_isSeen_97 : decode cX10_isSeen 97 = .ok (.goto (-78), 3) := by decide +kernel
theorem dX10_isSeen_100 : decode cX10_isSeen 100 = .ok (.iload_n 3, 1) := by decide +kernel
theorem dX10_isSeen_101 : decode cX10_isSeen 101 = .ok (.aload_n 0, 1) := by decide +kernel
theorem dX10_isSeen_102 : decode cX10_isSeen 102 = .ok (.getfield 135, 3) := by decide +kernel
theorem dX10_isSeen_105 : decode cX10_isSeen 105 = .ok (.iload_n 2, 1) := by decide +kernel
theorem dX10_isSeen_106 : decode cX10_isSeen 106 = .ok (.iaload, 1) := by decide +kernel
theorem dX10_isSeen_107 : decode cX10_isSeen 107 = .ok (.if_icmp .eq 5, 3) := by decide +kernel
theorem dX10_isSeen_110 : decode cX10_isSeen 110 = .ok (.iconst 0, 1) := by decide +kernel
theorem dX10_isSeen_111 : decode cX10_isSeen 111 = .ok (.ireturn, 1) := by decide +kernel
theorem dX10_isSeen_112 : decode cX10_isSeen 112 = .ok (.iinc 2 1, 3) := by decide +kernel
theorem dX10_isSeen_115 : decode cX10_isSeen 115 = .ok (.goto (-109), 3) := by decide +kernel
theorem dX10_isSeen_118 : decode cX10_isSeen 118 = .ok (.iconst 1, 1) := by decide +kernel
theorem dX10_isSeen_119 : decode cX10_isSeen 119 = .ok (.ireturn, 1) := by decide +kernel
theorem dX10_starts_0 : decode cX10_starts 0 = .ok (.aload_n 0, 1) := by decide +kernel
theorem dX10_starts_1 : decode cX10_starts 1 = .ok (.iload_n 1, 1) := by decide +kernel
theorem dX10_starts_2 : decode cX10_starts 2 = .ok (.invokevirtual 264, 3) := by decide +kernel
theorem dX10_starts_5 : decode cX10_starts 5 = .ok (.ifCond .ne 5, 3) := by decide +kernel
theorem dX10_starts_8 : decode cX10_starts 8 = .ok (.iconst (-1), 1) := by decide +kernel
theorem dX10_starts_9 : decode cX10_starts 9 = .ok (.ireturn, 1) := by decide +kernel
theorem dX10_starts_10 : decode cX10_starts 10 = .ok (.aload_n 0, 1) := by decide +kernel
theorem dX10_starts_11 : decode cX10_starts 11 = .ok (.getfield 32, 3) := by decide +kernel
theorem dX10_starts_14 : decode cX10_starts 14 = .ok (.iload_n 1, 1) := by decide +kernel
theorem dX10_starts_15 : decode cX10_starts 15 = .ok (.iaload, 1) := by decide +kernel
theorem dX10_starts_16 : decode cX10_starts 16 = .ok (.istore_n 2, 1) := by decide +kernel
theorem dX10_starts_17 : decode cX10_starts 17 = .ok (.iconst 0, 1) := by decide +kernel
theorem dX10_starts_18 : decode cX10_starts 18 = .ok (.istore_n 3, 1) := by decide +kernel
theorem dX10_starts_19 : decode cX10_starts 19 = .ok (.iconst 0, 1) := by decide +kernel
theorem dX10_starts_20 : decode cX10_starts 20 = .ok (.istore 4, 2) := by decide +kernel
theorem dX10_starts_22 : decode cX10_starts 22 = .ok (.iload 4, 2) := by decide +kernel
theorem dX10_starts_24 : decode cX10_starts 24 = .ok (.bipush 16, 2) := by decide +kernel
theorem dX10_starts_26 : decode cX10_starts 26 = .ok (.if_icmp .ge 39, 3) := by decide +kernel
theorem dX10_starts_29 : decode cX10_starts 29 = .ok (.aload_n 0, 1) := by decide +kernel
theorem dX10_starts_30 : decode cX10_starts 30 = .ok (.getfield 32, 3) := by decide +kernel
theorem dX10_starts_33 : decode cX10_starts 33 = .ok (.iload_n 1, 1) := by decide +kernel
theorem dX10_starts_34 : decode cX10_starts 34 = .ok (.iload 4, 2) := by decide +kernel
theorem dX10_starts_36 : decode cX10_starts 36 = .ok (.iastore, 1) := by decide +kernel
theorem dX10_starts_37 : decode cX10_starts 37 = .ok (.iload_n 3, 1) := by decide +kernel
theorem dX10_starts_38 : decode cX10_starts 38 = .ok (.aload_n 0, 1) := by decide +kernel
theorem dX10_starts_39 : decode cX10_starts 39 = .ok (.aload_n 0, 1) := by decide +kernel
theorem dX10_starts_40 : decode cX10_starts 40 = .ok (.invokevirtual 364, 3) := by decide +kernel
theorem dX10_starts_43 : decode cX10_starts 43 = .ok (.invokevirtual 418, 3) := by decide +kernel
theorem dX10_starts_46 : decode cX10_starts 46 = .ok (.ifCond .eq 10, 3) := by decide +kernel
theorem dX10_starts_49 : decode cX10_starts 49 = .ok (.iconst 1, 1) := by decide +kernel
theorem dX10_starts_50 : decode cX10_starts 50 = .ok (.iload 4, 2) := by decide +kernel
theorem dX10_starts_52 : decode cX10_starts 52 = .ok (.ishl, 1) := by decide +kernel
theorem dX10_starts_53 : decode cX10_starts 53 = .ok (.goto 4, 3) := by decide +kernel
theorem dX10_starts_56 : decode cX10_starts 56 = .ok (.iconst 0, 1) := by decide +kernel
theorem dX10_starts_57 : decode cX10_starts 57 = .ok (.ior, 1) := by decide +kernel
theorem dX10_starts_58 : decode cX10_starts 58 = .ok (.istore_n 3, 1) := by decide +kernel
theorem dX10_starts_59 : decode cX10_starts 59 = .ok (.iinc 4 1, 3) := by decide +kernel
theorem dX10_starts_62 : decode cX10_starts 62 = .ok (.goto (-40), 3) := by decide +kernel
theorem dX10_starts_65 : decode cX10_starts 65 = .ok (.aload_n 0, 1) := by decide +kernel
theorem dX10_starts_66 : decode cX10_starts 66 = .ok (.getfield 32, 3) := by decide +kernel
theorem dX10_starts_69 : decode cX10_starts 69 = .ok (.iload_n 1, 1) := by decide +kernel
theorem dX10_starts_70 : decode cX10_starts 70 = .ok (.iload_n 2, 1) := by decide +kernel
theorem dX10_starts_71 : decode cX10_starts 71 = .ok (.iastore, 1) := by decide +kernel
theorem dX10_starts_72 : decode cX10_starts 72 = .ok (.iload_n 3, 1) := by decide +kernel
theorem dX10_starts_73 : decode cX10_starts 73 = .ok (.ireturn, 1) := by decide +kernel
theorem dX10_can_0 : decode cX10_can 0 = .ok (.aload_n 0, 1) := by decide +kernel
theorem dX10_can_1 : decode cX10_can 1 = .ok (.iload_n 1, 1) := by decide +kernel
theorem dX10_can_2 : decode cX10_can 2 = .ok (.invokevirtual 264, 3) := by decide +kernel
theorem dX10_can_5 : decode cX10_can 5 = .ok (.ifCond .eq 13, 3) := by decide +kernel
theorem dX10_can_8 : decode cX10_can 8 = .ok (.aload_n 0, 1) := by decide +kernel
theorem dX10_can_9 : decode cX10_can 9 = .ok (.iload_n 2, 1) := by decide +kernel
theorem dX10_can_10 : decode cX10_can 10 = .ok (.iconst 0, 1) := by decide +kernel
theorem dX10_can_11 : decode cX10_can 11 = .ok (.iconst 1, 1) := by decide +kernel
theorem dX10_can_12 : decode cX10_can 12 = .ok (.invokevirtual 253, 3) := by decide +kernel
theorem dX10_can_15 : decode cX10_can 15 = .ok (.ifCond .ne 5, 3) := by decide +kernel
theorem dX10_can_18 : decode cX10_can 18 = .ok (.iconst (-1), 1) := by decide +kernel
theorem dX10_can_19 : decode cX10_can 19 = .ok (.ireturn, 1) := by decide +kernel
theorem dX10_can_20 : decode cX10_can 20 = .ok (.aload_n 0, 1) := by decide +kernel
theorem dX10_can_21 : decode cX10_can 21 = .ok (.getfield 29, 3) := by decide +kernel
theorem dX10_can_24 : decode cX10_can 24 = .ok (.iload_n 1, 1) := by decide +kernel
theorem dX10_can_25 : decode cX10_can 25 = .ok (.iaload, 1) := by decide +kernel
theorem dX10_can_26 : decode cX10_can 26 = .ok (.istore_n 3, 1) := by decide +kernel
theorem dX10_can_27 : decode cX10_can 27 = .ok (.iconst 0, 1) := by decide +kernel
theorem dX10_can_28 : decode cX10_can 28 = .ok (.istore 4, 2) := by decide +kernel
theorem dX10_can_30 : decode cX10_can 30 = .ok (.bipush (-5), 2) := by decide +kernel
theorem dX10_can_32 : decode cX10_can 32 = .ok (.istore 5, 2) := by decide +kernel
theorem dX10_can_34 : decode cX10_can 34 = .ok (.bipush 9, 2) := by decide +kernel
theorem dX10_can_36 : decode cX10_can 36 = .ok (.istore 6, 2) := by decide +kernel
theorem dX10_can_38 : decode cX10_can 38 = .ok (.iload 6, 2) := by decide +kernel
theorem dX10_can_40 : decode cX10_can 40 = .ok (.ifCond .lt 38, 3) := by decide +kernel
theorem dX10_can_43 : decode cX10_can 43 = .ok (.aload_n 0, 1) := by decide +kernel
theorem dX10_can_44 : decode cX10_can 44 = .ok (.getfield 29, 3) := by decide +kernel
theorem dX10_can_47 : decode cX10_can 47 = .ok (.iload_n 1, 1) := by decide +kernel
theorem dX10_can_48 : decode cX10_can 48 = .ok (.iload 6, 2) := by decide +kernel
theorem dX10_can_50 : decode cX10_can 50 = .ok (.iastore, 1) := by decide +kernel
theorem dX10_can_51 : decode cX10_can 51 = .ok (.aload_n 0, 1) := by decide +kernel
theorem dX10_can_52 : decode cX10_can 52 = .ok (.aload_n 0, 1) := by decide +kernel
theorem dX10_can_53 : decode cX10_can 53 = .ok (.invokevirtual 364, 3) := by decide +kernel
theorem dX10_can_56 : decode cX10_can 56 = .ok (.invokevirtual 418, 3) := by decide +kernel
theorem dX10_can_59 : decode cX10_can 59 = .ok (.ifCond .ne 6, 3) := by decide +kernel
theorem dX10_can_62 : decode cX10_can 62 = .ok (.goto 10, 3) := by decide +kernel
theorem dX10_can_65 : decode cX10_can 65 = .ok (.iinc 4 1, 3) := by decide +kernel
theorem dX10_can_68 : decode cX10_can 68 = .ok (.iload 6, 2) := by decide +kernel
theorem dX10_can_70 : decode cX10_can 70 = .ok (.istore 5, 2) := by decide +kernel
theorem dX10_can_72 : decode cX10_can 72 = .ok (.iinc 6 (-1), 3) := by decide +kernel
theorem dX10_can_75 : decode cX10_can 75 = .ok (.goto (-37), 3) := by decide +kernel
theorem dX10_can_78 : decode cX10_can 78 = .ok (.aload_n 0, 1) := by decide +kernel
theorem dX10_can_79 : decode cX10_can 79 = .ok (.getfield 29, 3) := by decide +kernel
theorem dX10_can_82 : decode cX10_can 82 = .ok (.iload_n 1, 1) := by decide +kernel
theorem dX10_can_83 : decode cX10_can 83 = .ok (.iload_n 3, 1) := by decide +kernel
theorem dX10_can_84 : decode cX10_can 84 = .ok (.iastore, 1) := by decide +kernel
theorem dX10_can_85 : decode cX10_can 85 = .ok (.iload_n 2, 1) := by decide +kernel
theorem dX10_can_86 : decode cX10_can 86 = .ok (.ifCond .ne 8, 3) := by decide +kernel
theorem dX10_can_89 : decode cX10_can 89 = .ok (.iload 4, 2) := by decide +kernel
theorem dX10_can_91 : decode cX10_can 91 = .ok (.goto 5, 3) := by decide +kernel
theorem dX10_can_94 : decode cX10_can 94 = .ok (.iload 5, 2) := by decide +kernel
theorem dX10_can_96 : decode cX10_can 96 = .ok (.ireturn, 1) := by decide +kernel
theorem dX10_sole_0 : decode cX10_sole 0 = .ok (.iconst 0, 1) := by decide +kernel
theorem dX10_sole_1 : decode cX10_sole 1 = .ok (.istore_n 1, 1) := by decide +kernel
theorem dX10_sole_2 : decode cX10_sole 2 = .ok (.iconst 0, 1) := by decide +kernel
theorem dX10_sole_3 : decode cX10_sole 3 = .ok (.istore_n 2, 1) := by decide +kernel
theorem dX10_sole_4 : decode cX10_sole 4 = .ok (.iload_n 2, 1) := by decide +kernel
theorem dX10_sole_5 : decode cX10_sole 5 = .ok (.aload_n 0, 1) := by decide +kernel
theorem dX10_sole_6 : decode cX10_sole 6 = .ok (.getfield 7, 3) := by decide +kernel
theorem dX10_sole_9 : decode cX10_sole 9 = .ok (.if_icmp .ge 29, 3) := by decide +kernel
theorem dX10_sole_12 : decode cX10_sole 12 = .ok (.iload_n 1, 1) := by decide +kernel
theorem dX10_sole_13 : decode cX10_sole 13 = .ok (.aload_n 0, 1) := by decide +kernel
theorem dX10_sole_14 : decode cX10_sole 14 = .ok (.iconst 1, 1) := by decide +kernel
theorem dX10_sole_15 : decode cX10_sole 15 = .ok (.iload_n 2, 1) := by decide +kernel
theorem dX10_sole_16 : decode cX10_sole 16 = .ok (.ishl, 1) := by decide +kernel
theorem dX10_sole_17 : decode cX10_sole 17 = .ok (.invokevirtual 418, 3) := by decide +kernel
theorem dX10_sole_20 : decode cX10_sole 20 = .ok (.ifCond .eq 9, 3) := by decide +kernel
theorem dX10_sole_23 : decode cX10_sole 23 = .ok (.iconst 1, 1) := by decide +kernel
theorem dX10_sole_24 : decode cX10_sole 24 = .ok (.iload_n 2, 1) := by decide +kernel
theorem dX10_sole_25 : decode cX10_sole 25 = .ok (.ishl, 1) := by decide +kernel
theorem dX10_sole_26 : decode cX10_sole 26 = .ok (.goto 4, 3) := by decide +kernel
theorem dX10_sole_29 : decode cX10_sole 29 = .ok (.iconst 0, 1) := by decide +kernel
theorem dX10_sole_30 : decode cX10_sole 30 = .ok (.ior, 1) := by decide +kernel
theorem dX10_sole_31 : decode cX10_sole 31 = .ok (.istore_n 1, 1) := by decide +kernel
theorem dX10_sole_32 : decode cX10_sole 32 = .ok (.iinc 2 1, 3) := by decide +kernel
theorem dX10_sole_35 : decode cX10_sole 35 = .ok (.goto (-31), 3) := by decide +kernel
theorem dX10_sole_38 : decode cX10_sole 38 = .ok (.iload_n 1, 1) := by decide +kernel
theorem dX10_sole_39 : decode cX10_sole 39 = .ok (.ireturn, 1) := by decide +kernel
theorem dX10_divisor_0 : decode cX10_divisor 0 = .ok (.iload_n 1, 1) := by decide +kernel
theorem dX10_divisor_1 : decode cX10_divisor 1 = .ok (.istore_n 3, 1) := by decide +kernel
theorem dX10_divisor_2 : decode cX10_divisor 2 = .ok (.iload_n 2, 1) := by decide +kernel
theorem dX10_divisor_3 : decode cX10_divisor 3 = .ok (.istore 4, 2) := by decide +kernel
theorem dX10_divisor_5 : decode cX10_divisor 5 = .ok (.iload 4, 2) := by decide +kernel
theorem dX10_divisor_7 : decode cX10_divisor 7 = .ok (.ifCond .eq 19, 3) := by decide +kernel
theorem dX10_divisor_10 : decode cX10_divisor 10 = .ok (.iload_n 3, 1) := by decide +kernel
theorem dX10_divisor_11 : decode cX10_divisor 11 = .ok (.iload 4, 2) := by decide +kernel
theorem dX10_divisor_13 : decode cX10_divisor 13 = .ok (.irem, 1) := by decide +kernel
theorem dX10_divisor_14 : decode cX10_divisor 14 = .ok (.istore 5, 2) := by decide +kernel
theorem dX10_divisor_16 : decode cX10_divisor 16 = .ok (.iload 4, 2) := by decide +kernel
theorem dX10_divisor_18 : decode cX10_divisor 18 = .ok (.istore_n 3, 1) := by decide +kernel
theorem dX10_divisor_19 : decode cX10_divisor 19 = .ok (.iload 5, 2) := by decide +kernel
theorem dX10_divisor_21 : decode cX10_divisor 21 = .ok (.istore 4, 2) := by decide +kernel
theorem dX10_divisor_23 : decode cX10_divisor 23 = .ok (.goto (-18), 3) := by decide +kernel
theorem dX10_divisor_26 : decode cX10_divisor 26 = .ok (.iload_n 3, 1) := by decide +kernel
theorem dX10_divisor_27 : decode cX10_divisor 27 = .ok (.ireturn, 1) := by decide +kernel
theorem dX10_lowest_0 : decode cX10_lowest 0 = .ok (.aload_n 0, 1) := by decide +kernel
theorem dX10_lowest_1 : decode cX10_lowest 1 = .ok (.iload_n 1, 1) := by decide +kernel
theorem dX10_lowest_2 : decode cX10_lowest 2 = .ok (.iload_n 2, 1) := by decide +kernel
theorem dX10_lowest_3 : decode cX10_lowest 3 = .ok (.invokevirtual 421, 3) := by decide +kernel
theorem dX10_lowest_6 : decode cX10_lowest 6 = .ok (.istore 4, 2) := by decide +kernel
theorem dX10_lowest_8 : decode cX10_lowest 8 = .ok (.iload_n 3, 1) := by decide +kernel
theorem dX10_lowest_9 : decode cX10_lowest 9 = .ok (.ifCond .ne 11, 3) := by decide +kernel
theorem dX10_lowest_12 : decode cX10_lowest 12 = .ok (.iload_n 1, 1) := by decide +kernel
theorem dX10_lowest_13 : decode cX10_lowest 13 = .ok (.iload 4, 2) := by decide +kernel
theorem dX10_lowest_15 : decode cX10_lowest 15 = .ok (.idiv, 1) := by decide +kernel
theorem dX10_lowest_16 : decode cX10_lowest 16 = .ok (.i2l, 1) := by decide +kernel
theorem dX10_lowest_17 : decode cX10_lowest 17 = .ok (.goto 8, 3) := by decide +kernel
theorem dX10_lowest_20 : decode cX10_lowest 20 = .ok (.iload_n 2, 1) := by decide +kernel
theorem dX10_lowest_21 : decode cX10_lowest 21 = .ok (.iload 4, 2) := by decide +kernel
theorem dX10_lowest_23 : decode cX10_lowest 23 = .ok (.idiv, 1) := by decide +kernel
theorem dX10_lowest_24 : decode cX10_lowest 24 = .ok (.i2l, 1) := by decide +kernel
theorem dX10_lowest_25 : decode cX10_lowest 25 = .ok (.lreturn, 1) := by decide +kernel
theorem dX10_odds_0 : decode cX10_odds 0 = .ok (.aload_n 0, 1) := by decide +kernel
theorem dX10_odds_1 : decode cX10_odds 1 = .ok (.iload_n 1, 1) := by decide +kernel
theorem dX10_odds_2 : decode cX10_odds 2 = .ok (.invokevirtual 257, 3) := by decide +kernel
theorem dX10_odds_5 : decode cX10_odds 5 = .ok (.ifCond .eq 28, 3) := by decide +kernel
theorem dX10_odds_8 : decode cX10_odds 8 = .ok (.aload_n 0, 1) := by decide +kernel
theorem dX10_odds_9 : decode cX10_odds 9 = .ok (.iload_n 2, 1) := by decide +kernel
theorem dX10_odds_10 : decode cX10_odds 10 = .ok (.invokevirtual 358, 3) := by decide +kernel
theorem dX10_odds_13 : decode cX10_odds 13 = .ok (.ifCond .eq 20, 3) := by decide +kernel
theorem dX10_odds_16 : decode cX10_odds 16 = .ok (.aload_n 0, 1) := by decide +kernel
theorem dX10_odds_17 : decode cX10_odds 17 = .ok (.iload_n 3, 1) := by decide +kernel
theorem dX10_odds_18 : decode cX10_odds 18 = .ok (.iconst 0, 1) := by decide +kernel
theorem dX10_odds_19 : decode cX10_odds 19 = .ok (.iconst 1, 1) := by decide +kernel
theorem dX10_odds_20 : decode cX10_odds 20 = .ok (.invokevirtual 253, 3) := by decide +kernel
theorem dX10_odds_23 : decode cX10_odds 23 = .ok (.ifCond .eq 10, 3) := by decide +kernel
theorem dX10_odds_26 : decode cX10_odds 26 = .ok (.aload_n 0, 1) := by decide +kernel
theorem dX10_odds_27 : decode cX10_odds 27 = .ok (.getfield 7, 3) := by decide +kernel
theorem dX10_odds_30 : decode cX10_odds 30 = .ok (.ifCond .ne 7, 3) := by decide +kernel
theorem dX10_odds_33 : decode cX10_odds 33 = .ok (.ldc2_w 424, 3) := by decide +kernel
theorem dX10_odds_36 : decode cX10_odds 36 = .ok (.lreturn, 1) := by decide +kernel
theorem dX10_odds_37 : decode cX10_odds 37 = .ok (.aload_n 0, 1) := by decide +kernel
theorem dX10_odds_38 : decode cX10_odds 38 = .ok (.invokevirtual 361, 3) := by decide +kernel
theorem dX10_odds_41 : decode cX10_odds 41 = .ok (.iconst 0, 1) := by decide +kernel
theorem dX10_odds_42 : decode cX10_odds 42 = .ok (.istore 4, 2) := by decide +kernel
theorem dX10_odds_44 : decode cX10_odds 44 = .ok (.iconst 0, 1) := by decide +kernel
theorem dX10_odds_45 : decode cX10_odds 45 = .ok (.istore 5, 2) := by decide +kernel
theorem dX10_odds_47 : decode cX10_odds 47 = .ok (.iload 5, 2) := by decide +kernel
theorem dX10_odds_49 : decode cX10_odds 49 = .ok (.aload_n 0, 1) := by decide +kernel
theorem dX10_odds_50 : decode cX10_odds 50 = .ok (.getfield 7, 3) := by decide +kernel
theorem dX10_odds_53 : decode cX10_odds 53 = .ok (.if_icmp .ge 56, 3) := by decide +kernel
theorem dX10_odds_56 : decode cX10_odds 56 = .ok (.aload_n 0, 1) := by decide +kernel
theorem dX10_odds_57 : decode cX10_odds 57 = .ok (.invokevirtual 375, 3) := by decide +kernel
theorem dX10_odds_60 : decode cX10_odds 60 = .ok (.aload_n 0, 1) := by decide +kernel
theorem dX10_odds_61 : decode cX10_odds 61 = .ok (.aload_n 0, 1) := by decide +kernel
theorem dX10_odds_62 : decode cX10_odds 62 = .ok (.invokevirtual 364, 3) := by decide +kernel
theorem dX10_odds_65 : decode cX10_odds 65 = .ok (.iconst 1, 1) := by decide +kernel
theorem dX10_odds_66 : decode cX10_odds 66 = .ok (.iload 5, 2) := by decide +kernel
theorem dX10_odds_68 : decode cX10_odds 68 = .ok (.ishl, 1) := by decide +kernel
theorem dX10_odds_69 : decode cX10_odds 69 = .ok (.iconst (-1), 1) := by decide +kernel
theorem dX10_odds_70 : decode cX10_odds 70 = .ok (.ixor, 1) := by decide +kernel
theorem dX10_odds_71 : decode cX10_odds 71 = .ok (.iand, 1) := by decide +kernel
theorem dX10_odds_72 : decode cX10_odds 72 = .ok (.iload_n 2, 1) := by decide +kernel
theorem dX10_odds_73 : decode cX10_odds 73 = .ok (.invokevirtual 367, 3) := by decide +kernel
theorem dX10_odds_76 : decode cX10_odds 76 = .ok (.iload 4, 2) := by decide +kernel
theorem dX10_odds_78 : decode cX10_odds 78 = .ok (.aload_n 0, 1) := by decide +kernel
theorem dX10_odds_79 : decode cX10_odds 79 = .ok (.getfield 22, 3) := by decide +kernel
theorem dX10_odds_82 : decode cX10_odds 82 = .ok (.iload_n 1, 1) := by decide +kernel
theorem dX10_odds_83 : decode cX10_odds 83 = .ok (.iaload, 1) := by decide +kernel
theorem dX10_odds_84 : decode cX10_odds 84 = .ok (.aload_n 0, 1) := by decide +kernel
theorem dX10_odds_85 : decode cX10_odds 85 = .ok (.invokevirtual 371, 3) := by decide +kernel
theorem dX10_odds_88 : decode cX10_odds 88 = .ok (.if_icmp .lt 7, 3) := by decide +kernel
theorem dX10_odds_91 : decode cX10_odds 91 = .ok (.iconst 1, 1) := by decide +kernel
theorem dX10_odds_92 : decode cX10_odds 92 = .ok (.goto 4, 3) := by decide +kernel
theorem dX10_odds_95 : decode cX10_odds 95 = .ok (.iconst 0, 1) := by decide +kernel
theorem dX10_odds_96 : decode cX10_odds 96 = .ok (.iadd, 1) := by decide +kernel
theorem dX10_odds_97 : decode cX10_odds 97 = .ok (.istore 4, 2) := by decide +kernel
theorem dX10_odds_99 : decode cX10_odds 99 = .ok (.aload_n 0, 1) := by decide +kernel
theorem dX10_odds_100 : decode cX10_odds 100 = .ok (.invokevirtual 378, 3) := by decide +kernel
theorem dX10_odds_103 : decode cX10_odds 103 = .ok (.iinc 5 1, 3) := by decide +kernel
theorem dX10_odds_106 : decode cX10_odds 106 = .ok (.goto (-59), 3) := by decide +kernel
theorem dX10_odds_109 : decode cX10_odds 109 = .ok (.aload_n 0, 1) := by decide +kernel
theorem dX10_odds_110 : decode cX10_odds 110 = .ok (.iload 4, 2) := by decide +kernel
theorem dX10_odds_112 : decode cX10_odds 112 = .ok (.aload_n 0, 1) := by decide +kernel
theorem dX10_odds_113 : decode cX10_odds 113 = .ok (.getfield 7, 3) := by decide +kernel
theorem dX10_odds_116 : decode cX10_odds 116 = .ok (.iload_n 3, 1) := by decide +kernel
theorem dX10_odds_117 : decode cX10_odds 117 = .ok (.invokevirtual 426, 3) := by decide +kernel
theorem dX10_odds_120 : decode cX10_odds 120 = .ok (.lreturn, 1) := by decide +kernel
theorem dX10_mean_0 : decode cX10_mean 0 = .ok (.aload_n 0, 1) := by decide +kernel
theorem dX10_mean_1 : decode cX10_mean 1 = .ok (.iload_n 1, 1) := by decide +kernel
theorem dX10_mean_2 : decode cX10_mean 2 = .ok (.invokevirtual 358, 3) := by decide +kernel
theorem dX10_mean_5 : decode cX10_mean 5 = .ok (.ifCond .eq 29, 3) := by decide +kernel
theorem dX10_mean_8 : decode cX10_mean 8 = .ok (.aload_n 0, 1) := by decide +kernel
theorem dX10_mean_9 : decode cX10_mean 9 = .ok (.iload_n 2, 1) := by decide +kernel
theorem dX10_mean_10 : decode cX10_mean 10 = .ok (.iconst 0, 1) := by decide +kernel
theorem dX10_mean_11 : decode cX10_mean 11 = .ok (.iconst 1, 1) := by decide +kernel
theorem dX10_mean_12 : decode cX10_mean 12 = .ok (.invokevirtual 253, 3) := by decide +kernel
theorem dX10_mean_15 : decode cX10_mean 15 = .ok (.ifCond .eq 19, 3) := by decide +kernel
theorem dX10_mean_18 : decode cX10_mean 18 = .ok (.aload_n 0, 1) := by decide +kernel
theorem dX10_mean_19 : decode cX10_mean 19 = .ok (.aload_n 0, 1) := by decide +kernel
theorem dX10_mean_20 : decode cX10_mean 20 = .ok (.iload_n 1, 1) := by decide +kernel
theorem dX10_mean_21 : decode cX10_mean 21 = .ok (.iconst 1, 1) := by decide +kernel
theorem dX10_mean_22 : decode cX10_mean 22 = .ok (.invokevirtual 430, 3) := by decide +kernel
theorem dX10_mean_25 : decode cX10_mean 25 = .ok (.bipush 16, 2) := by decide +kernel
theorem dX10_mean_27 : decode cX10_mean 27 = .ok (.iload_n 2, 1) := by decide +kernel
theorem dX10_mean_28 : decode cX10_mean 28 = .ok (.invokevirtual 426, 3) := by decide +kernel
theorem dX10_mean_31 : decode cX10_mean 31 = .ok (.goto 6, 3) := by decide +kernel
theorem dX10_mean_34 : decode cX10_mean 34 = .ok (.ldc2_w 424, 3) := by decide +kernel
theorem dX10_mean_37 : decode cX10_mean 37 = .ok (.lreturn, 1) := by decide +kernel
theorem dX10_plan_0 : decode cX10_plan 0 = .ok (.iload_n 1, 1) := by decide +kernel
theorem dX10_plan_1 : decode cX10_plan 1 = .ok (.iconst (-1), 1) := by decide +kernel
theorem dX10_plan_2 : decode cX10_plan 2 = .ok (.if_icmp .ne 10, 3) := by decide +kernel
theorem dX10_plan_5 : decode cX10_plan 5 = .ok (.aload_n 0, 1) := by decide +kernel
theorem dX10_plan_6 : decode cX10_plan 6 = .ok (.iconst 0, 1) := by decide +kernel
theorem dX10_plan_7 : decode cX10_plan 7 = .ok (.putfield 141, 3) := by decide +kernel
theorem dX10_plan_10 : decode cX10_plan 10 = .ok (.iconst 0, 1) := by decide +kernel
theorem dX10_plan_11 : decode cX10_plan 11 = .ok (.ireturn, 1) := by decide +kernel
theorem dX10_plan_12 : decode cX10_plan 12 = .ok (.aload_n 0, 1) := by decide +kernel
theorem dX10_plan_13 : decode cX10_plan 13 = .ok (.iload_n 1, 1) := by decide +kernel
theorem dX10_plan_14 : decode cX10_plan 14 = .ok (.iconst 0, 1) := by decide +kernel
theorem dX10_plan_15 : decode cX10_plan 15 = .ok (.iconst 3, 1) := by decide +kernel
theorem dX10_plan_16 : decode cX10_plan 16 = .ok (.invokevirtual 253, 3) := by decide +kernel
theorem dX10_plan_19 : decode cX10_plan 19 = .ok (.ifCond .eq 29, 3) := by decide +kernel
theorem dX10_plan_22 : decode cX10_plan 22 = .ok (.iload_n 1, 1) := by decide +kernel
theorem dX10_plan_23 : decode cX10_plan 23 = .ok (.iconst 1, 1) := by decide +kernel
theorem dX10_plan_24 : decode cX10_plan 24 = .ok (.if_icmp .ne 11, 3) := by decide +kernel
theorem dX10_plan_27 : decode cX10_plan 27 = .ok (.aload_n 0, 1) := by decide +kernel
theorem dX10_plan_28 : decode cX10_plan 28 = .ok (.iload_n 2, 1) := by decide +kernel
theorem dX10_plan_29 : decode cX10_plan 29 = .ok (.invokevirtual 264, 3) := by decide +kernel
theorem dX10_plan_32 : decode cX10_plan 32 = .ok (.ifCond .eq 16, 3) := by decide +kernel
theorem dX10_plan_35 : decode cX10_plan 35 = .ok (.iload_n 1, 1) := by decide +kernel
theorem dX10_plan_36 : decode cX10_plan 36 = .ok (.iconst 1, 1) := by decide +kernel
theorem dX10_plan_37 : decode cX10_plan 37 = .ok (.if_icmp .le 13, 3) := by decide +kernel
theorem dX10_plan_40 : decode cX10_plan 40 = .ok (.aload_n 0, 1) := by decide +kernel
theorem dX10_plan_41 : decode cX10_plan 41 = .ok (.iload_n 2, 1) := by decide +kernel
theorem dX10_plan_42 : decode cX10_plan 42 = .ok (.invokevirtual 257, 3) := by decide +kernel
theorem dX10_plan_45 : decode cX10_plan 45 = .ok (.ifCond .ne 5, 3) := by decide +kernel
theorem dX10_plan_48 : decode cX10_plan 48 = .ok (.iconst (-1), 1) := by decide +kernel
theorem dX10_plan_49 : decode cX10_plan 49 = .ok (.ireturn, 1) := by decide +kernel
theorem dX10_plan_50 : decode cX10_plan 50 = .ok (.aload_n 0, 1) := by decide +kernel
theorem dX10_plan_51 : decode cX10_plan 51 = .ok (.getfield 141, 3) := by decide +kernel
theorem dX10_plan_54 : decode cX10_plan 54 = .ok (.bipush 10, 2) := by decide +kernel
theorem dX10_plan_56 : decode cX10_plan 56 = .ok (.if_icmp .ne 6, 3) := by decide +kernel
theorem dX10_plan_59 : decode cX10_plan 59 = .ok (.bipush (-4), 2) := by decide +kernel
theorem dX10_plan_61 : decode cX10_plan 61 = .ok (.ireturn, 1) := by decide +kernel
theorem dX10_plan_62 : decode cX10_plan 62 = .ok (.aload_n 0, 1) := by decide +kernel
theorem dX10_plan_63 : decode cX10_plan 63 = .ok (.getfield 147, 3) := by decide +kernel
theorem dX10_plan_66 : decode cX10_plan 66 = .ok (.aload_n 0, 1) := by decide +kernel
theorem dX10_plan_67 : decode cX10_plan 67 = .ok (.getfield 141, 3) := by decide +kernel
theorem dX10_plan_70 : decode cX10_plan 70 = .ok (.iload_n 1, 1) := by decide +kernel
theorem dX10_plan_71 : decode cX10_plan 71 = .ok (.iastore, 1) := by decide +kernel
theorem dX10_plan_72 : decode cX10_plan 72 = .ok (.aload_n 0, 1) := by decide +kernel
theorem dX10_plan_73 : decode cX10_plan 73 = .ok (.getfield 150, 3) := by decide +kernel
theorem dX10_plan_76 : decode cX10_plan 76 = .ok (.aload_n 0, 1) := by decide +kernel
theorem dX10_plan_77 : decode cX10_plan 77 = .ok (.getfield 141, 3) := by decide +kernel
theorem dX10_plan_80 : decode cX10_plan 80 = .ok (.iload_n 1, 1) := by decide +kernel
theorem dX10_plan_81 : decode cX10_plan 81 = .ok (.ifCond .le 7, 3) := by decide +kernel
theorem dX10_plan_84 : decode cX10_plan 84 = .ok (.iload_n 2, 1) := by decide +kernel
theorem dX10_plan_85 : decode cX10_plan 85 = .ok (.goto 4, 3) := by decide +kernel
theorem dX10_plan_88 : decode cX10_plan 88 = .ok (.iconst 0, 1) := by decide +kernel
theorem dX10_plan_89 : decode cX10_plan 89 = .ok (.iastore, 1) := by decide +kernel
theorem dX10_plan_90 : decode cX10_plan 90 = .ok (.aload_n 0, 1) := by decide +kernel
theorem dX10_plan_91 : decode cX10_plan 91 = .ok (.dup, 1) := by decide +kernel
theorem dX10_plan_92 : decode cX10_plan 92 = .ok (.getfield 141, 3) := by decide +kernel
theorem dX10_plan_95 : decode cX10_plan 95 = .ok (.iconst 1, 1) := by decide +kernel
theorem dX10_plan_96 : decode cX10_plan 96 = .ok (.iadd, 1) := by decide +kernel
theorem dX10_plan_97 : decode cX10_plan 97 = .ok (.putfield 141, 3) := by decide +kernel
theorem dX10_plan_100 : decode cX10_plan 100 = .ok (.aload_n 0, 1) := by decide +kernel
theorem dX10_plan_101 : decode cX10_plan 101 = .ok (.getfield 141, 3) := by decide +kernel
theorem dX10_plan_104 : decode cX10_plan 104 = .ok (.ireturn, 1) := by decide +kernel
theorem dX10_goPlan_0 : decode cX10_goPlan 0 = .ok (.iload_n 1, 1) := by decide +kernel
theorem dX10_goPlan_1 : decode cX10_goPlan 1 = .ok (.ifCond .ne 15, 3) := by decide +kernel
theorem dX10_goPlan_4 : decode cX10_goPlan 4 = .ok (.aload_n 0, 1) := by decide +kernel
theorem dX10_goPlan_5 : decode cX10_goPlan 5 = .ok (.invokevirtual 361, 3) := by decide +kernel
theorem dX10_goPlan_8 : decode cX10_goPlan 8 = .ok (.aload_n 0, 1) := by decide +kernel
theorem dX10_goPlan_9 : decode cX10_goPlan 9 = .ok (.aload_n 0, 1) := by decide +kernel
theorem dX10_goPlan_10 : decode cX10_goPlan 10 = .ok (.invokevirtual 364, 3) := by decide +kernel
theorem dX10_goPlan_13 : decode cX10_goPlan 13 = .ok (.invokevirtual 355, 3) := by decide +kernel
theorem dX10_goPlan_16 : decode cX10_goPlan 16 = .ok (.iload_n 1, 1) := by decide +kernel
theorem dX10_goPlan_17 : decode cX10_goPlan 17 = .ok (.iconst 1, 1) := by decide +kernel
theorem dX10_goPlan_18 : decode cX10_goPlan 18 = .ok (.if_icmp .ne 9, 3) := by decide +kernel
theorem dX10_goPlan_21 : decode cX10_goPlan 21 = .ok (.aload_n 0, 1) := by decide +kernel
theorem dX10_goPlan_22 : decode cX10_goPlan 22 = .ok (.iload_n 2, 1) := by decide +kernel
theorem dX10_goPlan_23 : decode cX10_goPlan 23 = .ok (.iconst 1, 1) := by decide +kernel
theorem dX10_goPlan_24 : decode cX10_goPlan 24 = .ok (.invokevirtual 267, 3) := by decide +kernel
theorem dX10_goPlan_27 : decode cX10_goPlan 27 = .ok (.iload_n 1, 1) := by decide +kernel
theorem dX10_goPlan_28 : decode cX10_goPlan 28 = .ok (.iconst 2, 1) := by decide +kernel
theorem dX10_goPlan_29 : decode cX10_goPlan 29 = .ok (.if_icmp .ne 10, 3) := by decide +kernel
theorem dX10_goPlan_32 : decode cX10_goPlan 32 = .ok (.aload_n 0, 1) := by decide +kernel
theorem dX10_goPlan_33 : decode cX10_goPlan 33 = .ok (.getfield 22, 3) := by decide +kernel
theorem dX10_goPlan_36 : decode cX10_goPlan 36 = .ok (.iload_n 2, 1) := by decide +kernel
theorem dX10_goPlan_37 : decode cX10_goPlan 37 = .ok (.iconst 0, 1) := by decide +kernel
theorem dX10_goPlan_38 : decode cX10_goPlan 38 = .ok (.iastore, 1) := by decide +kernel
theorem dX10_goPlan_39 : decode cX10_goPlan 39 = .ok (.iload_n 1, 1) := by decide +kernel
theorem dX10_goPlan_40 : decode cX10_goPlan 40 = .ok (.iconst 3, 1) := by decide +kernel
theorem dX10_goPlan_41 : decode cX10_goPlan 41 = .ok (.if_icmp .ne 15, 3) := by decide +kernel
theorem dX10_goPlan_44 : decode cX10_goPlan 44 = .ok (.aload_n 0, 1) := by decide +kernel
theorem dX10_goPlan_45 : decode cX10_goPlan 45 = .ok (.dup, 1) := by decide +kernel
theorem dX10_goPlan_46 : decode cX10_goPlan 46 = .ok (.getfield 16, 3) := by decide +kernel
theorem dX10_goPlan_49 : decode cX10_goPlan 49 = .ok (.iconst 1, 1) := by decide +kernel
theorem dX10_goPlan_50 : decode cX10_goPlan 50 = .ok (.iload_n 2, 1) := by decide +kernel
theorem dX10_goPlan_51 : decode cX10_goPlan 51 = .ok (.ishl, 1) := by decide +kernel
theorem dX10_goPlan_52 : decode cX10_goPlan 52 = .ok (.ixor, 1) := by decide +kernel
theorem dX10_goPlan_53 : decode cX10_goPlan 53 = .ok (.putfield 16, 3) := by decide +kernel
theorem dX10_goPlan_56 : decode cX10_goPlan 56 = .ok (.return_, 1) := by decide +kernel
theorem dX10_ends_0 : decode cX10_ends 0 = .ok (.aload_n 0, 1) := by decide +kernel
theorem dX10_ends_1 : decode cX10_ends 1 = .ok (.iload_n 1, 1) := by decide +kernel
theorem dX10_ends_2 : decode cX10_ends 2 = .ok (.iconst 0, 1) := by decide +kernel
theorem dX10_ends_3 : decode cX10_ends 3 = .ok (.iconst 1, 1) := by decide +kernel
theorem dX10_ends_4 : decode cX10_ends 4 = .ok (.invokevirtual 253, 3) := by decide +kernel
theorem dX10_ends_7 : decode cX10_ends 7 = .ok (.ifCond .ne 5, 3) := by decide +kernel
theorem dX10_ends_10 : decode cX10_ends 10 = .ok (.iconst (-1), 1) := by decide +kernel
theorem dX10_ends_11 : decode cX10_ends 11 = .ok (.ireturn, 1) := by decide +kernel
theorem dX10_ends_12 : decode cX10_ends 12 = .ok (.aload_n 0, 1) := by decide +kernel
theorem dX10_ends_13 : decode cX10_ends 13 = .ok (.invokevirtual 375, 3) := by decide +kernel
theorem dX10_ends_16 : decode cX10_ends 16 = .ok (.iconst 0, 1) := by decide +kernel
theorem dX10_ends_17 : decode cX10_ends 17 = .ok (.istore_n 2, 1) := by decide +kernel
theorem dX10_ends_18 : decode cX10_ends 18 = .ok (.iload_n 2, 1) := by decide +kernel
theorem dX10_ends_19 : decode cX10_ends 19 = .ok (.aload_n 0, 1) := by decide +kernel
theorem dX10_ends_20 : decode cX10_ends 20 = .ok (.getfield 141, 3) := by decide +kernel
theorem dX10_ends_23 : decode cX10_ends 23 = .ok (.if_icmp .ge 25, 3) := by decide +kernel
theorem dX10_ends_26 : decode cX10_ends 26 = .ok (.aload_n 0, 1) := by decide +kernel
theorem dX10_ends_27 : decode cX10_ends 27 = .ok (.aload_n 0, 1) := by decide +kernel
theorem dX10_ends_28 : decode cX10_ends 28 = .ok (.getfield 147, 3) := by decide +kernel
theorem dX10_ends_31 : decode cX10_ends 31 = .ok (.iload_n 2, 1) := by decide +kernel
theorem dX10_ends_32 : decode cX10_ends 32 = .ok (.iaload, 1) := by decide +kernel
theorem dX10_ends_33 : decode cX10_ends 33 = .ok (.aload_n 0, 1) := by decide +kernel
theorem dX10_ends_34 : decode cX10_ends 34 = .ok (.getfield 150, 3) := by decide +kernel
theorem dX10_ends_37 : decode cX10_ends 37 = .ok (.iload_n 2, 1) := by decide +kernel
theorem dX10_ends_38 : decode cX10_ends 38 = .ok (.iaload, 1) := by decide +kernel
theorem dX10_ends_39 : decode cX10_ends 39 = .ok (.invokevirtual 433, 3) := by decide +kernel
theorem dX10_ends_42 : decode cX10_ends 42 = .ok (.iinc 2 1, 3) := by decide +kernel
theorem dX10_ends_45 : decode cX10_ends 45 = .ok (.goto (-27), 3) := by decide +kernel
theorem dX10_ends_48 : decode cX10_ends 48 = .ok (.iload_n 1, 1) := by decide +kernel
theorem dX10_ends_49 : decode cX10_ends 49 = .ok (.ifCond .ne 10, 3) := by decide +kernel
theorem dX10_ends_52 : decode cX10_ends 52 = .ok (.aload_n 0, 1) := by decide +kernel
theorem dX10_ends_53 : decode cX10_ends 53 = .ok (.invokevirtual 387, 3) := by decide +kernel
theorem dX10_ends_56 : decode cX10_ends 56 = .ok (.goto 11, 3) := by decide +kernel
theorem dX10_ends_59 : decode cX10_ends 59 = .ok (.aload_n 0, 1) := by decide +kernel
theorem dX10_ends_60 : decode cX10_ends 60 = .ok (.aload_n 0, 1) := by decide +kernel
theorem dX10_ends_61 : decode cX10_ends 61 = .ok (.invokevirtual 384, 3) := by decide +kernel
theorem dX10_ends_64 : decode cX10_ends 64 = .ok (.invokevirtual 400, 3) := by decide +kernel
theorem dX10_ends_67 : decode cX10_ends 67 = .ok (.istore_n 2, 1) := by decide +kernel
theorem dX10_ends_68 : decode cX10_ends 68 = .ok (.aload_n 0, 1) := by decide +kernel
theorem dX10_ends_69 : decode cX10_ends 69 = .ok (.invokevirtual 378, 3) := by decide +kernel
theorem dX10_ends_72 : decode cX10_ends 72 = .ok (.iload_n 2, 1) := by decide +kernel
theorem dX10_ends_73 : decode cX10_ends 73 = .ok (.ireturn, 1) := by decide +kernel
theorem dX10_book_0 : decode cX10_book 0 = .ok (.iload_n 1, 1) := by decide +kernel
theorem dX10_book_1 : decode cX10_book 1 = .ok (.iconst (-1), 1) := by decide +kernel
theorem dX10_book_2 : decode cX10_book 2 = .ok (.if_icmp .ne 10, 3) := by decide +kernel
theorem dX10_book_5 : decode cX10_book 5 = .ok (.aload_n 0, 1) := by decide +kernel
theorem dX10_book_6 : decode cX10_book 6 = .ok (.iconst 0, 1) := by decide +kernel
theorem dX10_book_7 : decode cX10_book 7 = .ok (.putfield 144, 3) := by decide +kernel
theorem dX10_book_10 : decode cX10_book 10 = .ok (.iconst 0, 1) := by decide +kernel
theorem dX10_book_11 : decode cX10_book 11 = .ok (.ireturn, 1) := by decide +kernel
theorem dX10_book_12 : decode cX10_book 12 = .ok (.aload_n 0, 1) := by decide +kernel
theorem dX10_book_13 : decode cX10_book 13 = .ok (.iload_n 1, 1) := by decide +kernel
theorem dX10_book_14 : decode cX10_book 14 = .ok (.invokevirtual 257, 3) := by decide +kernel
theorem dX10_book_17 : decode cX10_book 17 = .ok (.ifCond .ne 5, 3) := by decide +kernel
theorem dX10_book_20 : decode cX10_book 20 = .ok (.iconst (-1), 1) := by decide +kernel
theorem dX10_book_21 : decode cX10_book 21 = .ok (.ireturn, 1) := by decide +kernel
theorem dX10_book_22 : decode cX10_book 22 = .ok (.aload_n 0, 1) := by decide +kernel
theorem dX10_book_23 : decode cX10_book 23 = .ok (.iload_n 2, 1) := by decide +kernel
theorem dX10_book_24 : decode cX10_book 24 = .ok (.invokevirtual 261, 3) := by decide +kernel
theorem dX10_book_27 : decode cX10_book 27 = .ok (.ifCond .ne 6, 3) := by decide +kernel
theorem dX10_book_30 : decode cX10_book 30 = .ok (.bipush (-2), 2) := by decide +kernel
theorem dX10_book_32 : decode cX10_book 32 = .ok (.ireturn, 1) := by decide +kernel
theorem dX10_book_33 : decode cX10_book 33 = .ok (.aload_n 0, 1) := by decide +kernel
theorem dX10_book_34 : decode cX10_book 34 = .ok (.getfield 144, 3) := by decide +kernel
theorem dX10_book_37 : decode cX10_book 37 = .ok (.bipush 8, 2) := by decide +kernel
theorem dX10_book_39 : decode cX10_book 39 = .ok (.if_icmp .ne 6, 3) := by decide +kernel
theorem dX10_book_42 : decode cX10_book 42 = .ok (.bipush (-4), 2) := by decide +kernel
theorem dX10_book_44 : decode cX10_book 44 = .ok (.ireturn, 1) := by decide +kernel
theorem dX10_book_45 : decode cX10_book 45 = .ok (.aload_n 0, 1) := by decide +kernel
theorem dX10_book_46 : decode cX10_book 46 = .ok (.getfield 153, 3) := by decide +kernel
theorem dX10_book_49 : decode cX10_book 49 = .ok (.aload_n 0, 1) := by decide +kernel
theorem dX10_book_50 : decode cX10_book 50 = .ok (.getfield 144, 3) := by decide +kernel
theorem dX10_book_53 : decode cX10_book 53 = .ok (.iload_n 1, 1) := by decide +kernel
theorem dX10_book_54 : decode cX10_book 54 = .ok (.iastore, 1) := by decide +kernel
theorem dX10_book_55 : decode cX10_book 55 = .ok (.aload_n 0, 1) := by decide +kernel
theorem dX10_book_56 : decode cX10_book 56 = .ok (.getfield 156, 3) := by decide +kernel
theorem dX10_book_59 : decode cX10_book 59 = .ok (.aload_n 0, 1) := by decide +kernel
theorem dX10_book_60 : decode cX10_book 60 = .ok (.getfield 144, 3) := by decide +kernel
theorem dX10_book_63 : decode cX10_book 63 = .ok (.iload_n 2, 1) := by decide +kernel
theorem dX10_book_64 : decode cX10_book 64 = .ok (.iastore, 1) := by decide +kernel
theorem dX10_book_65 : decode cX10_book 65 = .ok (.aload_n 0, 1) := by decide +kernel
theorem dX10_book_66 : decode cX10_book 66 = .ok (.dup, 1) := by decide +kernel
theorem dX10_book_67 : decode cX10_book 67 = .ok (.getfield 144, 3) := by decide +kernel
theorem dX10_book_70 : decode cX10_book 70 = .ok (.iconst 1, 1) := by decide +kernel
theorem dX10_book_71 : decode cX10_book 71 = .ok (.iadd, 1) := by decide +kernel
theorem dX10_book_72 : decode cX10_book 72 = .ok (.putfield 144, 3) := by decide +kernel
theorem dX10_book_75 : decode cX10_book 75 = .ok (.aload_n 0, 1) := by decide +kernel
theorem dX10_book_76 : decode cX10_book 76 = .ok (.getfield 144, 3) := by decide +kernel
theorem dX10_book_79 : decode cX10_book 79 = .ok (.ireturn, 1) := by decide +kernel
theorem dX10_looked_0 : decode cX10_looked 0 = .ok (.iconst 0, 1) := by decide +kernel
theorem dX10_looked_1 : decode cX10_looked 1 = .ok (.istore_n 1, 1) := by decide +kernel
theorem dX10_looked_2 : decode cX10_looked 2 = .ok (.iload_n 1, 1) := by decide +kernel
theorem dX10_looked_3 : decode cX10_looked 3 = .ok (.aload_n 0, 1) := by decide +kernel
theorem dX10_looked_4 : decode cX10_looked 4 = .ok (.getfield 144, 3) := by decide +kernel
theorem dX10_looked_7 : decode cX10_looked 7 = .ok (.if_icmp .ge 31, 3) := by decide +kernel
theorem dX10_looked_10 : decode cX10_looked 10 = .ok (.aload_n 0, 1) := by decide +kernel
theorem dX10_looked_11 : decode cX10_looked 11 = .ok (.getfield 22, 3) := by decide +kernel
theorem dX10_looked_14 : decode cX10_looked 14 = .ok (.aload_n 0, 1) := by decide +kernel
theorem dX10_looked_15 : decode cX10_looked 15 = .ok (.getfield 153, 3) := by decide +kernel
theorem dX10_looked_18 : decode cX10_looked 18 = .ok (.iload_n 1, 1) := by decide +kernel
theorem dX10_looked_19 : decode cX10_looked 19 = .ok (.iaload, 1) := by decide +kernel
theorem dX10_looked_20 : decode cX10_looked 20 = .ok (.iaload, 1) := by decide +kernel
theorem dX10_looked_21 : decode cX10_looked 21 = .ok (.aload_n 0, 1) := by decide +kernel
theorem dX10_looked_22 : decode cX10_looked 22 = .ok (.getfield 156, 3) := by decide +kernel
theorem dX10_looked_25 : decode cX10_looked 25 = .ok (.iload_n 1, 1) := by decide +kernel
theorem dX10_looked_26 : decode cX10_looked 26 = .ok (.iaload, 1) := by decide +kernel
theorem dX10_looked_27 : decode cX10_looked 27 = .ok (.if_icmp .eq 5, 3) := by decide +kernel
theorem dX10_looked_30 : decode cX10_looked 30 = .ok (.iload_n 1, 1) := by decide +kernel
theorem dX10_looked_31 : decode cX10_looked 31 = .ok (.ireturn, 1) := by decide +kernel
theorem dX10_looked_32 : decode cX10_looked 32 = .ok (.iinc 1 1, 3) := by decide +kernel
theorem dX10_looked_35 : decode cX10_looked 35 = .ok (.goto (-33), 3) := by decide +kernel
theorem dX10_looked_38 : decode cX10_looked 38 = .ok (.bipush (-5), 2) := by decide +kernel
theorem dX10_looked_40 : decode cX10_looked 40 = .ok (.ireturn, 1) := by decide +kernel
theorem dX10_judge_0 : decode cX10_judge 0 = .ok (.aload_n 0, 1) := by decide +kernel
theorem dX10_judge_1 : decode cX10_judge 1 = .ok (.iload_n 1, 1) := by decide +kernel
theorem dX10_judge_2 : decode cX10_judge 2 = .ok (.invokevirtual 436, 3) := by decide +kernel
theorem dX10_judge_5 : decode cX10_judge 5 = .ok (.ifCond .ne 5, 3) := by decide +kernel
theorem dX10_judge_8 : decode cX10_judge 8 = .ok (.iconst (-1), 1) := by decide +kernel
theorem dX10_judge_9 : decode cX10_judge 9 = .ok (.ireturn, 1) := by decide +kernel
theorem dX10_judge_10 : decode cX10_judge 10 = .ok (.aload_n 0, 1) := by decide +kernel
theorem dX10_judge_11 : decode cX10_judge 11 = .ok (.getfield 232, 3) := by decide +kernel
theorem dX10_judge_14 : decode cX10_judge 14 = .ok (.iload_n 1, 1) := by decide +kernel
theorem dX10_judge_15 : decode cX10_judge 15 = .ok (.iaload, 1) := by decide +kernel
theorem dX10_judge_16 : decode cX10_judge 16 = .ok (.ifCond .lt 16, 3) := by decide +kernel
theorem dX10_judge_19 : decode cX10_judge 19 = .ok (.aload_n 0, 1) := by decide +kernel
theorem dX10_judge_20 : decode cX10_judge 20 = .ok (.getfield 232, 3) := by decide +kernel
theorem dX10_judge_23 : decode cX10_judge 23 = .ok (.iload_n 1, 1) := by decide +kernel
theorem dX10_judge_24 : decode cX10_judge 24 = .ok (.iaload, 1) := by decide +kernel
theorem dX10_judge_25 : decode cX10_judge 25 = .ok (.iconst 1, 1) := by decide +kernel
theorem dX10_judge_26 : decode cX10_judge 26 = .ok (.if_icmp .eq 6, 3) := by decide +kernel
theorem dX10_judge_29 : decode cX10_judge 29 = .ok (.bipush (-12), 2) := by decide +kernel
theorem dX10_judge_31 : decode cX10_judge 31 = .ok (.ireturn, 1) := by decide +kernel
theorem dX10_judge_32 : decode cX10_judge 32 = .ok (.iconst 0, 1) := by decide +kernel
theorem dX10_judge_33 : decode cX10_judge 33 = .ok (.istore_n 3, 1) := by decide +kernel
theorem dX10_judge_34 : decode cX10_judge 34 = .ok (.iload_n 3, 1) := by decide +kernel
theorem dX10_judge_35 : decode cX10_judge 35 = .ok (.bipush 16, 2) := by decide +kernel
theorem dX10_judge_37 : decode cX10_judge 37 = .ok (.if_icmp .ge 67, 3) := by decide +kernel
theorem dX10_judge_40 : decode cX10_judge 40 = .ok (.aload_n 0, 1) := by decide +kernel
theorem dX10_judge_41 : decode cX10_judge 41 = .ok (.getfield 232, 3) := by decide +kernel
theorem dX10_judge_44 : decode cX10_judge 44 = .ok (.iload_n 1, 1) := by decide +kernel
theorem dX10_judge_45 : decode cX10_judge 45 = .ok (.iaload, 1) := by decide +kernel
theorem dX10_judge_46 : decode cX10_judge 46 = .ok (.ifCond .lt 21, 3) := by decide +kernel
theorem dX10_judge_49 : decode cX10_judge 49 = .ok (.iload_n 2, 1) := by decide +kernel
theorem dX10_judge_50 : decode cX10_judge 50 = .ok (.ifCond .lt 17, 3) := by decide +kernel
theorem dX10_judge_53 : decode cX10_judge 53 = .ok (.iload_n 2, 1) := by decide +kernel
theorem dX10_judge_54 : decode cX10_judge 54 = .ok (.aload_n 0, 1) := by decide +kernel
theorem dX10_judge_55 : decode cX10_judge 55 = .ok (.getfield 235, 3) := by decide +kernel
theorem dX10_judge_58 : decode cX10_judge 58 = .ok (.iload_n 1, 1) := by decide +kernel
theorem dX10_judge_59 : decode cX10_judge 59 = .ok (.iaload, 1) := by decide +kernel
theorem dX10_judge_60 : decode cX10_judge 60 = .ok (.iload_n 3, 1) := by decide +kernel
theorem dX10_judge_61 : decode cX10_judge 61 = .ok (.isub, 1) := by decide +kernel
theorem dX10_judge_62 : decode cX10_judge 62 = .ok (.iconst 1, 1) := by decide +kernel
theorem dX10_judge_63 : decode cX10_judge 63 = .ok (.isub, 1) := by decide +kernel
theorem dX10_judge_64 : decode cX10_judge 64 = .ok (.if_icmp .le 8, 3) := by decide +kernel
theorem dX10_judge_67 : decode cX10_judge 67 = .ok (.bipush 100, 2) := by decide +kernel
theorem dX10_judge_69 : decode cX10_judge 69 = .ok (.iload_n 3, 1) := by decide +kernel
theorem dX10_judge_70 : decode cX10_judge 70 = .ok (.iadd, 1) := by decide +kernel
theorem dX10_judge_71 : decode cX10_judge 71 = .ok (.ireturn, 1) := by decide +kernel
theorem dX10_judge_72 : decode cX10_judge 72 = .ok (.aload_n 0, 1) := by decide +kernel
theorem dX10_judge_73 : decode cX10_judge 73 = .ok (.getfield 238, 3) := by decide +kernel
theorem dX10_judge_76 : decode cX10_judge 76 = .ok (.bipush 60, 2) := by decide +kernel
theorem dX10_judge_78 : decode cX10_judge 78 = .ok (.iload_n 1, 1) := by decide +kernel
theorem dX10_judge_79 : decode cX10_judge 79 = .ok (.imul, 1) := by decide +kernel
theorem dX10_judge_80 : decode cX10_judge 80 = .ok (.iload_n 2, 1) := by decide +kernel
theorem dX10_judge_81 : decode cX10_judge 81 = .ok (.iadd, 1) := by decide +kernel
theorem dX10_judge_82 : decode cX10_judge 82 = .ok (.iload_n 3, 1) := by decide +kernel
theorem dX10_judge_83 : decode cX10_judge 83 = .ok (.iadd, 1) := by decide +kernel
theorem dX10_judge_84 : decode cX10_judge 84 = .ok (.laload, 1) := by decide +kernel
theorem dX10_judge_85 : decode cX10_judge 85 = .ok (.aload_n 0, 1) := by decide +kernel
theorem dX10_judge_86 : decode cX10_judge 86 = .ok (.getfield 22, 3) := by decide +kernel
theorem dX10_judge_89 : decode cX10_judge 89 = .ok (.iload_n 3, 1) := by decide +kernel
theorem dX10_judge_90 : decode cX10_judge 90 = .ok (.iaload, 1) := by decide +kernel
theorem dX10_judge_91 : decode cX10_judge 91 = .ok (.i2l, 1) := by decide +kernel
theorem dX10_judge_92 : decode cX10_judge 92 = .ok (.lcmp, 1) := by decide +kernel
theorem dX10_judge_93 : decode cX10_judge 93 = .ok (.ifCond .eq 5, 3) := by decide +kernel
theorem dX10_judge_96 : decode cX10_judge 96 = .ok (.iload_n 3, 1) := by decide +kernel
theorem dX10_judge_97 : decode cX10_judge 97 = .ok (.ireturn, 1) := by decide +kernel
theorem dX10_judge_98 : decode cX10_judge 98 = .ok (.iinc 3 1, 3) := by decide +kernel
theorem dX10_judge_101 : decode cX10_judge 101 = .ok (.goto (-67), 3) := by decide +kernel
theorem dX10_judge_104 : decode cX10_judge 104 = .ok (.bipush (-5), 2) := by decide +kernel
theorem dX10_judge_106 : decode cX10_judge 106 = .ok (.ireturn, 1) := by decide +kernel
theorem dX10_image_0 : decode cX10_image 0 = .ok (.aload_n 0, 1) := by decide +kernel
theorem dX10_image_1 : decode cX10_image 1 = .ok (.iconst 1, 1) := by decide +kernel
theorem dX10_image_2 : decode cX10_image 2 = .ok (.putfield 159, 3) := by decide +kernel
theorem dX10_image_5 : decode cX10_image 5 = .ok (.aload_n 0, 1) := by decide +kernel
theorem dX10_image_6 : decode cX10_image 6 = .ok (.aload_n 0, 1) := by decide +kernel
theorem dX10_image_7 : decode cX10_image 7 = .ok (.getfield 44, 3) := by decide +kernel
theorem dX10_image_10 : decode cX10_image 10 = .ok (.putfield 163, 3) := by decide +kernel
theorem dX10_image_13 : decode cX10_image 13 = .ok (.aload_n 0, 1) := by decide +kernel
theorem dX10_image_14 : decode cX10_image 14 = .ok (.aload_n 0, 1) := by decide +kernel
theorem dX10_image_15 : decode cX10_image 15 = .ok (.getfield 7, 3) := by decide +kernel
theorem dX10_image_18 : decode cX10_image 18 = .ok (.putfield 166, 3) := by decide +kernel
theorem dX10_image_21 : decode cX10_image 21 = .ok (.aload_n 0, 1) := by decide +kernel
theorem dX10_image_22 : decode cX10_image 22 = .ok (.aload_n 0, 1) := by decide +kernel
theorem dX10_image_23 : decode cX10_image 23 = .ok (.getfield 13, 3) := by decide +kernel
theorem dX10_image_26 : decode cX10_image 26 = .ok (.putfield 169, 3) := by decide +kernel
theorem dX10_image_29 : decode cX10_image 29 = .ok (.aload_n 0, 1) := by decide +kernel
theorem dX10_image_30 : decode cX10_image 30 = .ok (.aload_n 0, 1) := by decide +kernel
theorem dX10_image_31 : decode cX10_image 31 = .ok (.getfield 16, 3) := by decide +kernel
theorem dX10_image_34 : decode cX10_image 34 = .ok (.putfield 172, 3) := by decide +kernel
theorem dX10_image_37 : decode cX10_image 37 = .ok (.aload_n 0, 1) := by decide +kernel
theorem dX10_image_38 : decode cX10_image 38 = .ok (.aload_n 0, 1) := by decide +kernel
theorem dX10_image_39 : decode cX10_image 39 = .ok (.getfield 19, 3) := by decide +kernel
theorem dX10_image_42 : decode cX10_image 42 = .ok (.putfield 175, 3) := by decide +kernel
theorem dX10_image_45 : decode cX10_image 45 = .ok (.aload_n 0, 1) := by decide +kernel
theorem dX10_image_46 : decode cX10_image 46 = .ok (.aload_n 0, 1) := by decide +kernel
theorem dX10_image_47 : decode cX10_image 47 = .ok (.getfield 129, 3) := by decide +kernel
theorem dX10_image_50 : decode cX10_image 50 = .ok (.putfield 178, 3) := by decide +kernel
theorem dX10_image_53 : decode cX10_image 53 = .ok (.aload_n 0, 1) := by decide +kernel
theorem dX10_image_54 : decode cX10_image 54 = .ok (.aload_n 0, 1) := by decide +kernel
theorem dX10_image_55 : decode cX10_image 55 = .ok (.getfield 141, 3) := by decide +kernel
theorem dX10_image_58 : decode cX10_image 58 = .ok (.putfield 181, 3) := by decide +kernel
theorem dX10_image_61 : decode cX10_image 61 = .ok (.aload_n 0, 1) := by decide +kernel
theorem dX10_image_62 : decode cX10_image 62 = .ok (.aload_n 0, 1) := by decide +kernel
theorem dX10_image_63 : decode cX10_image 63 = .ok (.getfield 144, 3) := by decide +kernel
theorem dX10_image_66 : decode cX10_image 66 = .ok (.putfield 184, 3) := by decide +kernel
theorem dX10_image_69 : decode cX10_image 69 = .ok (.iconst 0, 1) := by decide +kernel
theorem dX10_image_70 : decode cX10_image 70 = .ok (.istore_n 1, 1) := by decide +kernel
theorem dX10_image_71 : decode cX10_image 71 = .ok (.iload_n 1, 1) := by decide +kernel
theorem dX10_image_72 : decode cX10_image 72 = .ok (.bipush 16, 2) := by decide +kernel
theorem dX10_image_74 : decode cX10_image 74 = .ok (.if_icmp .ge 21, 3) := by decide +kernel
theorem dX10_image_77 : decode cX10_image 77 = .ok (.aload_n 0, 1) := by decide +kernel
theorem dX10_image_78 : decode cX10_image 78 = .ok (.getfield 187, 3) := by decide +kernel
theorem dX10_image_81 : decode cX10_image 81 = .ok (.iload_n 1, 1) := by decide +kernel
theorem dX10_image_82 : decode cX10_image 82 = .ok (.aload_n 0, 1) := by decide +kernel
theorem dX10_image_83 : decode cX10_image 83 = .ok (.getfield 22, 3) := by decide +kernel
theorem dX10_image_86 : decode cX10_image 86 = .ok (.iload_n 1, 1) := by decide +kernel
theorem dX10_image_87 : decode cX10_image 87 = .ok (.iaload, 1) := by decide +kernel
theorem dX10_image_88 : decode cX10_image 88 = .ok (.iastore, 1) := by decide +kernel
theorem dX10_image_89 : decode cX10_image 89 = .ok (.iinc 1 1, 3) := by decide +kernel
theorem dX10_image_92 : decode cX10_image 92 = .ok (.goto (-21), 3) := by decide +kernel
theorem dX10_image_95 : decode cX10_image 95 = .ok (.iconst 0, 1) := by decide +kernel
theorem dX10_image_96 : decode cX10_image 96 = .ok (.istore_n 1, 1) := by decide +kernel
theorem dX10_image_97 : decode cX10_image 97 = .ok (.iload_n 1, 1) := by decide +kernel
theorem dX10_image_98 : decode cX10_image 98 = .ok (.bipush 6, 2) := by decide +kernel
theorem dX10_image_100 : decode cX10_image 100 = .ok (.if_icmp .ge 57, 3) := by decide +kernel
theorem dX10_image_103 : decode cX10_image 103 = .ok (.aload_n 0, 1) := by decide +kernel
theorem dX10_image_104 : decode cX10_image 104 = .ok (.getfield 190, 3) := by decide +kernel
theorem dX10_image_107 : decode cX10_image 107 = .ok (.iload_n 1, 1) := by decide +kernel
theorem dX10_image_108 : decode cX10_image 108 = .ok (.aload_n 0, 1) := by decide +kernel
theorem dX10_image_109 : decode cX10_image 109 = .ok (.getfield 26, 3) := by decide +kernel
theorem dX10_image_112 : decode cX10_image 112 = .ok (.iload_n 1, 1) := by decide +kernel
theorem dX10_image_113 : decode cX10_image 113 = .ok (.iaload, 1) := by decide +kernel
theorem dX10_image_114 : decode cX10_image 114 = .ok (.iastore, 1) := by decide +kernel
theorem dX10_image_115 : decode cX10_image 115 = .ok (.aload_n 0, 1) := by decide +kernel
theorem dX10_image_116 : decode cX10_image 116 = .ok (.getfield 193, 3) := by decide +kernel
theorem dX10_image_119 : decode cX10_image 119 = .ok (.iload_n 1, 1) := by decide +kernel
theorem dX10_image_120 : decode cX10_image 120 = .ok (.aload_n 0, 1) := by decide +kernel
theorem dX10_image_121 : decode cX10_image 121 = .ok (.getfield 29, 3) := by decide +kernel
theorem dX10_image_124 : decode cX10_image 124 = .ok (.iload_n 1, 1) := by decide +kernel
theorem dX10_image_125 : decode cX10_image 125 = .ok (.iaload, 1) := by decide +kernel
theorem dX10_image_126 : decode cX10_image 126 = .ok (.iastore, 1) := by decide +kernel
theorem dX10_image_127 : decode cX10_image 127 = .ok (.aload_n 0, 1) := by decide +kernel
theorem dX10_image_128 : decode cX10_image 128 = .ok (.getfield 196, 3) := by decide +kernel
theorem dX10_image_131 : decode cX10_image 131 = .ok (.iload_n 1, 1) := by decide +kernel
theorem dX10_image_132 : decode cX10_image 132 = .ok (.aload_n 0, 1) := by decide +kernel
theorem dX10_image_133 : decode cX10_image 133 = .ok (.getfield 32, 3) := by decide +kernel
theorem dX10_image_136 : decode cX10_image 136 = .ok (.iload_n 1, 1) := by decide +kernel
theorem dX10_image_137 : decode cX10_image 137 = .ok (.iaload, 1) := by decide +kernel
theorem dX10_image_138 : decode cX10_image 138 = .ok (.iastore, 1) := by decide +kernel
theorem dX10_image_139 : decode cX10_image 139 = .ok (.aload_n 0, 1) := by decide +kernel
theorem dX10_image_140 : decode cX10_image 140 = .ok (.getfield 199, 3) := by decide +kernel
theorem dX10_image_143 : decode cX10_image 143 = .ok (.iload_n 1, 1) := by decide +kernel
theorem dX10_image_144 : decode cX10_image 144 = .ok (.aload_n 0, 1) := by decide +kernel
theorem dX10_image_145 : decode cX10_image 145 = .ok (.getfield 35, 3) := by decide +kernel
theorem dX10_image_148 : decode cX10_image 148 = .ok (.iload_n 1, 1) := by decide +kernel
theorem dX10_image_149 : decode cX10_image 149 = .ok (.iaload, 1) := by decide +kernel
theorem dX10_image_150 : decode cX10_image 150 = .ok (.iastore, 1) := by decide +kernel
theorem dX10_image_151 : decode cX10_image 151 = .ok (.iinc 1 1, 3) := by decide +kernel
theorem dX10_image_154 : decode cX10_image 154 = .ok (.goto (-57), 3) := by decide +kernel
theorem dX10_image_157 : decode cX10_image 157 = .ok (.iconst 0, 1) := by decide +kernel
theorem dX10_image_158 : decode cX10_image 158 = .ok (.istore_n 1, 1) := by decide +kernel
theorem dX10_image_159 : decode cX10_image 159 = .ok (.iload_n 1, 1) := by decide +kernel
theorem dX10_image_160 : decode cX10_image 160 = .ok (.bipush 24, 2) := by decide +kernel
theorem dX10_image_162 : decode cX10_image 162 = .ok (.if_icmp .ge 21, 3) := by decide +kernel
theorem dX10_image_165 : decode cX10_image 165 = .ok (.aload_n 0, 1) := by decide +kernel
theorem dX10_image_166 : decode cX10_image 166 = .ok (.getfield 202, 3) := by decide +kernel
theorem dX10_image_169 : decode cX10_image 169 = .ok (.iload_n 1, 1) := by decide +kernel
theorem dX10_image_170 : decode cX10_image 170 = .ok (.aload_n 0, 1) := by decide +kernel
theorem dX10_image_171 : decode cX10_image 171 = .ok (.getfield 38, 3) := by decide +kernel
theorem dX10_image_174 : decode cX10_image 174 = .ok (.iload_n 1, 1) := by decide +kernel
theorem dX10_image_175 : decode cX10_image 175 = .ok (.iaload, 1) := by decide +kernel
theorem dX10_image_176 : decode cX10_image 176 = .ok (.iastore, 1) := by decide +kernel
theorem dX10_image_177 : decode cX10_image 177 = .ok (.iinc 1 1, 3) := by decide +kernel
theorem dX10_image_180 : decode cX10_image 180 = .ok (.goto (-21), 3) := by decide +kernel
theorem dX10_image_183 : decode cX10_image 183 = .ok (.iconst 0, 1) := by decide +kernel
theorem dX10_image_184 : decode cX10_image 184 = .ok (.istore_n 1, 1) := by decide +kernel
theorem dX10_image_185 : decode cX10_image 185 = .ok (.iload_n 1, 1) := by decide +kernel
theorem dX10_image_186 : decode cX10_image 186 = .ok (.iconst 5, 1) := by decide +kernel
theorem dX10_image_187 : decode cX10_image 187 = .ok (.if_icmp .ge 45, 3) := by decide +kernel
theorem dX10_image_190 : decode cX10_image 190 = .ok (.aload_n 0, 1) := by decide +kernel
theorem dX10_image_191 : decode cX10_image 191 = .ok (.getfield 205, 3) := by decide +kernel
theorem dX10_image_194 : decode cX10_image 194 = .ok (.iload_n 1, 1) := by decide +kernel
theorem dX10_image_195 : decode cX10_image 195 = .ok (.aload_n 0, 1) := by decide +kernel
theorem dX10_image_196 : decode cX10_image 196 = .ok (.getfield 132, 3) := by decide +kernel
theorem dX10_image_199 : decode cX10_image 199 = .ok (.iload_n 1, 1) := by decide +kernel
theorem dX10_image_200 : decode cX10_image 200 = .ok (.iaload, 1) := by decide +kernel
theorem dX10_image_201 : decode cX10_image 201 = .ok (.iastore, 1) := by decide +kernel
theorem dX10_image_202 : decode cX10_image 202 = .ok (.aload_n 0, 1) := by decide +kernel
theorem dX10_image_203 : decode cX10_image 203 = .ok (.getfield 208, 3) := by decide +kernel
theorem dX10_image_206 : decode cX10_image 206 = .ok (.iload_n 1, 1) := by decide +kernel
theorem dX10_image_207 : decode cX10_image 207 = .ok (.aload_n 0, 1) := by decide +kernel
theorem dX10_image_208 : decode cX10_image 208 = .ok (.getfield 135, 3) := by decide +kernel
theorem dX10_image_211 : decode cX10_image 211 = .ok (.iload_n 1, 1) := by decide +kernel
theorem dX10_image_212 : decode cX10_image 212 = .ok (.iaload, 1) := by decide +kernel
theorem dX10_image_213 : decode cX10_image 213 = .ok (.iastore, 1) := by decide +kernel
theorem dX10_image_214 : decode cX10_image 214 = .ok (.aload_n 0, 1) := by decide +kernel
theorem dX10_image_215 : decode cX10_image 215 = .ok (.getfield 211, 3) := by decide +kernel
theorem dX10_image_218 : decode cX10_image 218 = .ok (.iload_n 1, 1) := by decide +kernel
theorem dX10_image_219 : decode cX10_image 219 = .ok (.aload_n 0, 1) := by decide +kernel
theorem dX10_image_220 : decode cX10_image 220 = .ok (.getfield 138, 3) := by decide +kernel
theorem dX10_image_223 : decode cX10_image 223 = .ok (.iload_n 1, 1) := by decide +kernel
theorem dX10_image_224 : decode cX10_image 224 = .ok (.iaload, 1) := by decide +kernel
theorem dX10_image_225 : decode cX10_image 225 = .ok (.iastore, 1) := by decide +kernel
theorem dX10_image_226 : decode cX10_image 226 = .ok (.iinc 1 1, 3) := by decide +kernel
theorem dX10_image_229 : decode cX10_image 229 = .ok (.goto (-44), 3) := by decide +kernel
theorem dX10_image_232 : decode cX10_image 232 = .ok (.iconst 0, 1) := by decide +kernel
theorem dX10_image_233 : decode cX10_image 233 = .ok (.istore_n 1, 1) := by decide +kernel
theorem dX10_image_234 : decode cX10_image 234 = .ok (.iload_n 1, 1) := by decide +kernel
theorem dX10_image_235 : decode cX10_image 235 = .ok (.bipush 10, 2) := by decide +kernel
theorem dX10_image_237 : decode cX10_image 237 = .ok (.if_icmp .ge 33, 3) := by decide +kernel
theorem dX10_image_240 : decode cX10_image 240 = .ok (.aload_n 0, 1) := by decide +kernel
theorem dX10_image_241 : decode cX10_image 241 = .ok (.getfield 214, 3) := by decide +kernel
theorem dX10_image_244 : decode cX10_image 244 = .ok (.iload_n 1, 1) := by decide +kernel
theorem dX10_image_245 : decode cX10_image 245 = .ok (.aload_n 0, 1) := by decide +kernel
theorem dX10_image_246 : decode cX10_image 246 = .ok (.getfield 147, 3) := by decide +kernel
theorem dX10_image_249 : decode cX10_image 249 = .ok (.iload_n 1, 1) := by decide +kernel
theorem dX10_image_250 : decode cX10_image 250 = .ok (.iaload, 1) := by decide +kernel
theorem dX10_image_251 : decode cX10_image 251 = .ok (.iastore, 1) := by decide +kernel
theorem dX10_image_252 : decode cX10_image 252 = .ok (.aload_n 0, 1) := by decide +kernel
theorem dX10_image_253 : decode cX10_image 253 = .ok (.getfield 217, 3) := by decide +kernel
theorem dX10_image_256 : decode cX10_image 256 = .ok (.iload_n 1, 1) := by decide +kernel
theorem dX10_image_257 : decode cX10_image 257 = .ok (.aload_n 0, 1) := by decide +kernel
theorem dX10_image_258 : decode cX10_image 258 = .ok (.getfield 150, 3) := by decide +kernel
theorem dX10_image_261 : decode cX10_image 261 = .ok (.iload_n 1, 1) := by decide +kernel
theorem dX10_image_262 : decode cX10_image 262 = .ok (.iaload, 1) := by decide +kernel
theorem dX10_image_263 : decode cX10_image 263 = .ok (.iastore, 1) := by decide +kernel
theorem dX10_image_264 : decode cX10_image 264 = .ok (.iinc 1 1, 3) := by decide +kernel
theorem dX10_image_267 : decode cX10_image 267 = .ok (.goto (-33), 3) := by decide +kernel
theorem dX10_image_270 : decode cX10_image 270 = .ok (.iconst 0, 1) := by decide +kernel
theorem dX10_image_271 : decode cX10_image 271 = .ok (.istore_n 1, 1) := by decide +kernel
theorem dX10_image_272 : decode cX10_image 272 = .ok (.iload_n 1, 1) := by decide +kernel
theorem dX10_image_273 : decode cX10_image 273 = .ok (.bipush 8, 2) := by decide +kernel
theorem dX10_image_275 : decode cX10_image 275 = .ok (.if_icmp .ge 33, 3) := by decide +kernel
theorem dX10_image_278 : decode cX10_image 278 = .ok (.aload_n 0, 1) := by decide +kernel
theorem dX10_image_279 : decode cX10_image 279 = .ok (.getfield 220, 3) := by decide +kernel
theorem dX10_image_282 : decode cX10_image 282 = .ok (.iload_n 1, 1) := by decide +kernel
theorem dX10_image_283 : decode cX10_image 283 = .ok (.aload_n 0, 1) := by decide +kernel
theorem dX10_image_284 : decode cX10_image 284 = .ok (.getfield 153, 3) := by decide +kernel
theorem dX10_image_287 : decode cX10_image 287 = .ok (.iload_n 1, 1) := by decide +kernel
theorem dX10_image_288 : decode cX10_image 288 = .ok (.iaload, 1) := by decide +kernel
theorem dX10_image_289 : decode cX10_image 289 = .ok (.iastore, 1) := by decide +kernel
theorem dX10_image_290 : decode cX10_image 290 = .ok (.aload_n 0, 1) := by decide +kernel
theorem dX10_image_291 : decode cX10_image 291 = .ok (.getfield 223, 3) := by decide +kernel
theorem dX10_image_294 : decode cX10_image 294 = .ok (.iload_n 1, 1) := by decide +kernel
theorem dX10_image_295 : decode cX10_image 295 = .ok (.aload_n 0, 1) := by decide +kernel
theorem dX10_image_296 : decode cX10_image 296 = .ok (.getfield 156, 3) := by decide +kernel
theorem dX10_image_299 : decode cX10_image 299 = .ok (.iload_n 1, 1) := by decide +kernel
theorem dX10_image_300 : decode cX10_image 300 = .ok (.iaload, 1) := by decide +kernel
theorem dX10_image_301 : decode cX10_image 301 = .ok (.iastore, 1) := by decide +kernel
theorem dX10_image_302 : decode cX10_image 302 = .ok (.iinc 1 1, 3) := by decide +kernel
theorem dX10_image_305 : decode cX10_image 305 = .ok (.goto (-33), 3) := by decide +kernel
theorem dX10_image_308 : decode cX10_image 308 = .ok (.aload_n 0, 1) := by decide +kernel
theorem dX10_image_309 : decode cX10_image 309 = .ok (.getfield 7, 3) := by decide +kernel
theorem dX10_image_312 : decode cX10_image 312 = .ok (.ireturn, 1) := by decide +kernel
theorem dX10_undo_0 : decode cX10_undo 0 = .ok (.aload_n 0, 1) := by decide +kernel
theorem dX10_undo_1 : decode cX10_undo 1 = .ok (.getfield 159, 3) := by decide +kernel
theorem dX10_undo_4 : decode cX10_undo 4 = .ok (.ifCond .ne 6, 3) := by decide +kernel
theorem dX10_undo_7 : decode cX10_undo 7 = .ok (.bipush (-3), 2) := by decide +kernel
theorem dX10_undo_9 : decode cX10_undo 9 = .ok (.ireturn, 1) := by decide +kernel
theorem dX10_undo_10 : decode cX10_undo 10 = .ok (.aload_n 0, 1) := by decide +kernel
theorem dX10_undo_11 : decode cX10_undo 11 = .ok (.aload_n 0, 1) := by decide +kernel
theorem dX10_undo_12 : decode cX10_undo 12 = .ok (.getfield 163, 3) := by decide +kernel
theorem dX10_undo_15 : decode cX10_undo 15 = .ok (.putfield 44, 3) := by decide +kernel
theorem dX10_undo_18 : decode cX10_undo 18 = .ok (.aload_n 0, 1) := by decide +kernel
theorem dX10_undo_19 : decode cX10_undo 19 = .ok (.aload_n 0, 1) := by decide +kernel
theorem dX10_undo_20 : decode cX10_undo 20 = .ok (.getfield 166, 3) := by decide +kernel
theorem dX10_undo_23 : decode cX10_undo 23 = .ok (.putfield 7, 3) := by decide +kernel
theorem dX10_undo_26 : decode cX10_undo 26 = .ok (.aload_n 0, 1) := by decide +kernel
theorem dX10_undo_27 : decode cX10_undo 27 = .ok (.aload_n 0, 1) := by decide +kernel
theorem dX10_undo_28 : decode cX10_undo 28 = .ok (.getfield 169, 3) := by decide +kernel
theorem dX10_undo_31 : decode cX10_undo 31 = .ok (.putfield 13, 3) := by decide +kernel
theorem dX10_undo_34 : decode cX10_undo 34 = .ok (.aload_n 0, 1) := by decide +kernel
theorem dX10_undo_35 : decode cX10_undo 35 = .ok (.aload_n 0, 1) := by decide +kernel
theorem dX10_undo_36 : decode cX10_undo 36 = .ok (.getfield 172, 3) := by decide +kernel
theorem dX10_undo_39 : decode cX10_undo 39 = .ok (.putfield 16, 3) := by decide +kernel
theorem dX10_undo_42 : decode cX10_undo 42 = .ok (.aload_n 0, 1) := by decide +kernel
theorem dX10_undo_43 : decode cX10_undo 43 = .ok (.aload_n 0, 1) := by decide +kernel
theorem dX10_undo_44 : decode cX10_undo 44 = .ok (.getfield 175, 3) := by decide +kernel
theorem dX10_undo_47 : decode cX10_undo 47 = .ok (.putfield 19, 3) := by decide +kernel
theorem dX10_undo_50 : decode cX10_undo 50 = .ok (.aload_n 0, 1) := by decide +kernel
theorem dX10_undo_51 : decode cX10_undo 51 = .ok (.aload_n 0, 1) := by decide +kernel
theorem dX10_undo_52 : decode cX10_undo 52 = .ok (.getfield 178, 3) := by decide +kernel
theorem dX10_undo_55 : decode cX10_undo 55 = .ok (.putfield 129, 3) := by decide +kernel
theorem dX10_undo_58 : decode cX10_undo 58 = .ok (.aload_n 0, 1) := by decide +kernel
theorem dX10_undo_59 : decode cX10_undo 59 = .ok (.aload_n 0, 1) := by decide +kernel
theorem dX10_undo_60 : decode cX10_undo 60 = .ok (.getfield 181, 3) := by decide +kernel
theorem dX10_undo_63 : decode cX10_undo 63 = .ok (.putfield 141, 3) := by decide +kernel
theorem dX10_undo_66 : decode cX10_undo 66 = .ok (.aload_n 0, 1) := by decide +kernel
theorem dX10_undo_67 : decode cX10_undo 67 = .ok (.aload_n 0, 1) := by decide +kernel
theorem dX10_undo_68 : decode cX10_undo 68 = .ok (.getfield 184, 3) := by decide +kernel
theorem dX10_undo_71 : decode cX10_undo 71 = .ok (.putfield 144, 3) := by decide +kernel
theorem dX10_undo_74 : decode cX10_undo 74 = .ok (.iconst 0, 1) := by decide +kernel
theorem dX10_undo_75 : decode cX10_undo 75 = .ok (.istore_n 1, 1) := by decide +kernel
theorem dX10_undo_76 : decode cX10_undo 76 = .ok (.iload_n 1, 1) := by decide +kernel
theorem dX10_undo_77 : decode cX10_undo 77 = .ok (.bipush 16, 2) := by decide +kernel
theorem dX10_undo_79 : decode cX10_undo 79 = .ok (.if_icmp .ge 21, 3) := by decide +kernel
theorem dX10_undo_82 : decode cX10_undo 82 = .ok (.aload_n 0, 1) := by decide +kernel
theorem dX10_undo_83 : decode cX10_undo 83 = .ok (.getfield 22, 3) := by decide +kernel
theorem dX10_undo_86 : decode cX10_undo 86 = .ok (.iload_n 1, 1) := by decide +kernel
theorem dX10_undo_87 : decode cX10_undo 87 = .ok (.aload_n 0, 1) := by decide +kernel
theorem dX10_undo_88 : decode cX10_undo 88 = .ok (.getfield 187, 3) := by decide +kernel
theorem dX10_undo_91 : decode cX10_undo 91 = .ok (.iload_n 1, 1) := by decide +kernel
theorem dX10_undo_92 : decode cX10_undo 92 = .ok (.iaload, 1) := by decide +kernel
theorem dX10_undo_93 : decode cX10_undo 93 = .ok (.iastore, 1) := by decide +kernel
theorem dX10_undo_94 : decode cX10_undo 94 = .ok (.iinc 1 1, 3) := by decide +kernel
theorem dX10_undo_97 : decode cX10_undo 97 = .ok (.goto (-21), 3) := by decide +kernel
theorem dX10_undo_100 : decode cX10_undo 100 = .ok (.iconst 0, 1) := by decide +kernel
theorem dX10_undo_101 : decode cX10_undo 101 = .ok (.istore_n 1, 1) := by decide +kernel
theorem dX10_undo_102 : decode cX10_undo 102 = .ok (.iload_n 1, 1) := by decide +kernel
theorem dX10_undo_103 : decode cX10_undo 103 = .ok (.bipush 6, 2) := by decide +kernel
theorem dX10_undo_105 : decode cX10_undo 105 = .ok (.if_icmp .ge 57, 3) := by decide +kernel
theorem dX10_undo_108 : decode cX10_undo 108 = .ok (.aload_n 0, 1) := by decide +kernel
theorem dX10_undo_109 : decode cX10_undo 109 = .ok (.getfield 26, 3) := by decide +kernel
theorem dX10_undo_112 : decode cX10_undo 112 = .ok (.iload_n 1, 1) := by decide +kernel
theorem dX10_undo_113 : decode cX10_undo 113 = .ok (.aload_n 0, 1) := by decide +kernel
theorem dX10_undo_114 : decode cX10_undo 114 = .ok (.getfield 190, 3) := by decide +kernel
theorem dX10_undo_117 : decode cX10_undo 117 = .ok (.iload_n 1, 1) := by decide +kernel
theorem dX10_undo_118 : decode cX10_undo 118 = .ok (.iaload, 1) := by decide +kernel
theorem dX10_undo_119 : decode cX10_undo 119 = .ok (.iastore, 1) := by decide +kernel
theorem dX10_undo_120 : decode cX10_undo 120 = .ok (.aload_n 0, 1) := by decide +kernel
theorem dX10_undo_121 : decode cX10_undo 121 = .ok (.getfield 29, 3) := by decide +kernel
theorem dX10_undo_124 : decode cX10_undo 124 = .ok (.iload_n 1, 1) := by decide +kernel
theorem dX10_undo_125 : decode cX10_undo 125 = .ok (.aload_n 0, 1) := by decide +kernel
theorem dX10_undo_126 : decode cX10_undo 126 = .ok (.getfield 193, 3) := by decide +kernel
theorem dX10_undo_129 : decode cX10_undo 129 = .ok (.iload_n 1, 1) := by decide +kernel
theorem dX10_undo_130 : decode cX10_undo 130 = .ok (.iaload, 1) := by decide +kernel
theorem dX10_undo_131 : decode cX10_undo 131 = .ok (.iastore, 1) := by decide +kernel
theorem dX10_undo_132 : decode cX10_undo 132 = .ok (.aload_n 0, 1) := by decide +kernel
theorem dX10_undo_133 : decode cX10_undo 133 = .ok (.getfield 32, 3) := by decide +kernel
theorem dX10_undo_136 : decode cX10_undo 136 = .ok (.iload_n 1, 1) := by decide +kernel
theorem dX10_undo_137 : decode cX10_undo 137 = .ok (.aload_n 0, 1) := by decide +kernel
theorem dX10_undo_138 : decode cX10_undo 138 = .ok (.getfield 196, 3) := by decide +kernel
theorem dX10_undo_141 : decode cX10_undo 141 = .ok (.iload_n 1, 1) := by decide +kernel
theorem dX10_undo_142 : decode cX10_undo 142 = .ok (.iaload, 1) := by decide +kernel
theorem dX10_undo_143 : decode cX10_undo 143 = .ok (.iastore, 1) := by decide +kernel
theorem dX10_undo_144 : decode cX10_undo 144 = .ok (.aload_n 0, 1) := by decide +kernel
theorem dX10_undo_145 : decode cX10_undo 145 = .ok (.getfield 35, 3) := by decide +kernel
theorem dX10_undo_148 : decode cX10_undo 148 = .ok (.iload_n 1, 1) := by decide +kernel
theorem dX10_undo_149 : decode cX10_undo 149 = .ok (.aload_n 0, 1) := by decide +kernel
theorem dX10_undo_150 : decode cX10_undo 150 = .ok (.getfield 199, 3) := by decide +kernel
theorem dX10_undo_153 : decode cX10_undo 153 = .ok (.iload_n 1, 1) := by decide +kernel
theorem dX10_undo_154 : decode cX10_undo 154 = .ok (.iaload, 1) := by decide +kernel
theorem dX10_undo_155 : decode cX10_undo 155 = .ok (.iastore, 1) := by decide +kernel
theorem dX10_undo_156 : decode cX10_undo 156 = .ok (.iinc 1 1, 3) := by decide +kernel
theorem dX10_undo_159 : decode cX10_undo 159 = .ok (.goto (-57), 3) := by decide +kernel
theorem dX10_undo_162 : decode cX10_undo 162 = .ok (.iconst 0, 1) := by decide +kernel
theorem dX10_undo_163 : decode cX10_undo 163 = .ok (.istore_n 1, 1) := by decide +kernel
theorem dX10_undo_164 : decode cX10_undo 164 = .ok (.iload_n 1, 1) := by decide +kernel
theorem dX10_undo_165 : decode cX10_undo 165 = .ok (.bipush 24, 2) := by decide +kernel
theorem dX10_undo_167 : decode cX10_undo 167 = .ok (.if_icmp .ge 21, 3) := by decide +kernel
theorem dX10_undo_170 : decode cX10_undo 170 = .ok (.aload_n 0, 1) := by decide +kernel
theorem dX10_undo_171 : decode cX10_undo 171 = .ok (.getfield 38, 3) := by decide +kernel
theorem dX10_undo_174 : decode cX10_undo 174 = .ok (.iload_n 1, 1) := by decide +kernel
theorem dX10_undo_175 : decode cX10_undo 175 = .ok (.aload_n 0, 1) := by decide +kernel
theorem dX10_undo_176 : decode cX10_undo 176 = .ok (.getfield 202, 3) := by decide +kernel
theorem dX10_undo_179 : decode cX10_undo 179 = .ok (.iload_n 1, 1) := by decide +kernel
theorem dX10_undo_180 : decode cX10_undo 180 = .ok (.iaload, 1) := by decide +kernel
theorem dX10_undo_181 : decode cX10_undo 181 = .ok (.iastore, 1) := by decide +kernel
theorem dX10_undo_182 : decode cX10_undo 182 = .ok (.iinc 1 1, 3) := by decide +kernel
theorem dX10_undo_185 : decode cX10_undo 185 = .ok (.goto (-21), 3) := by decide +kernel
theorem dX10_undo_188 : decode cX10_undo 188 = .ok (.iconst 0, 1) := by decide +kernel
theorem dX10_undo_189 : decode cX10_undo 189 = .ok (.istore_n 1, 1) := by decide +kernel
theorem dX10_undo_190 : decode cX10_undo 190 = .ok (.iload_n 1, 1) := by decide +kernel
theorem dX10_undo_191 : decode cX10_undo 191 = .ok (.iconst 5, 1) := by decide +kernel
theorem dX10_undo_192 : decode cX10_undo 192 = .ok (.if_icmp .ge 45, 3) := by decide +kernel
theorem dX10_undo_195 : decode cX10_undo 195 = .ok (.aload_n 0, 1) := by decide +kernel
theorem dX10_undo_196 : decode cX10_undo 196 = .ok (.getfield 132, 3) := by decide +kernel
theorem dX10_undo_199 : decode cX10_undo 199 = .ok (.iload_n 1, 1) := by decide +kernel
theorem dX10_undo_200 : decode cX10_undo 200 = .ok (.aload_n 0, 1) := by decide +kernel
theorem dX10_undo_201 : decode cX10_undo 201 = .ok (.getfield 205, 3) := by decide +kernel
theorem dX10_undo_204 : decode cX10_undo 204 = .ok (.iload_n 1, 1) := by decide +kernel
theorem dX10_undo_205 : decode cX10_undo 205 = .ok (.iaload, 1) := by decide +kernel
theorem dX10_undo_206 : decode cX10_undo 206 = .ok (.iastore, 1) := by decide +kernel
theorem dX10_undo_207 : decode cX10_undo 207 = .ok (.aload_n 0, 1) := by decide +kernel
theorem dX10_undo_208 : decode cX10_undo 208 = .ok (.getfield 135, 3) := by decide +kernel
theorem dX10_undo_211 : decode cX10_undo 211 = .ok (.iload_n 1, 1) := by decide +kernel
theorem dX10_undo_212 : decode cX10_undo 212 = .ok (.aload_n 0, 1) := by decide +kernel
theorem dX10_undo_213 : decode cX10_undo 213 = .ok (.getfield 208, 3) := by decide +kernel
theorem dX10_undo_216 : decode cX10_undo 216 = .ok (.iload_n 1, 1) := by decide +kernel
theorem dX10_undo_217 : decode cX10_undo 217 = .ok (.iaload, 1) := by decide +kernel
theorem dX10_undo_218 : decode cX10_undo 218 = .ok (.iastore, 1) := by decide +kernel
theorem dX10_undo_219 : decode cX10_undo 219 = .ok (.aload_n 0, 1) := by decide +kernel
theorem dX10_undo_220 : decode cX10_undo 220 = .ok (.getfield 138, 3) := by decide +kernel
theorem dX10_undo_223 : decode cX10_undo 223 = .ok (.iload_n 1, 1) := by decide +kernel
theorem dX10_undo_224 : decode cX10_undo 224 = .ok (.aload_n 0, 1) := by decide +kernel
theorem dX10_undo_225 : decode cX10_undo 225 = .ok (.getfield 211, 3) := by decide +kernel
theorem dX10_undo_228 : decode cX10_undo 228 = .ok (.iload_n 1, 1) := by decide +kernel
theorem dX10_undo_229 : decode cX10_undo 229 = .ok (.iaload, 1) := by decide +kernel
theorem dX10_undo_230 : decode cX10_undo 230 = .ok (.iastore, 1) := by decide +kernel
theorem dX10_undo_231 : decode cX10_undo 231 = .ok (.iinc 1 1, 3) := by decide +kernel
theorem dX10_undo_234 : decode cX10_undo 234 = .ok (.goto (-44), 3) := by decide +kernel
theorem dX10_undo_237 : decode cX10_undo 237 = .ok (.iconst 0, 1) := by decide +kernel
theorem dX10_undo_238 : decode cX10_undo 238 = .ok (.istore_n 1, 1) := by decide +kernel
theorem dX10_undo_239 : decode cX10_undo 239 = .ok (.iload_n 1, 1) := by decide +kernel
theorem dX10_undo_240 : decode cX10_undo 240 = .ok (.bipush 10, 2) := by decide +kernel
theorem dX10_undo_242 : decode cX10_undo 242 = .ok (.if_icmp .ge 33, 3) := by decide +kernel
theorem dX10_undo_245 : decode cX10_undo 245 = .ok (.aload_n 0, 1) := by decide +kernel
theorem dX10_undo_246 : decode cX10_undo 246 = .ok (.getfield 147, 3) := by decide +kernel
theorem dX10_undo_249 : decode cX10_undo 249 = .ok (.iload_n 1, 1) := by decide +kernel
theorem dX10_undo_250 : decode cX10_undo 250 = .ok (.aload_n 0, 1) := by decide +kernel
theorem dX10_undo_251 : decode cX10_undo 251 = .ok (.getfield 214, 3) := by decide +kernel
theorem dX10_undo_254 : decode cX10_undo 254 = .ok (.iload_n 1, 1) := by decide +kernel
theorem dX10_undo_255 : decode cX10_undo 255 = .ok (.iaload, 1) := by decide +kernel
theorem dX10_undo_256 : decode cX10_undo 256 = .ok (.iastore, 1) := by decide +kernel
theorem dX10_undo_257 : decode cX10_undo 257 = .ok (.aload_n 0, 1) := by decide +kernel
theorem dX10_undo_258 : decode cX10_undo 258 = .ok (.getfield 150, 3) := by decide +kernel
theorem dX10_undo_261 : decode cX10_undo 261 = .ok (.iload_n 1, 1) := by decide +kernel
theorem dX10_undo_262 : decode cX10_undo 262 = .ok (.aload_n 0, 1) := by decide +kernel
theorem dX10_undo_263 : decode cX10_undo 263 = .ok (.getfield 217, 3) := by decide +kernel
theorem dX10_undo_266 : decode cX10_undo 266 = .ok (.iload_n 1, 1) := by decide +kernel
theorem dX10_undo_267 : decode cX10_undo 267 = .ok (.iaload, 1) := by decide +kernel
theorem dX10_undo_268 : decode cX10_undo 268 = .ok (.iastore, 1) := by decide +kernel
theorem dX10_undo_269 : decode cX10_undo 269 = .ok (.iinc 1 1, 3) := by decide +kernel
theorem dX10_undo_272 : decode cX10_undo 272 = .ok (.goto (-33), 3) := by decide +kernel
theorem dX10_undo_275 : decode cX10_undo 275 = .ok (.iconst 0, 1) := by decide +kernel
theorem dX10_undo_276 : decode cX10_undo 276 = .ok (.istore_n 1, 1) := by decide +kernel
theorem dX10_undo_277 : decode cX10_undo 277 = .ok (.iload_n 1, 1) := by decide +kernel
theorem dX10_undo_278 : decode cX10_undo 278 = .ok (.bipush 8, 2) := by decide +kernel
theorem dX10_undo_280 : decode cX10_undo 280 = .ok (.if_icmp .ge 33, 3) := by decide +kernel
theorem dX10_undo_283 : decode cX10_undo 283 = .ok (.aload_n 0, 1) := by decide +kernel
theorem dX10_undo_284 : decode cX10_undo 284 = .ok (.getfield 153, 3) := by decide +kernel
theorem dX10_undo_287 : decode cX10_undo 287 = .ok (.iload_n 1, 1) := by decide +kernel
theorem dX10_undo_288 : decode cX10_undo 288 = .ok (.aload_n 0, 1) := by decide +kernel
theorem dX10_undo_289 : decode cX10_undo 289 = .ok (.getfield 220, 3) := by decide +kernel
theorem dX10_undo_292 : decode cX10_undo 292 = .ok (.iload_n 1, 1) := by decide +kernel
theorem dX10_undo_293 : decode cX10_undo 293 = .ok (.iaload, 1) := by decide +kernel
theorem dX10_undo_294 : decode cX10_undo 294 = .ok (.iastore, 1) := by decide +kernel
theorem dX10_undo_295 : decode cX10_undo 295 = .ok (.aload_n 0, 1) := by decide +kernel
theorem dX10_undo_296 : decode cX10_undo 296 = .ok (.getfield 156, 3) := by decide +kernel
theorem dX10_undo_299 : decode cX10_undo 299 = .ok (.iload_n 1, 1) := by decide +kernel
theorem dX10_undo_300 : decode cX10_undo 300 = .ok (.aload_n 0, 1) := by decide +kernel
theorem dX10_undo_301 : decode cX10_undo 301 = .ok (.getfield 223, 3) := by decide +kernel
theorem dX10_undo_304 : decode cX10_undo 304 = .ok (.iload_n 1, 1) := by decide +kernel
theorem dX10_undo_305 : decode cX10_undo 305 = .ok (.iaload, 1) := by decide +kernel
theorem dX10_undo_306 : decode cX10_undo 306 = .ok (.iastore, 1) := by decide +kernel
theorem dX10_undo_307 : decode cX10_undo 307 = .ok (.iinc 1 1, 3) := by decide +kernel
theorem dX10_undo_310 : decode cX10_undo 310 = .ok (.goto (-33), 3) := by decide +kernel
theorem dX10_undo_313 : decode cX10_undo 313 = .ok (.aload_n 0, 1) := by decide +kernel
theorem dX10_undo_314 : decode cX10_undo 314 = .ok (.getfield 7, 3) := by decide +kernel
theorem dX10_undo_317 : decode cX10_undo 317 = .ok (.ireturn, 1) := by decide +kernel
theorem dX10_body_0 : decode cX10_body 0 = .ok (.aload_n 0, 1) := by decide +kernel
theorem dX10_body_1 : decode cX10_body 1 = .ok (.getfield 226, 3) := by decide +kernel
theorem dX10_body_4 : decode cX10_body 4 = .ok (.bipush 20, 2) := by decide +kernel
theorem dX10_body_6 : decode cX10_body 6 = .ok (.if_icmp .ge 13, 3) := by decide +kernel
theorem dX10_body_9 : decode cX10_body 9 = .ok (.aload_n 0, 1) := by decide +kernel
theorem dX10_body_10 : decode cX10_body 10 = .ok (.getfield 229, 3) := by decide +kernel
theorem dX10_body_13 : decode cX10_body 13 = .ok (.aload_n 0, 1) := by decide +kernel
theorem dX10_body_14 : decode cX10_body 14 = .ok (.getfield 226, 3) := by decide +kernel
theorem dX10_body_17 : decode cX10_body 17 = .ok (.iload_n 1, 1) := by decide +kernel
theorem dX10_body_18 : decode cX10_body 18 = .ok (.iastore, 1) := by decide +kernel
theorem dX10_body_19 : decode cX10_body 19 = .ok (.aload_n 0, 1) := by decide +kernel
theorem dX10_body_20 : decode cX10_body 20 = .ok (.dup, 1) := by decide +kernel
theorem dX10_body_21 : decode cX10_body 21 = .ok (.getfield 226, 3) := by decide +kernel
theorem dX10_body_24 : decode cX10_body 24 = .ok (.iconst 1, 1) := by decide +kernel
theorem dX10_body_25 : decode cX10_body 25 = .ok (.iadd, 1) := by decide +kernel
theorem dX10_body_26 : decode cX10_body 26 = .ok (.putfield 226, 3) := by decide +kernel
theorem dX10_body_29 : decode cX10_body 29 = .ok (.return_, 1) := by decide +kernel
theorem dX10_goerSteps_0 : decode cX10_goerSteps 0 = .ok (.aload_n 0, 1) := by decide +kernel
theorem dX10_goerSteps_1 : decode cX10_goerSteps 1 = .ok (.bipush 10, 2) := by decide +kernel
theorem dX10_goerSteps_3 : decode cX10_goerSteps 3 = .ok (.invokevirtual 439, 3) := by decide +kernel
theorem dX10_goerSteps_6 : decode cX10_goerSteps 6 = .ok (.iload_n 2, 1) := by decide +kernel
theorem dX10_goerSteps_7 : decode cX10_goerSteps 7 = .ok (.iload_n 1, 1) := by decide +kernel
theorem dX10_goerSteps_8 : decode cX10_goerSteps 8 = .ok (.iadd, 1) := by decide +kernel
theorem dX10_goerSteps_9 : decode cX10_goerSteps 9 = .ok (.ireturn, 1) := by decide +kernel
theorem dX10_stepsAct_0 : decode cX10_stepsAct 0 = .ok (.aload_n 0, 1) := by decide +kernel
theorem dX10_stepsAct_1 : decode cX10_stepsAct 1 = .ok (.getfield 26, 3) := by decide +kernel
theorem dX10_stepsAct_4 : decode cX10_stepsAct 4 = .ok (.iload_n 1, 1) := by decide +kernel
theorem dX10_stepsAct_5 : decode cX10_stepsAct 5 = .ok (.iaload, 1) := by decide +kernel
theorem dX10_stepsAct_6 : decode cX10_stepsAct 6 = .ok (.tableswitch 83 2 6 #[34, 83, 49, 34, 63], 34) := by decide +kernel
theorem dX10_stepsAct_40 : decode cX10_stepsAct 40 = .ok (.aload_n 0, 1) := by decide +kernel
theorem dX10_stepsAct_41 : decode cX10_stepsAct 41 = .ok (.bipush 30, 2) := by decide +kernel
theorem dX10_stepsAct_43 : decode cX10_stepsAct 43 = .ok (.invokevirtual 439, 3) := by decide +kernel
theorem dX10_stepsAct_46 : decode cX10_stepsAct 46 = .ok (.aload_n 0, 1) := by decide +kernel
theorem dX10_stepsAct_47 : decode cX10_stepsAct 47 = .ok (.iload_n 1, 1) := by decide +kernel
theorem dX10_stepsAct_48 : decode cX10_stepsAct 48 = .ok (.iload_n 2, 1) := by decide +kernel
theorem dX10_stepsAct_49 : decode cX10_stepsAct 49 = .ok (.iconst 3, 1) := by decide +kernel
theorem dX10_stepsAct_50 : decode cX10_stepsAct 50 = .ok (.imul, 1) := by decide +kernel
theorem dX10_stepsAct_51 : decode cX10_stepsAct 51 = .ok (.invokevirtual 442, 3) := by decide +kernel
theorem dX10_stepsAct_54 : decode cX10_stepsAct 54 = .ok (.ireturn, 1) := by decide +kernel
theorem dX10_stepsAct_55 : decode cX10_stepsAct 55 = .ok (.aload_n 0, 1) := by decide +kernel
theorem dX10_stepsAct_56 : decode cX10_stepsAct 56 = .ok (.bipush 50, 2) := by decide +kernel
theorem dX10_stepsAct_58 : decode cX10_stepsAct 58 = .ok (.invokevirtual 439, 3) := by decide +kernel
theorem dX10_stepsAct_61 : decode cX10_stepsAct 61 = .ok (.aload_n 0, 1) := by decide +kernel
theorem dX10_stepsAct_62 : decode cX10_stepsAct 62 = .ok (.iload_n 1, 1) := by decide +kernel
theorem dX10_stepsAct_63 : decode cX10_stepsAct 63 = .ok (.iload_n 2, 1) := by decide +kernel
theorem dX10_stepsAct_64 : decode cX10_stepsAct 64 = .ok (.invokevirtual 442, 3) := by decide +kernel
theorem dX10_stepsAct_67 : decode cX10_stepsAct 67 = .ok (.ineg, 1) := by decide +kernel
theorem dX10_stepsAct_68 : decode cX10_stepsAct 68 = .ok (.ireturn, 1) := by decide +kernel
theorem dX10_stepsAct_69 : decode cX10_stepsAct 69 = .ok (.aload_n 0, 1) := by decide +kernel
theorem dX10_stepsAct_70 : decode cX10_stepsAct 70 = .ok (.bipush 71, 2) := by decide +kernel
theorem dX10_stepsAct_72 : decode cX10_stepsAct 72 = .ok (.invokevirtual 439, 3) := by decide +kernel
theorem dX10_stepsAct_75 : decode cX10_stepsAct 75 = .ok (.aload_n 0, 1) := by decide +kernel
theorem dX10_stepsAct_76 : decode cX10_stepsAct 76 = .ok (.iload_n 1, 1) := by decide +kernel
theorem dX10_stepsAct_77 : decode cX10_stepsAct 77 = .ok (.iload_n 2, 1) := by decide +kernel
theorem dX10_stepsAct_78 : decode cX10_stepsAct 78 = .ok (.invokevirtual 442, 3) := by decide +kernel
theorem dX10_stepsAct_81 : decode cX10_stepsAct 81 = .ok (.aload_n 0, 1) := by decide +kernel
theorem dX10_stepsAct_82 : decode cX10_stepsAct 82 = .ok (.getfield 29, 3) := by decide +kernel
theorem dX10_stepsAct_85 : decode cX10_stepsAct 85 = .ok (.iload_n 1, 1) := by decide +kernel
theorem dX10_stepsAct_86 : decode cX10_stepsAct 86 = .ok (.iaload, 1) := by decide +kernel
theorem dX10_stepsAct_87 : decode cX10_stepsAct 87 = .ok (.ixor, 1) := by decide +kernel
theorem dX10_stepsAct_88 : decode cX10_stepsAct 88 = .ok (.ireturn, 1) := by decide +kernel
theorem dX10_stepsAct_89 : decode cX10_stepsAct 89 = .ok (.aload_n 0, 1) := by decide +kernel
theorem dX10_stepsAct_90 : decode cX10_stepsAct 90 = .ok (.iload_n 1, 1) := by decide +kernel
theorem dX10_stepsAct_91 : decode cX10_stepsAct 91 = .ok (.iload_n 2, 1) := by decide +kernel
theorem dX10_stepsAct_92 : decode cX10_stepsAct 92 = .ok (.invokevirtual 442, 3) := by decide +kernel
theorem dX10_stepsAct_95 : decode cX10_stepsAct 95 = .ok (.ireturn, 1) := by decide +kernel
theorem dX10_goerTurns_0 : decode cX10_goerTurns 0 = .ok (.aload_n 0, 1) := by decide +kernel
theorem dX10_goerTurns_1 : decode cX10_goerTurns 1 = .ok (.bipush 11, 2) := by decide +kernel
theorem dX10_goerTurns_3 : decode cX10_goerTurns 3 = .ok (.invokevirtual 439, 3) := by decide +kernel
theorem dX10_goerTurns_6 : decode cX10_goerTurns 6 = .ok (.aload_n 0, 1) := by decide +kernel
theorem dX10_goerTurns_7 : decode cX10_goerTurns 7 = .ok (.iload_n 1, 1) := by decide +kernel
theorem dX10_goerTurns_8 : decode cX10_goerTurns 8 = .ok (.iload_n 2, 1) := by decide +kernel
theorem dX10_goerTurns_9 : decode cX10_goerTurns 9 = .ok (.invokevirtual 445, 3) := by decide +kernel
theorem dX10_goerTurns_12 : decode cX10_goerTurns 12 = .ok (.aload_n 0, 1) := by decide +kernel
theorem dX10_goerTurns_13 : decode cX10_goerTurns 13 = .ok (.getfield 29, 3) := by decide +kernel
theorem dX10_goerTurns_16 : decode cX10_goerTurns 16 = .ok (.iload_n 1, 1) := by decide +kernel
theorem dX10_goerTurns_17 : decode cX10_goerTurns 17 = .ok (.iaload, 1) := by decide +kernel
theorem dX10_goerTurns_18 : decode cX10_goerTurns 18 = .ok (.isub, 1) := by decide +kernel
theorem dX10_goerTurns_19 : decode cX10_goerTurns 19 = .ok (.ireturn, 1) := by decide +kernel
theorem dX10_pacerTurns_0 : decode cX10_pacerTurns 0 = .ok (.aload_n 0, 1) := by decide +kernel
theorem dX10_pacerTurns_1 : decode cX10_pacerTurns 1 = .ok (.bipush 20, 2) := by decide +kernel
theorem dX10_pacerTurns_3 : decode cX10_pacerTurns 3 = .ok (.invokevirtual 439, 3) := by decide +kernel
theorem dX10_pacerTurns_6 : decode cX10_pacerTurns 6 = .ok (.aload_n 0, 1) := by decide +kernel
theorem dX10_pacerTurns_7 : decode cX10_pacerTurns 7 = .ok (.iload_n 1, 1) := by decide +kernel
theorem dX10_pacerTurns_8 : decode cX10_pacerTurns 8 = .ok (.iload_n 2, 1) := by decide +kernel
theorem dX10_pacerTurns_9 : decode cX10_pacerTurns 9 = .ok (.invokevirtual 448, 3) := by decide +kernel
theorem dX10_pacerTurns_12 : decode cX10_pacerTurns 12 = .ok (.bipush 6, 2) := by decide +kernel
theorem dX10_pacerTurns_14 : decode cX10_pacerTurns 14 = .ok (.ixor, 1) := by decide +kernel
theorem dX10_pacerTurns_15 : decode cX10_pacerTurns 15 = .ok (.ireturn, 1) := by decide +kernel
theorem dX10_turnsAct_0 : decode cX10_turnsAct 0 = .ok (.aload_n 0, 1) := by decide +kernel
theorem dX10_turnsAct_1 : decode cX10_turnsAct 1 = .ok (.getfield 26, 3) := by decide +kernel
theorem dX10_turnsAct_4 : decode cX10_turnsAct 4 = .ok (.iload_n 1, 1) := by decide +kernel
theorem dX10_turnsAct_5 : decode cX10_turnsAct 5 = .ok (.iaload, 1) := by decide +kernel
theorem dX10_turnsAct_6 : decode cX10_turnsAct 6 = .ok (.lookupswitch 78 #[(1, 34), (4, 41), (6, 56)], 34) := by decide +kernel
theorem dX10_turnsAct_40 : decode cX10_turnsAct 40 = .ok (.aload_n 0, 1) := by decide +kernel
theorem dX10_turnsAct_41 : decode cX10_turnsAct 41 = .ok (.iload_n 1, 1) := by decide +kernel
theorem dX10_turnsAct_42 : decode cX10_turnsAct 42 = .ok (.iload_n 2, 1) := by decide +kernel
theorem dX10_turnsAct_43 : decode cX10_turnsAct 43 = .ok (.invokevirtual 451, 3) := by decide +kernel
theorem dX10_turnsAct_46 : decode cX10_turnsAct 46 = .ok (.ireturn, 1) := by decide +kernel
theorem dX10_turnsAct_47 : decode cX10_turnsAct 47 = .ok (.aload_n 0, 1) := by decide +kernel
theorem dX10_turnsAct_48 : decode cX10_turnsAct 48 = .ok (.bipush 51, 2) := by decide +kernel
theorem dX10_turnsAct_50 : decode cX10_turnsAct 50 = .ok (.invokevirtual 439, 3) := by decide +kernel
theorem dX10_turnsAct_53 : decode cX10_turnsAct 53 = .ok (.aload_n 0, 1) := by decide +kernel
theorem dX10_turnsAct_54 : decode cX10_turnsAct 54 = .ok (.iload_n 1, 1) := by decide +kernel
theorem dX10_turnsAct_55 : decode cX10_turnsAct 55 = .ok (.iload_n 2, 1) := by decide +kernel
theorem dX10_turnsAct_56 : decode cX10_turnsAct 56 = .ok (.iconst 1, 1) := by decide +kernel
theorem dX10_turnsAct_57 : decode cX10_turnsAct 57 = .ok (.iadd, 1) := by decide +kernel
theorem dX10_turnsAct_58 : decode cX10_turnsAct 58 = .ok (.invokevirtual 451, 3) := by decide +kernel
theorem dX10_turnsAct_61 : decode cX10_turnsAct 61 = .ok (.ireturn, 1) := by decide +kernel
theorem dX10_turnsAct_62 : decode cX10_turnsAct 62 = .ok (.aload_n 0, 1) := by decide +kernel
theorem dX10_turnsAct_63 : decode cX10_turnsAct 63 = .ok (.bipush 70, 2) := by decide +kernel
theorem dX10_turnsAct_65 : decode cX10_turnsAct 65 = .ok (.invokevirtual 439, 3) := by decide +kernel
theorem dX10_turnsAct_68 : decode cX10_turnsAct 68 = .ok (.aload_n 0, 1) := by decide +kernel
theorem dX10_turnsAct_69 : decode cX10_turnsAct 69 = .ok (.iload_n 1, 1) := by decide +kernel
theorem dX10_turnsAct_70 : decode cX10_turnsAct 70 = .ok (.iload_n 2, 1) := by decide +kernel
theorem dX10_turnsAct_71 : decode cX10_turnsAct 71 = .ok (.invokevirtual 448, 3) := by decide +kernel
theorem dX10_turnsAct_74 : decode cX10_turnsAct 74 = .ok (.istore_n 3, 1) := by decide +kernel
theorem dX10_turnsAct_75 : decode cX10_turnsAct 75 = .ok (.iload_n 3, 1) := by decide +kernel
theorem dX10_turnsAct_76 : decode cX10_turnsAct 76 = .ok (.aload_n 0, 1) := by decide +kernel
theorem dX10_turnsAct_77 : decode cX10_turnsAct 77 = .ok (.iload_n 1, 1) := by decide +kernel
theorem dX10_turnsAct_78 : decode cX10_turnsAct 78 = .ok (.iconst 2, 1) := by decide +kernel
theorem dX10_turnsAct_79 : decode cX10_turnsAct 79 = .ok (.invokevirtual 442, 3) := by decide +kernel
theorem dX10_turnsAct_82 : decode cX10_turnsAct 82 = .ok (.iadd, 1) := by decide +kernel
theorem dX10_turnsAct_83 : decode cX10_turnsAct 83 = .ok (.ireturn, 1) := by decide +kernel
theorem dX10_turnsAct_84 : decode cX10_turnsAct 84 = .ok (.aload_n 0, 1) := by decide +kernel
theorem dX10_turnsAct_85 : decode cX10_turnsAct 85 = .ok (.iload_n 1, 1) := by decide +kernel
theorem dX10_turnsAct_86 : decode cX10_turnsAct 86 = .ok (.iload_n 2, 1) := by decide +kernel
theorem dX10_turnsAct_87 : decode cX10_turnsAct 87 = .ok (.invokevirtual 448, 3) := by decide +kernel
theorem dX10_turnsAct_90 : decode cX10_turnsAct 90 = .ok (.ireturn, 1) := by decide +kernel
theorem dX10_goerTells_0 : decode cX10_goerTells 0 = .ok (.aload_n 0, 1) := by decide +kernel
theorem dX10_goerTells_1 : decode cX10_goerTells 1 = .ok (.bipush 12, 2) := by decide +kernel
theorem dX10_goerTells_3 : decode cX10_goerTells 3 = .ok (.invokevirtual 439, 3) := by decide +kernel
theorem dX10_goerTells_6 : decode cX10_goerTells 6 = .ok (.aload_n 0, 1) := by decide +kernel
theorem dX10_goerTells_7 : decode cX10_goerTells 7 = .ok (.iload_n 1, 1) := by decide +kernel
theorem dX10_goerTells_8 : decode cX10_goerTells 8 = .ok (.iload_n 2, 1) := by decide +kernel
theorem dX10_goerTells_9 : decode cX10_goerTells 9 = .ok (.invokevirtual 454, 3) := by decide +kernel
theorem dX10_goerTells_12 : decode cX10_goerTells 12 = .ok (.iconst 2, 1) := by decide +kernel
theorem dX10_goerTells_13 : decode cX10_goerTells 13 = .ok (.imul, 1) := by decide +kernel
theorem dX10_goerTells_14 : decode cX10_goerTells 14 = .ok (.ireturn, 1) := by decide +kernel
theorem dX10_tellsAct_0 : decode cX10_tellsAct 0 = .ok (.aload_n 0, 1) := by decide +kernel
theorem dX10_tellsAct_1 : decode cX10_tellsAct 1 = .ok (.getfield 26, 3) := by decide +kernel
theorem dX10_tellsAct_4 : decode cX10_tellsAct 4 = .ok (.iload_n 1, 1) := by decide +kernel
theorem dX10_tellsAct_5 : decode cX10_tellsAct 5 = .ok (.iaload, 1) := by decide +kernel
theorem dX10_tellsAct_6 : decode cX10_tellsAct 6 = .ok (.tableswitch 67 3 6 #[30, 67, 52, 30], 30) := by decide +kernel
theorem dX10_tellsAct_36 : decode cX10_tellsAct 36 = .ok (.aload_n 0, 1) := by decide +kernel
theorem dX10_tellsAct_37 : decode cX10_tellsAct 37 = .ok (.bipush 40, 2) := by decide +kernel
theorem dX10_tellsAct_39 : decode cX10_tellsAct 39 = .ok (.invokevirtual 439, 3) := by decide +kernel
theorem dX10_tellsAct_42 : decode cX10_tellsAct 42 = .ok (.aload_n 0, 1) := by decide +kernel
theorem dX10_tellsAct_43 : decode cX10_tellsAct 43 = .ok (.iload_n 1, 1) := by decide +kernel
theorem dX10_tellsAct_44 : decode cX10_tellsAct 44 = .ok (.iload_n 2, 1) := by decide +kernel
theorem dX10_tellsAct_45 : decode cX10_tellsAct 45 = .ok (.invokevirtual 457, 3) := by decide +kernel
theorem dX10_tellsAct_48 : decode cX10_tellsAct 48 = .ok (.istore_n 3, 1) := by decide +kernel
theorem dX10_tellsAct_49 : decode cX10_tellsAct 49 = .ok (.iload_n 3, 1) := by decide +kernel
theorem dX10_tellsAct_50 : decode cX10_tellsAct 50 = .ok (.aload_n 0, 1) := by decide +kernel
theorem dX10_tellsAct_51 : decode cX10_tellsAct 51 = .ok (.iload_n 1, 1) := by decide +kernel
theorem dX10_tellsAct_52 : decode cX10_tellsAct 52 = .ok (.iconst 1, 1) := by decide +kernel
theorem dX10_tellsAct_53 : decode cX10_tellsAct 53 = .ok (.invokevirtual 454, 3) := by decide +kernel
theorem dX10_tellsAct_56 : decode cX10_tellsAct 56 = .ok (.iadd, 1) := by decide +kernel
theorem dX10_tellsAct_57 : decode cX10_tellsAct 57 = .ok (.ireturn, 1) := by decide +kernel
theorem dX10_tellsAct_58 : decode cX10_tellsAct 58 = .ok (.aload_n 0, 1) := by decide +kernel
theorem dX10_tellsAct_59 : decode cX10_tellsAct 59 = .ok (.bipush 60, 2) := by decide +kernel
theorem dX10_tellsAct_61 : decode cX10_tellsAct 61 = .ok (.invokevirtual 439, 3) := by decide +kernel
theorem dX10_tellsAct_64 : decode cX10_tellsAct 64 = .ok (.aload_n 0, 1) := by decide +kernel
theorem dX10_tellsAct_65 : decode cX10_tellsAct 65 = .ok (.iload_n 1, 1) := by decide +kernel
theorem dX10_tellsAct_66 : decode cX10_tellsAct 66 = .ok (.iload_n 2, 1) := by decide +kernel
theorem dX10_tellsAct_67 : decode cX10_tellsAct 67 = .ok (.iload_n 1, 1) := by decide +kernel
theorem dX10_tellsAct_68 : decode cX10_tellsAct 68 = .ok (.isub, 1) := by decide +kernel
theorem dX10_tellsAct_69 : decode cX10_tellsAct 69 = .ok (.invokevirtual 457, 3) := by decide +kernel
theorem dX10_tellsAct_72 : decode cX10_tellsAct 72 = .ok (.ireturn, 1) := by decide +kernel
theorem dX10_tellsAct_73 : decode cX10_tellsAct 73 = .ok (.aload_n 0, 1) := by decide +kernel
theorem dX10_tellsAct_74 : decode cX10_tellsAct 74 = .ok (.iload_n 1, 1) := by decide +kernel
theorem dX10_tellsAct_75 : decode cX10_tellsAct 75 = .ok (.iload_n 2, 1) := by decide +kernel
theorem dX10_tellsAct_76 : decode cX10_tellsAct 76 = .ok (.invokevirtual 457, 3) := by decide +kernel
theorem dX10_tellsAct_79 : decode cX10_tellsAct 79 = .ok (.ireturn, 1) := by decide +kernel
theorem dX10_act_0 : decode cX10_act 0 = .ok (.aload_n 0, 1) := by decide +kernel
theorem dX10_act_1 : decode cX10_act 1 = .ok (.iconst 0, 1) := by decide +kernel
theorem dX10_act_2 : decode cX10_act 2 = .ok (.putfield 226, 3) := by decide +kernel
theorem dX10_act_5 : decode cX10_act 5 = .ok (.aload_n 0, 1) := by decide +kernel
theorem dX10_act_6 : decode cX10_act 6 = .ok (.iload_n 1, 1) := by decide +kernel
theorem dX10_act_7 : decode cX10_act 7 = .ok (.invokevirtual 264, 3) := by decide +kernel
theorem dX10_act_10 : decode cX10_act 10 = .ok (.ifCond .eq 13, 3) := by decide +kernel
theorem dX10_act_13 : decode cX10_act 13 = .ok (.aload_n 0, 1) := by decide +kernel
theorem dX10_act_14 : decode cX10_act 14 = .ok (.iload_n 2, 1) := by decide +kernel
theorem dX10_act_15 : decode cX10_act 15 = .ok (.iconst 0, 1) := by decide +kernel
theorem dX10_act_16 : decode cX10_act 16 = .ok (.iconst 2, 1) := by decide +kernel
theorem dX10_act_17 : decode cX10_act 17 = .ok (.invokevirtual 253, 3) := by decide +kernel
theorem dX10_act_20 : decode cX10_act 20 = .ok (.ifCond .ne 5, 3) := by decide +kernel
theorem dX10_act_23 : decode cX10_act 23 = .ok (.iconst 0, 1) := by decide +kernel
theorem dX10_act_24 : decode cX10_act 24 = .ok (.ireturn, 1) := by decide +kernel
theorem dX10_act_25 : decode cX10_act 25 = .ok (.iload_n 2, 1) := by decide +kernel
theorem dX10_act_26 : decode cX10_act 26 = .ok (.ifCond .ne 12, 3) := by decide +kernel
theorem dX10_act_29 : decode cX10_act 29 = .ok (.aload_n 0, 1) := by decide +kernel
theorem dX10_act_30 : decode cX10_act 30 = .ok (.iload_n 1, 1) := by decide +kernel
theorem dX10_act_31 : decode cX10_act 31 = .ok (.iload_n 3, 1) := by decide +kernel
theorem dX10_act_32 : decode cX10_act 32 = .ok (.invokevirtual 445, 3) := by decide +kernel
theorem dX10_act_35 : decode cX10_act 35 = .ok (.goto 23, 3) := by decide +kernel
theorem dX10_act_38 : decode cX10_act 38 = .ok (.iload_n 2, 1) := by decide +kernel
theorem dX10_act_39 : decode cX10_act 39 = .ok (.iconst 1, 1) := by decide +kernel
theorem dX10_act_40 : decode cX10_act 40 = .ok (.if_icmp .ne 12, 3) := by decide +kernel
theorem dX10_act_43 : decode cX10_act 43 = .ok (.aload_n 0, 1) := by decide +kernel
theorem dX10_act_44 : decode cX10_act 44 = .ok (.iload_n 1, 1) := by decide +kernel
theorem dX10_act_45 : decode cX10_act 45 = .ok (.iload_n 3, 1) := by decide +kernel
theorem dX10_act_46 : decode cX10_act 46 = .ok (.invokevirtual 454, 3) := by decide +kernel
theorem dX10_act_49 : decode cX10_act 49 = .ok (.goto 9, 3) := by decide +kernel
theorem dX10_act_52 : decode cX10_act 52 = .ok (.aload_n 0, 1) := by decide +kernel
theorem dX10_act_53 : decode cX10_act 53 = .ok (.iload_n 1, 1) := by decide +kernel
theorem dX10_act_54 : decode cX10_act 54 = .ok (.iload_n 3, 1) := by decide +kernel
theorem dX10_act_55 : decode cX10_act 55 = .ok (.invokevirtual 460, 3) := by decide +kernel
theorem dX10_act_58 : decode cX10_act 58 = .ok (.ireturn, 1) := by decide +kernel
theorem dX10_trace_0 : decode cX10_trace 0 = .ok (.aload_n 0, 1) := by decide +kernel
theorem dX10_trace_1 : decode cX10_trace 1 = .ok (.iload_n 1, 1) := by decide +kernel
theorem dX10_trace_2 : decode cX10_trace 2 = .ok (.iconst 0, 1) := by decide +kernel
theorem dX10_trace_3 : decode cX10_trace 3 = .ok (.bipush 19, 2) := by decide +kernel
theorem dX10_trace_5 : decode cX10_trace 5 = .ok (.invokevirtual 253, 3) := by decide +kernel
theorem dX10_trace_8 : decode cX10_trace 8 = .ok (.ifCond .eq 20, 3) := by decide +kernel
theorem dX10_trace_11 : decode cX10_trace 11 = .ok (.iload_n 1, 1) := by decide +kernel
theorem dX10_trace_12 : decode cX10_trace 12 = .ok (.aload_n 0, 1) := by decide +kernel
theorem dX10_trace_13 : decode cX10_trace 13 = .ok (.getfield 226, 3) := by decide +kernel
theorem dX10_trace_16 : decode cX10_trace 16 = .ok (.if_icmp .ge 12, 3) := by decide +kernel
theorem dX10_trace_19 : decode cX10_trace 19 = .ok (.aload_n 0, 1) := by decide +kernel
theorem dX10_trace_20 : decode cX10_trace 20 = .ok (.getfield 229, 3) := by decide +kernel
theorem dX10_trace_23 : decode cX10_trace 23 = .ok (.iload_n 1, 1) := by decide +kernel
theorem dX10_trace_24 : decode cX10_trace 24 = .ok (.iaload, 1) := by decide +kernel
theorem dX10_trace_25 : decode cX10_trace 25 = .ok (.goto 4, 3) := by decide +kernel
theorem dX10_trace_28 : decode cX10_trace 28 = .ok (.iconst (-1), 1) := by decide +kernel
theorem dX10_trace_29 : decode cX10_trace 29 = .ok (.ireturn, 1) := by decide +kernel
theorem dX10_taken_0 : decode cX10_taken 0 = .ok (.aload_n 0, 1) := by decide +kernel
theorem dX10_taken_1 : decode cX10_taken 1 = .ok (.iload_n 2, 1) := by decide +kernel
theorem dX10_taken_2 : decode cX10_taken 2 = .ok (.iconst 0, 1) := by decide +kernel
theorem dX10_taken_3 : decode cX10_taken 3 = .ok (.bipush 6, 2) := by decide +kernel
theorem dX10_taken_5 : decode cX10_taken 5 = .ok (.invokevirtual 253, 3) := by decide +kernel
theorem dX10_taken_8 : decode cX10_taken 8 = .ok (.ifCond .ne 6, 3) := by decide +kernel
theorem dX10_taken_11 : decode cX10_taken 11 = .ok (.bipush (-2), 2) := by decide +kernel
theorem dX10_taken_13 : decode cX10_taken 13 = .ok (.ireturn, 1) := by decide +kernel
theorem dX10_taken_14 : decode cX10_taken 14 = .ok (.aload_n 0, 1) := by decide +kernel
theorem dX10_taken_15 : decode cX10_taken 15 = .ok (.iload_n 1, 1) := by decide +kernel
theorem dX10_taken_16 : decode cX10_taken 16 = .ok (.invokevirtual 264, 3) := by decide +kernel
theorem dX10_taken_19 : decode cX10_taken 19 = .ok (.ifCond .ne 6, 3) := by decide +kernel
theorem dX10_taken_22 : decode cX10_taken 22 = .ok (.bipush (-11), 2) := by decide +kernel
theorem dX10_taken_24 : decode cX10_taken 24 = .ok (.ireturn, 1) := by decide +kernel
theorem dX10_taken_25 : decode cX10_taken 25 = .ok (.aload_n 0, 1) := by decide +kernel
theorem dX10_taken_26 : decode cX10_taken 26 = .ok (.getfield 26, 3) := by decide +kernel
theorem dX10_taken_29 : decode cX10_taken 29 = .ok (.iload_n 1, 1) := by decide +kernel
theorem dX10_taken_30 : decode cX10_taken 30 = .ok (.iaload, 1) := by decide +kernel
theorem dX10_taken_31 : decode cX10_taken 31 = .ok (.istore_n 3, 1) := by decide +kernel
theorem dX10_taken_32 : decode cX10_taken 32 = .ok (.iload_n 2, 1) := by decide +kernel
theorem dX10_taken_33 : decode cX10_taken 33 = .ok (.ifCond .eq 39, 3) := by decide +kernel
theorem dX10_taken_36 : decode cX10_taken 36 = .ok (.iload_n 3, 1) := by decide +kernel
theorem dX10_taken_37 : decode cX10_taken 37 = .ok (.iload_n 2, 1) := by decide +kernel
theorem dX10_taken_38 : decode cX10_taken 38 = .ok (.if_icmp .eq 34, 3) := by decide +kernel
theorem dX10_taken_41 : decode cX10_taken 41 = .ok (.iload_n 2, 1) := by decide +kernel
theorem dX10_taken_42 : decode cX10_taken 42 = .ok (.iconst 1, 1) := by decide +kernel
theorem dX10_taken_43 : decode cX10_taken 43 = .ok (.if_icmp .ne 8, 3) := by decide +kernel
theorem dX10_taken_46 : decode cX10_taken 46 = .ok (.iload_n 3, 1) := by decide +kernel
theorem dX10_taken_47 : decode cX10_taken 47 = .ok (.iconst 4, 1) := by decide +kernel
theorem dX10_taken_48 : decode cX10_taken 48 = .ok (.if_icmp .eq 24, 3) := by decide +kernel
theorem dX10_taken_51 : decode cX10_taken 51 = .ok (.iload_n 2, 1) := by decide +kernel
theorem dX10_taken_52 : decode cX10_taken 52 = .ok (.iconst 2, 1) := by decide +kernel
theorem dX10_taken_53 : decode cX10_taken 53 = .ok (.if_icmp .ne 8, 3) := by decide +kernel
theorem dX10_taken_56 : decode cX10_taken 56 = .ok (.iload_n 3, 1) := by decide +kernel
theorem dX10_taken_57 : decode cX10_taken 57 = .ok (.iconst 5, 1) := by decide +kernel
theorem dX10_taken_58 : decode cX10_taken 58 = .ok (.if_icmp .eq 14, 3) := by decide +kernel
theorem dX10_taken_61 : decode cX10_taken 61 = .ok (.iload_n 2, 1) := by decide +kernel
theorem dX10_taken_62 : decode cX10_taken 62 = .ok (.iconst 3, 1) := by decide +kernel
theorem dX10_taken_63 : decode cX10_taken 63 = .ok (.if_icmp .ne 13, 3) := by decide +kernel
theorem dX10_taken_66 : decode cX10_taken 66 = .ok (.iload_n 3, 1) := by decide +kernel
theorem dX10_taken_67 : decode cX10_taken 67 = .ok (.bipush 6, 2) := by decide +kernel
theorem dX10_taken_69 : decode cX10_taken 69 = .ok (.if_icmp .ne 7, 3) := by decide +kernel
theorem dX10_taken_72 : decode cX10_taken 72 = .ok (.iload_n 3, 1) := by decide +kernel
theorem dX10_taken_73 : decode cX10_taken 73 = .ok (.goto 5, 3) := by decide +kernel
theorem dX10_taken_76 : decode cX10_taken 76 = .ok (.bipush (-12), 2) := by decide +kernel
theorem dX10_taken_78 : decode cX10_taken 78 = .ok (.ireturn, 1) := by decide +kernel
theorem dX10_count_0 : decode cX10_count 0 = .ok (.iload_n 1, 1) := by decide +kernel
theorem dX10_count_1 : decode cX10_count 1 = .ok (.tableswitch 78 0 6 #[43, 48, 53, 58, 63, 68, 73], 43) := by decide +kernel
theorem dX10_count_44 : decode cX10_count 44 = .ok (.aload_n 0, 1) := by decide +kernel
theorem dX10_count_45 : decode cX10_count 45 = .ok (.getfield 7, 3) := by decide +kernel
theorem dX10_count_48 : decode cX10_count 48 = .ok (.ireturn, 1) := by decide +kernel
theorem dX10_count_49 : decode cX10_count 49 = .ok (.aload_n 0, 1) := by decide +kernel
theorem dX10_count_50 : decode cX10_count 50 = .ok (.getfield 41, 3) := by decide +kernel
theorem dX10_count_53 : decode cX10_count 53 = .ok (.ireturn, 1) := by decide +kernel
theorem dX10_count_54 : decode cX10_count 54 = .ok (.aload_n 0, 1) := by decide +kernel
theorem dX10_count_55 : decode cX10_count 55 = .ok (.getfield 129, 3) := by decide +kernel
theorem dX10_count_58 : decode cX10_count 58 = .ok (.ireturn, 1) := by decide +kernel
theorem dX10_count_59 : decode cX10_count 59 = .ok (.aload_n 0, 1) := by decide +kernel
theorem dX10_count_60 : decode cX10_count 60 = .ok (.getfield 141, 3) := by decide +kernel
theorem dX10_count_63 : decode cX10_count 63 = .ok (.ireturn, 1) := by decide +kernel
theorem dX10_count_64 : decode cX10_count 64 = .ok (.aload_n 0, 1) := by decide +kernel
theorem dX10_count_65 : decode cX10_count 65 = .ok (.getfield 144, 3) := by decide +kernel
theorem dX10_count_68 : decode cX10_count 68 = .ok (.ireturn, 1) := by decide +kernel
theorem dX10_count_69 : decode cX10_count 69 = .ok (.aload_n 0, 1) := by decide +kernel
theorem dX10_count_70 : decode cX10_count 70 = .ok (.getfield 47, 3) := by decide +kernel
theorem dX10_count_73 : decode cX10_count 73 = .ok (.ireturn, 1) := by decide +kernel
theorem dX10_count_74 : decode cX10_count 74 = .ok (.aload_n 0, 1) := by decide +kernel
theorem dX10_count_75 : decode cX10_count 75 = .ok (.getfield 226, 3) := by decide +kernel
theorem dX10_count_78 : decode cX10_count 78 = .ok (.ireturn, 1) := by decide +kernel
theorem dX10_count_79 : decode cX10_count 79 = .ok (.bipush (-2), 2) := by decide +kernel
theorem dX10_count_81 : decode cX10_count 81 = .ok (.ireturn, 1) := by decide +kernel
theorem dX10_isTape_0 : decode cX10_isTape 0 = .ok (.aload_n 0, 1) := by decide +kernel
theorem dX10_isTape_1 : decode cX10_isTape 1 = .ok (.iload_n 1, 1) := by decide +kernel
theorem dX10_isTape_2 : decode cX10_isTape 2 = .ok (.iconst 0, 1) := by decide +kernel
theorem dX10_isTape_3 : decode cX10_isTape 3 = .ok (.iconst 5, 1) := by decide +kernel
theorem dX10_isTape_4 : decode cX10_isTape 4 = .ok (.invokevirtual 253, 3) := by decide +kernel
theorem dX10_isTape_7 : decode cX10_isTape 7 = .ok (.ireturn, 1) := by decide +kernel
theorem dX10_tape_0 : decode cX10_tape 0 = .ok (.aload_n 0, 1) := by decide +kernel
theorem dX10_tape_1 : decode cX10_tape 1 = .ok (.iload_n 1, 1) := by decide +kernel
theorem dX10_tape_2 : decode cX10_tape 2 = .ok (.invokevirtual 436, 3) := by decide +kernel
theorem dX10_tape_5 : decode cX10_tape 5 = .ok (.ifCond .ne 5, 3) := by decide +kernel
theorem dX10_tape_8 : decode cX10_tape 8 = .ok (.iconst (-1), 1) := by decide +kernel
theorem dX10_tape_9 : decode cX10_tape 9 = .ok (.ireturn, 1) := by decide +kernel
theorem dX10_tape_10 : decode cX10_tape 10 = .ok (.aload_n 0, 1) := by decide +kernel
theorem dX10_tape_11 : decode cX10_tape 11 = .ok (.iload_n 2, 1) := by decide +kernel
theorem dX10_tape_12 : decode cX10_tape 12 = .ok (.iconst (-1), 1) := by decide +kernel
theorem dX10_tape_13 : decode cX10_tape 13 = .ok (.iconst 4, 1) := by decide +kernel
theorem dX10_tape_14 : decode cX10_tape 14 = .ok (.invokevirtual 253, 3) := by decide +kernel
theorem dX10_tape_17 : decode cX10_tape 17 = .ok (.ifCond .eq 13, 3) := by decide +kernel
theorem dX10_tape_20 : decode cX10_tape 20 = .ok (.iload_n 2, 1) := by decide +kernel
theorem dX10_tape_21 : decode cX10_tape 21 = .ok (.ifCond .lt 12, 3) := by decide +kernel
theorem dX10_tape_24 : decode cX10_tape 24 = .ok (.iload_n 3, 1) := by decide +kernel
theorem dX10_tape_25 : decode cX10_tape 25 = .ok (.bipush 60, 2) := by decide +kernel
theorem dX10_tape_27 : decode cX10_tape 27 = .ok (.if_icmp .le 6, 3) := by decide +kernel
theorem dX10_tape_30 : decode cX10_tape 30 = .ok (.bipush (-2), 2) := by decide +kernel
theorem dX10_tape_32 : decode cX10_tape 32 = .ok (.ireturn, 1) := by decide +kernel
theorem dX10_tape_33 : decode cX10_tape 33 = .ok (.iload_n 2, 1) := by decide +kernel
theorem dX10_tape_34 : decode cX10_tape 34 = .ok (.ifCond .lt 10, 3) := by decide +kernel
theorem dX10_tape_37 : decode cX10_tape 37 = .ok (.iload_n 3, 1) := by decide +kernel
theorem dX10_tape_38 : decode cX10_tape 38 = .ok (.ifCond .ge 6, 3) := by decide +kernel
theorem dX10_tape_41 : decode cX10_tape 41 = .ok (.bipush (-14), 2) := by decide +kernel
theorem dX10_tape_43 : decode cX10_tape 43 = .ok (.ireturn, 1) := by decide +kernel
theorem dX10_tape_44 : decode cX10_tape 44 = .ok (.aload_n 0, 1) := by decide +kernel
theorem dX10_tape_45 : decode cX10_tape 45 = .ok (.getfield 232, 3) := by decide +kernel
theorem dX10_tape_48 : decode cX10_tape 48 = .ok (.iload_n 1, 1) := by decide +kernel
theorem dX10_tape_49 : decode cX10_tape 49 = .ok (.iload_n 2, 1) := by decide +kernel
theorem dX10_tape_50 : decode cX10_tape 50 = .ok (.iastore, 1) := by decide +kernel
theorem dX10_tape_51 : decode cX10_tape 51 = .ok (.aload_n 0, 1) := by decide +kernel
theorem dX10_tape_52 : decode cX10_tape 52 = .ok (.getfield 235, 3) := by decide +kernel
theorem dX10_tape_55 : decode cX10_tape 55 = .ok (.iload_n 1, 1) := by decide +kernel
theorem dX10_tape_56 : decode cX10_tape 56 = .ok (.iload_n 2, 1) := by decide +kernel
theorem dX10_tape_57 : decode cX10_tape 57 = .ok (.ifCond .ge 7, 3) := by decide +kernel
theorem dX10_tape_60 : decode cX10_tape 60 = .ok (.iconst 0, 1) := by decide +kernel
theorem dX10_tape_61 : decode cX10_tape 61 = .ok (.goto 4, 3) := by decide +kernel
theorem dX10_tape_64 : decode cX10_tape 64 = .ok (.iload_n 3, 1) := by decide +kernel
theorem dX10_tape_65 : decode cX10_tape 65 = .ok (.iastore, 1) := by decide +kernel
theorem dX10_tape_66 : decode cX10_tape 66 = .ok (.iconst 0, 1) := by decide +kernel
theorem dX10_tape_67 : decode cX10_tape 67 = .ok (.istore 4, 2) := by decide +kernel
theorem dX10_tape_69 : decode cX10_tape 69 = .ok (.iload 4, 2) := by decide +kernel
theorem dX10_tape_71 : decode cX10_tape 71 = .ok (.bipush 60, 2) := by decide +kernel
theorem dX10_tape_73 : decode cX10_tape 73 = .ok (.if_icmp .ge 22, 3) := by decide +kernel
theorem dX10_tape_76 : decode cX10_tape 76 = .ok (.aload_n 0, 1) := by decide +kernel
theorem dX10_tape_77 : decode cX10_tape 77 = .ok (.getfield 238, 3) := by decide +kernel
theorem dX10_tape_80 : decode cX10_tape 80 = .ok (.bipush 60, 2) := by decide +kernel
theorem dX10_tape_82 : decode cX10_tape 82 = .ok (.iload_n 1, 1) := by decide +kernel
theorem dX10_tape_83 : decode cX10_tape 83 = .ok (.imul, 1) := by decide +kernel
theorem dX10_tape_84 : decode cX10_tape 84 = .ok (.iload 4, 2) := by decide +kernel
theorem dX10_tape_86 : decode cX10_tape 86 = .ok (.iadd, 1) := by decide +kernel
theorem dX10_tape_87 : decode cX10_tape 87 = .ok (.lconst 0, 1) := by decide +kernel
theorem dX10_tape_88 : decode cX10_tape 88 = .ok (.lastore, 1) := by decide +kernel
theorem dX10_tape_89 : decode cX10_tape 89 = .ok (.iinc 4 1, 3) := by decide +kernel
theorem dX10_tape_92 : decode cX10_tape 92 = .ok (.goto (-23), 3) := by decide +kernel
theorem dX10_tape_95 : decode cX10_tape 95 = .ok (.iconst 1, 1) := by decide +kernel
theorem dX10_tape_96 : decode cX10_tape 96 = .ok (.ireturn, 1) := by decide +kernel
theorem dX10_narrow_0 : decode cX10_narrow 0 = .ok (.iload_n 1, 1) := by decide +kernel
theorem dX10_narrow_1 : decode cX10_narrow 1 = .ok (.ifCond .ne 10, 3) := by decide +kernel
theorem dX10_narrow_4 : decode cX10_narrow 4 = .ok (.lload_n 2, 1) := by decide +kernel
theorem dX10_narrow_5 : decode cX10_narrow 5 = .ok (.l2i, 1) := by decide +kernel
theorem dX10_narrow_6 : decode cX10_narrow 6 = .ok (.i2b, 1) := by decide +kernel
theorem dX10_narrow_7 : decode cX10_narrow 7 = .ok (.i2l, 1) := by decide +kernel
theorem dX10_narrow_8 : decode cX10_narrow 8 = .ok (.goto 46, 3) := by decide +kernel
theorem dX10_narrow_11 : decode cX10_narrow 11 = .ok (.iload_n 1, 1) := by decide +kernel
theorem dX10_narrow_12 : decode cX10_narrow 12 = .ok (.iconst 1, 1) := by decide +kernel
theorem dX10_narrow_13 : decode cX10_narrow 13 = .ok (.if_icmp .ne 10, 3) := by decide +kernel
theorem dX10_narrow_16 : decode cX10_narrow 16 = .ok (.lload_n 2, 1) := by decide +kernel
theorem dX10_narrow_17 : decode cX10_narrow 17 = .ok (.l2i, 1) := by decide +kernel
theorem dX10_narrow_18 : decode cX10_narrow 18 = .ok (.i2s, 1) := by decide +kernel
theorem dX10_narrow_19 : decode cX10_narrow 19 = .ok (.i2l, 1) := by decide +kernel
theorem dX10_narrow_20 : decode cX10_narrow 20 = .ok (.goto 34, 3) := by decide +kernel
theorem dX10_narrow_23 : decode cX10_narrow 23 = .ok (.iload_n 1, 1) := by decide +kernel
theorem dX10_narrow_24 : decode cX10_narrow 24 = .ok (.iconst 2, 1) := by decide +kernel
theorem dX10_narrow_25 : decode cX10_narrow 25 = .ok (.if_icmp .ne 9, 3) := by decide +kernel
theorem dX10_narrow_28 : decode cX10_narrow 28 = .ok (.lload_n 2, 1) := by decide +kernel
theorem dX10_narrow_29 : decode cX10_narrow 29 = .ok (.l2i, 1) := by decide +kernel
theorem dX10_narrow_30 : decode cX10_narrow 30 = .ok (.i2l, 1) := by decide +kernel
theorem dX10_narrow_31 : decode cX10_narrow 31 = .ok (.goto 23, 3) := by decide +kernel
theorem dX10_narrow_34 : decode cX10_narrow 34 = .ok (.iload_n 1, 1) := by decide +kernel
theorem dX10_narrow_35 : decode cX10_narrow 35 = .ok (.iconst 4, 1) := by decide +kernel
theorem dX10_narrow_36 : decode cX10_narrow 36 = .ok (.if_icmp .ne 17, 3) := by decide +kernel
theorem dX10_narrow_39 : decode cX10_narrow 39 = .ok (.lload_n 2, 1) := by decide +kernel
theorem dX10_narrow_40 : decode cX10_narrow 40 = .ok (.lconst 0, 1) := by decide +kernel
theorem dX10_narrow_41 : decode cX10_narrow 41 = .ok (.lcmp, 1) := by decide +kernel
theorem dX10_narrow_42 : decode cX10_narrow 42 = .ok (.ifCond .eq 7, 3) := by decide +kernel
theorem dX10_narrow_45 : decode cX10_narrow 45 = .ok (.lconst 1, 1) := by decide +kernel
theorem dX10_narrow_46 : decode cX10_narrow 46 = .ok (.goto 8, 3) := by decide +kernel
theorem dX10_narrow_49 : decode cX10_narrow 49 = .ok (.lconst 0, 1) := by decide +kernel
theorem dX10_narrow_50 : decode cX10_narrow 50 = .ok (.goto 4, 3) := by decide +kernel
theorem dX10_narrow_53 : decode cX10_narrow 53 = .ok (.lload_n 2, 1) := by decide +kernel
theorem dX10_narrow_54 : decode cX10_narrow 54 = .ok (.lreturn, 1) := by decide +kernel
theorem dX10_item_0 : decode cX10_item 0 = .ok (.aload_n 0, 1) := by decide +kernel
theorem dX10_item_1 : decode cX10_item 1 = .ok (.iload_n 1, 1) := by decide +kernel
theorem dX10_item_2 : decode cX10_item 2 = .ok (.invokevirtual 436, 3) := by decide +kernel
theorem dX10_item_5 : decode cX10_item 5 = .ok (.ifCond .ne 5, 3) := by decide +kernel
theorem dX10_item_8 : decode cX10_item 8 = .ok (.iconst (-1), 1) := by decide +kernel
theorem dX10_item_9 : decode cX10_item 9 = .ok (.ireturn, 1) := by decide +kernel
theorem dX10_item_10 : decode cX10_item 10 = .ok (.aload_n 0, 1) := by decide +kernel
theorem dX10_item_11 : decode cX10_item 11 = .ok (.getfield 232, 3) := by decide +kernel
theorem dX10_item_14 : decode cX10_item 14 = .ok (.iload_n 1, 1) := by decide +kernel
theorem dX10_item_15 : decode cX10_item 15 = .ok (.iaload, 1) := by decide +kernel
theorem dX10_item_16 : decode cX10_item 16 = .ok (.ifCond .ge 6, 3) := by decide +kernel
theorem dX10_item_19 : decode cX10_item 19 = .ok (.bipush (-11), 2) := by decide +kernel
theorem dX10_item_21 : decode cX10_item 21 = .ok (.ireturn, 1) := by decide +kernel
theorem dX10_item_22 : decode cX10_item 22 = .ok (.aload_n 0, 1) := by decide +kernel
theorem dX10_item_23 : decode cX10_item 23 = .ok (.iload_n 2, 1) := by decide +kernel
theorem dX10_item_24 : decode cX10_item 24 = .ok (.iconst 0, 1) := by decide +kernel
theorem dX10_item_25 : decode cX10_item 25 = .ok (.aload_n 0, 1) := by decide +kernel
theorem dX10_item_26 : decode cX10_item 26 = .ok (.getfield 235, 3) := by decide +kernel
theorem dX10_item_29 : decode cX10_item 29 = .ok (.iload_n 1, 1) := by decide +kernel
theorem dX10_item_30 : decode cX10_item 30 = .ok (.iaload, 1) := by decide +kernel
theorem dX10_item_31 : decode cX10_item 31 = .ok (.iconst 1, 1) := by decide +kernel
theorem dX10_item_32 : decode cX10_item 32 = .ok (.isub, 1) := by decide +kernel
theorem dX10_item_33 : decode cX10_item 33 = .ok (.invokevirtual 253, 3) := by decide +kernel
theorem dX10_item_36 : decode cX10_item 36 = .ok (.ifCond .ne 6, 3) := by decide +kernel
theorem dX10_item_39 : decode cX10_item 39 = .ok (.bipush (-13), 2) := by decide +kernel
theorem dX10_item_41 : decode cX10_item 41 = .ok (.ireturn, 1) := by decide +kernel
theorem dX10_item_42 : decode cX10_item 42 = .ok (.aload_n 0, 1) := by decide +kernel
theorem dX10_item_43 : decode cX10_item 43 = .ok (.getfield 238, 3) := by decide +kernel
theorem dX10_item_46 : decode cX10_item 46 = .ok (.bipush 60, 2) := by decide +kernel
theorem dX10_item_48 : decode cX10_item 48 = .ok (.iload_n 1, 1) := by decide +kernel
theorem dX10_item_49 : decode cX10_item 49 = .ok (.imul, 1) := by decide +kernel
theorem dX10_item_50 : decode cX10_item 50 = .ok (.iload_n 2, 1) := by decide +kernel
theorem dX10_item_51 : decode cX10_item 51 = .ok (.iadd, 1) := by decide +kernel
theorem dX10_item_52 : decode cX10_item 52 = .ok (.aload_n 0, 1) := by decide +kernel
theorem dX10_item_53 : decode cX10_item 53 = .ok (.aload_n 0, 1) := by decide +kernel
theorem dX10_item_54 : decode cX10_item 54 = .ok (.getfield 232, 3) := by decide +kernel
theorem dX10_item_57 : decode cX10_item 57 = .ok (.iload_n 1, 1) := by decide +kernel
theorem dX10_item_58 : decode cX10_item 58 = .ok (.iaload, 1) := by decide +kernel
theorem dX10_item_59 : decode cX10_item 59 = .ok (.lload_n 3, 1) := by decide +kernel
theorem dX10_item_60 : decode cX10_item 60 = .ok (.invokevirtual 463, 3) := by decide +kernel
theorem dX10_item_63 : decode cX10_item 63 = .ok (.lastore, 1) := by decide +kernel
theorem dX10_item_64 : decode cX10_item 64 = .ok (.iconst 1, 1) := by decide +kernel
theorem dX10_item_65 : decode cX10_item 65 = .ok (.ireturn, 1) := by decide +kernel
theorem dX10_read_0 : decode cX10_read 0 = .ok (.aload_n 0, 1) := by decide +kernel
theorem dX10_read_1 : decode cX10_read 1 = .ok (.iload_n 1, 1) := by decide +kernel
theorem dX10_read_2 : decode cX10_read 2 = .ok (.invokevirtual 436, 3) := by decide +kernel
theorem dX10_read_5 : decode cX10_read 5 = .ok (.ifCond .eq 29, 3) := by decide +kernel
theorem dX10_read_8 : decode cX10_read 8 = .ok (.aload_n 0, 1) := by decide +kernel
theorem dX10_read_9 : decode cX10_read 9 = .ok (.getfield 232, 3) := by decide +kernel
theorem dX10_read_12 : decode cX10_read 12 = .ok (.iload_n 1, 1) := by decide +kernel
theorem dX10_read_13 : decode cX10_read 13 = .ok (.iaload, 1) := by decide +kernel
theorem dX10_read_14 : decode cX10_read 14 = .ok (.ifCond .lt 20, 3) := by decide +kernel
theorem dX10_read_17 : decode cX10_read 17 = .ok (.aload_n 0, 1) := by decide +kernel
theorem dX10_read_18 : decode cX10_read 18 = .ok (.iload_n 2, 1) := by decide +kernel
theorem dX10_read_19 : decode cX10_read 19 = .ok (.iconst 0, 1) := by decide +kernel
theorem dX10_read_20 : decode cX10_read 20 = .ok (.aload_n 0, 1) := by decide +kernel
theorem dX10_read_21 : decode cX10_read 21 = .ok (.getfield 235, 3) := by decide +kernel
theorem dX10_read_24 : decode cX10_read 24 = .ok (.iload_n 1, 1) := by decide +kernel
theorem dX10_read_25 : decode cX10_read 25 = .ok (.iaload, 1) := by decide +kernel
theorem dX10_read_26 : decode cX10_read 26 = .ok (.iconst 1, 1) := by decide +kernel
theorem dX10_read_27 : decode cX10_read 27 = .ok (.isub, 1) := by decide +kernel
theorem dX10_read_28 : decode cX10_read 28 = .ok (.invokevirtual 253, 3) := by decide +kernel
theorem dX10_read_31 : decode cX10_read 31 = .ok (.ifCond .ne 9, 3) := by decide +kernel
theorem dX10_read_34 : decode cX10_read 34 = .ok (.ldc2_w 424, 3) := by decide +kernel
theorem dX10_read_37 : decode cX10_read 37 = .ok (.goto 14, 3) := by decide +kernel
theorem dX10_read_40 : decode cX10_read 40 = .ok (.aload_n 0, 1) := by decide +kernel
theorem dX10_read_41 : decode cX10_read 41 = .ok (.getfield 238, 3) := by decide +kernel
theorem dX10_read_44 : decode cX10_read 44 = .ok (.bipush 60, 2) := by decide +kernel
theorem dX10_read_46 : decode cX10_read 46 = .ok (.iload_n 1, 1) := by decide +kernel
theorem dX10_read_47 : decode cX10_read 47 = .ok (.imul, 1) := by decide +kernel
theorem dX10_read_48 : decode cX10_read 48 = .ok (.iload_n 2, 1) := by decide +kernel
theorem dX10_read_49 : decode cX10_read 49 = .ok (.iadd, 1) := by decide +kernel
theorem dX10_read_50 : decode cX10_read 50 = .ok (.laload, 1) := by decide +kernel
theorem dX10_read_51 : decode cX10_read 51 = .ok (.lreturn, 1) := by decide +kernel
theorem dX10_shift_0 : decode cX10_shift 0 = .ok (.aload_n 0, 1) := by decide +kernel
theorem dX10_shift_1 : decode cX10_shift 1 = .ok (.iload_n 1, 1) := by decide +kernel
theorem dX10_shift_2 : decode cX10_shift 2 = .ok (.invokevirtual 436, 3) := by decide +kernel
theorem dX10_shift_5 : decode cX10_shift 5 = .ok (.ifCond .eq 11, 3) := by decide +kernel
theorem dX10_shift_8 : decode cX10_shift 8 = .ok (.aload_n 0, 1) := by decide +kernel
theorem dX10_shift_9 : decode cX10_shift 9 = .ok (.iload_n 3, 1) := by decide +kernel
theorem dX10_shift_10 : decode cX10_shift 10 = .ok (.invokevirtual 436, 3) := by decide +kernel
theorem dX10_shift_13 : decode cX10_shift 13 = .ok (.ifCond .ne 5, 3) := by decide +kernel
theorem dX10_shift_16 : decode cX10_shift 16 = .ok (.iconst (-1), 1) := by decide +kernel
theorem dX10_shift_17 : decode cX10_shift 17 = .ok (.ireturn, 1) := by decide +kernel
theorem dX10_shift_18 : decode cX10_shift 18 = .ok (.aload_n 0, 1) := by decide +kernel
theorem dX10_shift_19 : decode cX10_shift 19 = .ok (.getfield 232, 3) := by decide +kernel
theorem dX10_shift_22 : decode cX10_shift 22 = .ok (.iload_n 1, 1) := by decide +kernel
theorem dX10_shift_23 : decode cX10_shift 23 = .ok (.iaload, 1) := by decide +kernel
theorem dX10_shift_24 : decode cX10_shift 24 = .ok (.ifCond .lt 12, 3) := by decide +kernel
theorem dX10_shift_27 : decode cX10_shift 27 = .ok (.aload_n 0, 1) := by decide +kernel
theorem dX10_shift_28 : decode cX10_shift 28 = .ok (.getfield 232, 3) := by decide +kernel
theorem dX10_shift_31 : decode cX10_shift 31 = .ok (.iload_n 3, 1) := by decide +kernel
theorem dX10_shift_32 : decode cX10_shift 32 = .ok (.iaload, 1) := by decide +kernel
theorem dX10_shift_33 : decode cX10_shift 33 = .ok (.ifCond .ge 6, 3) := by decide +kernel
theorem dX10_shift_36 : decode cX10_shift 36 = .ok (.bipush (-11), 2) := by decide +kernel
theorem dX10_shift_38 : decode cX10_shift 38 = .ok (.ireturn, 1) := by decide +kernel
theorem dX10_shift_39 : decode cX10_shift 39 = .ok (.aload_n 0, 1) := by decide +kernel
theorem dX10_shift_40 : decode cX10_shift 40 = .ok (.getfield 232, 3) := by decide +kernel
theorem dX10_shift_43 : decode cX10_shift 43 = .ok (.iload_n 1, 1) := by decide +kernel
theorem dX10_shift_44 : decode cX10_shift 44 = .ok (.iaload, 1) := by decide +kernel
theorem dX10_shift_45 : decode cX10_shift 45 = .ok (.aload_n 0, 1) := by decide +kernel
theorem dX10_shift_46 : decode cX10_shift 46 = .ok (.getfield 232, 3) := by decide +kernel
theorem dX10_shift_49 : decode cX10_shift 49 = .ok (.iload_n 3, 1) := by decide +kernel
theorem dX10_shift_50 : decode cX10_shift 50 = .ok (.iaload, 1) := by decide +kernel
theorem dX10_shift_51 : decode cX10_shift 51 = .ok (.if_icmp .eq 6, 3) := by decide +kernel
theorem dX10_shift_54 : decode cX10_shift 54 = .ok (.bipush (-12), 2) := by decide +kernel
theorem dX10_shift_56 : decode cX10_shift 56 = .ok (.ireturn, 1) := by decide +kernel
theorem dX10_shift_57 : decode cX10_shift 57 = .ok (.iload 5, 2) := by decide +kernel
theorem dX10_shift_59 : decode cX10_shift 59 = .ok (.ifCond .lt 39, 3) := by decide +kernel
theorem dX10_shift_62 : decode cX10_shift 62 = .ok (.iload_n 2, 1) := by decide +kernel
theorem dX10_shift_63 : decode cX10_shift 63 = .ok (.ifCond .lt 35, 3) := by decide +kernel
theorem dX10_shift_66 : decode cX10_shift 66 = .ok (.iload 4, 2) := by decide +kernel
theorem dX10_shift_68 : decode cX10_shift 68 = .ok (.ifCond .lt 30, 3) := by decide +kernel
theorem dX10_shift_71 : decode cX10_shift 71 = .ok (.iload_n 2, 1) := by decide +kernel
theorem dX10_shift_72 : decode cX10_shift 72 = .ok (.aload_n 0, 1) := by decide +kernel
theorem dX10_shift_73 : decode cX10_shift 73 = .ok (.getfield 235, 3) := by decide +kernel
theorem dX10_shift_76 : decode cX10_shift 76 = .ok (.iload_n 1, 1) := by decide +kernel
theorem dX10_shift_77 : decode cX10_shift 77 = .ok (.iaload, 1) := by decide +kernel
theorem dX10_shift_78 : decode cX10_shift 78 = .ok (.iload 5, 2) := by decide +kernel
theorem dX10_shift_80 : decode cX10_shift 80 = .ok (.isub, 1) := by decide +kernel
theorem dX10_shift_81 : decode cX10_shift 81 = .ok (.if_icmp .gt 17, 3) := by decide +kernel
theorem dX10_shift_84 : decode cX10_shift 84 = .ok (.iload 4, 2) := by decide +kernel
theorem dX10_shift_86 : decode cX10_shift 86 = .ok (.aload_n 0, 1) := by decide +kernel
theorem dX10_shift_87 : decode cX10_shift 87 = .ok (.getfield 235, 3) := by decide +kernel
theorem dX10_shift_90 : decode cX10_shift 90 = .ok (.iload_n 3, 1) := by decide +kernel
theorem dX10_shift_91 : decode cX10_shift 91 = .ok (.iaload, 1) := by decide +kernel
theorem dX10_shift_92 : decode cX10_shift 92 = .ok (.iload 5, 2) := by decide +kernel
theorem dX10_shift_94 : decode cX10_shift 94 = .ok (.isub, 1) := by decide +kernel
theorem dX10_shift_95 : decode cX10_shift 95 = .ok (.if_icmp .le 6, 3) := by decide +kernel
theorem dX10_shift_98 : decode cX10_shift 98 = .ok (.bipush (-13), 2) := by decide +kernel
theorem dX10_shift_100 : decode cX10_shift 100 = .ok (.ireturn, 1) := by decide +kernel
theorem dX10_shift_101 : decode cX10_shift 101 = .ok (.iconst 0, 1) := by decide +kernel
theorem dX10_shift_102 : decode cX10_shift 102 = .ok (.istore 6, 2) := by decide +kernel
theorem dX10_shift_104 : decode cX10_shift 104 = .ok (.iload 6, 2) := by decide +kernel
theorem dX10_shift_106 : decode cX10_shift 106 = .ok (.iload 5, 2) := by decide +kernel
theorem dX10_shift_108 : decode cX10_shift 108 = .ok (.if_icmp .ge 30, 3) := by decide +kernel
theorem dX10_shift_111 : decode cX10_shift 111 = .ok (.aload_n 0, 1) := by decide +kernel
theorem dX10_shift_112 : decode cX10_shift 112 = .ok (.getfield 242, 3) := by decide +kernel
theorem dX10_shift_115 : decode cX10_shift 115 = .ok (.iload 6, 2) := by decide +kernel
theorem dX10_shift_117 : decode cX10_shift 117 = .ok (.aload_n 0, 1) := by decide +kernel
theorem dX10_shift_118 : decode cX10_shift 118 = .ok (.getfield 238, 3) := by decide +kernel
theorem dX10_shift_121 : decode cX10_shift 121 = .ok (.bipush 60, 2) := by decide +kernel
theorem dX10_shift_123 : decode cX10_shift 123 = .ok (.iload_n 1, 1) := by decide +kernel
theorem dX10_shift_124 : decode cX10_shift 124 = .ok (.imul, 1) := by decide +kernel
theorem dX10_shift_125 : decode cX10_shift 125 = .ok (.iload_n 2, 1) := by decide +kernel
theorem dX10_shift_126 : decode cX10_shift 126 = .ok (.iadd, 1) := by decide +kernel
theorem dX10_shift_127 : decode cX10_shift 127 = .ok (.iload 6, 2) := by decide +kernel
theorem dX10_shift_129 : decode cX10_shift 129 = .ok (.iadd, 1) := by decide +kernel
theorem dX10_shift_130 : decode cX10_shift 130 = .ok (.laload, 1) := by decide +kernel
theorem dX10_shift_131 : decode cX10_shift 131 = .ok (.lastore, 1) := by decide +kernel
theorem dX10_shift_132 : decode cX10_shift 132 = .ok (.iinc 6 1, 3) := by decide +kernel
theorem dX10_shift_135 : decode cX10_shift 135 = .ok (.goto (-31), 3) := by decide +kernel
theorem dX10_shift_138 : decode cX10_shift 138 = .ok (.iconst 0, 1) := by decide +kernel
theorem dX10_shift_139 : decode cX10_shift 139 = .ok (.istore 6, 2) := by decide +kernel
theorem dX10_shift_141 : decode cX10_shift 141 = .ok (.iload 6, 2) := by decide +kernel
theorem dX10_shift_143 : decode cX10_shift 143 = .ok (.iload 5, 2) := by decide +kernel
theorem dX10_shift_145 : decode cX10_shift 145 = .ok (.if_icmp .ge 31, 3) := by decide +kernel
theorem dX10_shift_148 : decode cX10_shift 148 = .ok (.aload_n 0, 1) := by decide +kernel
theorem dX10_shift_149 : decode cX10_shift 149 = .ok (.getfield 238, 3) := by decide +kernel
theorem dX10_shift_152 : decode cX10_shift 152 = .ok (.bipush 60, 2) := by decide +kernel
theorem dX10_shift_154 : decode cX10_shift 154 = .ok (.iload_n 3, 1) := by decide +kernel
theorem dX10_shift_155 : decode cX10_shift 155 = .ok (.imul, 1) := by decide +kernel
theorem dX10_shift_156 : decode cX10_shift 156 = .ok (.iload 4, 2) := by decide +kernel
theorem dX10_shift_158 : decode cX10_shift 158 = .ok (.iadd, 1) := by decide +kernel
theorem dX10_shift_159 : decode cX10_shift 159 = .ok (.iload 6, 2) := by decide +kernel
theorem dX10_shift_161 : decode cX10_shift 161 = .ok (.iadd, 1) := by decide +kernel
theorem dX10_shift_162 : decode cX10_shift 162 = .ok (.aload_n 0, 1) := by decide +kernel
theorem dX10_shift_163 : decode cX10_shift 163 = .ok (.getfield 242, 3) := by decide +kernel
theorem dX10_shift_166 : decode cX10_shift 166 = .ok (.iload 6, 2) := by decide +kernel
theorem dX10_shift_168 : decode cX10_shift 168 = .ok (.laload, 1) := by decide +kernel
theorem dX10_shift_169 : decode cX10_shift 169 = .ok (.lastore, 1) := by decide +kernel
theorem dX10_shift_170 : decode cX10_shift 170 = .ok (.iinc 6 1, 3) := by decide +kernel
theorem dX10_shift_173 : decode cX10_shift 173 = .ok (.goto (-32), 3) := by decide +kernel
theorem dX10_shift_176 : decode cX10_shift 176 = .ok (.iload 5, 2) := by decide +kernel
theorem dX10_shift_178 : decode cX10_shift 178 = .ok (.ireturn, 1) := by decide +kernel
end
section
/-! CORE: a compact judgement over the kit's W: addresses relative to the first new cell, shapes and references apart from numbers -/
abbrev XM : Type := (Nat → Nat → Int32) × (Nat → Nat → Int64)
abbrev XS : Type := List ((Nat × Nat) ⊕ (Nat × List (Option Value)))
abbrev XG : Type := Launch × va_G × (Nat → ClassId) × Nat × (Nat → Option Nat) × (Nat × Nat × (Nat → Int32))
abbrev XMe : Type := String × ByteArray × Nat × Option FieldType × Nat × Nat
abbrev XL : Type := List (Option Value)
def xl (g : XG) : Launch := g.1
def xD (g : XG) : va_G := g.2.1
def xcT (g : XG) : Nat → ClassId := g.2.2.1
def xb (g : XG) : Nat := g.2.2.2.1
def xsp (g : XG) : Nat → Option Nat := g.2.2.2.2.1
def xscr (g : XG) : Nat × Nat × (Nat → Int32) := g.2.2.2.2.2
def xtr (g : XG) (v : Value) : Value := match v with
  | .ref k => if k < 1000 then .ref (xb g + k) else va_rf (xsp g k)
  | w => w
theorem xtr_cat (g : XG) (v : Value) : (xtr g v).category = v.category := by
  cases v <;> try rfl
  rename_i k
  show (if k < 1000 then Value.ref (xb g + k) else va_rf (xsp g k)).category = 1
  split
  · rfl
  · cases xsp g k <;> rfl
theorem xtr_ref {g : XG} {k : Nat} (h : k < 1000) : xtr g (.ref k) = .ref (xb g + k) := if_pos h
theorem xtr_sp {g : XG} {k t : Nat} (h : ¬ k < 1000) (ht : xsp g k = some t) : xtr g (.ref k) = .ref t := by
  show (if k < 1000 then Value.ref (xb g + k) else va_rf (xsp g k)) = _
  rw [if_neg h, ht]; rfl
theorem xtr_cats (g : XG) (l : List Value) : ((l.map (xtr g)).map fun v => v.category).sum = (l.map fun v => v.category).sum := by
  rw [List.map_map]
  congr 1
  exact List.map_congr_left fun v _ => xtr_cat g v
abbrev xcl : List vw_C := [(RX0, TX0, 5), (RX1, TX1, 5), (RX2, TX2, 15), (RX3, TX3, 0), (RX4, TX4, 0), (RX5, TX5, 10), (RX6, TX6, 12), (RX7, TX7, 2), (RX8, TX8, 3), (RX9, TX9, 9), (RX10, TX10, 77)]
def xE (g : XG) (M : XM) (k : Nat) : ((Nat × Nat) ⊕ (Nat × List (Option Value))) → va_E
  | .inl (t, n) => .inl (xcT g t, n, if t = 3 then .inr (.inl (M.2 k)) else .inl (M.1 k))
  | .inr (ci, fs) => .inr (ci, fs.mapIdx (fun j o => match o with
    | none => .int (M.1 k j)
    | some v => xtr g v))
def xws (g : XG) (S : XS) (M : XM) : va_W := S.mapIdx (fun k e => (xb g + k, xE g M k e))
def xtyp (t : Nat) : FieldType := match t with
  | 0 => .int
  | 1 => .byte
  | 2 => .boolean
  | _ => .long
def xtys (g : XG) : List (ClassId × FieldType) := [(xcT g 0, .int), (xcT g 1, .byte), (xcT g 2, .boolean), (xcT g 3, .long)]
theorem xws_get {g : XG} {S : XS} {M : XM} {k : Nat} {e : (Nat × Nat) ⊕ (Nat × List (Option Value))} (h : S[k]? = some e) : (xws g S M)[k]? = some (xb g + k, xE g M k e) := by
  unfold xws
  rw [List.getElem?_mapIdx, h]
  rfl
theorem xws_inv {g : XG} {S : XS} {M : XM} {k : Nat} {q : Nat × va_E} (h : (xws g S M)[k]? = some q) : ∃ e, S[k]? = some e ∧ q = (xb g + k, xE g M k e) := by
  unfold xws at h
  rw [List.getElem?_mapIdx] at h
  cases hs : S[k]? with
  | none => rw [hs] at h; cases h
  | some e => rw [hs] at h; exact ⟨e, rfl, (Option.some.inj h).symm⟩
theorem xws_len {g : XG} {S : XS} {M : XM} : (xws g S M).length = S.length := by unfold xws; simp
theorem xws_D (g : XG) (S : XS) (M : XM) : va_D (fun q => xb g ≤ q) (xws g S M) := by
  refine ⟨fun i j p q hi hj hpq => ?_, fun k q hk => ?_⟩
  · obtain ⟨e1, -, rfl⟩ := xws_inv hi
    obtain ⟨e2, -, rfl⟩ := xws_inv hj
    exact Nat.add_left_cancel hpq
  · obtain ⟨e, -, rfl⟩ := xws_inv hk
    exact Nat.le_add_right _ _
/-- the numbers of one cell change -/
def xput (M : XM) (a k : Nat) (x : Int32) : XM := (fun a' k' => if a' = a ∧ k' = k then x else M.1 a' k', M.2)
def xputL (M : XM) (a k : Nat) (x : Int64) : XM := (M.1, fun a' k' => if a' = a ∧ k' = k then x else M.2 a' k')
def xrow (M : XM) (a : Nat) (f : Nat → Int32) : XM := (fun a' => if a' = a then f else M.1 a', M.2)
def xrowL (M : XM) (a : Nat) (f : Nat → Int64) : XM := (M.1, fun a' => if a' = a then f else M.2 a')
theorem xput_row (M : XM) (a k : Nat) (x : Int32) : xput M a k x = xrow M a (upd (M.1 a) k x) := by
  unfold xput xrow
  congr 1
  funext a' k'
  by_cases h : a' = a
  · subst h
    by_cases h2 : k' = k
    · subst h2; simp [upd]
    · simp [h2, upd]
  · simp [h]
theorem xputL_row (M : XM) (a k : Nat) (x : Int64) : xputL M a k x = xrowL M a (vp_updL (M.2 a) k x) := by
  unfold xputL xrowL
  congr 1
  funext a' k'
  by_cases h : a' = a
  · subst h
    by_cases h2 : k' = k
    · subst h2; simp [vp_updL]
    · simp [h2, vp_updL]
  · simp [h]
theorem xws_upd {g : XG} {S S' : XS} {M M' : XM} {a : Nat} {e : (Nat × Nat) ⊕ (Nat × List (Option Value))} (h : S[a]? = some e) (hS : ∀ k, k ≠ a → S'[k]? = S[k]?) {e' : (Nat × Nat) ⊕ (Nat × List (Option Value))} (he : S'[a]? = some e') (hM : ∀ k, k ≠ a → M'.1 k = M.1 k ∧ M'.2 k = M.2 k) :
    (xws g S M).set a (xb g + a, xE g M' a e') = xws g S' M' := by
  apply List.ext_getElem?
  intro k
  by_cases hk : k = a
  · subst hk
    rw [xws_get he, List.getElem?_set_self (by rw [xws_len]; exact (List.getElem?_eq_some_iff.mp h).1)]
  · rw [List.getElem?_set_ne (Ne.symm hk)]
    cases hs : S[k]? with
    | none =>
      have h2 : S'[k]? = none := (hS k hk).trans hs
      rw [List.getElem?_eq_none (by rw [xws_len]; simpa using hs), List.getElem?_eq_none (by rw [xws_len]; simpa using h2)]
    | some x =>
      rw [xws_get hs, xws_get ((hS k hk).trans hs)]
      have hx : xE g M k x = xE g M' k x := by
        obtain ⟨h1, h2⟩ := hM k hk
        rcases x with ⟨t, n⟩ | ⟨ci, fs⟩
        · show Sum.inl _ = Sum.inl _
          rw [h1, h2]
        · show Sum.inr _ = Sum.inr _
          rw [h1]
      rw [hx]
/-! what was there before, and stays -/
def xtn (k : Nat) : Nat := if k = 0 then 21 else 7
def xtv (k j : Nat) : Int32 := if k = 0 then ([10, 11, 12, 0, 20, 0, 30, 0, 0, 0, 0, 40, 50, 51, 0, 0, 0, 60, 71, 70, 0] : List Int32).getD j 0 else ([-1, 0, 0, 0, 1, 2, 3] : List Int32).getD j 0
def xslen : List Nat := [5, 5, 5, 1, 1]
def xsbyt : List (List Int32) := [[98, 97, 108, 100, 32], [104, 97, 114, 100, 32], [115, 111, 102, 116, 32], [32], [41]]
def xsidx (i : Nat) : Nat := [68, 77, 79, 81, 97].getD i 0
def xstxt (i : Nat) : String := ["bald ", "hard ", "soft ", " ", ")"].getD i ""
def xnest : List Cond := [.methodLinkNest RX9 11 yX2_init RX9, .methodLinkNest RX2 47 yX7_init RX9]
def XO (g : XG) (U : State) (H : Heap) : Prop :=
  va_X (xscr g).1 (xscr g).2.1 (xscr g).2.2 U H ∧ (xscr g).1 < xb g ∧ xsp g 5000 = some (xscr g).1 ∧ (xscr g).2.1 < 2 ^ 31 ∧ xb g ≤ H.size ∧
  (∀ k, k < 2 → ∃ t, xsp g (1000 + k) = some t ∧ va_T .int t (xtn k) (fun j => .int (xtv k j)) (fun q => xb g ≤ q) U H) ∧
  va_Z RX0 "BODIES" "[I" (va_rf (xsp g 1000)) (fun q => xb g ≤ q) U H ∧ va_Z RX4 "ABOVE" "[I" (va_rf (xsp g 1001)) (fun q => xb g ≤ q) U H ∧
  va_Z "java/lang/String" "COMPACT_STRINGS" "Z" (.int 1) (fun q => xb g ≤ q) U H ∧
  va_Z "jdk/internal/util/Preconditions" "SIOOBE_FORMATTER" "Ljava/util/function/BiFunction;" (va_rf (xsp g 4000)) (fun q => xb g ≤ q) U H ∧
  (∃ adK adV : Nat → Nat, vk_S 5 xslen xsbyt adK adV (fun q => xb g ≤ q) U H ∧ ∀ i, i < 5 → xsp g (2000 + i) = some (adK i) ∧ xsp g (3000 + i) = some (adV i) ∧ vk_R RX6 (xsidx i) (xstxt i) (adK i) U) ∧
  ∀ w ∈ xnest, va_Nw w U
theorem XO.kept {g : XG} {U : State} {H H1 : Heap} (h : XO g U H) (hz : H.size ≤ H1.size) (hq : ∀ a : Nat, a < H.size → ¬ xb g ≤ a → H1[a]? = H[a]?) : XO g U H1 := by
  obtain ⟨h1, h2, h3, h4, h5, h6, h7, h8, h9, h10, ⟨aK, aV, h11, h12⟩, h13⟩ := h
  refine ⟨h1.kept (hq _ (Nat.lt_of_lt_of_le h2 h5) (Nat.not_le.mpr h2)), h2, h3, h4, Nat.le_trans h5 hz, fun k hk => ?_, h7.kept hq, h8.kept hq, h9.kept hq, h10.kept hq, ⟨aK, aV, h11.kept hq, h12⟩, h13⟩
  obtain ⟨t, q1, q2⟩ := h6 k hk
  exact ⟨t, q1, q2.kept hq⟩
theorem XO.warm {g : XG} {s U : State} {H : Heap} (hW : s.WarmedH U.vm) (h : XO g s H) : XO g U H := by
  obtain ⟨h1, h2, h3, h4, h5, h6, h7, h8, h9, h10, ⟨aK, aV, h11, h12⟩, h13⟩ := h
  refine ⟨h1.moved hW.alike, h2, h3, h4, h5, fun k hk => ?_, h7.moved hW.alike, h8.moved hW.alike, h9.moved hW.alike, h10.moved hW.alike, ⟨aK, aV, h11.moved hW.alike, fun i hi => ?_⟩, fun w hw => ?_⟩
  · obtain ⟨t, q1, q2⟩ := h6 k hk
    exact ⟨t, q1, q2.moved hW.alike⟩
  · obtain ⟨q1, q2, q3⟩ := h12 i hi
    exact ⟨q1, q2, vk_R.warm hW q3⟩
  · have hw2 := h13 w hw
    simp only [xnest, List.mem_cons, List.not_mem_nil, or_false] at hw
    rcases hw with rfl | rfl
    · exact va_Nw.warmM hW hw2
    · exact va_Nw.warmM hW hw2
theorem XO.same {g : XG} {s U : State} {H : Heap} (hv : U.vm = s.vm) (h : XO g s H) : XO g U H := by
  obtain ⟨h1, h2, h3, h4, h5, h6, h7, h8, h9, h10, ⟨aK, aV, h11, h12⟩, h13⟩ := h
  have hA : s.vm.Alike U.vm := by rw [hv]; exact Vm.Alike.refl _
  refine ⟨h1.moved hA, h2, h3, h4, h5, fun k hk => ?_, h7.moved hA, h8.moved hA, h9.moved hA, h10.moved hA, ⟨aK, aV, h11.moved hA, fun i hi => ?_⟩, fun w hw => ?_⟩
  · obtain ⟨t, q1, q2⟩ := h6 k hk
    exact ⟨t, q1, q2.moved hA⟩
  · obtain ⟨q1, q2, q3⟩ := h12 i hi
    exact ⟨q1, q2, vk_R.same hv q3⟩
  · have hw2 := h13 w hw
    simp only [xnest, List.mem_cons, List.not_mem_nil, or_false] at hw
    rcases hw with rfl | rfl
    · exact va_Nw.same rfl hv.symm hw2
    · exact va_Nw.same rfl hv.symm hw2
def xG : List Cond := lw_tbl.filter goodWord
theorem xG_in {w : Cond} (h : w ∈ lw_tbl) (hg : goodWord w = true) : w ∈ xG := List.mem_filter.mpr ⟨h, hg⟩
theorem xG_tb {w : Cond} (i : Nat) (h : tables_1[i]? = some w) (hg : goodWord w = true) : w ∈ xG := xG_in (List.mem_append_right _ (List.mem_of_getElem? h)) hg
theorem xG_pv {w : Cond} (i : Nat) (h : (k2_sels lw_privs)[i]? = some w) (hg : goodWord w = true) : w ∈ xG := xG_in (List.mem_append_left _ (List.mem_of_getElem? h)) hg
theorem xG_good {ws : List Cond} (h : ∀ w ∈ ws, w ∈ xG) : GoodIn xG ws := fun w hw => ⟨h w hw, good_of_word (List.mem_filter.mp (h w hw)).2⟩
/-- how many objects and rows there are when all is made -/
def xN : Nat := 113
/-- the state's side of a frame of method m -/
def XC (g : XG) (m : XMe) (p : Program) (s : State) (mi : MethodId) (args : Array Value) (meth : Method) (c : Code) : Prop :=
  p.tables.exec = Jvm.exec ∧ c.code = m.2.1 ∧ c.maxLocals = m.2.2.1 ∧ s.vm.findClass m.1 = some mi.cls ∧ (∀ w ∈ xG, w.before args s = true) ∧ va_K (xD g) xcl (xtys g) s ∧ XO g s s.heap ∧ meth.sig.returnType = m.2.2.2.1 ∧ meth.locks = false ∧ (meth.name = "<init>" ∨ m.2.2.2.2.1 = 0)
def XR (d : Nat) (m : XMe) (R : Room) : Prop := d ≤ R.frames ∧ 60 * d ≤ R.locals ∧ m.2.2.2.2.1 ≤ R.cells ∧ m.2.2.2.2.2 ≤ R.slots
def XH (g : XG) (s : State) (H : Heap) (locs : List Loc) (S : XS) (M : XM) : Prop :=
  va_P (xD g) xcl (xws g S M) H ∧ va_S (fun q => xb g ≤ q) s.heap H locs ∧ (S.length = xN ∨ H.size = xb g + S.length) ∧ S.length ≤ 1000
def xlv (g : XG) (ls : XL) : List (Nat × Value) := ls.zipIdx.filterMap (fun q => q.1.map (fun v => (q.2, xtr g v)))
theorem xlv_mem {g : XG} {ls : XL} {i : Nat} {v : Value} : (i, v) ∈ xlv g ls ↔ ∃ w, ls[i]? = some (some w) ∧ v = xtr g w := by
  unfold xlv
  rw [List.mem_filterMap]
  constructor
  · rintro ⟨⟨o, j⟩, hq, h⟩
    have hj : ls[j]? = some o := by
      have := List.mem_zipIdx_iff_getElem?.mp hq
      simpa using this
    cases o with
    | none => cases h
    | some w =>
      simp only [Option.map_some, Option.some.injEq, Prod.mk.injEq] at h
      obtain ⟨rfl, rfl⟩ := h
      exact ⟨w, hj, rfl⟩
  · rintro ⟨w, h, rfl⟩
    exact ⟨(some w, i), List.mem_zipIdx_iff_getElem?.mpr (by simpa using h), rfl⟩
theorem xlv_at {g : XG} {la : Array Slot} {nL : Nat} {ls : XL} (h : lv_has la nL (xlv g ls)) {i : Nat} {v : Value} (hi : ls[i]? = some (some v)) : la[i]? = some (.val (xtr g v)) :=
  h.2.2 (i, xtr g v) (xlv_mem.mpr ⟨v, hi, rfl⟩)
def xrt (rt : Option FieldType) (v : Option Value) : Prop := match rt, v with
  | none, none => True
  | some .int, some (.int _) => True
  | some .boolean, some (.int x) => narrow .boolean (.int x) = .int x
  | some .byte, some (.int x) => narrow .byte (.int x) = .int x
  | some .char, some (.int x) => narrow .char (.int x) = .int x
  | some .long, some (.long _) => True
  | some (.object _), some (.ref k) => k < 1000
  | _, _ => False
def xri (rt : Option FieldType) : Instr := match rt with
  | none => .return_
  | some .long => .lreturn
  | some (.object _) => .areturn
  | _ => .ireturn
def Wp (g : XG) (d : Nat) (m : XMe) (pc : Nat) (ls : XL) (st : List Value) (S : XS) (B : Nat × Nat) (M : XM) (K : Option Value → XS → XM → Prop) : Prop :=
  ∀ (p : Program) (e : Env) (R : Room) (s : State) (mi : MethodId) (args : Array Value) (below : List Frame) (meth : Method) (c : Code) (H : Heap) (locs : List Loc) (la : Array Slot) (Q : State → Prop),
    XC g m p s mi args meth c → XR d m R → XH g s H locs S M → lv_has la m.2.2.1 (xlv g ls) →
    (∀ (v : Option Value) (pc' : Nat) (la' : Array Slot) (H' : Heap) (locs' : List Loc) (S' : XS) (M' : XM), xrt m.2.2.2.1 v → decode m.2.1 pc' = .ok (xri m.2.2.2.1, 1) → K v S' M' → XH g s H' locs' S' M' →
      W p (xl g) e R s mi args below meth c H' locs' m.2.2.2.2.1 m.2.2.2.2.2 Q (F0 mi pc' la' (v.toList.map (xtr g)))) →
    W p (xl g) e R s mi args below meth c H locs B.1 B.2 Q (F0 mi pc la (st.map (xtr g)))
/-- the world before and behind a method -/
def XU (g : XG) (U : State) (S : XS) (M : XM) : Prop :=
  va_P (xD g) xcl (xws g S M) U.heap ∧ va_K (xD g) xcl (xtys g) U ∧ XO g U U.heap ∧ (S.length = xN ∨ U.heap.size = xb g + S.length) ∧ S.length ≤ 1000
def xrm (d : Nat) (m : XMe) : Room := { frames := d, cells := m.2.2.2.2.1, slots := m.2.2.2.2.2, locals := 60 * d }
def Ex (g : XG) (d : Nat) (y : MethodName) (m : XMe) (args : List Value) (S : XS) (M : XM) (K : Option Value → XS → XM → Prop) : Prop :=
  Met (xl g) y (.code y m.2.1 m.2.2.1 m.2.2.2.1 :: xG) (xrm d m) (va_Pc (args.map (xtr g)) (fun U => XU g U S M))
    (fun _ st o t => (∃ (v : Option Value) (S' : XS) (M' : XM), o = .returned (v.map (xtr g)) ∧ K v S' M' ∧ XU g t S' M') ∧ va_F (fun q => xb g ≤ q) st t) m.2.2.2.2.1 m.2.2.2.2.2 (fun q => xb g ≤ q)
/-- what is known of a method that is called -/
def XY (y : MethodName) (m : XMe) (n : Nat) : Prop :=
  plainName y.cls = true ∧ m.1 = y.cls ∧ .code y m.2.1 m.2.2.1 m.2.2.2.1 ∈ xG ∧ .initialized y.cls ∈ xG ∧ (y.cls ≠ "java/lang/invoke/MethodHandle" ∧ y.cls ≠ "java/lang/invoke/VarHandle" ∧ (parseMethodDescriptor y.desc).map (fun d => d.parameters.length) = some n) ∧ m.2.2.1 ≤ 40 ∧ (y.name = "<init>" ∨ m.2.2.2.2.1 = 0)
def xent (nL : Nat) (args : List Value) : XL := let l := args.flatMap (fun v => if v.category = 2 then [some v, none] else [some v]); l ++ List.replicate (nL - l.length) none
theorem xent_args (g : XG) (vs : List Value) : ∀ (i : Nat) (j : Nat) (w : Value), (vs.flatMap (fun v => if v.category = 2 then [some v, none] else [some v]))[j]? = some (some w) → (i + j, xtr g w) ∈ lv_args i (vs.map (xtr g)) := by
  induction vs with
  | nil => intro i j w h; simp at h
  | cons v vs ih =>
    intro i j w h
    rw [List.flatMap_cons] at h
    rw [List.map_cons]
    show _ ∈ (i, xtr g v) :: lv_args (if (xtr g v).category = 2 then i + 2 else i + 1) (vs.map (xtr g))
    rw [xtr_cat]
    by_cases hc : v.category = 2
    · rw [if_pos hc] at h ⊢
      match j, h with
      | 0, h => simp at h; subst h; exact List.mem_cons_self
      | 1, h => simp at h
      | j + 2, h =>
        have h2 := ih (i + 2) j w (by simpa using h)
        rw [show i + (j + 2) = i + 2 + j by omega]
        exact List.mem_cons_of_mem _ h2
    · rw [if_neg hc] at h ⊢
      match j, h with
      | 0, h => simp at h; subst h; exact List.mem_cons_self
      | j + 1, h =>
        have h2 := ih (i + 1) j w (by simpa using h)
        rw [show i + (j + 1) = i + 1 + j by omega]
        exact List.mem_cons_of_mem _ h2
theorem xsl_len (g : XG) (vs : List Value) : (lg_sl (vs.map (xtr g))).length = (vs.flatMap (fun v => if v.category = 2 then [some v, none] else [some v])).length := by
  induction vs with
  | nil => rfl
  | cons v vs ih =>
    unfold lg_sl at ih ⊢
    rw [List.map_cons, List.flatMap_cons, List.flatMap_cons, List.length_append, List.length_append, ih, xtr_cat]
    by_cases hc : v.category = 2 <;> simp [hc]
theorem xlv_weaken {g : XG} {la : Array Slot} {nL : Nat} {l : List (Nat × Value)} {ls : XL} (h : lv_has la nL l) (hs : ∀ i w, ls[i]? = some (some w) → (i, xtr g w) ∈ l) : lv_has la nL (xlv g ls) := by
  refine ⟨h.1, h.2.1, fun q hq => ?_⟩
  obtain ⟨i, v⟩ := q
  obtain ⟨w, h1, rfl⟩ := xlv_mem.mp hq
  exact h.2.2 _ (hs i w h1)
theorem x_leave {g : XG} {p : Program} {l : Launch} {e : Env} {R : Room} {s : State} {m : MethodId} {args : Array Value} {below : List Frame} {meth : Method} {c : Code} {H : Heap} {locs : List Loc} {cells slots : Nat} {cc : ByteArray} {rt : Option FieldType} {Qc : Array Value → State → Outcome → State → Prop} {free : Addr → Prop} {pc : Nat} {ls : Array Slot}
    (hx : p.tables.exec = Jvm.exec) (hb : c.code = cc) (hr : meth.sig.returnType = rt) (hlocks : meth.locks = false) (v : Option Value) (hrt : xrt rt v) (hdg : decode cc pc = .ok (xri rt, 1))
    (hq : ∀ t : State, t.heap = H → s.WarmedH t.vm → Qc args s (.returned (v.map (xtr g))) t) (hf : ∀ q ∈ locs, free q.base) : W p l e R s m args below meth c H locs cells slots (MQ below Qc args s cells slots free) (F0 m pc ls (v.toList.map (xtr g))) := by
  cases rt with
  | none =>
    cases v with
    | none => exact W.vret hx hb hr hq hf hdg hlocks
    | some v => exact absurd hrt id
  | some ty =>
    cases v with
    | none => cases ty <;> exact absurd hrt id
    | some v =>
      cases ty <;> cases v <;> first | exact absurd hrt id | exact W.iret hx hb hr hq hf hdg hlocks | exact W.lret hx hb hr hq hf hdg hlocks | exact W.zret hx hb hr hrt hq hf hdg hlocks | skip
      rename_i cn k
      have hk : k < 1000 := hrt
      have e1 : xtr g (.ref k) = .ref (xb g + k) := xtr_ref hk
      have hq' := hq
      simp only [Option.map_some, e1] at hq'
      show W p l e R s m args below meth c H locs cells slots _ (F0 m pc ls [xtr g (.ref k)])
      rw [e1]
      exact W.aret hx hb hr (Or.inl ⟨_, rfl⟩) (Or.inr ⟨_, rfl⟩) hq' hf hdg hlocks
theorem x_world {g : XG} {m : XMe} {p : Program} {s : State} {mi : MethodId} {args : Array Value} {meth : Method} {c : Code} {H : Heap} {locs : List Loc} {S : XS} {M : XM} (C : XC g m p s mi args meth c) (hH : XH g s H locs S M) {t : State} (ht : t.heap = H) (hW : s.WarmedH t.vm) : XU g t S M := by
  obtain ⟨-, -, -, -, -, hK, hO, -⟩ := C
  obtain ⟨hP, hS, hz, hk⟩ := hH
  exact ⟨by rw [ht]; exact hP, va_K.moved hW.alike hK, by rw [ht]; exact (hO.kept hS.1 (fun a h1 h2 => hS.2.1 a h1 h2)).warm hW, by rw [ht]; exact hz, hk⟩
theorem x_entry {g : XG} {d n : Nat} {y : MethodName} {m : XMe} {args : List Value} {S : XS} {M : XM} {K : Option Value → XS → XM → Prop} (hY : XY y m n) (hl : (args.flatMap (fun v => if v.category = 2 then [some v, none] else [some v])).length ≤ m.2.2.1)
    (h : Wp g d m 0 (xent m.2.2.1 args) [] S (0, 0) M K) : Ex g d y m args S M K := by
  unfold Ex
  refine Met.ofW (cc := m.2.1) (maxL := m.2.2.1) (ret := m.2.2.2.1) hY.1 rfl ?_
  intro p e s mi args' below meth c s₁ B hml hv
  obtain ⟨rfl, hP, hK, hO, hsz, h1000⟩ := hv
  have hts := atoms_spec B.pre
  have hown : s.vm.findClass y.cls = some mi.cls := findClass_of_methodNamed B.named
  have hnm : meth.name = y.name := (name_of_methodNamed B.named B.method).1
  have C : XC g m p s mi (args.map (xtr g)).toArray meth c := ⟨B.exec, B.bytes, hml, by rw [hY.2.1]; exact hown, fun w hw => hts w (List.mem_cons_of_mem _ hw), hK, hO, B.returns, B.notSynchronized, by rw [hnm]; exact hY.2.2.2.2.2.2⟩
  rw [lg_entry_eq]
  refine h p e _ s mi _ below meth c s.heap [] _ _ C ⟨Nat.le_refl _, Nat.le_refl _, Nat.le_refl _, Nat.le_refl _⟩ ⟨hP, va_S.rf, hsz, h1000⟩ ?_ ?_
  · refine xlv_weaken (lv_entry (args.map (xtr g)) (by rw [xsl_len]; exact hl)) (fun i w hw => ?_)
    have h2 : (args.flatMap (fun v => if v.category = 2 then [some v, none] else [some v]))[i]? = some (some w) := by
      unfold xent at hw
      by_cases hi : i < (args.flatMap (fun v => if v.category = 2 then [some v, none] else [some v])).length
      · rw [List.getElem?_append_left hi] at hw
        exact hw
      · rw [List.getElem?_append_right (Nat.not_lt.mp hi)] at hw
        have := List.eq_of_mem_replicate (List.mem_of_getElem? hw)
        cases this
    have h3 := xent_args g args 0 i w h2
    rw [Nat.zero_add] at h3
    exact h3
  · intro v pc' la' H' locs' S' M' hrt hdec hKv hH
    exact x_leave B.exec B.bytes B.returns B.notSynchronized v hrt hdec (fun t ht hW => ⟨⟨v, S', M', rfl, hKv, x_world C hH ht hW⟩, hH.2.1.F ht⟩) hH.2.1.2.2
section XB
variable {g : XG} {d n : Nat} {m my : XMe} {y : MethodName} {pc idx : Nat} {ls : XL} {st rest As : List Value} {S : XS} {B : Nat × Nat} {M : XM} {K : Option Value → XS → XM → Prop}
theorem x_back {p : Program} {e : Env} {R : Room} {s : State} {mi : MethodId} {args : Array Value} {below : List Frame} {meth : Method} {c : Code} {H : Heap} {locs : List Loc} {cells slots mc ms : Nat} {la : Array Slot} {Q : State → Prop} {st0 rst : List Value} {K' : Option Value → XS → XM → Prop}
    (hH : XH g s H locs S M)
    (hr : va_Run p (xl g) e R s mi args below meth c H locs cells slots mc ms (F0 mi pc la st0) rst (fun st o t => (∃ (v : Option Value) (S' : XS) (M' : XM), o = .returned (v.map (xtr g)) ∧ K' v S' M' ∧ XU g t S' M') ∧ va_F (fun q => xb g ≤ q) st t) (fun q => xb g ≤ q))
    (kk : ∀ (v : Option Value) (S' : XS) (M' : XM) (H' : Heap) (locs' : List Loc), K' v S' M' → XH g s H' locs' S' M' → W p (xl g) e R s mi args below meth c H' locs' (cells + mc) (slots + ms) Q (F0 mi (pc + 3) la ((v.toList.map (xtr g)) ++ rst))) :
    W p (xl g) e R s mi args below meth c H locs cells slots Q (F0 mi pc la st0) := by
  intro T hT X
  obtain ⟨w, st₀, t, T', L, h0, X', hL, e1, e2, ⟨⟨v, S', M', hv, hk, hU⟩, hz, hkp⟩, stp⟩ := hr T hT X
  obtain rfl : w = v.map (xtr g) := by injection hv
  rw [h0] at hz hkp
  obtain ⟨hP, hS, hsz, h1000⟩ := hH
  obtain ⟨hP', -, -, hsz', h1000'⟩ := hU
  have hX : XH g s T'.heap (locs ++ L) S' M' := by
    refine ⟨by rw [e1]; exact hP', ⟨Nat.le_trans hS.1 (by rw [e1]; exact hz), fun q h1 h2 => ?_, fun q hq => ?_⟩, by rw [e1]; exact hsz', h1000'⟩
    · rw [e1, hkp q (Nat.lt_of_lt_of_le h1 hS.1) h2]
      exact hS.2.1 q h1 h2
    · rcases List.mem_append.mp hq with h | h
      · exact hS.2.2 q h
      · exact hL q h
  obtain ⟨t2, a1, b1⟩ := kk v S' M' T'.heap (locs ++ L) hk hX T' rfl X'
  have hst : (v.map (xtr g)).toList = v.toList.map (xtr g) := by cases v <;> rfl
  rw [← hst] at a1
  exact ⟨t2, stp t2 a1, b1⟩
theorem x_blind : FrameBlind (va_Pc (As.map (xtr g)) (fun U => XU g U S M)) := by
  intro a U gf mk q
  obtain ⟨q1, q2, q3, q4, q5, q6⟩ := q
  exact ⟨q1, q2, va_K.moved (u := U) (U := U.calling gf mk a) (Vm.Alike.refl U.vm) q3, XO.same (s := U) (U := U.calling gf mk a) rfl q4, q5, q6⟩
theorem x_callB {p : Program} {R : Room} {s : State} {mi : MethodId} {args : Array Value} {meth : Method} {c : Code} (C : XC g m p s mi args meth c) (hY : XY y my n) (hR : XR (d + 1) m R) (hl : .methodLink m.1 idx y ∈ xG) :
    CallB R s args m.1 idx y my.2.1 my.2.2.1 my.2.2.2.1 (.code y my.2.1 my.2.2.1 my.2.2.2.1 :: xG) (xrm d my) my.2.2.2.2.1 my.2.2.2.2.2 n := by
  obtain ⟨-, -, -, -, hts, -⟩ := C
  obtain ⟨-, -, hcode, hini, hd, hn, -⟩ := hY
  obtain ⟨r1, r2, -, -⟩ := hR
  refine callB_of n hts (xG_good ?_) rfl rfl rfl (hts _ hini) (hts _ hl) hd ⟨r1, ?_⟩
  · intro w hw
    rcases List.mem_cons.mp hw with rfl | hw
    · exact hcode
    · exact hw
  · show 8 + (my.2.2.1 + 11) + 60 * d ≤ R.locals
    omega
theorem x_hB {R : Room} (hR : XR d m R) (hB : B.1 + my.2.2.2.2.1 ≤ m.2.2.2.2.1 ∧ B.2 + my.2.2.2.2.2 ≤ m.2.2.2.2.2) : B.1 + my.2.2.2.2.1 ≤ R.cells ∧ B.2 + my.2.2.2.2.2 ≤ R.slots :=
  ⟨Nat.le_trans hB.1 hR.2.2.1, Nat.le_trans hB.2 hR.2.2.2⟩
theorem x_rest (hw : (rest.map fun v => v.category).sum ≤ 8) : ((rest.map (xtr g)).map fun v => v.category).sum ≤ 8 := by rw [xtr_cats]; exact hw
theorem x_invV {a ci N : Nat} {fs : List (Option Value)} {T : u_T} (hd : decode m.2.1 pc = .ok (.invokevirtual idx, 3)) (hl : .methodLink m.1 idx y ∈ xG) (hin : .instanceMethod y ∈ xG) (hse : .selects y.cls y y ∈ xG) (hY : XY y my n)
    (ha : S[a]? = some (.inr (ci, fs))) (hc : xcl[ci]? = some (y.cls, T, N)) (hn : As.length = n) (hw : (rest.map fun v => v.category).sum ≤ 8) (hB : B.1 + my.2.2.2.2.1 ≤ m.2.2.2.2.1 ∧ B.2 + my.2.2.2.2.2 ≤ m.2.2.2.2.2)
    (h : Ex g d y my (.ref a :: As) S M (fun v S' M' => Wp g (d + 1) m (pc + 3) ls (v.toList ++ rest) S' (B.1 + my.2.2.2.2.1, B.2 + my.2.2.2.2.2) M' K)) : Wp g (d + 1) m pc ls (As.reverse ++ .ref a :: rest) S B M K := by
  intro p e R s mi args below meth c H locs la Q C hR hH hl0 hret
  have hal : a < 1000 := Nat.lt_of_lt_of_le (List.getElem?_eq_some_iff.mp ha).1 hH.2.2.2
  have hea : xtr g (.ref a) = .ref (xb g + a) := xtr_ref hal
  have C' := id C
  obtain ⟨hx, hb, hml, hown, hts, hK, hO, -⟩ := C'
  have e0 : (As.reverse ++ .ref a :: rest).map (xtr g) = (As.map (xtr g)).reverse ++ .ref (xb g + a) :: rest.map (xtr g) := by
    rw [List.map_append, List.map_reverse, List.map_cons, hea]
  rw [e0]
  refine x_back hH (va_runV (Ts := xG) (As := As.map (xtr g)) (rest := rest.map (xtr g)) (b := xb g + a) (C := y.cls) (n := n) ⟨hx, hb, hml, hown, hts⟩ h ⟨x_callB C hY hR hl, hts _ hin, hts _ hse⟩ ⟨x_blind, va_recv hK hH.1 hc (xws_get ha), fun U hU hW => ⟨?_, x_world C hH hU hW⟩⟩ rfl (by rw [List.length_map]; exact hn) hl0.1 rfl (lv_room (x_rest hw)) hd (x_hB hR hB)) ?_
  · rw [List.map_cons, hea]
  · intro v S' M' H' locs' hk hH'
    have k2 := hk p e R s mi args below meth c H' locs' la Q C hR hH' hl0 hret
    rw [List.map_append] at k2
    exact k2
theorem x_invS (hd : decode m.2.1 pc = .ok (.invokestatic idx, 3)) (hl : .methodLink m.1 idx y ∈ xG) (hin : .static y ∈ xG) (hY : XY y my n)
    (hn : As.length = n) (hw : (rest.map fun v => v.category).sum ≤ 8) (hB : B.1 + my.2.2.2.2.1 ≤ m.2.2.2.2.1 ∧ B.2 + my.2.2.2.2.2 ≤ m.2.2.2.2.2)
    (h : Ex g d y my As S M (fun v S' M' => Wp g (d + 1) m (pc + 3) ls (v.toList ++ rest) S' (B.1 + my.2.2.2.2.1, B.2 + my.2.2.2.2.2) M' K)) : Wp g (d + 1) m pc ls (As.reverse ++ rest) S B M K := by
  intro p e R s mi args below meth c H locs la Q C hR hH hl0 hret
  have C' := id C
  obtain ⟨hx, hb, hml, hown, hts, hK, hO, -⟩ := C'
  have e0 : (As.reverse ++ rest).map (xtr g) = (As.map (xtr g)).reverse ++ rest.map (xtr g) := by
    rw [List.map_append, List.map_reverse]
  rw [e0]
  refine x_back hH (va_runS (Ts := xG) (As := As.map (xtr g)) (rest := rest.map (xtr g)) (n := n) ⟨hx, hb, hml, hown, hts⟩ h ⟨x_callB C hY hR hl, hts _ hin⟩ ⟨x_blind, fun U hU hW => ⟨rfl, x_world C hH hU hW⟩⟩ rfl (by rw [List.length_map]; exact hn) hl0.1 rfl (lv_room (x_rest hw)) hd (x_hB hR hB)) ?_
  intro v S' M' H' locs' hk hH'
  have k2 := hk p e R s mi args below meth c H' locs' la Q C hR hH' hl0 hret
  rw [List.map_append] at k2
  exact k2
/-- a String's method: the receiver is one of the constants -/
theorem x_invT {i : Nat} (hd : decode m.2.1 pc = .ok (.invokevirtual idx, 3)) (hl : .methodLink m.1 idx y ∈ xG) (hin : .instanceMethod y ∈ xG) (hse : .selects y.cls y y ∈ xG) (hY : XY y my n)
    (hi : i < 5) (hyc : y.cls = "java/lang/String") (hn : As.length = n) (hw : (rest.map fun v => v.category).sum ≤ 8) (hB : B.1 + my.2.2.2.2.1 ≤ m.2.2.2.2.1 ∧ B.2 + my.2.2.2.2.2 ≤ m.2.2.2.2.2)
    (h : Ex g d y my (.ref (2000 + i) :: As) S M (fun v S' M' => Wp g (d + 1) m (pc + 3) ls (v.toList ++ rest) S' (B.1 + my.2.2.2.2.1, B.2 + my.2.2.2.2.2) M' K)) : Wp g (d + 1) m pc ls (As.reverse ++ .ref (2000 + i) :: rest) S B M K := by
  intro p e R s mi args below meth c H locs la Q C hR hH hl0 hret
  have C' := id C
  obtain ⟨hx, hb, hml, hown, hts, hK, hO, -⟩ := C'
  obtain ⟨-, -, -, -, -, -, -, -, -, -, ⟨aK, aV, hE, hq⟩, -⟩ := id hO
  obtain ⟨q1, q2, q3⟩ := hq i hi
  have hea : xtr g (.ref (2000 + i)) = .ref (aK i) := xtr_sp (by omega) q1
  have e0 : (As.reverse ++ .ref (2000 + i) :: rest).map (xtr g) = (As.map (xtr g)).reverse ++ .ref (aK i) :: rest.map (xtr g) := by
    rw [List.map_append, List.map_reverse, List.map_cons, hea]
  rw [e0]
  refine x_back hH (va_runV (Ts := xG) (As := As.map (xtr g)) (rest := rest.map (xtr g)) (b := aK i) (C := y.cls) (n := n) ⟨hx, hb, hml, hown, hts⟩ h ⟨x_callB C hY hR hl, hts _ hin, hts _ hse⟩ ⟨x_blind, by rw [hyc]; exact vk_recv hE hi hH.2.1, fun U hU hW => ⟨?_, x_world C hH hU hW⟩⟩ rfl (by rw [List.length_map]; exact hn) hl0.1 rfl (lv_room (x_rest hw)) hd (x_hB hR hB)) ?_
  · rw [List.map_cons, hea]
  · intro v S' M' H' locs' hk hH'
    have k2 := hk p e R s mi args below meth c H' locs' la Q C hR hH' hl0 hret
    rw [List.map_append] at k2
    exact k2
end XB
end
section
/-! RULES: one an instruction -/
section XR1
variable {g : XG} {d : Nat} {m : XMe} {pc : Nat} {ls : XL} {st : List Value} {S : XS} {B : Nat × Nat} {M : XM} {K : Option Value → XS → XM → Prop}
theorem x_simple {pc2 : Nat} {st2 : List Value}
    (h : ∀ (p : Program) (e : Env) (R : Room) (s : State) (mi : MethodId) (args : Array Value) (below : List Frame) (meth : Method) (c : Code) (H : Heap) (locs : List Loc) (la : Array Slot) (cells slots : Nat) (Q : State → Prop), p.tables.exec = Jvm.exec → c.code = m.2.1 → W p (xl g) e R s mi args below meth c H locs cells slots Q (F0 mi pc2 la (st2.map (xtr g))) → W p (xl g) e R s mi args below meth c H locs cells slots Q (F0 mi pc la (st.map (xtr g))))
    (k : Wp g d m pc2 ls st2 S B M K) : Wp g d m pc ls st S B M K := by
  intro p e R s mi args below meth c H locs la Q C hR hH hl0 hret
  exact h p e R s mi args below meth c H locs la _ _ Q C.1 C.2.1 (k p e R s mi args below meth c H locs la Q C hR hH hl0 hret)

theorem x_iadd {x y : Int32} (hd : decode m.2.1 pc = .ok (.iadd, 1)) (k : Wp g d m (pc + 1) ls (.int (x + y) :: st) S B M K) : Wp g d m pc ls (.int y :: .int x :: st) S B M K := x_simple (fun p e R s mi args below meth c H locs la cells slots Q hx hb w => lv_iadd hx hb hd w) k
theorem x_isub {x y : Int32} (hd : decode m.2.1 pc = .ok (.isub, 1)) (k : Wp g d m (pc + 1) ls (.int (x - y) :: st) S B M K) : Wp g d m pc ls (.int y :: .int x :: st) S B M K := x_simple (fun p e R s mi args below meth c H locs la cells slots Q hx hb w => lv_isub hx hb hd w) k
theorem x_imul {x y : Int32} (hd : decode m.2.1 pc = .ok (.imul, 1)) (k : Wp g d m (pc + 1) ls (.int (x * y) :: st) S B M K) : Wp g d m pc ls (.int y :: .int x :: st) S B M K := x_simple (fun p e R s mi args below meth c H locs la cells slots Q hx hb w => lv_imul hx hb hd w) k
theorem x_iand {x y : Int32} (hd : decode m.2.1 pc = .ok (.iand, 1)) (k : Wp g d m (pc + 1) ls (.int (x &&& y) :: st) S B M K) : Wp g d m pc ls (.int y :: .int x :: st) S B M K := x_simple (fun p e R s mi args below meth c H locs la cells slots Q hx hb w => lv_iand hx hb hd w) k
theorem x_ior {x y : Int32} (hd : decode m.2.1 pc = .ok (.ior, 1)) (k : Wp g d m (pc + 1) ls (.int (x ||| y) :: st) S B M K) : Wp g d m pc ls (.int y :: .int x :: st) S B M K := x_simple (fun p e R s mi args below meth c H locs la cells slots Q hx hb w => lv_ior hx hb hd w) k
theorem x_ixor {x y : Int32} (hd : decode m.2.1 pc = .ok (.ixor, 1)) (k : Wp g d m (pc + 1) ls (.int (x ^^^ y) :: st) S B M K) : Wp g d m pc ls (.int y :: .int x :: st) S B M K := x_simple (fun p e R s mi args below meth c H locs la cells slots Q hx hb w => lv_ixor hx hb hd w) k
theorem x_ishl {x y : Int32} (hd : decode m.2.1 pc = .ok (.ishl, 1)) (k : Wp g d m (pc + 1) ls (.int (x <<< (y &&& 31)) :: st) S B M K) : Wp g d m pc ls (.int y :: .int x :: st) S B M K := x_simple (fun p e R s mi args below meth c H locs la cells slots Q hx hb w => lv_ishl hx hb hd w) k
theorem x_ishr {x y : Int32} (hd : decode m.2.1 pc = .ok (.ishr, 1)) (k : Wp g d m (pc + 1) ls (.int (x >>> (y &&& 31)) :: st) S B M K) : Wp g d m pc ls (.int y :: .int x :: st) S B M K := x_simple (fun p e R s mi args below meth c H locs la cells slots Q hx hb w => lv_ishr hx hb hd w) k
theorem x_idiv {x y : Int32} (hd : decode m.2.1 pc = .ok (.idiv, 1)) (hy : ¬ y = 0) (k : Wp g d m (pc + 1) ls (.int (x / y) :: st) S B M K) : Wp g d m pc ls (.int y :: .int x :: st) S B M K := x_simple (fun p e R s mi args below meth c H locs la cells slots Q hx hb w => lv_idiv hx hb hd hy w) k
theorem x_irem {x y : Int32} (hd : decode m.2.1 pc = .ok (.irem, 1)) (hy : ¬ y = 0) (k : Wp g d m (pc + 1) ls (.int (x - x / y * y) :: st) S B M K) : Wp g d m pc ls (.int y :: .int x :: st) S B M K := x_simple (fun p e R s mi args below meth c H locs la cells slots Q hx hb w => lv_irem hx hb hd hy w) k
theorem x_ineg {x : Int32} (hd : decode m.2.1 pc = .ok (.ineg, 1)) (k : Wp g d m (pc + 1) ls (.int (-x) :: st) S B M K) : Wp g d m pc ls (.int x :: st) S B M K := x_simple (fun p e R s mi args below meth c H locs la cells slots Q hx hb w => lv_ineg hx hb hd w) k
theorem x_i2l {x : Int32} (hd : decode m.2.1 pc = .ok (.i2l, 1)) (k : Wp g d m (pc + 1) ls (.long x.toInt64 :: st) S B M K) : Wp g d m pc ls (.int x :: st) S B M K := x_simple (fun p e R s mi args below meth c H locs la cells slots Q hx hb w => lv_i2l hx hb hd rfl w) k
theorem x_l2i {x : Int64} (hd : decode m.2.1 pc = .ok (.l2i, 1)) (k : Wp g d m (pc + 1) ls (.int x.toInt32 :: st) S B M K) : Wp g d m pc ls (.long x :: st) S B M K := x_simple (fun p e R s mi args below meth c H locs la cells slots Q hx hb w => lv_l2i hx hb hd rfl w) k
theorem x_i2b {x : Int32} (hd : decode m.2.1 pc = .ok (.i2b, 1)) (k : Wp g d m (pc + 1) ls (.int x.toInt8.toInt32 :: st) S B M K) : Wp g d m pc ls (.int x :: st) S B M K := x_simple (fun p e R s mi args below meth c H locs la cells slots Q hx hb w => lv_i2b hx hb hd rfl w) k
theorem x_i2s {x : Int32} (hd : decode m.2.1 pc = .ok (.i2s, 1)) (k : Wp g d m (pc + 1) ls (.int x.toInt16.toInt32 :: st) S B M K) : Wp g d m pc ls (.int x :: st) S B M K := x_simple (fun p e R s mi args below meth c H locs la cells slots Q hx hb w => lv_i2s hx hb hd rfl w) k
theorem x_i2c {x : Int32} (hd : decode m.2.1 pc = .ok (.i2c, 1)) (k : Wp g d m (pc + 1) ls (.int (x.toUInt32 % 65536).toInt32 :: st) S B M K) : Wp g d m pc ls (.int x :: st) S B M K := x_simple (fun p e R s mi args below meth c H locs la cells slots Q hx hb w => lv_i2c hx hb hd rfl w) k
theorem x_land {x y : Int64} (hd : decode m.2.1 pc = .ok (.land, 1)) (k : Wp g d m (pc + 1) ls (.long (x &&& y) :: st) S B M K) : Wp g d m pc ls (.long y :: .long x :: st) S B M K := x_simple (fun p e R s mi args below meth c H locs la cells slots Q hx hb w => lv_land hx hb hd w) k
theorem x_lor {x y : Int64} (hd : decode m.2.1 pc = .ok (.lor, 1)) (k : Wp g d m (pc + 1) ls (.long (x ||| y) :: st) S B M K) : Wp g d m pc ls (.long y :: .long x :: st) S B M K := x_simple (fun p e R s mi args below meth c H locs la cells slots Q hx hb w => lv_lor hx hb hd w) k
theorem x_lshl {x : Int64} {y : Int32} (hd : decode m.2.1 pc = .ok (.lshl, 1)) (k : Wp g d m (pc + 1) ls (.long (x <<< (y.toInt64 &&& 63)) :: st) S B M K) : Wp g d m pc ls (.int y :: .long x :: st) S B M K := x_simple (fun p e R s mi args below meth c H locs la cells slots Q hx hb w => lv_lshl hx hb hd rfl w) k
theorem x_lcmp {x y : Int64} (hd : decode m.2.1 pc = .ok (.lcmp, 1)) (k : Wp g d m (pc + 1) ls (.int (lg_cmp x y) :: st) S B M K) : Wp g d m pc ls (.long y :: .long x :: st) S B M K := x_simple (fun p e R s mi args below meth c H locs la cells slots Q hx hb w => W.lcmp hx hb hd w) k
theorem x_iconst {n : Int} {v : Int32} (hd : decode m.2.1 pc = .ok (.iconst n, 1)) (hv : Int32.ofInt n = v) (k : Wp g d m (pc + 1) ls (.int v :: st) S B M K) : Wp g d m pc ls (st) S B M K := x_simple (fun p e R s mi args below meth c H locs la cells slots Q hx hb w => lv_iconst hx hb hd hv w) k
theorem x_bipush {n : Int} {v : Int32} (hd : decode m.2.1 pc = .ok (.bipush n, 2)) (hv : (Int8.ofInt n).toInt32 = v) (k : Wp g d m (pc + 2) ls (.int v :: st) S B M K) : Wp g d m pc ls (st) S B M K := x_simple (fun p e R s mi args below meth c H locs la cells slots Q hx hb w => lv_bipush hx hb hd hv w) k
theorem x_sipush {n : Int} {v : Int32} (hd : decode m.2.1 pc = .ok (.sipush n, 3)) (hv : (Int16.ofInt n).toInt32 = v) (k : Wp g d m (pc + 3) ls (.int v :: st) S B M K) : Wp g d m pc ls (st) S B M K := x_simple (fun p e R s mi args below meth c H locs la cells slots Q hx hb w => lv_sipush hx hb hd hv w) k
theorem x_lconst {n : Fin 2} {v : Int64} (hd : decode m.2.1 pc = .ok (.lconst n, 1)) (hv : Int64.ofNat (n : Nat) = v) (k : Wp g d m (pc + 1) ls (.long v :: st) S B M K) : Wp g d m pc ls (st) S B M K := x_simple (fun p e R s mi args below meth c H locs la cells slots Q hx hb w => lv_lconst hx hb hd hv w) k
theorem x_goto {off : Int} {tgt : Nat} (hd : decode m.2.1 pc = .ok (.goto off, 3)) (ht : (pc : Int) + off = (tgt : Int)) (k : Wp g d m (tgt) ls (st) S B M K) : Wp g d m pc ls (st) S B M K := x_simple (fun p e R s mi args below meth c H locs la cells slots Q hx hb w => lv_goto hx hb hd ht w) k
theorem x_dup {v : Value} (hd : decode m.2.1 pc = .ok (.dup, 1)) (hc : v.category = 1) (k : Wp g d m (pc + 1) ls (v :: v :: st) S B M K) : Wp g d m pc ls (v :: st) S B M K := x_simple (fun p e R s mi args below meth c H locs la cells slots Q hx hb w => lv_dup hx hb hd (by rw [xtr_cat]; exact hc) w) k
theorem x_pop {v : Value} (hd : decode m.2.1 pc = .ok (.pop, 1)) (hc : v.category = 1) (k : Wp g d m (pc + 1) ls (st) S B M K) : Wp g d m pc ls (v :: st) S B M K := x_simple (fun p e R s mi args below meth c H locs la cells slots Q hx hb w => lv_pop hx hb hd (by rw [xtr_cat]; exact hc) w) k
theorem x_dup2 {v u : Value} (hd : decode m.2.1 pc = .ok (.dup2, 1)) (hc : v.category = 1) (hc2 : u.category = 1) (k : Wp g d m (pc + 1) ls (v :: u :: v :: u :: st) S B M K) : Wp g d m pc ls (v :: u :: st) S B M K := x_simple (fun p e R s mi args below meth c H locs la cells slots Q hx hb w => lv_dup2_11 hx hb hd (by rw [xtr_cat]; exact hc) (by rw [xtr_cat]; exact hc2) w) k
theorem x_if_eq {x : Int32} {off : Int} {tgt : Nat} (hd : decode m.2.1 pc = .ok (.ifCond .eq off, 3)) (ht : (pc : Int) + off = (tgt : Int)) (kt : x = 0 → Wp g d m tgt ls st S B M K) (kf : ¬ x = 0 → Wp g d m (pc + 3) ls st S B M K) : Wp g d m pc ls (.int x :: st) S B M K := by
  intro p e R s mi args below meth c H locs la Q C hR hH hl0 hret
  exact lv_if_eq C.1 C.2.1 hd ht (fun h => kt h p e R s mi args below meth c H locs la Q C hR hH hl0 hret) (fun h => kf h p e R s mi args below meth c H locs la Q C hR hH hl0 hret)
theorem x_if_ne {x : Int32} {off : Int} {tgt : Nat} (hd : decode m.2.1 pc = .ok (.ifCond .ne off, 3)) (ht : (pc : Int) + off = (tgt : Int)) (kt : ¬ x = 0 → Wp g d m tgt ls st S B M K) (kf : x = 0 → Wp g d m (pc + 3) ls st S B M K) : Wp g d m pc ls (.int x :: st) S B M K := by
  intro p e R s mi args below meth c H locs la Q C hR hH hl0 hret
  exact lv_if_ne C.1 C.2.1 hd ht (fun h => kt h p e R s mi args below meth c H locs la Q C hR hH hl0 hret) (fun h => kf h p e R s mi args below meth c H locs la Q C hR hH hl0 hret)
theorem x_if_lt {x : Int32} {off : Int} {tgt : Nat} (hd : decode m.2.1 pc = .ok (.ifCond .lt off, 3)) (ht : (pc : Int) + off = (tgt : Int)) (kt : x < 0 → Wp g d m tgt ls st S B M K) (kf : ¬ x < 0 → Wp g d m (pc + 3) ls st S B M K) : Wp g d m pc ls (.int x :: st) S B M K := by
  intro p e R s mi args below meth c H locs la Q C hR hH hl0 hret
  exact lv_if_lt C.1 C.2.1 hd ht (fun h => kt h p e R s mi args below meth c H locs la Q C hR hH hl0 hret) (fun h => kf h p e R s mi args below meth c H locs la Q C hR hH hl0 hret)
theorem x_if_ge {x : Int32} {off : Int} {tgt : Nat} (hd : decode m.2.1 pc = .ok (.ifCond .ge off, 3)) (ht : (pc : Int) + off = (tgt : Int)) (kt : 0 ≤ x → Wp g d m tgt ls st S B M K) (kf : ¬ 0 ≤ x → Wp g d m (pc + 3) ls st S B M K) : Wp g d m pc ls (.int x :: st) S B M K := by
  intro p e R s mi args below meth c H locs la Q C hR hH hl0 hret
  exact lv_if_ge C.1 C.2.1 hd ht (fun h => kt h p e R s mi args below meth c H locs la Q C hR hH hl0 hret) (fun h => kf h p e R s mi args below meth c H locs la Q C hR hH hl0 hret)
theorem x_if_gt {x : Int32} {off : Int} {tgt : Nat} (hd : decode m.2.1 pc = .ok (.ifCond .gt off, 3)) (ht : (pc : Int) + off = (tgt : Int)) (kt : 0 < x → Wp g d m tgt ls st S B M K) (kf : ¬ 0 < x → Wp g d m (pc + 3) ls st S B M K) : Wp g d m pc ls (.int x :: st) S B M K := by
  intro p e R s mi args below meth c H locs la Q C hR hH hl0 hret
  exact lv_if_gt C.1 C.2.1 hd ht (fun h => kt h p e R s mi args below meth c H locs la Q C hR hH hl0 hret) (fun h => kf h p e R s mi args below meth c H locs la Q C hR hH hl0 hret)
theorem x_if_le {x : Int32} {off : Int} {tgt : Nat} (hd : decode m.2.1 pc = .ok (.ifCond .le off, 3)) (ht : (pc : Int) + off = (tgt : Int)) (kt : x ≤ 0 → Wp g d m tgt ls st S B M K) (kf : ¬ x ≤ 0 → Wp g d m (pc + 3) ls st S B M K) : Wp g d m pc ls (.int x :: st) S B M K := by
  intro p e R s mi args below meth c H locs la Q C hR hH hl0 hret
  exact lv_if_le C.1 C.2.1 hd ht (fun h => kt h p e R s mi args below meth c H locs la Q C hR hH hl0 hret) (fun h => kf h p e R s mi args below meth c H locs la Q C hR hH hl0 hret)
theorem x_icmp_eq {x y : Int32} {off : Int} {tgt : Nat} (hd : decode m.2.1 pc = .ok (.if_icmp .eq off, 3)) (ht : (pc : Int) + off = (tgt : Int)) (kt : x = y → Wp g d m tgt ls st S B M K) (kf : ¬ x = y → Wp g d m (pc + 3) ls st S B M K) : Wp g d m pc ls (.int y :: .int x :: st) S B M K := by
  intro p e R s mi args below meth c H locs la Q C hR hH hl0 hret
  exact lv_icmp_eq C.1 C.2.1 hd ht (fun h => kt h p e R s mi args below meth c H locs la Q C hR hH hl0 hret) (fun h => kf h p e R s mi args below meth c H locs la Q C hR hH hl0 hret)
theorem x_icmp_ne {x y : Int32} {off : Int} {tgt : Nat} (hd : decode m.2.1 pc = .ok (.if_icmp .ne off, 3)) (ht : (pc : Int) + off = (tgt : Int)) (kt : ¬ x = y → Wp g d m tgt ls st S B M K) (kf : x = y → Wp g d m (pc + 3) ls st S B M K) : Wp g d m pc ls (.int y :: .int x :: st) S B M K := by
  intro p e R s mi args below meth c H locs la Q C hR hH hl0 hret
  exact lv_icmp_ne C.1 C.2.1 hd ht (fun h => kt h p e R s mi args below meth c H locs la Q C hR hH hl0 hret) (fun h => kf h p e R s mi args below meth c H locs la Q C hR hH hl0 hret)
theorem x_icmp_lt {x y : Int32} {off : Int} {tgt : Nat} (hd : decode m.2.1 pc = .ok (.if_icmp .lt off, 3)) (ht : (pc : Int) + off = (tgt : Int)) (kt : x < y → Wp g d m tgt ls st S B M K) (kf : ¬ x < y → Wp g d m (pc + 3) ls st S B M K) : Wp g d m pc ls (.int y :: .int x :: st) S B M K := by
  intro p e R s mi args below meth c H locs la Q C hR hH hl0 hret
  exact lv_icmp_lt C.1 C.2.1 hd ht (fun h => kt h p e R s mi args below meth c H locs la Q C hR hH hl0 hret) (fun h => kf h p e R s mi args below meth c H locs la Q C hR hH hl0 hret)
theorem x_icmp_ge {x y : Int32} {off : Int} {tgt : Nat} (hd : decode m.2.1 pc = .ok (.if_icmp .ge off, 3)) (ht : (pc : Int) + off = (tgt : Int)) (kt : y ≤ x → Wp g d m tgt ls st S B M K) (kf : ¬ y ≤ x → Wp g d m (pc + 3) ls st S B M K) : Wp g d m pc ls (.int y :: .int x :: st) S B M K := by
  intro p e R s mi args below meth c H locs la Q C hR hH hl0 hret
  exact lv_icmp_ge C.1 C.2.1 hd ht (fun h => kt h p e R s mi args below meth c H locs la Q C hR hH hl0 hret) (fun h => kf h p e R s mi args below meth c H locs la Q C hR hH hl0 hret)
theorem x_icmp_gt {x y : Int32} {off : Int} {tgt : Nat} (hd : decode m.2.1 pc = .ok (.if_icmp .gt off, 3)) (ht : (pc : Int) + off = (tgt : Int)) (kt : y < x → Wp g d m tgt ls st S B M K) (kf : ¬ y < x → Wp g d m (pc + 3) ls st S B M K) : Wp g d m pc ls (.int y :: .int x :: st) S B M K := by
  intro p e R s mi args below meth c H locs la Q C hR hH hl0 hret
  exact lv_icmp_gt C.1 C.2.1 hd ht (fun h => kt h p e R s mi args below meth c H locs la Q C hR hH hl0 hret) (fun h => kf h p e R s mi args below meth c H locs la Q C hR hH hl0 hret)
theorem x_icmp_le {x y : Int32} {off : Int} {tgt : Nat} (hd : decode m.2.1 pc = .ok (.if_icmp .le off, 3)) (ht : (pc : Int) + off = (tgt : Int)) (kt : x ≤ y → Wp g d m tgt ls st S B M K) (kf : ¬ x ≤ y → Wp g d m (pc + 3) ls st S B M K) : Wp g d m pc ls (.int y :: .int x :: st) S B M K := by
  intro p e R s mi args below meth c H locs la Q C hR hH hl0 hret
  exact lv_icmp_le C.1 C.2.1 hd ht (fun h => kt h p e R s mi args below meth c H locs la Q C hR hH hl0 hret) (fun h => kf h p e R s mi args below meth c H locs la Q C hR hH hl0 hret)
theorem x_lookup {dflt : Int} {ps : Array (Int × Int)} {len : Nat} {x : Int32} {off : Int} {tgt : Nat} (hd : decode m.2.1 pc = .ok (.lookupswitch dflt ps, len)) (hp : (ps.toList.zip (ps.toList.drop 1)).all (fun (a, next) => a.1 < next.1) = true) (ho : Op.lookupswitch.offset ps.toList dflt x.toInt = off) (ht : (pc : Int) + off = (tgt : Int))
    (k : Wp g d m tgt ls st S B M K) : Wp g d m pc ls (.int x :: st) S B M K := x_simple (fun p e R s mi args below meth c H locs la cells slots Q hx hb w => lv_lookup hx hb hd hp ho ht w) k
theorem x_tableOut {dflt lo hi : Int} {offs : Array Int} {len : Nat} {x : Int32} {tgt : Nat} (hd : decode m.2.1 pc = .ok (.tableswitch dflt lo hi offs, len)) (h : x.toInt < lo ∨ hi < x.toInt) (ht : (pc : Int) + dflt = (tgt : Int))
    (k : Wp g d m tgt ls st S B M K) : Wp g d m pc ls (.int x :: st) S B M K := x_simple (fun p e R s mi args below meth c H locs la cells slots Q hx hb w => lv_tableOut hx hb hd h ht w) k
theorem x_tableIn {dflt lo hi : Int} {offs : Array Int} {len : Nat} {x : Int32} {off : Int} {tgt : Nat} (hd : decode m.2.1 pc = .ok (.tableswitch dflt lo hi offs, len)) (h1 : ¬ x.toInt < lo) (h2 : ¬ hi < x.toInt) (ho : offs[(x.toInt - lo).toNat]? = some off) (ht : (pc : Int) + off = (tgt : Int))
    (k : Wp g d m tgt ls st S B M K) : Wp g d m pc ls (.int x :: st) S B M K := x_simple (fun p e R s mi args below meth c H locs la cells slots Q hx hb w => lv_tableIn hx hb hd h1 h2 ho ht w) k
/-- pool constants -/
theorem x_ldc {v : Int32} {idx : Nat} (hd : decode m.2.1 pc = .ok (.ldc idx, 2)) (hw : .constant m.1 idx v ∈ xG) (k : Wp g d m (pc + 2) ls (.int v :: st) S B M K) : Wp g d m pc ls st S B M K := by
  intro p e R s mi args below meth c H locs la Q C hR hH hl0 hret
  exact lv_ldc C.1 C.2.1 C.2.2.2.1 (C.2.2.2.2.1 _ hw) hd (k p e R s mi args below meth c H locs la Q C hR hH hl0 hret)
theorem x_ldcw {v : Int32} {idx : Nat} (hd : decode m.2.1 pc = .ok (.ldc_w idx, 3)) (hw : .constant m.1 idx v ∈ xG) (k : Wp g d m (pc + 3) ls (.int v :: st) S B M K) : Wp g d m pc ls st S B M K := by
  intro p e R s mi args below meth c H locs la Q C hR hH hl0 hret
  exact lv_ldcw C.1 C.2.1 C.2.2.2.1 (C.2.2.2.2.1 _ hw) hd (k p e R s mi args below meth c H locs la Q C hR hH hl0 hret)
theorem x_ldc2 {v : Int64} {idx : Nat} (hd : decode m.2.1 pc = .ok (.ldc2_w idx, 3)) (hw : .constantLong m.1 idx v ∈ xG) (k : Wp g d m (pc + 3) ls (.long v :: st) S B M K) : Wp g d m pc ls st S B M K := by
  intro p e R s mi args below meth c H locs la Q C hR hH hl0 hret
  exact lv_ldc2 C.1 C.2.1 C.2.2.2.1 (C.2.2.2.2.1 _ hw) hd (k p e R s mi args below meth c H locs la Q C hR hH hl0 hret)
theorem x_ldcT (i : Nat) (hi : i < 5) {idx : Nat} (hix : xsidx i = idx) (hd : decode m.2.1 pc = .ok (.ldc idx, 2)) (hm : m.1 = RX6) (k : Wp g d m (pc + 2) ls (.ref (2000 + i) :: st) S B M K) : Wp g d m pc ls st S B M K := by
  subst hix
  intro p e R s mi args below meth c H locs la Q C hR hH hl0 hret
  have kk := k p e R s mi args below meth c H locs la Q C hR hH hl0 hret
  obtain ⟨hx, hb, -, hown, -, -, hO, -⟩ := C
  obtain ⟨-, -, -, -, -, -, -, -, -, -, ⟨aK, aV, hE, hq⟩, -⟩ := hO
  obtain ⟨q1, q2, q3⟩ := hq i hi
  have hea : xtr g (.ref (2000 + i)) = .ref (aK i) := xtr_sp (by omega) q1
  rw [List.map_cons, hea] at kk
  exact va_ldcS hx hb (by rw [hm] at hown; exact hown) q3 hd kk
/-- locals -/
theorem x_iload_n {k : Fin 4} {x : Int32} (hd : decode m.2.1 pc = .ok (.iload_n k, 1)) (hi : ls[(k : Nat)]? = some (some (.int x))) (kk : Wp g d m (pc + 1) ls (.int x :: st) S B M K) : Wp g d m pc ls st S B M K := by
  intro p e R s mi args below meth c H locs la Q C hR hH hl0 hret
  exact lv_iload_n C.1 C.2.1 hd rfl (xlv_at hl0 hi) (kk p e R s mi args below meth c H locs la Q C hR hH hl0 hret)
theorem x_iload {i : Nat} {x : Int32} (hd : decode m.2.1 pc = .ok (.iload i, 2)) (hi : ls[i]? = some (some (.int x))) (kk : Wp g d m (pc + 2) ls (.int x :: st) S B M K) : Wp g d m pc ls st S B M K := by
  intro p e R s mi args below meth c H locs la Q C hR hH hl0 hret
  exact lv_iload C.1 C.2.1 hd (xlv_at hl0 hi) (kk p e R s mi args below meth c H locs la Q C hR hH hl0 hret)
theorem x_lload_n {k : Fin 4} {x : Int64} (hd : decode m.2.1 pc = .ok (.lload_n k, 1)) (hi : ls[(k : Nat)]? = some (some (.long x))) (kk : Wp g d m (pc + 1) ls (.long x :: st) S B M K) : Wp g d m pc ls st S B M K := by
  intro p e R s mi args below meth c H locs la Q C hR hH hl0 hret
  exact lv_lload_n C.1 C.2.1 hd rfl (xlv_at hl0 hi) (kk p e R s mi args below meth c H locs la Q C hR hH hl0 hret)
theorem x_lload {i : Nat} {x : Int64} (hd : decode m.2.1 pc = .ok (.lload i, 2)) (hi : ls[i]? = some (some (.long x))) (kk : Wp g d m (pc + 2) ls (.long x :: st) S B M K) : Wp g d m pc ls st S B M K := by
  intro p e R s mi args below meth c H locs la Q C hR hH hl0 hret
  exact lv_lload C.1 C.2.1 hd (xlv_at hl0 hi) (kk p e R s mi args below meth c H locs la Q C hR hH hl0 hret)
/-- a reference that is a local: null or not -/
theorem x_aloadG {i : Nat} {v : Nat} (hi : ls[i]? = some (some (.ref v))) {la : Array Slot} {nL : Nat} (hl0 : lv_has la nL (xlv g ls)) : ∃ r : Option Nat, la[i]? = some (.val (va_rf r)) ∧ xtr g (.ref v) = va_rf r := by
  have h := xlv_at hl0 hi
  by_cases hv : v < 1000
  · exact ⟨some (xb g + v), by rw [h, xtr_ref hv]; rfl, xtr_ref hv⟩
  · have e : xtr g (.ref v) = va_rf (xsp g v) := if_neg hv
    exact ⟨xsp g v, by rw [h, e], e⟩
theorem x_aload_n {k : Fin 4} {v : Nat} (hd : decode m.2.1 pc = .ok (.aload_n k, 1)) (hi : ls[(k : Nat)]? = some (some (.ref v))) (kk : Wp g d m (pc + 1) ls (.ref v :: st) S B M K) : Wp g d m pc ls st S B M K := by
  intro p e R s mi args below meth c H locs la Q C hR hH hl0 hret
  obtain ⟨r, h1, h2⟩ := x_aloadG hi hl0
  have k2 := kk p e R s mi args below meth c H locs la Q C hR hH hl0 hret
  rw [List.map_cons, h2] at k2
  cases r with
  | none => exact lv_aload_nN C.1 C.2.1 hd rfl h1 k2
  | some a => exact lv_aload_n C.1 C.2.1 hd rfl h1 k2
theorem x_aload {i : Nat} {v : Nat} (hd : decode m.2.1 pc = .ok (.aload i, 2)) (hi : ls[i]? = some (some (.ref v))) (kk : Wp g d m (pc + 2) ls (.ref v :: st) S B M K) : Wp g d m pc ls st S B M K := by
  intro p e R s mi args below meth c H locs la Q C hR hH hl0 hret
  obtain ⟨r, h1, h2⟩ := x_aloadG hi hl0
  have k2 := kk p e R s mi args below meth c H locs la Q C hR hH hl0 hret
  rw [List.map_cons, h2] at k2
  cases r with
  | none => exact lv_aloadN C.1 C.2.1 hd h1 k2
  | some a => exact lv_aload C.1 C.2.1 hd h1 k2
/-- a store: what comes behind; the slot ahead may not hold a long -/
theorem xlv_store {la : Array Slot} {nL i : Nat} {v : Value} {ls' : XL} (hlt : i < nL) (hls : ls' = ls.set i (some v)) (hp : ∀ j w, j + 1 = i → ls[j]? = some (some w) → w.category ≠ 2)
    (h : lv_has la nL ((i, xtr g v) :: (xlv g ls).filter (fun q => !(q.1 == i) && !(q.1 + 1 == i && q.2.category == 2)))) : lv_has la nL (xlv g ls') := by
  subst hls
  refine xlv_weaken h (fun j w hj => ?_)
  by_cases hji : j = i
  · subst hji
    have hl : j < ls.length := by
      have := (List.getElem?_eq_some_iff.mp hj).1
      simpa using this
    rw [List.getElem?_set_self hl] at hj
    cases hj
    exact List.mem_cons_self
  · rw [List.getElem?_set_ne (Ne.symm hji)] at hj
    refine List.mem_cons_of_mem _ (List.mem_filter.mpr ⟨xlv_mem.mpr ⟨w, hj, rfl⟩, ?_⟩)
    simp only [Bool.and_eq_true, Bool.not_eq_true', beq_eq_false_iff_ne, ne_eq, hji, not_false_eq_true, true_and]
    rw [Bool.and_eq_false_iff]
    by_cases hj1 : j + 1 = i
    · right
      have := hp j w hj1 hj
      rw [xtr_cat]
      simpa using this
    · left
      simpa using hj1
theorem x_istore_n {k : Fin 4} {x : Int32} {ls' : XL} (hd : decode m.2.1 pc = .ok (.istore_n k, 1)) (hlt : (k : Nat) < m.2.2.1) (hls : ls' = ls.set k (some (.int x))) (hp : ∀ j w, j + 1 = (k : Nat) → ls[j]? = some (some w) → w.category ≠ 2)
    (kk : Wp g d m (pc + 1) ls' st S B M K) : Wp g d m pc ls (.int x :: st) S B M K := by
  intro p e R s mi args below meth c H locs la Q C hR hH hl0 hret
  exact lv_istore_n C.1 C.2.1 hd rfl hl0 hlt rfl (fun la' h => kk p e R s mi args below meth c H locs la' Q C hR hH (xlv_store (v := .int x) hlt hls hp h) hret)
theorem x_istore {i : Nat} {x : Int32} {ls' : XL} (hd : decode m.2.1 pc = .ok (.istore i, 2)) (hlt : i < m.2.2.1) (hls : ls' = ls.set i (some (.int x))) (hp : ∀ j w, j + 1 = i → ls[j]? = some (some w) → w.category ≠ 2)
    (kk : Wp g d m (pc + 2) ls' st S B M K) : Wp g d m pc ls (.int x :: st) S B M K := by
  intro p e R s mi args below meth c H locs la Q C hR hH hl0 hret
  exact lv_istore C.1 C.2.1 hd hl0 hlt rfl (fun la' h => kk p e R s mi args below meth c H locs la' Q C hR hH (xlv_store (v := .int x) hlt hls hp h) hret)
theorem x_astore_n {k : Fin 4} {x : Nat} {ls' : XL} (hx1 : x < 1000) (hd : decode m.2.1 pc = .ok (.astore_n k, 1)) (hlt : (k : Nat) < m.2.2.1) (hls : ls' = ls.set k (some (.ref x))) (hp : ∀ j w, j + 1 = (k : Nat) → ls[j]? = some (some w) → w.category ≠ 2)
    (kk : Wp g d m (pc + 1) ls' st S B M K) : Wp g d m pc ls (.ref x :: st) S B M K := by
  intro p e R s mi args below meth c H locs la Q C hR hH hl0 hret
  have he : xtr g (.ref x) = .ref (xb g + x) := xtr_ref hx1
  rw [List.map_cons, he]
  refine lv_astore_n C.1 C.2.1 hd rfl hl0 hlt rfl (fun la' h => kk p e R s mi args below meth c H locs la' Q C hR hH (xlv_store (v := .ref x) hlt hls hp ?_) hret)
  rw [he]; exact h
theorem x_astore {i : Nat} {x : Nat} {ls' : XL} (hx1 : x < 1000) (hd : decode m.2.1 pc = .ok (.astore i, 2)) (hlt : i < m.2.2.1) (hls : ls' = ls.set i (some (.ref x))) (hp : ∀ j w, j + 1 = i → ls[j]? = some (some w) → w.category ≠ 2)
    (kk : Wp g d m (pc + 2) ls' st S B M K) : Wp g d m pc ls (.ref x :: st) S B M K := by
  intro p e R s mi args below meth c H locs la Q C hR hH hl0 hret
  have he : xtr g (.ref x) = .ref (xb g + x) := xtr_ref hx1
  rw [List.map_cons, he]
  refine lv_astore C.1 C.2.1 hd hl0 hlt rfl (fun la' h => kk p e R s mi args below meth c H locs la' Q C hR hH (xlv_store (v := .ref x) hlt hls hp ?_) hret)
  rw [he]; exact h
theorem x_iinc {i : Nat} {n : Int} {x : Int32} {ls' : XL} (hd : decode m.2.1 pc = .ok (.iinc i n, 3)) (hlt : i < m.2.2.1) (hi : ls[i]? = some (some (.int x))) (hls : ls' = ls.set i (some (.int (x + Int32.ofInt n)))) (hp : ∀ j w, j + 1 = i → ls[j]? = some (some w) → w.category ≠ 2)
    (kk : Wp g d m (pc + 3) ls' st S B M K) : Wp g d m pc ls st S B M K := by
  intro p e R s mi args below meth c H locs la Q C hR hH hl0 hret
  have hm : (i, Value.int x) ∈ xlv g ls := xlv_mem.mpr ⟨.int x, hi, rfl⟩
  obtain ⟨k, hk⟩ := List.getElem?_of_mem hm
  exact lv_iinc C.1 C.2.1 hd hl0 hk rfl hlt rfl (fun la' h => kk p e R s mi args below meth c H locs la' Q C hR hH (xlv_store (v := .int (x + Int32.ofInt n)) hlt hls hp h) hret)
/-- the end of a method -/
theorem x_ret {v : Option Value} (hst : v.toList = st) (hrt : xrt m.2.2.2.1 v) (hd : decode m.2.1 pc = .ok (xri m.2.2.2.1, 1)) (hB : B.1 ≤ m.2.2.2.2.1 ∧ B.2 ≤ m.2.2.2.2.2) (k : K v S M) : Wp g d m pc ls st S B M K := by
  subst hst
  intro p e R s mi args below meth c H locs la Q C hR hH hl0 hret
  exact W.widen hB.1 hB.2 (hret v pc la H locs S M hrt hd k hH)
end XR1
end
section
/-! MEMORY: rules of fields, rows, calls of constructors, what stands outside -/
section XR2
variable {g : XG} {d : Nat} {m : XMe} {pc : Nat} {ls : XL} {st : List Value} {S : XS} {B : Nat × Nat} {M : XM} {K : Option Value → XS → XM → Prop}
/-- a class of ours whose fields may be used -/
def XF (ci : Nat) : Prop := ∃ (C : String) (T : u_T) (N : Nat) (ty : Nat → FieldType), xcl[ci]? = some (C, T, N) ∧ (∀ w ∈ u_ws C T N, w ∈ xG) ∧ (∀ k, k < N → parseFieldDescriptor (T k).2.2.1 = some (ty k)) ∧ (∀ a, a < N → ∀ b, b < N → a ≠ b → (T a).2.1 ≠ (T b).2.1)
/-- a field link: of the class own, entry idx, to field k of class ci; of type ty, final or not -/
def XFl (own : String) (idx ci k : Nat) (ty : FieldType) (fin : Bool) : Prop := XF ci ∧ ∃ (C : String) (T : u_T) (N : Nat), xcl[ci]? = some (C, T, N) ∧ k < N ∧ .fieldLink own idx (T k).1 (T k).2.1 (T k).2.2.1 ∈ xG ∧ parseFieldDescriptor (T k).2.2.1 = some ty ∧ (T k).2.2.2 = fin ∧ (T k).1 = C
theorem XFl.of {own : String} {idx ci k : Nat} {ty : FieldType} {fin : Bool} (h : XF ci) (C : String) (T : u_T) (N : Nat) (h1 : xcl[ci]? = some (C, T, N)) (h2 : k < N) (h3 : .fieldLink own idx (T k).1 (T k).2.1 (T k).2.2.1 ∈ xG) (h4 : parseFieldDescriptor (T k).2.2.1 = some ty) (h5 : (T k).2.2.2 = fin) (h6 : (T k).1 = C) : XFl own idx ci k ty fin := ⟨h, C, T, N, h1, h2, h3, h4, h5, h6⟩
def xV (g : XG) (M : XM) (a j : Nat) (o : Option Value) : Value := match o with
  | none => .int (M.1 a j)
  | some v => xtr g v
theorem xE_obj {M : XM} {a ci : Nat} {fs : List (Option Value)} : xE g M a (.inr (ci, fs)) = .inr (ci, fs.mapIdx (xV g M a)) := rfl
theorem xE_int {M : XM} {a t n : Nat} (h : t ≠ 3) : xE g M a (.inl (t, n)) = .inl (xcT g t, n, .inl (M.1 a)) := by
  show Sum.inl _ = _
  rw [if_neg h]
theorem xE_long {M : XM} {a n : Nat} : xE g M a (.inl (3, n)) = .inl (xcT g 3, n, .inr (.inl (M.2 a))) := rfl
theorem x_getG {a idx ci k : Nat} {ty : FieldType} {fin : Bool} {fs : List (Option Value)} {o : Option Value} {w : Value} (hd : decode m.2.1 pc = .ok (.getfield idx, 3)) (hf : XFl m.1 idx ci k ty fin) (ha : S[a]? = some (.inr (ci, fs))) (hk : fs[k]? = some o) (hw : xtr g w = xV g M a k o)
    (kk : Wp g d m (pc + 3) ls (w :: st) S B M K) : Wp g d m pc ls (.ref a :: st) S B M K := by
  intro p e R s mi args below meth c H locs la Q C hR hH hl0 hret
  have hal : a < 1000 := Nat.lt_of_lt_of_le (List.getElem?_eq_some_iff.mp ha).1 hH.2.2.2
  have k2 := kk p e R s mi args below meth c H locs la Q C hR hH hl0 hret
  obtain ⟨hx, hb, hml, hown, hts, hK, hO, -⟩ := C
  obtain ⟨⟨C1, T1, N1, ty1, g1, g2, g3, g4⟩, C2, T2, N2, f1, f2, f3, f4, f5, f6⟩ := hf
  cases g1.symm.trans f1
  have e0 : (Value.ref a :: st).map (xtr g) = .ref (xb g + a) :: st.map (xtr g) := by rw [List.map_cons, xtr_ref hal]
  rw [e0]
  refine va_get (D := xD g) (cl := xcl) (ci := ci) (T := T1) (N := N1) (C := C1) (v := xtr g w) (fs := fs.mapIdx (xV g M a)) hx hb hts g2 hown hK hH.1 a (xws_get ha) g1 k f2 (hts _ f3) (fun _ h9 => h9) ?_ hd k2
  rw [List.getElem?_mapIdx, hk, hw]
  rfl
theorem x_getI {a idx ci k : Nat} {ty : FieldType} {fin : Bool} {fs : List (Option Value)} (hd : decode m.2.1 pc = .ok (.getfield idx, 3)) (hf : XFl m.1 idx ci k ty fin) (ha : S[a]? = some (.inr (ci, fs))) (hk : fs[k]? = some none)
    (kk : Wp g d m (pc + 3) ls (.int (M.1 a k) :: st) S B M K) : Wp g d m pc ls (.ref a :: st) S B M K := x_getG hd hf ha hk rfl kk
theorem x_getR {a idx ci k : Nat} {ty : FieldType} {fin : Bool} {fs : List (Option Value)} {v : Value} (hd : decode m.2.1 pc = .ok (.getfield idx, 3)) (hf : XFl m.1 idx ci k ty fin) (ha : S[a]? = some (.inr (ci, fs))) (hk : fs[k]? = some (some v))
    (kk : Wp g d m (pc + 3) ls (v :: st) S B M K) : Wp g d m pc ls (.ref a :: st) S B M K := x_getG hd hf ha hk rfl kk
/-- behind a store the heap is the new world's -/
theorem xH_upd {s : State} {H H1 : Heap} {locs : List Loc} {S' : XS} {M' : XM} {a k : Nat} {e e' : (Nat × Nat) ⊕ (Nat × List (Option Value))} (hH : XH g s H locs S M) (h : S[a]? = some e) (hS : S' = S.set a e') (hM : ∀ k, k ≠ a → M'.1 k = M.1 k ∧ M'.2 k = M.2 k)
    (he : va_at (xD g) xcl (xb g + a, xE g M' a e') H1) (z : H1.size = H.size) (oq : ∀ q : Nat, q ≠ xb g + a → H1[q]? = H[q]?) : XH g s H1 (locs ++ [⟨xb g + a, k⟩]) S' M' := by
  subst hS
  have hl := (List.getElem?_eq_some_iff.mp h).1
  have hP := hH.1.set (xws_D g S M) (xws_get h) he oq
  rw [xws_upd (S' := S.set a e') h (fun k hk => List.getElem?_set_ne (Ne.symm hk)) (List.getElem?_set_self hl) hM] at hP
  exact ⟨hP, hH.2.1.put z oq (Nat.le_add_right _ _), by rw [z, List.length_set]; exact hH.2.2.1, by rw [List.length_set]; exact hH.2.2.2⟩
theorem xM_put {M : XM} {a k : Nat} {x : Int32} : ∀ j, j ≠ a → (xput M a k x).1 j = M.1 j ∧ (xput M a k x).2 j = M.2 j := fun j hj => ⟨by funext q; simp [xput, hj], rfl⟩
theorem xM_putL {M : XM} {a k : Nat} {x : Int64} : ∀ j, j ≠ a → (xputL M a k x).1 j = M.1 j ∧ (xputL M a k x).2 j = M.2 j := fun j hj => ⟨rfl, by funext q; simp [xputL, hj]⟩
theorem xS_same {a : Nat} {e : (Nat × Nat) ⊕ (Nat × List (Option Value))} (h : S[a]? = some e) : S = S.set a e := by
  apply List.ext_getElem?
  intro k
  by_cases hk : k = a
  · subst hk; rw [List.getElem?_set_self (List.getElem?_eq_some_iff.mp h).1, h]
  · rw [List.getElem?_set_ne (Ne.symm hk)]
/-- what a store of value w into field k makes of an object's cell -/
theorem x_objset {s : State} {D : va_G} {a ci k : Nat} {C : String} {T : u_T} {N : Nat} {H1 : Heap} {fs fs' : List Value} {cell : Cell} {w : Value} (hc : xcl[ci]? = some (C, T, N)) (hk : k < N) (hkl : k < fs.length) (hap : ∀ x y, x < N → y < N → x ≠ y → (D.2 ci) x ≠ (D.2 ci) y)
    (q2 : cell.cls = D.1 ci) (q3 : cell.vm = .none) (q4 : ∀ j, j < N → cell.slots[(D.2 ci) j]? = some (vp_V fs j)) (e1 : H1[a]? = some (cell.setSlot ((D.2 ci) k) w)) (hfs : fs' = fs.set k w) : va_at D xcl (a, .inr (ci, fs')) H1 := by
  subst hfs
  exact ⟨_, hc, t_OB.to (V := updV (vp_V fs) k w) ⟨_, e1, q2, q3, t_set q4 hap hk w⟩ (fun j _ => vp_updV_set hkl w j)⟩
theorem x_putI {a idx ci k : Nat} {ty : FieldType} {fs : List (Option Value)} {x : Int32} (hd : decode m.2.1 pc = .ok (.putfield idx, 3)) (hf : XFl m.1 idx ci k ty false) (ha : S[a]? = some (.inr (ci, fs))) (hk : fs[k]? = some none) (hn : narrow ty (.int x) = .int x) (hfit : fits ty (.int x) = true)
    (kk : Wp g d m (pc + 3) ls st S B (xput M a k x) K) : Wp g d m pc ls (.int x :: .ref a :: st) S B M K := by
  intro p e R s mi args below meth c H locs la Q C hR hH hl0 hret
  have hal : a < 1000 := Nat.lt_of_lt_of_le (List.getElem?_eq_some_iff.mp ha).1 hH.2.2.2
  have C' := id C
  obtain ⟨hx, hb, hml, hown, hts, hK, hO, -⟩ := C'
  obtain ⟨⟨C1, T1, N1, ty1, g1, g2, g3, g4⟩, C2, T2, N2, f1, f2, f3, f4, f5, f6⟩ := hf
  cases g1.symm.trans f1
  have e0 : (Value.int x :: Value.ref a :: st).map (xtr g) = .int x :: .ref (xb g + a) :: st.map (xtr g) := by rw [List.map_cons, List.map_cons, xtr_ref hal]; rfl
  rw [e0]
  have hap := va_apart (own := m.1) hts g2 ty1 g3 g4 hK g1
  obtain ⟨r, h1, cell, q1, q2, q3, q4⟩ := hH.1 a _ (xws_get ha)
  obtain rfl : r = (C1, T1, N1) := Option.some.inj (h1.symm.trans g1)
  obtain ⟨hS, hfc, kC, hkC, hkind⟩ := hK.1 ci _ g1
  obtain ⟨cf, kf, fi, f, hi, hsl⟩ := hS k f2
  have hlay := hts _ (g2 _ (u_in_lay f2))
  unfold u_lay at hlay
  rw [if_neg (by rw [f5]; decide)] at hlay
  have hst := (u_facts hfc hkC (u_lays hts g2 f2) hi).1
  have h6 := u_store hfc hkC hkind hlay hi f4 hn hfit
  refine W.putK hx hb (f := f) ⟨hown, hts _ f3, ⟨_, _, _, hi⟩, hst⟩ (by rw [q2]; exact h6) q1 q3 (by rw [hsl]; exact k2_hasslot (q4 k f2)) rfl rfl hd fun H' e1 e2 e3 => ?_
  rw [hsl] at e1 ⊢
  refine kk p e R s mi args below meth c H' _ la Q C hR (xH_upd hH ha (xS_same ha) xM_put ?_ e2 e3) hl0 hret
  refine x_objset (s := s) g1 f2 ?_ hap q2 q3 q4 e1 ?_
  · rw [List.length_mapIdx]; exact (List.getElem?_eq_some_iff.mp hk).1
  · apply List.ext_getElem?
    intro j
    by_cases hj : j = k
    · subst hj
      rw [List.getElem?_set_self (by rw [List.length_mapIdx]; exact (List.getElem?_eq_some_iff.mp hk).1), List.getElem?_mapIdx, hk]
      simp [xput]
    · rw [List.getElem?_set_ne (Ne.symm hj), List.getElem?_mapIdx, List.getElem?_mapIdx]
      congr 1
      funext o
      cases o with
      | none => show Value.int _ = Value.int _; simp [xput, hj]
      | some v => rfl
/-- in a constructor: a final reference -/
theorem x_putR {a idx ci k r0 : Nat} {ty : FieldType} {fs : List (Option Value)} {o : Option Value} (hd : decode m.2.1 pc = .ok (.putfield idx, 3)) (hf : XFl m.1 idx ci k ty true) (hcm : m.2.2.2.2.1 ≠ 0) (hC : (xcl[ci]?).map (fun q => q.1) = some m.1) (ha : S[a]? = some (.inr (ci, fs))) (hk : fs[k]? = some o) (hr : r0 < 1000) (hn : narrow ty (.ref (xb g + r0)) = .ref (xb g + r0)) (hfit : fits ty (.ref (xb g + r0)) = true)
    (kk : Wp g d m (pc + 3) ls st (S.set a (.inr (ci, fs.set k (some (.ref r0))))) B M K) : Wp g d m pc ls (.ref r0 :: .ref a :: st) S B M K := by
  intro p e R s mi args below meth c H locs la Q C hR hH hl0 hret
  have hal : a < 1000 := Nat.lt_of_lt_of_le (List.getElem?_eq_some_iff.mp ha).1 hH.2.2.2
  have C' := id C
  obtain ⟨hx, hb, hml, hown, hts, hK, hO, -, -, hinit⟩ := C'
  have hin2 : meth.name = "<init>" := hinit.resolve_right hcm
  obtain ⟨⟨C1, T1, N1, ty1, g1, g2, g3, g4⟩, C2, T2, N2, f1, f2, f3, f4, f5, f6⟩ := hf
  cases g1.symm.trans f1
  have hCm : C1 = m.1 := by rw [g1] at hC; exact Option.some.inj hC
  have e0 : (Value.ref r0 :: Value.ref a :: st).map (xtr g) = .ref (xb g + r0) :: .ref (xb g + a) :: st.map (xtr g) := by rw [List.map_cons, List.map_cons, xtr_ref hal, xtr_ref hr]
  rw [e0]
  have hap := va_apart (own := m.1) hts g2 ty1 g3 g4 hK g1
  obtain ⟨r, h1, cell, q1, q2, q3, q4⟩ := hH.1 a _ (xws_get ha)
  obtain rfl : r = (C1, T1, N1) := Option.some.inj (h1.symm.trans g1)
  obtain ⟨hS, hfc, kC, hkC, hkind⟩ := hK.1 ci _ g1
  obtain ⟨cf, kf, fi, f, hi, hsl⟩ := hS k f2
  have hlay := hts _ (g2 _ (u_in_lay f2))
  unfold u_lay at hlay
  rw [if_pos f5] at hlay
  have hst := (u_facts hfc hkC (u_lays hts g2 f2) hi).1
  have hcf : mi.cls = cf := by
    obtain ⟨_, _, c', _, _, _, -, -, hf', -, -, -, hown2, -⟩ := Cond.laysFinal_spec hlay
    have e1 : c' = cf := by have := hi.symm.trans hf'; simp at this; exact this.1.symm
    rw [f6, hCm] at hown2
    rw [← e1]; exact Option.some.inj (hown.symm.trans hown2)
  have h6 := u_fits hfc hkC hkind (Or.inr hlay) hi f4 hn hfit
  refine W.putFinK hx hb hown (hts _ f3) hi hst hcf hin2 (by rw [q2]; exact h6) q1 q3 (by rw [hsl]; exact k2_hasslot (q4 k f2)) rfl rfl hd fun H' e1 e2 e3 => ?_
  rw [hsl] at e1 ⊢
  refine kk p e R s mi args below meth c H' _ la Q C hR (xH_upd hH ha rfl (fun _ _ => ⟨rfl, rfl⟩) ?_ e2 e3) hl0 hret
  refine x_objset (s := s) g1 f2 ?_ hap q2 q3 q4 e1 ?_
  · rw [List.length_mapIdx]; exact (List.getElem?_eq_some_iff.mp hk).1
  · have hkl := (List.getElem?_eq_some_iff.mp hk).1
    apply List.ext_getElem?
    intro j
    by_cases hj : j = k
    · subst hj
      rw [List.getElem?_set_self (by rw [List.length_mapIdx]; exact hkl), List.getElem?_mapIdx, List.getElem?_set_self hkl]
      show some (xtr g (.ref r0)) = _
      rw [xtr_ref hr]
    · rw [List.getElem?_set_ne (Ne.symm hj), List.getElem?_mapIdx, List.getElem?_mapIdx, List.getElem?_set_ne (Ne.symm hj)]
end XR2
end
section
/-! MEMORY 2: rows, making, constructors, what stands outside -/
section XR3
variable {g : XG} {d : Nat} {m : XMe} {pc : Nat} {ls : XL} {st : List Value} {S : XS} {B : Nat × Nat} {M : XM} {K : Option Value → XS → XM → Prop}
theorem x_e1 {a : Nat} {i : Int32} (hal : a < 1000) : (Value.int i :: Value.ref a :: st).map (xtr g) = .int i :: .ref (xb g + a) :: st.map (xtr g) := by rw [List.map_cons, List.map_cons, xtr_ref hal]; rfl
theorem x_e2 {a : Nat} {i x : Int32} (hal : a < 1000) : (Value.int x :: Value.int i :: Value.ref a :: st).map (xtr g) = .int x :: .int i :: .ref (xb g + a) :: st.map (xtr g) := by rw [List.map_cons, List.map_cons, List.map_cons, xtr_ref hal]; rfl
theorem x_al {s : State} {H : Heap} {locs : List Loc} {a : Nat} {e : (Nat × Nat) ⊕ (Nat × List (Option Value))} (hH : XH g s H locs S M) (ha : S[a]? = some e) : a < 1000 := Nat.lt_of_lt_of_le (List.getElem?_eq_some_iff.mp ha).1 hH.2.2.2
theorem x_wsI {a t n : Nat} (h : t ≠ 3) (ha : S[a]? = some (.inl (t, n))) : (xws g S M)[a]? = some (xb g + a, .inl (xcT g t, n, .inl (M.1 a))) := by rw [xws_get ha, xE_int h]
theorem x_wsL {a n : Nat} (ha : S[a]? = some (.inl (3, n))) : (xws g S M)[a]? = some (xb g + a, .inl (xcT g 3, n, .inr (.inl (M.2 a)))) := by rw [xws_get ha, xE_long]
theorem x_iald {a n : Nat} {i : Int32} (hd : decode m.2.1 pc = .ok (.iaload, 1)) (ha : S[a]? = some (.inl (0, n))) (hin : vp_in i n) (kk : Wp g d m (pc + 1) ls (.int (M.1 a i.toNatClampNeg) :: st) S B M K) : Wp g d m pc ls (.int i :: .ref a :: st) S B M K := by
  intro p e R s mi args below meth c H locs la Q C hR hH hl0 hret
  rw [x_e1 (x_al hH ha)]
  exact va_iald (D := xD g) (cl := xcl) (f := M.1 a) C.1 C.2.1 C.2.2.2.2.2.1 hH.1 a 0 (x_wsI (by decide) ha) rfl hin hd (kk p e R s mi args below meth c H locs la Q C hR hH hl0 hret)
theorem x_bald {a n : Nat} {i : Int32} (hd : decode m.2.1 pc = .ok (.baload, 1)) (ha : S[a]? = some (.inl (1, n))) (hin : vp_in i n) (kk : Wp g d m (pc + 1) ls (.int (M.1 a i.toNatClampNeg) :: st) S B M K) : Wp g d m pc ls (.int i :: .ref a :: st) S B M K := by
  intro p e R s mi args below meth c H locs la Q C hR hH hl0 hret
  rw [x_e1 (x_al hH ha)]
  exact va_bald (D := xD g) (cl := xcl) (f := M.1 a) C.1 C.2.1 C.2.2.2.2.2.1 hH.1 a 1 (x_wsI (by decide) ha) rfl hin hd (kk p e R s mi args below meth c H locs la Q C hR hH hl0 hret)
theorem x_zald {a n : Nat} {i : Int32} (hd : decode m.2.1 pc = .ok (.baload, 1)) (ha : S[a]? = some (.inl (2, n))) (hin : vp_in i n) (kk : Wp g d m (pc + 1) ls (.int (M.1 a i.toNatClampNeg) :: st) S B M K) : Wp g d m pc ls (.int i :: .ref a :: st) S B M K := by
  intro p e R s mi args below meth c H locs la Q C hR hH hl0 hret
  rw [x_e1 (x_al hH ha)]
  exact va_zald (D := xD g) (cl := xcl) (f := M.1 a) C.1 C.2.1 C.2.2.2.2.2.1 hH.1 a 2 (x_wsI (by decide) ha) rfl hin hd (kk p e R s mi args below meth c H locs la Q C hR hH hl0 hret)
theorem x_lald {a n : Nat} {i : Int32} (hd : decode m.2.1 pc = .ok (.laload, 1)) (ha : S[a]? = some (.inl (3, n))) (hin : vp_in i n) (kk : Wp g d m (pc + 1) ls (.long (M.2 a i.toNatClampNeg) :: st) S B M K) : Wp g d m pc ls (.int i :: .ref a :: st) S B M K := by
  intro p e R s mi args below meth c H locs la Q C hR hH hl0 hret
  rw [x_e1 (x_al hH ha)]
  exact va_lald (D := xD g) (cl := xcl) (f := M.2 a) C.1 C.2.1 C.2.2.2.2.2.1 hH.1 a 3 (x_wsL ha) rfl hin hd (kk p e R s mi args below meth c H locs la Q C hR hH hl0 hret)
theorem x_alen {a t n : Nat} {v : Int32} (hd : decode m.2.1 pc = .ok (.arraylength, 1)) (ht : t < 3) (ha : S[a]? = some (.inl (t, n))) (hv : Int32.ofNat n = v) (kk : Wp g d m (pc + 1) ls (.int v :: st) S B M K) : Wp g d m pc ls (.ref a :: st) S B M K := by
  intro p e R s mi args below meth c H locs la Q C hR hH hl0 hret
  have e0 : (Value.ref a :: st).map (xtr g) = .ref (xb g + a) :: st.map (xtr g) := by rw [List.map_cons, xtr_ref (x_al hH ha)]
  rw [e0]
  obtain ⟨ty, hty⟩ : ∃ ty, (xtys g)[t]? = some (xcT g t, ty) := by
    match t, ht with
    | 0, _ => exact ⟨.int, rfl⟩
    | 1, _ => exact ⟨.byte, rfl⟩
    | 2, _ => exact ⟨.boolean, rfl⟩
  exact va_alen (D := xD g) (cl := xcl) (x := (n, .inl (M.1 a))) C.1 C.2.1 C.2.2.2.2.2.1 hH.1 a t (x_wsI (by omega) ha) hty hv hd (kk p e R s mi args below meth c H locs la Q C hR hH hl0 hret)
theorem x_ist {s : State} {H1 : Heap} {a n t j : Nat} {x y : Int32} (ht : t ≠ 3) (hxy : y = x) (e1 : H1[xb g + a]? = some ((vp_cell (xcT g t) (n, .inl (M.1 a))).setSlot j (.int y))) : va_at (xD g) xcl (xb g + a, xE g (xput M a j x) a (.inl (t, n))) H1 := by
  subst hxy
  rw [xE_int ht]
  show H1[xb g + a]? = some (vp_cell _ _)
  rw [e1, vp_cell_i, vp_cell_i, arrV_store]
  congr 2
  funext q
  by_cases hq : q = j
  · subst hq; simp [updV, xput]
  · simp [updV, xput, hq]
theorem x_iast {a n : Nat} {i x : Int32} (hd : decode m.2.1 pc = .ok (.iastore, 1)) (ha : S[a]? = some (.inl (0, n))) (hin : vp_in i n) (kk : Wp g d m (pc + 1) ls st S B (xput M a i.toNatClampNeg x) K) : Wp g d m pc ls (.int x :: .int i :: .ref a :: st) S B M K := by
  intro p e R s mi args below meth c H locs la Q C hR hH hl0 hret
  rw [x_e2 (x_al hH ha)]
  refine W.iast C.1 C.2.1 (hH.1 a _ (x_wsI (by decide) ha)) ((C.2.2.2.2.2.1.2 0 _ rfl).1 n (fun j => .int (M.1 a j))) (fun q => by cases q) (by show ¬ (i < 0 ∨ (arrV _ _ _).slots.size ≤ _); rw [arrV_size]; exact hin) rfl rfl hd fun H1 e1 z oq => ?_
  exact kk p e R s mi args below meth c H1 _ la Q C hR (xH_upd hH ha (xS_same ha) xM_put (x_ist (s := s) (by decide) rfl e1) z oq) hl0 hret
theorem x_bast {a n : Nat} {i x y : Int32} (hd : decode m.2.1 pc = .ok (.bastore, 1)) (ha : S[a]? = some (.inl (1, n))) (hin : vp_in i n) (hy : narrow .byte (.int x) = .int y) (kk : Wp g d m (pc + 1) ls st S B (xput M a i.toNatClampNeg y) K) : Wp g d m pc ls (.int x :: .int i :: .ref a :: st) S B M K := by
  intro p e R s mi args below meth c H locs la Q C hR hH hl0 hret
  rw [x_e2 (x_al hH ha)]
  refine W.bast C.1 C.2.1 (hH.1 a _ (x_wsI (by decide) ha)) ((C.2.2.2.2.2.1.2 1 _ rfl).1 n (fun j => .int (M.1 a j))) (fun q => by cases q) (by show ¬ (i < 0 ∨ (arrV _ _ _).slots.size ≤ _); rw [arrV_size]; exact hin) rfl rfl hd fun H1 e1 z oq => ?_
  rw [hy] at e1
  exact kk p e R s mi args below meth c H1 _ la Q C hR (xH_upd hH ha (xS_same ha) xM_put (x_ist (s := s) (by decide) rfl e1) z oq) hl0 hret
theorem x_zast {a n : Nat} {i x y : Int32} (hd : decode m.2.1 pc = .ok (.bastore, 1)) (ha : S[a]? = some (.inl (2, n))) (hin : vp_in i n) (hy : narrow .boolean (.int x) = .int y) (kk : Wp g d m (pc + 1) ls st S B (xput M a i.toNatClampNeg y) K) : Wp g d m pc ls (.int x :: .int i :: .ref a :: st) S B M K := by
  intro p e R s mi args below meth c H locs la Q C hR hH hl0 hret
  rw [x_e2 (x_al hH ha)]
  refine W.zast C.1 C.2.1 (hH.1 a _ (x_wsI (by decide) ha)) ((C.2.2.2.2.2.1.2 2 _ rfl).1 n (fun j => .int (M.1 a j))) (fun q => by cases q) (by show ¬ (i < 0 ∨ (arrV _ _ _).slots.size ≤ _); rw [arrV_size]; exact hin) rfl rfl hd fun H1 e1 z oq => ?_
  rw [hy] at e1
  exact kk p e R s mi args below meth c H1 _ la Q C hR (xH_upd hH ha (xS_same ha) xM_put (x_ist (s := s) (by decide) rfl e1) z oq) hl0 hret
theorem x_last {a n : Nat} {i : Int32} {x : Int64} (hd : decode m.2.1 pc = .ok (.lastore, 1)) (ha : S[a]? = some (.inl (3, n))) (hin : vp_in i n) (kk : Wp g d m (pc + 1) ls st S B (xputL M a i.toNatClampNeg x) K) : Wp g d m pc ls (.long x :: .int i :: .ref a :: st) S B M K := by
  intro p e R s mi args below meth c H locs la Q C hR hH hl0 hret
  have e0 : (Value.long x :: Value.int i :: Value.ref a :: st).map (xtr g) = .long x :: .int i :: .ref (xb g + a) :: st.map (xtr g) := by rw [List.map_cons, List.map_cons, List.map_cons, xtr_ref (x_al hH ha)]; rfl
  rw [e0]
  refine W.last C.1 C.2.1 (hH.1 a _ (x_wsL ha)) ((C.2.2.2.2.2.1.2 3 _ rfl).1 n (fun j => .long (M.2 a j))) (fun q => by cases q) (by show ¬ (i < 0 ∨ (arrV _ _ _).slots.size ≤ _); rw [arrV_size]; exact hin) rfl rfl hd fun H1 e1 z oq => ?_
  refine kk p e R s mi args below meth c H1 _ la Q C hR (xH_upd hH ha (xS_same ha) xM_putL ?_ z oq) hl0 hret
  rw [xE_long]
  show H1[xb g + a]? = some (vp_cell _ _)
  rw [e1, vp_cell_l, vp_cell_l, arrV_store]
  congr 2
  funext q
  by_cases hq : q = i.toNatClampNeg
  · subst hq; simp [updV, xputL]
  · simp [updV, xputL, hq]
/-- a new cell at the end -/
def xzero (M : XM) (a : Nat) : XM := (fun a' k => if a' = a then 0 else M.1 a' k, fun a' k => if a' = a then 0 else M.2 a' k)
theorem xH_push {s : State} {H H1 : Heap} {locs : List Loc} {e' : (Nat × Nat) ⊕ (Nat × List (Option Value))} (hH : XH g s H locs S M) (hS : S.length < xN) (he : va_at (xD g) xcl (xb g + S.length, xE g (xzero M S.length) S.length e') H1) (z : H1.size = H.size + 1) (oq : ∀ q : Nat, q < H.size → H1[q]? = H[q]?) : XH g s H1 locs (S ++ [e']) (xzero M S.length) ∧ H.size = xb g + S.length := by
  have hsz : H.size = xb g + S.length := hH.2.2.1.resolve_left (by omega)
  have hn : xN = 113 := rfl
  refine ⟨⟨fun k q hk => ?_, ⟨Nat.le_trans hH.2.1.1 (by omega), fun q h1 h2 => (oq q (Nat.lt_of_lt_of_le h1 hH.2.1.1)).trans (hH.2.1.2.1 q h1 h2), hH.2.1.2.2⟩, Or.inr (by rw [z, hsz, List.length_append]; rfl), by rw [List.length_append]; show S.length + 1 ≤ 1000; omega⟩, hsz⟩
  obtain ⟨x, hx, rfl⟩ := xws_inv hk
  by_cases hl : k < S.length
  · rw [List.getElem?_append_left hl] at hx
    have hold := hH.1 k _ (xws_get hx)
    have hee : xE g (xzero M S.length) k x = xE g M k x := by
      have hkn : k ≠ S.length := by omega
      rcases x with ⟨t, n⟩ | ⟨ci, fs⟩
      · show Sum.inl _ = Sum.inl _
        simp [xzero, hkn]
      · rw [xE_obj, xE_obj]
        congr 2
        apply List.ext_getElem?
        intro j
        rw [List.getElem?_mapIdx, List.getElem?_mapIdx]
        congr 1
        funext o
        cases o with
        | none => show Value.int _ = Value.int _; simp [xzero, hkn]
        | some v => rfl
    rw [hee]
    exact hold.kept (oq _ (hold.lt))
  · have hk2 : k = S.length := by
      have := (List.getElem?_eq_some_iff.mp hx).1
      rw [List.length_append] at this
      have h1 : ([e'] : List ((Nat × Nat) ⊕ (Nat × List (Option Value)))).length = 1 := rfl
      omega
    subst hk2
    rw [List.getElem?_append_right (Nat.le_refl _), Nat.sub_self] at hx
    cases hx
    exact he
def xdef (ty : FieldType) : Option Value := match ty with
  | .int => none
  | .boolean => none
  | _ => some .null
theorem x_new {idx ci N : Nat} {C0 : String} {T : u_T} (ty : Nat → FieldType) {fs : List (Option Value)} (hd : decode m.2.1 pc = .ok (.new idx, 3)) (hcl : .classLink m.1 idx C0 ∈ xG) (hins : .instantiable C0 N ∈ xG) (hini : .initialized C0 ∈ xG) (hc : xcl[ci]? = some (C0, T, N)) (hin : ∀ w ∈ u_ws C0 T N, w ∈ xG) (hty : ∀ k, k < N → parseFieldDescriptor (T k).2.2.1 = some (ty k))
    (hfs : ∀ j, j < N → fs[j]? = some (xdef (ty j)) ∧ (ty j = .int ∨ ty j = .boolean ∨ (∃ n, ty j = .object n) ∨ ∃ t, ty j = .array t)) (hS : S.length < xN) (hB : B.1 + 1 ≤ m.2.2.2.2.1 ∧ B.2 + N ≤ m.2.2.2.2.2)
    (kk : Wp g d m (pc + 3) ls (.ref S.length :: st) (S ++ [.inr (ci, fs)]) (B.1 + 1, B.2 + N) (xzero M S.length) K) : Wp g d m pc ls st S B M K := by
  intro p e R s mi args below meth c H locs la Q C hR hH hl0 hret
  have C' := id C
  obtain ⟨hx, hb, hml, hown, hts, hK, hO, -⟩ := C'
  have hKn := hK.1 ci _ hc
  have hsz : H.size = xb g + S.length := hH.2.2.1.resolve_left (by omega)
  refine W.newcK hx hb hown (hts _ hcl) (hts _ hins) (hts _ hini) rfl hd (Nat.le_trans hB.1 hR.2.2.1) (Nat.le_trans hB.2 hR.2.2.2) hKn.2.1 hsz fun H1 kC hkC e1 z1 o1 => ?_
  have h1000 : S.length < 1000 := by have : xN = 113 := rfl; omega
  have he : xtr g (.ref S.length) = .ref (xb g + S.length) := xtr_ref h1000
  have hX := xH_push (e' := .inr (ci, fs)) (H1 := H1) hH hS ?_ (by rw [z1, hsz]) (fun q hq => o1 q (by omega))
  · have k2 := kk p e R s mi args below meth c H1 locs la Q C hR hX.1 hl0 hret
    rw [List.map_cons, he] at k2
    exact k2
  · refine ⟨_, hc, (u_born ty hts hin hKn hkC e1 hty).to (fun j hj => ?_)⟩
    obtain ⟨f1, f2⟩ := hfs j hj
    show _ = (fs.mapIdx (xV g _ _)).getD j .null
    rw [List.getD_eq_getElem?_getD, List.getElem?_mapIdx, f1]
    rcases f2 with h | h | ⟨n, h⟩ | ⟨t, h⟩ <;> rw [h] <;> simp [xdef, defaultValue, xV, xzero, xtr]
theorem x_newa {t n : Nat} {atype : ArrayType} {i : Int32} (hd : decode m.2.1 pc = .ok (.newarray atype, 2)) (hty : newarray.typeOf atype = xtyp t) (ht : t < 4) (hw : .arrayClass (xtyp t) ∈ xG) (hi : i = nI n) (hn1 : n ≤ 1000) (hS : S.length < xN) (hB : B.1 + 1 ≤ m.2.2.2.2.1 ∧ B.2 + n ≤ m.2.2.2.2.2)
    (kk : Wp g d m (pc + 2) ls (.ref S.length :: st) (S ++ [.inl (t, n)]) (B.1 + 1, B.2 + n) (xzero M S.length) K) : Wp g d m pc ls (.int i :: st) S B M K := by
  subst hi
  intro p e R s mi args below meth c H locs la Q C hR hH hl0 hret
  have C' := id C
  obtain ⟨hx, hb, hml, hown, hts, hK, hO, -⟩ := C'
  have hsz : H.size = xb g + S.length := hH.2.2.1.resolve_left (by omega)
  have hcb : componentBytes (xtyp t) ≤ 8 := by
    match t, ht with
    | 0, _ => decide
    | 1, _ => decide
    | 2, _ => decide
    | 3, _ => decide
  refine va_newaK (N := n) hx hb (atype := atype) (by rw [hty]; exact hts _ hw) rfl hd rfl (nI_pos (by omega)) (nI_clamp (by omega)) (by rw [hty]; exact Nat.le_trans (Nat.mul_le_mul hn1 hcb) (by decide)) (Nat.le_trans hB.1 hR.2.2.1) (Nat.le_trans hB.2 hR.2.2.2) hsz fun H1 cA e1 z1 o1 hAr hNm => ?_
  have h1000 : S.length < 1000 := by have : xN = 113 := rfl; omega
  have he : xtr g (.ref S.length) = .ref (xb g + S.length) := xtr_ref h1000
  rw [hty] at e1 hNm
  have hcA : cA = xcT g t := by
    have hRA : s.vm.findClass ("[" ++ (xtyp t).toString) = some (xcT g t) := by
      match t, ht with
      | 0, _ => exact (hK.2 0 _ rfl).2
      | 1, _ => exact (hK.2 1 _ rfl).2
      | 2, _ => exact (hK.2 2 _ rfl).2
      | 3, _ => exact (hK.2 3 _ rfl).2
    exact Option.some.inj (hNm.symm.trans hRA)
  subst hcA
  have hX := xH_push (e' := .inl (t, n)) (H1 := H1) hH hS ?_ (by rw [z1, hsz]) (fun q hq => o1 q (by omega))
  · have k2 := kk p e R s mi args below meth c H1 locs la Q C hR hX.1 hl0 hret
    rw [List.map_cons, he] at k2
    exact k2
  · by_cases h3 : t = 3
    · subst h3
      rw [xE_long]
      show H1[xb g + S.length]? = some (vp_cell _ _)
      rw [e1, vp_cell_l]
      congr 2
      funext q
      simp [xzero, xtyp, defaultValue]
    · rw [xE_int h3]
      show H1[xb g + S.length]? = some (vp_cell _ _)
      rw [e1, vp_cell_i]
      congr 2
      funext q
      match t, ht with
      | 0, _ => simp [xzero, xtyp, defaultValue]
      | 1, _ => simp [xzero, xtyp, defaultValue]
      | 2, _ => simp [xzero, xtyp, defaultValue]
      | 3, _ => exact absurd rfl h3
/-- Object.<init> -/
theorem x_obj {a idx ci : Nat} {fs : List (Option Value)} (hd : decode m.2.1 pc = .ok (.invokespecial idx, 3)) (hl : .methodLink m.1 idx Lib.objectInit ∈ xG) (hin : .instanceMethod Lib.objectInit ∈ xG) (hco : .code Lib.objectInit ⟨#[0xb1]⟩ 1 none ∈ xG) (ha : S[a]? = some (.inr (ci, fs))) (hw : (st.map fun v => v.category).sum ≤ 8)
    (kk : Wp g (d + 1) m (pc + 3) ls st S B M K) : Wp g (d + 1) m pc ls (.ref a :: st) S B M K := by
  intro p e R s mi args below meth c H locs la Q C hR hH hl0 hret
  have C' := id C
  obtain ⟨hx, hb, hml, hown, hts, hK, hO, -⟩ := C'
  have e0 : (Value.ref a :: st).map (xtr g) = .ref (xb g + a) :: st.map (xtr g) := by rw [List.map_cons, xtr_ref (x_al hH ha)]
  rw [e0]
  have h8 := x_rest (g := g) hw
  have hr1 := hR.1
  have hr2 := hR.2.1
  exact W.objInit hx hb hown (hts _ hl) (hts _ hin) (hts _ hco) rfl (by show la.size = _; rw [hl0.1]; exact hml.symm) rfl hd (by omega) (by show 2 * 0 + _ + 12 ≤ _; omega) (kk p e R s mi args below meth c H locs la Q C hR hH hl0 hret)
end XR3
end
section
/-! MEMORY 3: constructors' calls, statics, strings, the script, arraycopy -/
section XR4
variable {g : XG} {d n : Nat} {m my : XMe} {y : MethodName} {pc idx : Nat} {ls : XL} {st rest As : List Value} {S : XS} {B : Nat × Nat} {M : XM} {K : Option Value → XS → XM → Prop}
theorem x_invI {a : Nat} (hd : decode m.2.1 pc = .ok (.invokespecial idx, 3)) (hl : .methodLink m.1 idx y ∈ xG) (hin : .instanceMethod y ∈ xG) (hY : XY y my n) (hyi : y.name = "<init>") (hrn : my.2.2.2.1 = none) (hal : a < 1000)
    (hn : As.length = n) (hw : (rest.map fun v => v.category).sum ≤ 8) (hB : B.1 + my.2.2.2.2.1 ≤ m.2.2.2.2.1 ∧ B.2 + my.2.2.2.2.2 ≤ m.2.2.2.2.2)
    (h : Ex g d y my (.ref a :: As) S M (fun v S' M' => Wp g (d + 1) m (pc + 3) ls (v.toList ++ rest) S' (B.1 + my.2.2.2.2.1, B.2 + my.2.2.2.2.2) M' K)) : Wp g (d + 1) m pc ls (As.reverse ++ .ref a :: rest) S B M K := by
  intro p e R s mi args below meth c H locs la Q C hR hH hl0 hret
  have hea : xtr g (.ref a) = .ref (xb g + a) := xtr_ref hal
  have C' := id C
  obtain ⟨hx, hb, hml, hown, hts, hK, hO, -⟩ := C'
  have e0 : (As.reverse ++ .ref a :: rest).map (xtr g) = (As.map (xtr g)).reverse ++ .ref (xb g + a) :: rest.map (xtr g) := by
    rw [List.map_append, List.map_reverse, List.map_cons, hea]
  rw [e0]
  have cb := x_callB C hY hR hl
  rw [hrn] at cb
  unfold Ex at h
  rw [hrn] at h
  refine x_back hH (va_runI (Ts := xG) (As := As.map (xtr g)) (rest := rest.map (xtr g)) (b := xb g + a) (n := n) ⟨hx, hb, hml, hown, hts⟩ h ⟨cb, hyi, hts _ hin⟩ ⟨x_blind, fun U hU hW => ⟨?_, x_world C hH hU hW⟩⟩ rfl (by rw [List.length_map]; exact hn) hl0.1 rfl (lv_room (x_rest hw)) hd (x_hB hR hB)) ?_
  · rw [List.map_cons, hea]
  · intro v S' M' H' locs' hk hH'
    have k2 := hk p e R s mi args below meth c H' locs' la Q C hR hH' hl0 hret
    rw [List.map_append] at k2
    exact k2
theorem x_invIN {a : Nat} {host : String} (hd : decode m.2.1 pc = .ok (.invokespecial idx, 3)) (hl : .methodLinkNest m.1 idx y host ∈ xnest) (hin : .instanceMethod y ∈ xG) (hY : XY y my n) (hyi : y.name = "<init>") (hrn : my.2.2.2.1 = none) (hal : a < 1000)
    (hn : As.length = n) (hw : (rest.map fun v => v.category).sum ≤ 8) (hB : B.1 + my.2.2.2.2.1 ≤ m.2.2.2.2.1 ∧ B.2 + my.2.2.2.2.2 ≤ m.2.2.2.2.2)
    (h : Ex g d y my (.ref a :: As) S M (fun v S' M' => Wp g (d + 1) m (pc + 3) ls (v.toList ++ rest) S' (B.1 + my.2.2.2.2.1, B.2 + my.2.2.2.2.2) M' K)) : Wp g (d + 1) m pc ls (As.reverse ++ .ref a :: rest) S B M K := by
  intro p e R s mi args below meth c H locs la Q C hR hH hl0 hret
  have hea : xtr g (.ref a) = .ref (xb g + a) := xtr_ref hal
  have C' := id C
  obtain ⟨hx, hb, hml, hown, hts, hK, hO, -⟩ := C'
  have e0 : (As.reverse ++ .ref a :: rest).map (xtr g) = (As.map (xtr g)).reverse ++ .ref (xb g + a) :: rest.map (xtr g) := by
    rw [List.map_append, List.map_reverse, List.map_cons, hea]
  rw [e0]
  have hO' := id hO
  obtain ⟨-, -, -, -, -, -, -, -, -, -, -, hnest⟩ := hO'
  have hY' := id hY
  obtain ⟨-, -, hcode, hini, hdd, hnl, -⟩ := hY'
  obtain ⟨r1, r2, -, -⟩ := id hR
  have cb : va_CN R s args m.1 idx y host my.2.1 my.2.2.1 my.2.2.2.1 (.code y my.2.1 my.2.2.1 my.2.2.2.1 :: xG) (xrm d my) my.2.2.2.2.1 my.2.2.2.2.2 n := by
    refine va_cnB n hts (xG_good ?_) rfl rfl rfl (hnest _ hl) (hts _ hini) hdd ⟨r1, ?_⟩
    · intro w hw
      rcases List.mem_cons.mp hw with rfl | hw
      · exact hcode
      · exact hw
    · show 8 + (my.2.2.1 + 11) + 60 * d ≤ R.locals
      omega
  rw [hrn] at cb
  unfold Ex at h
  rw [hrn] at h
  refine x_back hH (va_runIN (Ts := xG) (As := As.map (xtr g)) (rest := rest.map (xtr g)) (b := xb g + a) (n := n) ⟨hx, hb, hml, hown, hts⟩ h ⟨cb, hyi, hts _ hin⟩ ⟨x_blind, fun U hU hW => ⟨?_, x_world C hH hU hW⟩⟩ rfl (by rw [List.length_map]; exact hn) hl0.1 rfl (lv_room (x_rest hw)) hd (x_hB hR hB)) ?_
  · rw [List.map_cons, hea]
  · intro v S' M' H' locs' hk hH'
    have k2 := hk p e R s mi args below meth c H' locs' la Q C hR hH' hl0 hret
    rw [List.map_append] at k2
    exact k2
theorem xtr_spn (k : Nat) (h : ¬ k < 1000) : xtr g (.ref k) = va_rf (xsp g k) := by
  show (if k < 1000 then Value.ref (xb g + k) else va_rf (xsp g k)) = _
  rw [if_neg h]
/-- statics: the two tables, what text is made of, what makes the refusal's text -/
theorem x_getsA (k : Nat) (hk : k < 2) (hd : decode m.2.1 pc = .ok (.getstatic idx, 3)) (hl : .fieldLink m.1 idx (if k = 0 then RX0 else RX4) (if k = 0 then "BODIES" else "ABOVE") "[I" ∈ xG)
    (kk : Wp g d m (pc + 3) ls (.ref (1000 + k) :: st) S B M K) : Wp g d m pc ls st S B M K := by
  intro p e R s mi args below meth c H locs la Q C hR hH hl0 hret
  have k2 := kk p e R s mi args below meth c H locs la Q C hR hH hl0 hret
  obtain ⟨hx, hb, hml, hown, hts, hK, hO, -⟩ := C
  obtain ⟨-, -, -, -, -, -, h7, h8, -⟩ := hO
  have he : xtr g (.ref (1000 + k)) = va_rf (xsp g (1000 + k)) := xtr_spn _ (by omega)
  rw [List.map_cons, he] at k2
  have hl2 := hts _ hl
  match k, hk with
  | 0, _ => exact va_gets hx hb h7 hH.2.1 hown hl2 (fun _ h => h) hd k2
  | 1, _ => exact va_gets hx hb h8 hH.2.1 hown hl2 (fun _ h => h) hd k2
theorem x_getsC (hd : decode m.2.1 pc = .ok (.getstatic idx, 3)) (hl : .fieldLink m.1 idx "java/lang/String" "COMPACT_STRINGS" "Z" ∈ xG) (kk : Wp g d m (pc + 3) ls (.int 1 :: st) S B M K) : Wp g d m pc ls st S B M K := by
  intro p e R s mi args below meth c H locs la Q C hR hH hl0 hret
  have k2 := kk p e R s mi args below meth c H locs la Q C hR hH hl0 hret
  obtain ⟨hx, hb, hml, hown, hts, hK, hO, -⟩ := C
  obtain ⟨-, -, -, -, -, -, -, -, h9, -⟩ := hO
  exact va_gets hx hb h9 hH.2.1 hown (hts _ hl) (fun _ h => h) hd k2
theorem x_getsF (hd : decode m.2.1 pc = .ok (.getstatic idx, 3)) (hl : .fieldLink m.1 idx "jdk/internal/util/Preconditions" "SIOOBE_FORMATTER" "Ljava/util/function/BiFunction;" ∈ xG) (kk : Wp g d m (pc + 3) ls (.ref 4000 :: st) S B M K) : Wp g d m pc ls st S B M K := by
  intro p e R s mi args below meth c H locs la Q C hR hH hl0 hret
  have k2 := kk p e R s mi args below meth c H locs la Q C hR hH hl0 hret
  obtain ⟨hx, hb, hml, hown, hts, hK, hO, -⟩ := C
  obtain ⟨-, -, -, -, -, -, -, -, -, h10, -⟩ := hO
  have he : xtr g (.ref 4000) = va_rf (xsp g 4000) := xtr_spn _ (by omega)
  rw [List.map_cons, he] at k2
  exact va_gets hx hb h10 hH.2.1 hown (hts _ hl) (fun _ h => h) hd k2
theorem x_ti {k : Nat} {i v : Int32} (hk : k < 2) (hd : decode m.2.1 pc = .ok (.iaload, 1)) (hin : vp_in i (xtn k)) (hv : xtv k i.toNatClampNeg = v) (kk : Wp g d m (pc + 1) ls (.int v :: st) S B M K) : Wp g d m pc ls (.int i :: .ref (1000 + k) :: st) S B M K := by
  subst hv
  intro p e R s mi args below meth c H locs la Q C hR hH hl0 hret
  have k2 := kk p e R s mi args below meth c H locs la Q C hR hH hl0 hret
  obtain ⟨hx, hb, hml, hown, hts, hK, hO, -⟩ := C
  obtain ⟨-, -, -, -, -, h6, -⟩ := hO
  obtain ⟨t, q1, q2⟩ := h6 k hk
  have he : xtr g (.ref (1000 + k)) = .ref t := xtr_sp (by omega) q1
  have e0 : (Value.int i :: Value.ref (1000 + k) :: st).map (xtr g) = .int i :: .ref t :: st.map (xtr g) := by rw [List.map_cons, List.map_cons, he]; rfl
  rw [e0]
  exact va_ti hx hb q2 hH.2.1 hin rfl hd k2
/-- the table's length -/
theorem x_tlen {k : Nat} {v : Int32} (hk : k < 2) (hd : decode m.2.1 pc = .ok (.arraylength, 1)) (hv : Int32.ofNat (xtn k) = v) (kk : Wp g d m (pc + 1) ls (.int v :: st) S B M K) : Wp g d m pc ls (.ref (1000 + k) :: st) S B M K := by
  intro p e R s mi args below meth c H locs la Q C hR hH hl0 hret
  have k2 := kk p e R s mi args below meth c H locs la Q C hR hH hl0 hret
  obtain ⟨hx, hb, hml, hown, hts, hK, hO, -⟩ := C
  obtain ⟨-, -, -, -, -, h6, -⟩ := hO
  obtain ⟨t, q1, q2⟩ := h6 k hk
  have he : xtr g (.ref (1000 + k)) = .ref t := xtr_sp (by omega) q1
  rw [List.map_cons, he]
  exact va_tlen hx hb q2 hH.2.1 hv hd k2
/-- a text's fields, its bytes -/
theorem x_strV {i : Nat} (hi : i < 5) (hd : decode m.2.1 pc = .ok (.getfield idx, 3)) (hl : .fieldLink m.1 idx "java/lang/String" "value" "[B" ∈ xG) (kk : Wp g d m (pc + 3) ls (.ref (3000 + i) :: st) S B M K) : Wp g d m pc ls (.ref (2000 + i) :: st) S B M K := by
  intro p e R s mi args below meth c H locs la Q C hR hH hl0 hret
  have k2 := kk p e R s mi args below meth c H locs la Q C hR hH hl0 hret
  obtain ⟨hx, hb, hml, hown, hts, hK, hO, -⟩ := C
  obtain ⟨-, -, -, -, -, -, -, -, -, -, ⟨aK, aV, hE, hq⟩, -⟩ := hO
  obtain ⟨q1, q2, q3⟩ := hq i hi
  have h1 : xtr g (.ref (2000 + i)) = .ref (aK i) := xtr_sp (by omega) q1
  have h2 : xtr g (.ref (3000 + i)) = .ref (aV i) := xtr_sp (by omega) q2
  rw [List.map_cons, h2] at k2
  rw [List.map_cons, h1]
  exact vk_getf hx hb (hE.1 i hi).2.2.1 hH.2.1 hown (hts _ hl) (fun _ h => h) hd k2
theorem x_strC {i : Nat} (hi : i < 5) (hd : decode m.2.1 pc = .ok (.getfield idx, 3)) (hl : .fieldLink m.1 idx "java/lang/String" "coder" "B" ∈ xG) (kk : Wp g d m (pc + 3) ls (.int 0 :: st) S B M K) : Wp g d m pc ls (.ref (2000 + i) :: st) S B M K := by
  intro p e R s mi args below meth c H locs la Q C hR hH hl0 hret
  have k2 := kk p e R s mi args below meth c H locs la Q C hR hH hl0 hret
  obtain ⟨hx, hb, hml, hown, hts, hK, hO, -⟩ := C
  obtain ⟨-, -, -, -, -, -, -, -, -, -, ⟨aK, aV, hE, hq⟩, -⟩ := hO
  obtain ⟨q1, q2, q3⟩ := hq i hi
  have h1 : xtr g (.ref (2000 + i)) = .ref (aK i) := xtr_sp (by omega) q1
  rw [List.map_cons, h1]
  exact vk_getf hx hb (hE.1 i hi).2.1 hH.2.1 hown (hts _ hl) (fun _ h => h) hd k2
theorem x_strL {i : Nat} {v : Int32} (hi : i < 5) (hd : decode m.2.1 pc = .ok (.arraylength, 1)) (hv : Int32.ofNat (xslen.getD i 0) = v) (kk : Wp g d m (pc + 1) ls (.int v :: st) S B M K) : Wp g d m pc ls (.ref (3000 + i) :: st) S B M K := by
  intro p e R s mi args below meth c H locs la Q C hR hH hl0 hret
  have k2 := kk p e R s mi args below meth c H locs la Q C hR hH hl0 hret
  obtain ⟨hx, hb, hml, hown, hts, hK, hO, -⟩ := C
  obtain ⟨-, -, -, -, -, -, -, -, -, -, ⟨aK, aV, hE, hq⟩, -⟩ := hO
  obtain ⟨q1, q2, q3⟩ := hq i hi
  have h2 : xtr g (.ref (3000 + i)) = .ref (aV i) := xtr_sp (by omega) q2
  rw [List.map_cons, h2]
  exact va_tlen hx hb (hE.1 i hi).2.2.2 hH.2.1 hv hd k2
theorem x_strB {i : Nat} {j v : Int32} (hi : i < 5) (hd : decode m.2.1 pc = .ok (.baload, 1)) (hin : vp_in j (xslen.getD i 0)) (hv : (xsbyt.getD i []).getD j.toNatClampNeg 0 = v) (kk : Wp g d m (pc + 1) ls (.int v :: st) S B M K) : Wp g d m pc ls (.int j :: .ref (3000 + i) :: st) S B M K := by
  subst hv
  intro p e R s mi args below meth c H locs la Q C hR hH hl0 hret
  have k2 := kk p e R s mi args below meth c H locs la Q C hR hH hl0 hret
  obtain ⟨hx, hb, hml, hown, hts, hK, hO, -⟩ := C
  obtain ⟨-, -, -, -, -, -, -, -, -, -, ⟨aK, aV, hE, hq⟩, -⟩ := hO
  obtain ⟨q1, q2, q3⟩ := hq i hi
  have h2 : xtr g (.ref (3000 + i)) = .ref (aV i) := xtr_sp (by omega) q2
  have e0 : (Value.int j :: Value.ref (3000 + i) :: st).map (xtr g) = .int j :: .ref (aV i) :: st.map (xtr g) := by rw [List.map_cons, List.map_cons, h2]; rfl
  rw [e0]
  exact va_tb hx hb (hE.1 i hi).2.2.2 hH.2.1 hin rfl hd k2
/-- the script -/
theorem x_scrL {v : Int32} (hd : decode m.2.1 pc = .ok (.arraylength, 1)) (hv : Int32.ofNat (xscr g).2.1 = v) (kk : Wp g d m (pc + 1) ls (.int v :: st) S B M K) : Wp g d m pc ls (.ref 5000 :: st) S B M K := by
  subst hv
  intro p e R s mi args below meth c H locs la Q C hR hH hl0 hret
  have k2 := kk p e R s mi args below meth c H locs la Q C hR hH hl0 hret
  obtain ⟨hx, hb, hml, hown, hts, hK, hO, -⟩ := C
  obtain ⟨h1, h2, h3, h4, h5, -⟩ := hO
  have he : xtr g (.ref 5000) = .ref (xscr g).1 := xtr_sp (by omega) h3
  rw [List.map_cons, he]
  exact va_slen hx hb h1 (Nat.lt_of_lt_of_le h2 h5) (Nat.not_le.mpr h2) hH.2.1 hd k2
theorem x_scrI {i : Int32} (hd : decode m.2.1 pc = .ok (.iaload, 1)) (hin : vp_in i (xscr g).2.1) (kk : Wp g d m (pc + 1) ls (.int ((xscr g).2.2 i.toNatClampNeg) :: st) S B M K) : Wp g d m pc ls (.int i :: .ref 5000 :: st) S B M K := by
  intro p e R s mi args below meth c H locs la Q C hR hH hl0 hret
  have k2 := kk p e R s mi args below meth c H locs la Q C hR hH hl0 hret
  obtain ⟨hx, hb, hml, hown, hts, hK, hO, -⟩ := C
  obtain ⟨h1, h2, h3, h4, h5, -⟩ := hO
  have he : xtr g (.ref 5000) = .ref (xscr g).1 := xtr_sp (by omega) h3
  have e0 : (Value.int i :: Value.ref 5000 :: st).map (xtr g) = .int i :: .ref (xscr g).1 :: st.map (xtr g) := by rw [List.map_cons, List.map_cons, he]; rfl
  rw [e0]
  exact va_sld hx hb h1 (Nat.lt_of_lt_of_le h2 h5) (Nat.not_le.mpr h2) hH.2.1 hin hd k2
/-- System.arraycopy among rows of ints, of longs; all is made by then -/
def xcpy (M : XM) (a0 a1 sp dp n : Nat) : XM := xrow M a1 (va_cpy (M.1 a0) (M.1 a1) sp dp n)
def xcpyL (M : XM) (a0 a1 sp dp n : Nat) : XM := xrowL M a1 (va_cpy (M.2 a0) (M.2 a1) sp dp n)
theorem xH_set {s : State} {H H1 : Heap} {locs locs1 : List Loc} {M' : XM} {a : Nat} {e : (Nat × Nat) ⊕ (Nat × List (Option Value))} (hN : S.length = xN) (hH : XH g s H locs S M) (h : S[a]? = some e) (hM : ∀ k, k ≠ a → M'.1 k = M.1 k ∧ M'.2 k = M.2 k)
    (hP : va_P (xD g) xcl ((xws g S M).set a (xb g + a, xE g M' a e)) H1) (hS1 : va_S (fun q => xb g ≤ q) s.heap H1 locs1) : XH g s H1 locs1 S M' := by
  rw [xws_upd (S' := S) h (fun k hk => rfl) h hM] at hP
  exact ⟨hP, hS1, Or.inl hN, hH.2.2.2⟩
theorem x_copyI {a0 a1 n0 n1 : Nat} {sp dp n : Int32} (hN : S.length = xN) (hd : decode m.2.1 pc = .ok (.invokestatic idx, 3)) (hl : .methodLink m.1 idx arraycopyName ∈ xG) (hnat : .native arraycopyName ∈ xG) (hst : .static arraycopyName ∈ xG) (hini : .initialized "java/lang/System" ∈ xG)
    (h0 : S[a0]? = some (.inl (0, n0))) (h1 : S[a1]? = some (.inl (0, n1))) (hs : ¬ sp < 0) (hdp : ¬ dp < 0) (hn : ¬ n < 0) (h4 : sp.toNatClampNeg + n.toNatClampNeg ≤ n0) (h5 : dp.toNatClampNeg + n.toNatClampNeg ≤ n1) (hw : (st.map fun v => v.category).sum ≤ 8)
    (kk : Wp g (d + 1) m (pc + 3) ls st S B (xcpy M a0 a1 sp.toNatClampNeg dp.toNatClampNeg n.toNatClampNeg) K) : Wp g (d + 1) m pc ls (.int n :: .int dp :: .ref a1 :: .int sp :: .ref a0 :: st) S B M K := by
  intro p e R s mi args below meth c H locs la Q C hR hH hl0 hret
  have C' := id C
  obtain ⟨hx, hb, hml, hown, hts, hK, hO, -⟩ := C'
  have e0 : (Value.int n :: .int dp :: .ref a1 :: .int sp :: .ref a0 :: st).map (xtr g) = .int n :: .int dp :: .ref (xb g + a1) :: .int sp :: .ref (xb g + a0) :: st.map (xtr g) := by
    simp only [List.map_cons]
    rw [xtr_ref (x_al hH h0), xtr_ref (x_al hH h1)]
    rfl
  rw [e0]
  have h8 := x_rest (g := g) hw
  have hr1 := hR.1
  have hr2 := hR.2.1
  have hnw : nativeFrameWords "java/lang/System" "arraycopy" 5 ≤ 30 := by decide +kernel
  refine va_copyi (D := xD g) (cl := xcl) (A := fun q => xb g ≤ q) hx hb (by rw [hml]; exact hl0.1.symm) hown (hts _ hl) (hts _ hnat) (hts _ hst) (hts _ hini) hK hH.1 (xws_D g S M) hH.2.1 a0 a1 0 0 (x_wsI (by decide) h0) (x_wsI (by decide) h1) rfl rfl rfl hs hdp hn h4 h5 (fun _ _ => rfl) (by omega) (by omega) hd ?_
  intro H1 locs1 hP hD1 hS1
  refine kk p e R s mi args below meth c H1 locs1 la Q C hR (xH_set hN hH h1 (fun k hk => ⟨by simp [xcpy, xrow, hk], rfl⟩) ?_ hS1) hl0 hret
  rw [xE_int (by decide)]
  simp only [xcpy, xrow, if_true]
  exact hP
theorem x_copyL {a0 a1 n0 n1 : Nat} {sp dp n : Int32} (hN : S.length = xN) (hd : decode m.2.1 pc = .ok (.invokestatic idx, 3)) (hl : .methodLink m.1 idx arraycopyName ∈ xG) (hnat : .native arraycopyName ∈ xG) (hst : .static arraycopyName ∈ xG) (hini : .initialized "java/lang/System" ∈ xG)
    (h0 : S[a0]? = some (.inl (3, n0))) (h1 : S[a1]? = some (.inl (3, n1))) (hs : ¬ sp < 0) (hdp : ¬ dp < 0) (hn : ¬ n < 0) (h4 : sp.toNatClampNeg + n.toNatClampNeg ≤ n0) (h5 : dp.toNatClampNeg + n.toNatClampNeg ≤ n1) (hw : (st.map fun v => v.category).sum ≤ 8)
    (kk : Wp g (d + 1) m (pc + 3) ls st S B (xcpyL M a0 a1 sp.toNatClampNeg dp.toNatClampNeg n.toNatClampNeg) K) : Wp g (d + 1) m pc ls (.int n :: .int dp :: .ref a1 :: .int sp :: .ref a0 :: st) S B M K := by
  intro p e R s mi args below meth c H locs la Q C hR hH hl0 hret
  have C' := id C
  obtain ⟨hx, hb, hml, hown, hts, hK, hO, -⟩ := C'
  have e0 : (Value.int n :: .int dp :: .ref a1 :: .int sp :: .ref a0 :: st).map (xtr g) = .int n :: .int dp :: .ref (xb g + a1) :: .int sp :: .ref (xb g + a0) :: st.map (xtr g) := by
    simp only [List.map_cons]
    rw [xtr_ref (x_al hH h0), xtr_ref (x_al hH h1)]
    rfl
  rw [e0]
  have h8 := x_rest (g := g) hw
  have hr1 := hR.1
  have hr2 := hR.2.1
  have hnw : nativeFrameWords "java/lang/System" "arraycopy" 5 ≤ 30 := by decide +kernel
  refine va_copyl (D := xD g) (cl := xcl) (A := fun q => xb g ≤ q) hx hb (by rw [hml]; exact hl0.1.symm) hown (hts _ hl) (hts _ hnat) (hts _ hst) (hts _ hini) hK hH.1 (xws_D g S M) hH.2.1 a0 a1 3 3 (x_wsL h0) (x_wsL h1) rfl rfl rfl hs hdp hn h4 h5 (fun _ _ => rfl) (by omega) (by omega) hd ?_
  intro H1 locs1 hP hD1 hS1
  refine kk p e R s mi args below meth c H1 locs1 la Q C hR (xH_set hN hH h1 (fun k hk => ⟨rfl, by simp [xcpyL, xrowL, hk]⟩) ?_ hS1) hl0 hret
  rw [xE_long]
  simp only [xcpyL, xrowL, if_true]
  exact hP
/-- calls by the number of arguments -/
theorem x_invV0 {a ci N : Nat} {fs : List (Option Value)} {T : u_T} (hd : decode m.2.1 pc = .ok (.invokevirtual idx, 3)) (hl : .methodLink m.1 idx y ∈ xG) (hin : .instanceMethod y ∈ xG) (hse : .selects y.cls y y ∈ xG) (hY : XY y my 0)
    (ha : S[a]? = some (.inr (ci, fs))) (hc : xcl[ci]? = some (y.cls, T, N)) (hw : (rest.map fun v => v.category).sum ≤ 8) (hB : B.1 + my.2.2.2.2.1 ≤ m.2.2.2.2.1 ∧ B.2 + my.2.2.2.2.2 ≤ m.2.2.2.2.2)
    (h : Ex g d y my [.ref a] S M (fun v S' M' => Wp g (d + 1) m (pc + 3) ls (v.toList ++ rest) S' (B.1 + my.2.2.2.2.1, B.2 + my.2.2.2.2.2) M' K)) : Wp g (d + 1) m pc ls (.ref a :: rest) S B M K := x_invV (As := []) hd hl hin hse hY ha hc rfl hw hB h
theorem x_invV1 {a ci N : Nat} {fs : List (Option Value)} {T : u_T} {v1 : Value} (hd : decode m.2.1 pc = .ok (.invokevirtual idx, 3)) (hl : .methodLink m.1 idx y ∈ xG) (hin : .instanceMethod y ∈ xG) (hse : .selects y.cls y y ∈ xG) (hY : XY y my 1)
    (ha : S[a]? = some (.inr (ci, fs))) (hc : xcl[ci]? = some (y.cls, T, N)) (hw : (rest.map fun v => v.category).sum ≤ 8) (hB : B.1 + my.2.2.2.2.1 ≤ m.2.2.2.2.1 ∧ B.2 + my.2.2.2.2.2 ≤ m.2.2.2.2.2)
    (h : Ex g d y my [.ref a, v1] S M (fun v S' M' => Wp g (d + 1) m (pc + 3) ls (v.toList ++ rest) S' (B.1 + my.2.2.2.2.1, B.2 + my.2.2.2.2.2) M' K)) : Wp g (d + 1) m pc ls (v1 :: .ref a :: rest) S B M K := x_invV (As := [v1]) hd hl hin hse hY ha hc rfl hw hB h
theorem x_invV2 {a ci N : Nat} {fs : List (Option Value)} {T : u_T} {v1 v2 : Value} (hd : decode m.2.1 pc = .ok (.invokevirtual idx, 3)) (hl : .methodLink m.1 idx y ∈ xG) (hin : .instanceMethod y ∈ xG) (hse : .selects y.cls y y ∈ xG) (hY : XY y my 2)
    (ha : S[a]? = some (.inr (ci, fs))) (hc : xcl[ci]? = some (y.cls, T, N)) (hw : (rest.map fun v => v.category).sum ≤ 8) (hB : B.1 + my.2.2.2.2.1 ≤ m.2.2.2.2.1 ∧ B.2 + my.2.2.2.2.2 ≤ m.2.2.2.2.2)
    (h : Ex g d y my [.ref a, v1, v2] S M (fun v S' M' => Wp g (d + 1) m (pc + 3) ls (v.toList ++ rest) S' (B.1 + my.2.2.2.2.1, B.2 + my.2.2.2.2.2) M' K)) : Wp g (d + 1) m pc ls (v2 :: v1 :: .ref a :: rest) S B M K := x_invV (As := [v1, v2]) hd hl hin hse hY ha hc rfl hw hB h
theorem x_invV3 {a ci N : Nat} {fs : List (Option Value)} {T : u_T} {v1 v2 v3 : Value} (hd : decode m.2.1 pc = .ok (.invokevirtual idx, 3)) (hl : .methodLink m.1 idx y ∈ xG) (hin : .instanceMethod y ∈ xG) (hse : .selects y.cls y y ∈ xG) (hY : XY y my 3)
    (ha : S[a]? = some (.inr (ci, fs))) (hc : xcl[ci]? = some (y.cls, T, N)) (hw : (rest.map fun v => v.category).sum ≤ 8) (hB : B.1 + my.2.2.2.2.1 ≤ m.2.2.2.2.1 ∧ B.2 + my.2.2.2.2.2 ≤ m.2.2.2.2.2)
    (h : Ex g d y my [.ref a, v1, v2, v3] S M (fun v S' M' => Wp g (d + 1) m (pc + 3) ls (v.toList ++ rest) S' (B.1 + my.2.2.2.2.1, B.2 + my.2.2.2.2.2) M' K)) : Wp g (d + 1) m pc ls (v3 :: v2 :: v1 :: .ref a :: rest) S B M K := x_invV (As := [v1, v2, v3]) hd hl hin hse hY ha hc rfl hw hB h
theorem x_invV4 {a ci N : Nat} {fs : List (Option Value)} {T : u_T} {v1 v2 v3 v4 : Value} (hd : decode m.2.1 pc = .ok (.invokevirtual idx, 3)) (hl : .methodLink m.1 idx y ∈ xG) (hin : .instanceMethod y ∈ xG) (hse : .selects y.cls y y ∈ xG) (hY : XY y my 4)
    (ha : S[a]? = some (.inr (ci, fs))) (hc : xcl[ci]? = some (y.cls, T, N)) (hw : (rest.map fun v => v.category).sum ≤ 8) (hB : B.1 + my.2.2.2.2.1 ≤ m.2.2.2.2.1 ∧ B.2 + my.2.2.2.2.2 ≤ m.2.2.2.2.2)
    (h : Ex g d y my [.ref a, v1, v2, v3, v4] S M (fun v S' M' => Wp g (d + 1) m (pc + 3) ls (v.toList ++ rest) S' (B.1 + my.2.2.2.2.1, B.2 + my.2.2.2.2.2) M' K)) : Wp g (d + 1) m pc ls (v4 :: v3 :: v2 :: v1 :: .ref a :: rest) S B M K := x_invV (As := [v1, v2, v3, v4]) hd hl hin hse hY ha hc rfl hw hB h
theorem x_invV5 {a ci N : Nat} {fs : List (Option Value)} {T : u_T} {v1 v2 v3 v4 v5 : Value} (hd : decode m.2.1 pc = .ok (.invokevirtual idx, 3)) (hl : .methodLink m.1 idx y ∈ xG) (hin : .instanceMethod y ∈ xG) (hse : .selects y.cls y y ∈ xG) (hY : XY y my 5)
    (ha : S[a]? = some (.inr (ci, fs))) (hc : xcl[ci]? = some (y.cls, T, N)) (hw : (rest.map fun v => v.category).sum ≤ 8) (hB : B.1 + my.2.2.2.2.1 ≤ m.2.2.2.2.1 ∧ B.2 + my.2.2.2.2.2 ≤ m.2.2.2.2.2)
    (h : Ex g d y my [.ref a, v1, v2, v3, v4, v5] S M (fun v S' M' => Wp g (d + 1) m (pc + 3) ls (v.toList ++ rest) S' (B.1 + my.2.2.2.2.1, B.2 + my.2.2.2.2.2) M' K)) : Wp g (d + 1) m pc ls (v5 :: v4 :: v3 :: v2 :: v1 :: .ref a :: rest) S B M K := x_invV (As := [v1, v2, v3, v4, v5]) hd hl hin hse hY ha hc rfl hw hB h
theorem x_invS1 {v1 : Value} (hd : decode m.2.1 pc = .ok (.invokestatic idx, 3)) (hl : .methodLink m.1 idx y ∈ xG) (hin : .static y ∈ xG) (hY : XY y my 1) (hw : (rest.map fun v => v.category).sum ≤ 8) (hB : B.1 + my.2.2.2.2.1 ≤ m.2.2.2.2.1 ∧ B.2 + my.2.2.2.2.2 ≤ m.2.2.2.2.2)
    (h : Ex g d y my [v1] S M (fun v S' M' => Wp g (d + 1) m (pc + 3) ls (v.toList ++ rest) S' (B.1 + my.2.2.2.2.1, B.2 + my.2.2.2.2.2) M' K)) : Wp g (d + 1) m pc ls (v1 :: rest) S B M K := x_invS (As := [v1]) hd hl hin hY rfl hw hB h
theorem x_invS2 {v1 v2 : Value} (hd : decode m.2.1 pc = .ok (.invokestatic idx, 3)) (hl : .methodLink m.1 idx y ∈ xG) (hin : .static y ∈ xG) (hY : XY y my 2) (hw : (rest.map fun v => v.category).sum ≤ 8) (hB : B.1 + my.2.2.2.2.1 ≤ m.2.2.2.2.1 ∧ B.2 + my.2.2.2.2.2 ≤ m.2.2.2.2.2)
    (h : Ex g d y my [v1, v2] S M (fun v S' M' => Wp g (d + 1) m (pc + 3) ls (v.toList ++ rest) S' (B.1 + my.2.2.2.2.1, B.2 + my.2.2.2.2.2) M' K)) : Wp g (d + 1) m pc ls (v2 :: v1 :: rest) S B M K := x_invS (As := [v1, v2]) hd hl hin hY rfl hw hB h
theorem x_invS3 {v1 v2 v3 : Value} (hd : decode m.2.1 pc = .ok (.invokestatic idx, 3)) (hl : .methodLink m.1 idx y ∈ xG) (hin : .static y ∈ xG) (hY : XY y my 3) (hw : (rest.map fun v => v.category).sum ≤ 8) (hB : B.1 + my.2.2.2.2.1 ≤ m.2.2.2.2.1 ∧ B.2 + my.2.2.2.2.2 ≤ m.2.2.2.2.2)
    (h : Ex g d y my [v1, v2, v3] S M (fun v S' M' => Wp g (d + 1) m (pc + 3) ls (v.toList ++ rest) S' (B.1 + my.2.2.2.2.1, B.2 + my.2.2.2.2.2) M' K)) : Wp g (d + 1) m pc ls (v3 :: v2 :: v1 :: rest) S B M K := x_invS (As := [v1, v2, v3]) hd hl hin hY rfl hw hB h
end XR4
end
