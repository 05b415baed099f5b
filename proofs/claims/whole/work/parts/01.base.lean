-- ===== PART A: goes FIRST, ahead of the names: the tables' words, and 'selects' of the own-only methods out of them =====
/-- a own-only method of a program that the tables say can be made, by its rows of tables_1 -/
def lw_okq (q : MethodName × Nat) : Prop := (q.1.cls ≠ "java/lang/invoke/MethodHandle" ∧ q.1.cls ≠ "java/lang/invoke/VarHandle") ∧ Cond.instantiable q.1.cls q.2 ∈ tables_1 ∧ Cond.privateMethod q.1 ∈ tables_1 ∧ Cond.instanceMethod q.1 ∈ tables_1
theorem lw_p0 : lw_okq (⟨"CarpetReasons$Carpet", "walkTo", "(I)I"⟩, 15) := ⟨⟨by decide +kernel, by decide +kernel⟩, List.mem_of_getElem? (i := 27) (by decide +kernel), List.mem_of_getElem? (i := 317) (by decide +kernel), List.mem_of_getElem? (i := 318) (by decide +kernel)⟩
theorem lw_p1 : lw_okq (⟨"CarpetReasons", "learnYields", "(I)V"⟩, 9) := ⟨⟨by decide +kernel, by decide +kernel⟩, List.mem_of_getElem? (i := 19) (by decide +kernel), List.mem_of_getElem? (i := 341) (by decide +kernel), List.mem_of_getElem? (i := 342) (by decide +kernel)⟩
theorem lw_p2 : lw_okq (⟨"CarpetReasons$Rooms", "clause", "()V"⟩, 12) := ⟨⟨by decide +kernel, by decide +kernel⟩, List.mem_of_getElem? (i := 161) (by decide +kernel), List.mem_of_getElem? (i := 349) (by decide +kernel), List.mem_of_getElem? (i := 350) (by decide +kernel)⟩
theorem lw_p3 : lw_okq (⟨"CarpetReasons$Rooms", "sign", "()I"⟩, 12) := ⟨⟨by decide +kernel, by decide +kernel⟩, List.mem_of_getElem? (i := 161) (by decide +kernel), List.mem_of_getElem? (i := 353) (by decide +kernel), List.mem_of_getElem? (i := 354) (by decide +kernel)⟩
theorem lw_p4 : lw_okq (⟨"CarpetReasons$Rooms", "word", "(Ljava/lang/String;)V"⟩, 12) := ⟨⟨by decide +kernel, by decide +kernel⟩, List.mem_of_getElem? (i := 161) (by decide +kernel), List.mem_of_getElem? (i := 358) (by decide +kernel), List.mem_of_getElem? (i := 359) (by decide +kernel)⟩
theorem lw_p5 : lw_okq (⟨"CarpetReasons$Rooms", "fail", "()I"⟩, 12) := ⟨⟨by decide +kernel, by decide +kernel⟩, List.mem_of_getElem? (i := 161) (by decide +kernel), List.mem_of_getElem? (i := 410) (by decide +kernel), List.mem_of_getElem? (i := 411) (by decide +kernel)⟩
theorem lw_p6 : lw_okq (⟨"CarpetReasons$Rooms", "number", "()I"⟩, 12) := ⟨⟨by decide +kernel, by decide +kernel⟩, List.mem_of_getElem? (i := 161) (by decide +kernel), List.mem_of_getElem? (i := 414) (by decide +kernel), List.mem_of_getElem? (i := 415) (by decide +kernel)⟩
theorem lw_p7 : lw_okq (⟨"CarpetReasons$Rooms", "expression", "(I)I"⟩, 12) := ⟨⟨by decide +kernel, by decide +kernel⟩, List.mem_of_getElem? (i := 161) (by decide +kernel), List.mem_of_getElem? (i := 421) (by decide +kernel), List.mem_of_getElem? (i := 422) (by decide +kernel)⟩
theorem lw_p8 : lw_okq (⟨"CarpetReasons$Rooms", "factor", "(I)I"⟩, 12) := ⟨⟨by decide +kernel, by decide +kernel⟩, List.mem_of_getElem? (i := 161) (by decide +kernel), List.mem_of_getElem? (i := 426) (by decide +kernel), List.mem_of_getElem? (i := 427) (by decide +kernel)⟩
theorem lw_p9 : lw_okq (⟨"CarpetReasons$Rooms", "test", "()I"⟩, 12) := ⟨⟨by decide +kernel, by decide +kernel⟩, List.mem_of_getElem? (i := 161) (by decide +kernel), List.mem_of_getElem? (i := 431) (by decide +kernel), List.mem_of_getElem? (i := 432) (by decide +kernel)⟩
theorem lw_p10 : lw_okq (⟨"CarpetReasons$Rooms", "valueOf", "(II)I"⟩, 12) := ⟨⟨by decide +kernel, by decide +kernel⟩, List.mem_of_getElem? (i := 161) (by decide +kernel), List.mem_of_getElem? (i := 438) (by decide +kernel), List.mem_of_getElem? (i := 439) (by decide +kernel)⟩
theorem lw_p11 : lw_okq (⟨"CarpetReasons$Carpet", "treadsOnWay", "(II)I"⟩, 15) := ⟨⟨by decide +kernel, by decide +kernel⟩, List.mem_of_getElem? (i := 27) (by decide +kernel), List.mem_of_getElem? (i := 478) (by decide +kernel), List.mem_of_getElem? (i := 479) (by decide +kernel)⟩
theorem lw_p12 : lw_okq (⟨"CarpetReasons$Carpet", "treadsOfRow", "(II)I"⟩, 15) := ⟨⟨by decide +kernel, by decide +kernel⟩, List.mem_of_getElem? (i := 27) (by decide +kernel), List.mem_of_getElem? (i := 483) (by decide +kernel), List.mem_of_getElem? (i := 484) (by decide +kernel)⟩
theorem lw_p13 : lw_okq (⟨"CarpetReasons$Asked", "takePrints", "(I)V"⟩, 5) := ⟨⟨by decide +kernel, by decide +kernel⟩, List.mem_of_getElem? (i := 205) (by decide +kernel), List.mem_of_getElem? (i := 629) (by decide +kernel), List.mem_of_getElem? (i := 630) (by decide +kernel)⟩
theorem lw_p14 : lw_okq (⟨"CarpetReasons$Asked", "hasLeft", "(II)Z"⟩, 5) := ⟨⟨by decide +kernel, by decide +kernel⟩, List.mem_of_getElem? (i := 205) (by decide +kernel), List.mem_of_getElem? (i := 638) (by decide +kernel), List.mem_of_getElem? (i := 639) (by decide +kernel)⟩
theorem lw_p15 : lw_okq (⟨"CarpetReasons$Asked", "freeCells", "()I"⟩, 5) := ⟨⟨by decide +kernel, by decide +kernel⟩, List.mem_of_getElem? (i := 205) (by decide +kernel), List.mem_of_getElem? (i := 654) (by decide +kernel), List.mem_of_getElem? (i := 655) (by decide +kernel)⟩
def lw_privs_1 : List (MethodName × Nat) := [(⟨"CarpetReasons$Carpet", "walkTo", "(I)I"⟩, 15), (⟨"CarpetReasons", "learnYields", "(I)V"⟩, 9), (⟨"CarpetReasons$Rooms", "clause", "()V"⟩, 12), (⟨"CarpetReasons$Rooms", "sign", "()I"⟩, 12), (⟨"CarpetReasons$Rooms", "word", "(Ljava/lang/String;)V"⟩, 12), (⟨"CarpetReasons$Rooms", "fail", "()I"⟩, 12), (⟨"CarpetReasons$Rooms", "number", "()I"⟩, 12), (⟨"CarpetReasons$Rooms", "expression", "(I)I"⟩, 12), (⟨"CarpetReasons$Rooms", "factor", "(I)I"⟩, 12), (⟨"CarpetReasons$Rooms", "test", "()I"⟩, 12), (⟨"CarpetReasons$Rooms", "valueOf", "(II)I"⟩, 12), (⟨"CarpetReasons$Carpet", "treadsOnWay", "(II)I"⟩, 15), (⟨"CarpetReasons$Carpet", "treadsOfRow", "(II)I"⟩, 15), (⟨"CarpetReasons$Asked", "takePrints", "(I)V"⟩, 5), (⟨"CarpetReasons$Asked", "hasLeft", "(II)Z"⟩, 5), (⟨"CarpetReasons$Asked", "freeCells", "()I"⟩, 5)]
theorem lw_r1 : ∀ q ∈ lw_privs_1, lw_okq q := List.forall_mem_cons.mpr ⟨lw_p0, List.forall_mem_cons.mpr ⟨lw_p1, List.forall_mem_cons.mpr ⟨lw_p2, List.forall_mem_cons.mpr ⟨lw_p3, List.forall_mem_cons.mpr ⟨lw_p4, List.forall_mem_cons.mpr ⟨lw_p5, List.forall_mem_cons.mpr ⟨lw_p6, List.forall_mem_cons.mpr ⟨lw_p7, List.forall_mem_cons.mpr ⟨lw_p8, List.forall_mem_cons.mpr ⟨lw_p9, List.forall_mem_cons.mpr ⟨lw_p10, List.forall_mem_cons.mpr ⟨lw_p11, List.forall_mem_cons.mpr ⟨lw_p12, List.forall_mem_cons.mpr ⟨lw_p13, List.forall_mem_cons.mpr ⟨lw_p14, List.forall_mem_cons.mpr ⟨lw_p15, fun _ h => absurd h List.not_mem_nil⟩⟩⟩⟩⟩⟩⟩⟩⟩⟩⟩⟩⟩⟩⟩⟩
theorem lw_p16 : lw_okq (⟨"CarpetReasons$Acts", "perform", "(IIII)I"⟩, 5) := ⟨⟨by decide +kernel, by decide +kernel⟩, List.mem_of_getElem? (i := 229) (by decide +kernel), List.mem_of_getElem? (i := 825) (by decide +kernel), List.mem_of_getElem? (i := 826) (by decide +kernel)⟩
theorem lw_p17 : lw_okq (⟨"CarpetReasons$Acts", "run", "(III)I"⟩, 5) := ⟨⟨by decide +kernel, by decide +kernel⟩, List.mem_of_getElem? (i := 229) (by decide +kernel), List.mem_of_getElem? (i := 839) (by decide +kernel), List.mem_of_getElem? (i := 840) (by decide +kernel)⟩
theorem lw_p18 : lw_okq (⟨"CarpetReasonsModel", "in", "(III)Z"⟩, 77) := ⟨⟨by decide +kernel, by decide +kernel⟩, List.mem_of_getElem? (i := 906) (by decide +kernel), List.mem_of_getElem? (i := 1149) (by decide +kernel), List.mem_of_getElem? (i := 1150) (by decide +kernel)⟩
theorem lw_p19 : lw_okq (⟨"CarpetReasonsModel", "isCell", "(I)Z"⟩, 77) := ⟨⟨by decide +kernel, by decide +kernel⟩, List.mem_of_getElem? (i := 906) (by decide +kernel), List.mem_of_getElem? (i := 1153) (by decide +kernel), List.mem_of_getElem? (i := 1154) (by decide +kernel)⟩
theorem lw_p20 : lw_okq (⟨"CarpetReasonsModel", "isWear", "(I)Z"⟩, 77) := ⟨⟨by decide +kernel, by decide +kernel⟩, List.mem_of_getElem? (i := 906) (by decide +kernel), List.mem_of_getElem? (i := 1161) (by decide +kernel), List.mem_of_getElem? (i := 1162) (by decide +kernel)⟩
theorem lw_p21 : lw_okq (⟨"CarpetReasonsModel", "isGoer", "(I)Z"⟩, 77) := ⟨⟨by decide +kernel, by decide +kernel⟩, List.mem_of_getElem? (i := 906) (by decide +kernel), List.mem_of_getElem? (i := 1169) (by decide +kernel), List.mem_of_getElem? (i := 1170) (by decide +kernel)⟩
theorem lw_p22 : lw_okq (⟨"CarpetReasonsModel", "has", "(II)Z"⟩, 77) := ⟨⟨by decide +kernel, by decide +kernel⟩, List.mem_of_getElem? (i := 906) (by decide +kernel), List.mem_of_getElem? (i := 1177) (by decide +kernel), List.mem_of_getElem? (i := 1178) (by decide +kernel)⟩
theorem lw_p23 : lw_okq (⟨"CarpetReasonsModel", "goes", "(IZ)V"⟩, 77) := ⟨⟨by decide +kernel, by decide +kernel⟩, List.mem_of_getElem? (i := 906) (by decide +kernel), List.mem_of_getElem? (i := 1181) (by decide +kernel), List.mem_of_getElem? (i := 1182) (by decide +kernel)⟩
theorem lw_p24 : lw_okq (⟨"CarpetReasonsModel", "goesText", "(I)Z"⟩, 77) := ⟨⟨by decide +kernel, by decide +kernel⟩, List.mem_of_getElem? (i := 906) (by decide +kernel), List.mem_of_getElem? (i := 1201) (by decide +kernel), List.mem_of_getElem? (i := 1202) (by decide +kernel)⟩
theorem lw_p25 : lw_okq (⟨"CarpetReasonsModel", "takesClause", "(I)Z"⟩, 77) := ⟨⟨by decide +kernel, by decide +kernel⟩, List.mem_of_getElem? (i := 906) (by decide +kernel), List.mem_of_getElem? (i := 1205) (by decide +kernel), List.mem_of_getElem? (i := 1206) (by decide +kernel)⟩
theorem lw_p26 : lw_okq (⟨"CarpetReasonsModel", "takesHead", "(I)Z"⟩, 77) := ⟨⟨by decide +kernel, by decide +kernel⟩, List.mem_of_getElem? (i := 906) (by decide +kernel), List.mem_of_getElem? (i := 1209) (by decide +kernel), List.mem_of_getElem? (i := 1210) (by decide +kernel)⟩
theorem lw_p27 : lw_okq (⟨"CarpetReasonsModel", "next", "()I"⟩, 77) := ⟨⟨by decide +kernel, by decide +kernel⟩, List.mem_of_getElem? (i := 906) (by decide +kernel), List.mem_of_getElem? (i := 1213) (by decide +kernel), List.mem_of_getElem? (i := 1214) (by decide +kernel)⟩
theorem lw_p28 : lw_okq (⟨"CarpetReasonsModel", "takesWord", "(II)Z"⟩, 77) := ⟨⟨by decide +kernel, by decide +kernel⟩, List.mem_of_getElem? (i := 906) (by decide +kernel), List.mem_of_getElem? (i := 1217) (by decide +kernel), List.mem_of_getElem? (i := 1218) (by decide +kernel)⟩
theorem lw_p29 : lw_okq (⟨"CarpetReasonsModel", "takes", "(I)Z"⟩, 77) := ⟨⟨by decide +kernel, by decide +kernel⟩, List.mem_of_getElem? (i := 906) (by decide +kernel), List.mem_of_getElem? (i := 1221) (by decide +kernel), List.mem_of_getElem? (i := 1222) (by decide +kernel)⟩
theorem lw_p30 : lw_okq (⟨"CarpetReasonsModel", "takesNumber", "()Z"⟩, 77) := ⟨⟨by decide +kernel, by decide +kernel⟩, List.mem_of_getElem? (i := 906) (by decide +kernel), List.mem_of_getElem? (i := 1225) (by decide +kernel), List.mem_of_getElem? (i := 1226) (by decide +kernel)⟩
theorem lw_p31 : lw_okq (⟨"CarpetReasonsModel", "isDigit", "()Z"⟩, 77) := ⟨⟨by decide +kernel, by decide +kernel⟩, List.mem_of_getElem? (i := 906) (by decide +kernel), List.mem_of_getElem? (i := 1229) (by decide +kernel), List.mem_of_getElem? (i := 1230) (by decide +kernel)⟩
def lw_privs_2 : List (MethodName × Nat) := [(⟨"CarpetReasons$Acts", "perform", "(IIII)I"⟩, 5), (⟨"CarpetReasons$Acts", "run", "(III)I"⟩, 5), (⟨"CarpetReasonsModel", "in", "(III)Z"⟩, 77), (⟨"CarpetReasonsModel", "isCell", "(I)Z"⟩, 77), (⟨"CarpetReasonsModel", "isWear", "(I)Z"⟩, 77), (⟨"CarpetReasonsModel", "isGoer", "(I)Z"⟩, 77), (⟨"CarpetReasonsModel", "has", "(II)Z"⟩, 77), (⟨"CarpetReasonsModel", "goes", "(IZ)V"⟩, 77), (⟨"CarpetReasonsModel", "goesText", "(I)Z"⟩, 77), (⟨"CarpetReasonsModel", "takesClause", "(I)Z"⟩, 77), (⟨"CarpetReasonsModel", "takesHead", "(I)Z"⟩, 77), (⟨"CarpetReasonsModel", "next", "()I"⟩, 77), (⟨"CarpetReasonsModel", "takesWord", "(II)Z"⟩, 77), (⟨"CarpetReasonsModel", "takes", "(I)Z"⟩, 77), (⟨"CarpetReasonsModel", "takesNumber", "()Z"⟩, 77), (⟨"CarpetReasonsModel", "isDigit", "()Z"⟩, 77)]
theorem lw_r2 : ∀ q ∈ lw_privs_2, lw_okq q := List.forall_mem_cons.mpr ⟨lw_p16, List.forall_mem_cons.mpr ⟨lw_p17, List.forall_mem_cons.mpr ⟨lw_p18, List.forall_mem_cons.mpr ⟨lw_p19, List.forall_mem_cons.mpr ⟨lw_p20, List.forall_mem_cons.mpr ⟨lw_p21, List.forall_mem_cons.mpr ⟨lw_p22, List.forall_mem_cons.mpr ⟨lw_p23, List.forall_mem_cons.mpr ⟨lw_p24, List.forall_mem_cons.mpr ⟨lw_p25, List.forall_mem_cons.mpr ⟨lw_p26, List.forall_mem_cons.mpr ⟨lw_p27, List.forall_mem_cons.mpr ⟨lw_p28, List.forall_mem_cons.mpr ⟨lw_p29, List.forall_mem_cons.mpr ⟨lw_p30, List.forall_mem_cons.mpr ⟨lw_p31, fun _ h => absurd h List.not_mem_nil⟩⟩⟩⟩⟩⟩⟩⟩⟩⟩⟩⟩⟩⟩⟩⟩
theorem lw_p32 : lw_okq (⟨"CarpetReasonsModel", "takesE", "(I)Z"⟩, 77) := ⟨⟨by decide +kernel, by decide +kernel⟩, List.mem_of_getElem? (i := 906) (by decide +kernel), List.mem_of_getElem? (i := 1233) (by decide +kernel), List.mem_of_getElem? (i := 1234) (by decide +kernel)⟩
theorem lw_p33 : lw_okq (⟨"CarpetReasonsModel", "takesTest", "()Z"⟩, 77) := ⟨⟨by decide +kernel, by decide +kernel⟩, List.mem_of_getElem? (i := 906) (by decide +kernel), List.mem_of_getElem? (i := 1237) (by decide +kernel), List.mem_of_getElem? (i := 1238) (by decide +kernel)⟩
theorem lw_p34 : lw_okq (⟨"CarpetReasonsModel", "place", "(I)I"⟩, 77) := ⟨⟨by decide +kernel, by decide +kernel⟩, List.mem_of_getElem? (i := 906) (by decide +kernel), List.mem_of_getElem? (i := 1241) (by decide +kernel), List.mem_of_getElem? (i := 1242) (by decide +kernel)⟩
theorem lw_p35 : lw_okq (⟨"CarpetReasonsModel", "emits", "(I)V"⟩, 77) := ⟨⟨by decide +kernel, by decide +kernel⟩, List.mem_of_getElem? (i := 906) (by decide +kernel), List.mem_of_getElem? (i := 1245) (by decide +kernel), List.mem_of_getElem? (i := 1246) (by decide +kernel)⟩
theorem lw_p36 : lw_okq (⟨"CarpetReasonsModel", "whole", "()V"⟩, 77) := ⟨⟨by decide +kernel, by decide +kernel⟩, List.mem_of_getElem? (i := 906) (by decide +kernel), List.mem_of_getElem? (i := 1249) (by decide +kernel), List.mem_of_getElem? (i := 1250) (by decide +kernel)⟩
theorem lw_p37 : lw_okq (⟨"CarpetReasonsModel", "settle", "(I)V"⟩, 77) := ⟨⟨by decide +kernel, by decide +kernel⟩, List.mem_of_getElem? (i := 906) (by decide +kernel), List.mem_of_getElem? (i := 1253) (by decide +kernel), List.mem_of_getElem? (i := 1254) (by decide +kernel)⟩
theorem lw_p38 : lw_okq (⟨"CarpetReasonsModel", "isDays", "(I)Z"⟩, 77) := ⟨⟨by decide +kernel, by decide +kernel⟩, List.mem_of_getElem? (i := 906) (by decide +kernel), List.mem_of_getElem? (i := 1261) (by decide +kernel), List.mem_of_getElem? (i := 1262) (by decide +kernel)⟩
theorem lw_p39 : lw_okq (⟨"CarpetReasonsModel", "layWorn", "()V"⟩, 77) := ⟨⟨by decide +kernel, by decide +kernel⟩, List.mem_of_getElem? (i := 906) (by decide +kernel), List.mem_of_getElem? (i := 1265) (by decide +kernel), List.mem_of_getElem? (i := 1266) (by decide +kernel)⟩
theorem lw_p40 : lw_okq (⟨"CarpetReasonsModel", "waySet", "(I)I"⟩, 77) := ⟨⟨by decide +kernel, by decide +kernel⟩, List.mem_of_getElem? (i := 906) (by decide +kernel), List.mem_of_getElem? (i := 1269) (by decide +kernel), List.mem_of_getElem? (i := 1270) (by decide +kernel)⟩
theorem lw_p41 : lw_okq (⟨"CarpetReasonsModel", "layWay", "(I)V"⟩, 77) := ⟨⟨by decide +kernel, by decide +kernel⟩, List.mem_of_getElem? (i := 906) (by decide +kernel), List.mem_of_getElem? (i := 1273) (by decide +kernel), List.mem_of_getElem? (i := 1274) (by decide +kernel)⟩
theorem lw_p42 : lw_okq (⟨"CarpetReasonsModel", "layFar", "(I)V"⟩, 77) := ⟨⟨by decide +kernel, by decide +kernel⟩, List.mem_of_getElem? (i := 906) (by decide +kernel), List.mem_of_getElem? (i := 1277) (by decide +kernel), List.mem_of_getElem? (i := 1278) (by decide +kernel)⟩
theorem lw_p43 : lw_okq (⟨"CarpetReasonsModel", "isFree", "(II)Z"⟩, 77) := ⟨⟨by decide +kernel, by decide +kernel⟩, List.mem_of_getElem? (i := 906) (by decide +kernel), List.mem_of_getElem? (i := 1281) (by decide +kernel), List.mem_of_getElem? (i := 1282) (by decide +kernel)⟩
theorem lw_p44 : lw_okq (⟨"CarpetReasonsModel", "isNext", "(II)Z"⟩, 77) := ⟨⟨by decide +kernel, by decide +kernel⟩, List.mem_of_getElem? (i := 906) (by decide +kernel), List.mem_of_getElem? (i := 1285) (by decide +kernel), List.mem_of_getElem? (i := 1286) (by decide +kernel)⟩
theorem lw_p45 : lw_okq (⟨"CarpetReasonsModel", "apart", "(II)I"⟩, 77) := ⟨⟨by decide +kernel, by decide +kernel⟩, List.mem_of_getElem? (i := 906) (by decide +kernel), List.mem_of_getElem? (i := 1289) (by decide +kernel), List.mem_of_getElem? (i := 1290) (by decide +kernel)⟩
theorem lw_p46 : lw_okq (⟨"CarpetReasonsModel", "yieldsOf", "(II)I"⟩, 77) := ⟨⟨by decide +kernel, by decide +kernel⟩, List.mem_of_getElem? (i := 906) (by decide +kernel), List.mem_of_getElem? (i := 1293) (by decide +kernel), List.mem_of_getElem? (i := 1294) (by decide +kernel)⟩
theorem lw_p47 : lw_okq (⟨"CarpetReasonsModel", "begin", "()I"⟩, 77) := ⟨⟨by decide +kernel, by decide +kernel⟩, List.mem_of_getElem? (i := 906) (by decide +kernel), List.mem_of_getElem? (i := 1297) (by decide +kernel), List.mem_of_getElem? (i := 1298) (by decide +kernel)⟩
def lw_privs_3 : List (MethodName × Nat) := [(⟨"CarpetReasonsModel", "takesE", "(I)Z"⟩, 77), (⟨"CarpetReasonsModel", "takesTest", "()Z"⟩, 77), (⟨"CarpetReasonsModel", "place", "(I)I"⟩, 77), (⟨"CarpetReasonsModel", "emits", "(I)V"⟩, 77), (⟨"CarpetReasonsModel", "whole", "()V"⟩, 77), (⟨"CarpetReasonsModel", "settle", "(I)V"⟩, 77), (⟨"CarpetReasonsModel", "isDays", "(I)Z"⟩, 77), (⟨"CarpetReasonsModel", "layWorn", "()V"⟩, 77), (⟨"CarpetReasonsModel", "waySet", "(I)I"⟩, 77), (⟨"CarpetReasonsModel", "layWay", "(I)V"⟩, 77), (⟨"CarpetReasonsModel", "layFar", "(I)V"⟩, 77), (⟨"CarpetReasonsModel", "isFree", "(II)Z"⟩, 77), (⟨"CarpetReasonsModel", "isNext", "(II)Z"⟩, 77), (⟨"CarpetReasonsModel", "apart", "(II)I"⟩, 77), (⟨"CarpetReasonsModel", "yieldsOf", "(II)I"⟩, 77), (⟨"CarpetReasonsModel", "begin", "()I"⟩, 77)]
theorem lw_r3 : ∀ q ∈ lw_privs_3, lw_okq q := List.forall_mem_cons.mpr ⟨lw_p32, List.forall_mem_cons.mpr ⟨lw_p33, List.forall_mem_cons.mpr ⟨lw_p34, List.forall_mem_cons.mpr ⟨lw_p35, List.forall_mem_cons.mpr ⟨lw_p36, List.forall_mem_cons.mpr ⟨lw_p37, List.forall_mem_cons.mpr ⟨lw_p38, List.forall_mem_cons.mpr ⟨lw_p39, List.forall_mem_cons.mpr ⟨lw_p40, List.forall_mem_cons.mpr ⟨lw_p41, List.forall_mem_cons.mpr ⟨lw_p42, List.forall_mem_cons.mpr ⟨lw_p43, List.forall_mem_cons.mpr ⟨lw_p44, List.forall_mem_cons.mpr ⟨lw_p45, List.forall_mem_cons.mpr ⟨lw_p46, List.forall_mem_cons.mpr ⟨lw_p47, fun _ h => absurd h List.not_mem_nil⟩⟩⟩⟩⟩⟩⟩⟩⟩⟩⟩⟩⟩⟩⟩⟩
theorem lw_p48 : lw_okq (⟨"CarpetReasonsModel", "behind", "()I"⟩, 77) := ⟨⟨by decide +kernel, by decide +kernel⟩, List.mem_of_getElem? (i := 906) (by decide +kernel), List.mem_of_getElem? (i := 1301) (by decide +kernel), List.mem_of_getElem? (i := 1302) (by decide +kernel)⟩
theorem lw_p49 : lw_okq (⟨"CarpetReasonsModel", "holds", "(III)Z"⟩, 77) := ⟨⟨by decide +kernel, by decide +kernel⟩, List.mem_of_getElem? (i := 906) (by decide +kernel), List.mem_of_getElem? (i := 1305) (by decide +kernel), List.mem_of_getElem? (i := 1306) (by decide +kernel)⟩
theorem lw_p50 : lw_okq (⟨"CarpetReasonsModel", "factOf", "(III)I"⟩, 77) := ⟨⟨by decide +kernel, by decide +kernel⟩, List.mem_of_getElem? (i := 906) (by decide +kernel), List.mem_of_getElem? (i := 1309) (by decide +kernel), List.mem_of_getElem? (i := 1310) (by decide +kernel)⟩
theorem lw_p51 : lw_okq (⟨"CarpetReasonsModel", "treadsBy", "(IIII)I"⟩, 77) := ⟨⟨by decide +kernel, by decide +kernel⟩, List.mem_of_getElem? (i := 906) (by decide +kernel), List.mem_of_getElem? (i := 1313) (by decide +kernel), List.mem_of_getElem? (i := 1314) (by decide +kernel)⟩
theorem lw_p52 : lw_okq (⟨"CarpetReasonsModel", "here", "()I"⟩, 77) := ⟨⟨by decide +kernel, by decide +kernel⟩, List.mem_of_getElem? (i := 906) (by decide +kernel), List.mem_of_getElem? (i := 1317) (by decide +kernel), List.mem_of_getElem? (i := 1318) (by decide +kernel)⟩
theorem lw_p53 : lw_okq (⟨"CarpetReasonsModel", "goDays", "(II)V"⟩, 77) := ⟨⟨by decide +kernel, by decide +kernel⟩, List.mem_of_getElem? (i := 906) (by decide +kernel), List.mem_of_getElem? (i := 1321) (by decide +kernel), List.mem_of_getElem? (i := 1322) (by decide +kernel)⟩
theorem lw_p54 : lw_okq (⟨"CarpetReasonsModel", "goDay", "(I)V"⟩, 77) := ⟨⟨by decide +kernel, by decide +kernel⟩, List.mem_of_getElem? (i := 906) (by decide +kernel), List.mem_of_getElem? (i := 1325) (by decide +kernel), List.mem_of_getElem? (i := 1326) (by decide +kernel)⟩
theorem lw_p55 : lw_okq (⟨"CarpetReasonsModel", "least", "(II)I"⟩, 77) := ⟨⟨by decide +kernel, by decide +kernel⟩, List.mem_of_getElem? (i := 906) (by decide +kernel), List.mem_of_getElem? (i := 1329) (by decide +kernel), List.mem_of_getElem? (i := 1330) (by decide +kernel)⟩
theorem lw_p56 : lw_okq (⟨"CarpetReasonsModel", "laySoon", "()V"⟩, 77) := ⟨⟨by decide +kernel, by decide +kernel⟩, List.mem_of_getElem? (i := 906) (by decide +kernel), List.mem_of_getElem? (i := 1341) (by decide +kernel), List.mem_of_getElem? (i := 1342) (by decide +kernel)⟩
theorem lw_p57 : lw_okq (⟨"CarpetReasonsModel", "save", "()V"⟩, 77) := ⟨⟨by decide +kernel, by decide +kernel⟩, List.mem_of_getElem? (i := 906) (by decide +kernel), List.mem_of_getElem? (i := 1345) (by decide +kernel), List.mem_of_getElem? (i := 1346) (by decide +kernel)⟩
theorem lw_p58 : lw_okq (⟨"CarpetReasonsModel", "bald", "()I"⟩, 77) := ⟨⟨by decide +kernel, by decide +kernel⟩, List.mem_of_getElem? (i := 906) (by decide +kernel), List.mem_of_getElem? (i := 1350) (by decide +kernel), List.mem_of_getElem? (i := 1351) (by decide +kernel)⟩
theorem lw_p59 : lw_okq (⟨"CarpetReasonsModel", "putBack", "()V"⟩, 77) := ⟨⟨by decide +kernel, by decide +kernel⟩, List.mem_of_getElem? (i := 906) (by decide +kernel), List.mem_of_getElem? (i := 1354) (by decide +kernel), List.mem_of_getElem? (i := 1355) (by decide +kernel)⟩
theorem lw_p60 : lw_okq (⟨"CarpetReasonsModel", "baldSet", "()I"⟩, 77) := ⟨⟨by decide +kernel, by decide +kernel⟩, List.mem_of_getElem? (i := 906) (by decide +kernel), List.mem_of_getElem? (i := 1362) (by decide +kernel), List.mem_of_getElem? (i := 1363) (by decide +kernel)⟩
theorem lw_p61 : lw_okq (⟨"CarpetReasonsModel", "allWear", "()I"⟩, 77) := ⟨⟨by decide +kernel, by decide +kernel⟩, List.mem_of_getElem? (i := 906) (by decide +kernel), List.mem_of_getElem? (i := 1366) (by decide +kernel), List.mem_of_getElem? (i := 1367) (by decide +kernel)⟩
theorem lw_p62 : lw_okq (⟨"CarpetReasonsModel", "allWays", "()I"⟩, 77) := ⟨⟨by decide +kernel, by decide +kernel⟩, List.mem_of_getElem? (i := 906) (by decide +kernel), List.mem_of_getElem? (i := 1370) (by decide +kernel), List.mem_of_getElem? (i := 1371) (by decide +kernel)⟩
theorem lw_p63 : lw_okq (⟨"CarpetReasonsModel", "firstOf", "()I"⟩, 77) := ⟨⟨by decide +kernel, by decide +kernel⟩, List.mem_of_getElem? (i := 906) (by decide +kernel), List.mem_of_getElem? (i := 1374) (by decide +kernel), List.mem_of_getElem? (i := 1375) (by decide +kernel)⟩
def lw_privs_4 : List (MethodName × Nat) := [(⟨"CarpetReasonsModel", "behind", "()I"⟩, 77), (⟨"CarpetReasonsModel", "holds", "(III)Z"⟩, 77), (⟨"CarpetReasonsModel", "factOf", "(III)I"⟩, 77), (⟨"CarpetReasonsModel", "treadsBy", "(IIII)I"⟩, 77), (⟨"CarpetReasonsModel", "here", "()I"⟩, 77), (⟨"CarpetReasonsModel", "goDays", "(II)V"⟩, 77), (⟨"CarpetReasonsModel", "goDay", "(I)V"⟩, 77), (⟨"CarpetReasonsModel", "least", "(II)I"⟩, 77), (⟨"CarpetReasonsModel", "laySoon", "()V"⟩, 77), (⟨"CarpetReasonsModel", "save", "()V"⟩, 77), (⟨"CarpetReasonsModel", "bald", "()I"⟩, 77), (⟨"CarpetReasonsModel", "putBack", "()V"⟩, 77), (⟨"CarpetReasonsModel", "baldSet", "()I"⟩, 77), (⟨"CarpetReasonsModel", "allWear", "()I"⟩, 77), (⟨"CarpetReasonsModel", "allWays", "()I"⟩, 77), (⟨"CarpetReasonsModel", "firstOf", "()I"⟩, 77)]
theorem lw_r4 : ∀ q ∈ lw_privs_4, lw_okq q := List.forall_mem_cons.mpr ⟨lw_p48, List.forall_mem_cons.mpr ⟨lw_p49, List.forall_mem_cons.mpr ⟨lw_p50, List.forall_mem_cons.mpr ⟨lw_p51, List.forall_mem_cons.mpr ⟨lw_p52, List.forall_mem_cons.mpr ⟨lw_p53, List.forall_mem_cons.mpr ⟨lw_p54, List.forall_mem_cons.mpr ⟨lw_p55, List.forall_mem_cons.mpr ⟨lw_p56, List.forall_mem_cons.mpr ⟨lw_p57, List.forall_mem_cons.mpr ⟨lw_p58, List.forall_mem_cons.mpr ⟨lw_p59, List.forall_mem_cons.mpr ⟨lw_p60, List.forall_mem_cons.mpr ⟨lw_p61, List.forall_mem_cons.mpr ⟨lw_p62, List.forall_mem_cons.mpr ⟨lw_p63, fun _ h => absurd h List.not_mem_nil⟩⟩⟩⟩⟩⟩⟩⟩⟩⟩⟩⟩⟩⟩⟩⟩
theorem lw_p64 : lw_okq (⟨"CarpetReasonsModel", "isPrint", "(III)Z"⟩, 77) := ⟨⟨by decide +kernel, by decide +kernel⟩, List.mem_of_getElem? (i := 906) (by decide +kernel), List.mem_of_getElem? (i := 1391) (by decide +kernel), List.mem_of_getElem? (i := 1392) (by decide +kernel)⟩
theorem lw_p65 : lw_okq (⟨"CarpetReasonsModel", "bits", "(I)I"⟩, 77) := ⟨⟨by decide +kernel, by decide +kernel⟩, List.mem_of_getElem? (i := 906) (by decide +kernel), List.mem_of_getElem? (i := 1395) (by decide +kernel), List.mem_of_getElem? (i := 1396) (by decide +kernel)⟩
theorem lw_p66 : lw_okq (⟨"CarpetReasonsModel", "standOf", "()I"⟩, 77) := ⟨⟨by decide +kernel, by decide +kernel⟩, List.mem_of_getElem? (i := 906) (by decide +kernel), List.mem_of_getElem? (i := 1403) (by decide +kernel), List.mem_of_getElem? (i := 1404) (by decide +kernel)⟩
theorem lw_p67 : lw_okq (⟨"CarpetReasonsModel", "wearIf", "(I)I"⟩, 77) := ⟨⟨by decide +kernel, by decide +kernel⟩, List.mem_of_getElem? (i := 906) (by decide +kernel), List.mem_of_getElem? (i := 1407) (by decide +kernel), List.mem_of_getElem? (i := 1408) (by decide +kernel)⟩
theorem lw_p68 : lw_okq (⟨"CarpetReasonsModel", "busy", "()I"⟩, 77) := ⟨⟨by decide +kernel, by decide +kernel⟩, List.mem_of_getElem? (i := 906) (by decide +kernel), List.mem_of_getElem? (i := 1411) (by decide +kernel), List.mem_of_getElem? (i := 1412) (by decide +kernel)⟩
theorem lw_p69 : lw_okq (⟨"CarpetReasonsModel", "layOf", "()I"⟩, 77) := ⟨⟨by decide +kernel, by decide +kernel⟩, List.mem_of_getElem? (i := 906) (by decide +kernel), List.mem_of_getElem? (i := 1415) (by decide +kernel), List.mem_of_getElem? (i := 1416) (by decide +kernel)⟩
theorem lw_p70 : lw_okq (⟨"CarpetReasonsModel", "baldIf", "(I)I"⟩, 77) := ⟨⟨by decide +kernel, by decide +kernel⟩, List.mem_of_getElem? (i := 906) (by decide +kernel), List.mem_of_getElem? (i := 1419) (by decide +kernel), List.mem_of_getElem? (i := 1420) (by decide +kernel)⟩
theorem lw_p71 : lw_okq (⟨"CarpetReasonsModel", "isSeen", "(I)Z"⟩, 77) := ⟨⟨by decide +kernel, by decide +kernel⟩, List.mem_of_getElem? (i := 906) (by decide +kernel), List.mem_of_getElem? (i := 1431) (by decide +kernel), List.mem_of_getElem? (i := 1432) (by decide +kernel)⟩
theorem lw_p72 : lw_okq (⟨"CarpetReasonsModel", "lowest", "(III)J"⟩, 77) := ⟨⟨by decide +kernel, by decide +kernel⟩, List.mem_of_getElem? (i := 906) (by decide +kernel), List.mem_of_getElem? (i := 1448) (by decide +kernel), List.mem_of_getElem? (i := 1449) (by decide +kernel)⟩
theorem lw_p73 : lw_okq (⟨"CarpetReasonsModel", "divisor", "(II)I"⟩, 77) := ⟨⟨by decide +kernel, by decide +kernel⟩, List.mem_of_getElem? (i := 906) (by decide +kernel), List.mem_of_getElem? (i := 1452) (by decide +kernel), List.mem_of_getElem? (i := 1453) (by decide +kernel)⟩
theorem lw_p74 : lw_okq (⟨"CarpetReasonsModel", "goPlan", "(II)V"⟩, 77) := ⟨⟨by decide +kernel, by decide +kernel⟩, List.mem_of_getElem? (i := 906) (by decide +kernel), List.mem_of_getElem? (i := 1469) (by decide +kernel), List.mem_of_getElem? (i := 1470) (by decide +kernel)⟩
theorem lw_p75 : lw_okq (⟨"CarpetReasonsModel", "isTape", "(I)Z"⟩, 77) := ⟨⟨by decide +kernel, by decide +kernel⟩, List.mem_of_getElem? (i := 906) (by decide +kernel), List.mem_of_getElem? (i := 1485) (by decide +kernel), List.mem_of_getElem? (i := 1486) (by decide +kernel)⟩
theorem lw_p76 : lw_okq (⟨"CarpetReasonsModel", "stepsAct", "(II)I"⟩, 77) := ⟨⟨by decide +kernel, by decide +kernel⟩, List.mem_of_getElem? (i := 906) (by decide +kernel), List.mem_of_getElem? (i := 1501) (by decide +kernel), List.mem_of_getElem? (i := 1502) (by decide +kernel)⟩
theorem lw_p77 : lw_okq (⟨"CarpetReasonsModel", "body", "(I)V"⟩, 77) := ⟨⟨by decide +kernel, by decide +kernel⟩, List.mem_of_getElem? (i := 906) (by decide +kernel), List.mem_of_getElem? (i := 1505) (by decide +kernel), List.mem_of_getElem? (i := 1506) (by decide +kernel)⟩
theorem lw_p78 : lw_okq (⟨"CarpetReasonsModel", "goerSteps", "(II)I"⟩, 77) := ⟨⟨by decide +kernel, by decide +kernel⟩, List.mem_of_getElem? (i := 906) (by decide +kernel), List.mem_of_getElem? (i := 1509) (by decide +kernel), List.mem_of_getElem? (i := 1510) (by decide +kernel)⟩
theorem lw_p79 : lw_okq (⟨"CarpetReasonsModel", "turnsAct", "(II)I"⟩, 77) := ⟨⟨by decide +kernel, by decide +kernel⟩, List.mem_of_getElem? (i := 906) (by decide +kernel), List.mem_of_getElem? (i := 1513) (by decide +kernel), List.mem_of_getElem? (i := 1514) (by decide +kernel)⟩
def lw_privs_5 : List (MethodName × Nat) := [(⟨"CarpetReasonsModel", "isPrint", "(III)Z"⟩, 77), (⟨"CarpetReasonsModel", "bits", "(I)I"⟩, 77), (⟨"CarpetReasonsModel", "standOf", "()I"⟩, 77), (⟨"CarpetReasonsModel", "wearIf", "(I)I"⟩, 77), (⟨"CarpetReasonsModel", "busy", "()I"⟩, 77), (⟨"CarpetReasonsModel", "layOf", "()I"⟩, 77), (⟨"CarpetReasonsModel", "baldIf", "(I)I"⟩, 77), (⟨"CarpetReasonsModel", "isSeen", "(I)Z"⟩, 77), (⟨"CarpetReasonsModel", "lowest", "(III)J"⟩, 77), (⟨"CarpetReasonsModel", "divisor", "(II)I"⟩, 77), (⟨"CarpetReasonsModel", "goPlan", "(II)V"⟩, 77), (⟨"CarpetReasonsModel", "isTape", "(I)Z"⟩, 77), (⟨"CarpetReasonsModel", "stepsAct", "(II)I"⟩, 77), (⟨"CarpetReasonsModel", "body", "(I)V"⟩, 77), (⟨"CarpetReasonsModel", "goerSteps", "(II)I"⟩, 77), (⟨"CarpetReasonsModel", "turnsAct", "(II)I"⟩, 77)]
theorem lw_r5 : ∀ q ∈ lw_privs_5, lw_okq q := List.forall_mem_cons.mpr ⟨lw_p64, List.forall_mem_cons.mpr ⟨lw_p65, List.forall_mem_cons.mpr ⟨lw_p66, List.forall_mem_cons.mpr ⟨lw_p67, List.forall_mem_cons.mpr ⟨lw_p68, List.forall_mem_cons.mpr ⟨lw_p69, List.forall_mem_cons.mpr ⟨lw_p70, List.forall_mem_cons.mpr ⟨lw_p71, List.forall_mem_cons.mpr ⟨lw_p72, List.forall_mem_cons.mpr ⟨lw_p73, List.forall_mem_cons.mpr ⟨lw_p74, List.forall_mem_cons.mpr ⟨lw_p75, List.forall_mem_cons.mpr ⟨lw_p76, List.forall_mem_cons.mpr ⟨lw_p77, List.forall_mem_cons.mpr ⟨lw_p78, List.forall_mem_cons.mpr ⟨lw_p79, fun _ h => absurd h List.not_mem_nil⟩⟩⟩⟩⟩⟩⟩⟩⟩⟩⟩⟩⟩⟩⟩⟩
theorem lw_p80 : lw_okq (⟨"CarpetReasonsModel", "pacerTurns", "(II)I"⟩, 77) := ⟨⟨by decide +kernel, by decide +kernel⟩, List.mem_of_getElem? (i := 906) (by decide +kernel), List.mem_of_getElem? (i := 1517) (by decide +kernel), List.mem_of_getElem? (i := 1518) (by decide +kernel)⟩
theorem lw_p81 : lw_okq (⟨"CarpetReasonsModel", "goerTurns", "(II)I"⟩, 77) := ⟨⟨by decide +kernel, by decide +kernel⟩, List.mem_of_getElem? (i := 906) (by decide +kernel), List.mem_of_getElem? (i := 1521) (by decide +kernel), List.mem_of_getElem? (i := 1522) (by decide +kernel)⟩
theorem lw_p82 : lw_okq (⟨"CarpetReasonsModel", "tellsAct", "(II)I"⟩, 77) := ⟨⟨by decide +kernel, by decide +kernel⟩, List.mem_of_getElem? (i := 906) (by decide +kernel), List.mem_of_getElem? (i := 1525) (by decide +kernel), List.mem_of_getElem? (i := 1526) (by decide +kernel)⟩
theorem lw_p83 : lw_okq (⟨"CarpetReasonsModel", "goerTells", "(II)I"⟩, 77) := ⟨⟨by decide +kernel, by decide +kernel⟩, List.mem_of_getElem? (i := 906) (by decide +kernel), List.mem_of_getElem? (i := 1529) (by decide +kernel), List.mem_of_getElem? (i := 1530) (by decide +kernel)⟩
theorem lw_p84 : lw_okq (⟨"CarpetReasonsModel", "narrow", "(IJ)J"⟩, 77) := ⟨⟨by decide +kernel, by decide +kernel⟩, List.mem_of_getElem? (i := 906) (by decide +kernel), List.mem_of_getElem? (i := 1553) (by decide +kernel), List.mem_of_getElem? (i := 1554) (by decide +kernel)⟩
def lw_privs_6 : List (MethodName × Nat) := [(⟨"CarpetReasonsModel", "pacerTurns", "(II)I"⟩, 77), (⟨"CarpetReasonsModel", "goerTurns", "(II)I"⟩, 77), (⟨"CarpetReasonsModel", "tellsAct", "(II)I"⟩, 77), (⟨"CarpetReasonsModel", "goerTells", "(II)I"⟩, 77), (⟨"CarpetReasonsModel", "narrow", "(IJ)J"⟩, 77)]
theorem lw_r6 : ∀ q ∈ lw_privs_6, lw_okq q := List.forall_mem_cons.mpr ⟨lw_p80, List.forall_mem_cons.mpr ⟨lw_p81, List.forall_mem_cons.mpr ⟨lw_p82, List.forall_mem_cons.mpr ⟨lw_p83, List.forall_mem_cons.mpr ⟨lw_p84, fun _ h => absurd h List.not_mem_nil⟩⟩⟩⟩⟩
def lw_privs : List (MethodName × Nat) := lw_privs_1 ++ (lw_privs_2 ++ (lw_privs_3 ++ (lw_privs_4 ++ (lw_privs_5 ++ (lw_privs_6)))))
def lw_tbl : List Cond := k2_sels lw_privs ++ tables_1
theorem lw_privs_ok : ∀ q ∈ lw_privs, lw_okq q := by
  show ∀ q ∈ lw_privs_1 ++ (lw_privs_2 ++ (lw_privs_3 ++ (lw_privs_4 ++ (lw_privs_5 ++ (lw_privs_6))))), lw_okq q
  exact List.forall_mem_append.mpr ⟨lw_r1, List.forall_mem_append.mpr ⟨lw_r2, List.forall_mem_append.mpr ⟨lw_r3, List.forall_mem_append.mpr ⟨lw_r4, List.forall_mem_append.mpr ⟨lw_r5, lw_r6⟩⟩⟩⟩⟩

def RX0 : String := "CarpetReasons$Acts"
def TX0 : u_T := fun k => match k with
  | 0 => ("CarpetReasons$Acts", "trace", "[I", true)
  | 1 => ("CarpetReasons$Acts", "ran", "I", false)
  | 2 => ("CarpetReasons$Acts", "goer", "I", false)
  | 3 => ("CarpetReasons$Acts", "kind", "I", false)
  | _ => ("CarpetReasons$Acts", "v", "I", false)
def tyX0 : Nat → FieldType := fun k => match k with
  | 0 => .array .int
  | 1 => .int
  | 2 => .int
  | 3 => .int
  | _ => .int
abbrev wsX00 : List Cond := u_ws RX0 TX0 5
theorem nmX0 : ∀ a, a < 5 → ∀ b, b < 5 → a ≠ b → (TX0 a).2.1 ≠ (TX0 b).2.1 := by decide +kernel
theorem tyX0_ok : ∀ k, k < 5 → parseFieldDescriptor (TX0 k).2.2.1 = some (tyX0 k) := by decide +kernel
abbrev cX0_init : ByteArray := prog_2_method_1_code
def yX0_init : MethodName := ⟨RX0, "<init>", "()V"⟩
abbrev cX0_isAct : ByteArray := prog_2_method_2_code
def yX0_isAct : MethodName := ⟨RX0, "isAct", "(I)Z"⟩
abbrev cX0_forgetTrace : ByteArray := prog_2_method_3_code
def yX0_forgetTrace : MethodName := ⟨RX0, "forgetTrace", "()V"⟩
abbrev cX0_howManyRan : ByteArray := prog_2_method_4_code
def yX0_howManyRan : MethodName := ⟨RX0, "howManyRan", "()I"⟩
abbrev cX0_bodyAt : ByteArray := prog_2_method_5_code
def yX0_bodyAt : MethodName := ⟨RX0, "bodyAt", "(I)I"⟩
abbrev cX0_actOf : ByteArray := prog_2_method_6_code
def yX0_actOf : MethodName := ⟨RX0, "actOf", "(IIIII)I"⟩
abbrev cX0_perform : ByteArray := prog_2_method_7_code
def yX0_perform : MethodName := ⟨RX0, "perform", "(IIII)I"⟩
abbrev cX0_run : ByteArray := prog_2_method_8_code
def yX0_run : MethodName := ⟨RX0, "run", "(III)I"⟩
def RX1 : String := "CarpetReasons$Asked"
def TX1 : u_T := fun k => match k with
  | 0 => ("CarpetReasons$Asked", "now", "LCarpetReasons$Carpet;", true)
  | 1 => ("CarpetReasons$Asked", "notes", "LCarpetReasons$Notes;", true)
  | 2 => ("CarpetReasons$Asked", "rooms", "LCarpetReasons$Rooms;", true)
  | 3 => ("CarpetReasons$Asked", "trial", "LCarpetReasons$Carpet;", true)
  | _ => ("CarpetReasons$Asked", "prints", "[I", true)
def tyX1 : Nat → FieldType := fun k => match k with
  | 0 => .object "CarpetReasons$Carpet"
  | 1 => .object "CarpetReasons$Notes"
  | 2 => .object "CarpetReasons$Rooms"
  | 3 => .object "CarpetReasons$Carpet"
  | _ => .array .int
abbrev wsX10 : List Cond := u_ws RX1 TX1 5
theorem nmX1 : ∀ a, a < 5 → ∀ b, b < 5 → a ≠ b → (TX1 a).2.1 ≠ (TX1 b).2.1 := by decide +kernel
theorem tyX1_ok : ∀ k, k < 5 → parseFieldDescriptor (TX1 k).2.2.1 = some (tyX1 k) := by decide +kernel
abbrev cX1_init : ByteArray := prog_3_method_1_code
def yX1_init : MethodName := ⟨RX1, "<init>", "(LCarpetReasons$Carpet;LCarpetReasons$Notes;LCarpetReasons$Rooms;)V"⟩
abbrev cX1_behind : ByteArray := prog_3_method_2_code
def yX1_behind : MethodName := ⟨RX1, "behind", "(I)LCarpetReasons$Carpet;"⟩
abbrev cX1_behindPlan : ByteArray := prog_3_method_3_code
def yX1_behindPlan : MethodName := ⟨RX1, "behindPlan", "()LCarpetReasons$Carpet;"⟩
abbrev cX1_daysUntilBald : ByteArray := prog_3_method_4_code
def yX1_daysUntilBald : MethodName := ⟨RX1, "daysUntilBald", "(I)I"⟩
abbrev cX1_firstWorn : ByteArray := prog_3_method_5_code
def yX1_firstWorn : MethodName := ⟨RX1, "firstWorn", "()I"⟩
abbrev cX1_fewestWhoLeft : ByteArray := prog_3_method_6_code
def yX1_fewestWhoLeft : MethodName := ⟨RX1, "fewestWhoLeft", "(II)I"⟩
abbrev cX1_setsWhoLeft : ByteArray := prog_3_method_7_code
def yX1_setsWhoLeft : MethodName := ⟨RX1, "setsWhoLeft", "(II)I"⟩
abbrev cX1_takePrints : ByteArray := prog_3_method_8_code
def yX1_takePrints : MethodName := ⟨RX1, "takePrints", "(I)V"⟩
abbrev cX1_hasLeft : ByteArray := prog_3_method_9_code
def yX1_hasLeft : MethodName := ⟨RX1, "hasLeft", "(II)Z"⟩
abbrev cX1_bestFurniture : ByteArray := prog_3_method_10_code
def yX1_bestFurniture : MethodName := ⟨RX1, "bestFurniture", "()I"⟩
abbrev cX1_freeCells : ByteArray := prog_3_method_11_code
def yX1_freeCells : MethodName := ⟨RX1, "freeCells", "()I"⟩
abbrev cX1_cellToLay : ByteArray := prog_3_method_12_code
def yX1_cellToLay : MethodName := ⟨RX1, "cellToLay", "()I"⟩
abbrev cX1_startsOf : ByteArray := prog_3_method_13_code
def yX1_startsOf : MethodName := ⟨RX1, "startsOf", "(I)I"⟩
abbrev cX1_fittingNumbers : ByteArray := prog_3_method_14_code
def yX1_fittingNumbers : MethodName := ⟨RX1, "fittingNumbers", "(I)I"⟩
abbrev cX1_soleGoers : ByteArray := prog_3_method_15_code
def yX1_soleGoers : MethodName := ⟨RX1, "soleGoers", "()I"⟩
abbrev cX1_goersWithoutWhomBald : ByteArray := prog_3_method_16_code
def yX1_goersWithoutWhomBald : MethodName := ⟨RX1, "goersWithoutWhomBald", "(II)I"⟩
def RX2 : String := "CarpetReasons$Carpet"
def TX2 : u_T := fun k => match k with
  | 0 => ("CarpetReasons$Carpet", "wear", "[I", true)
  | 1 => ("CarpetReasons$Carpet", "kind", "[I", true)
  | 2 => ("CarpetReasons$Carpet", "v", "[I", true)
  | 3 => ("CarpetReasons$Carpet", "from", "[I", true)
  | 4 => ("CarpetReasons$Carpet", "to", "[I", true)
  | 5 => ("CarpetReasons$Carpet", "rows", "[I", true)
  | 6 => ("CarpetReasons$Carpet", "ways", "[I", true)
  | 7 => ("CarpetReasons$Carpet", "yields", "[I", true)
  | 8 => ("CarpetReasons$Carpet", "goers", "I", false)
  | 9 => ("CarpetReasons$Carpet", "away", "I", false)
  | 10 => ("CarpetReasons$Carpet", "furniture", "I", false)
  | 11 => ("CarpetReasons$Carpet", "day", "I", false)
  | 12 => ("CarpetReasons$Carpet", "room", "I", false)
  | 13 => ("CarpetReasons$Carpet", "baldAt", "I", false)
  | _ => ("CarpetReasons$Carpet", "search", "LCarpetReasons$Search;", true)
def tyX2 : Nat → FieldType := fun k => match k with
  | 0 => .array .int
  | 1 => .array .int
  | 2 => .array .int
  | 3 => .array .int
  | 4 => .array .int
  | 5 => .array .int
  | 6 => .array .int
  | 7 => .array .int
  | 8 => .int
  | 9 => .int
  | 10 => .int
  | 11 => .int
  | 12 => .int
  | 13 => .int
  | _ => .object "CarpetReasons$Search"
abbrev wsX20 : List Cond := u_ws RX2 TX2 15
theorem nmX2 : ∀ a, a < 15 → ∀ b, b < 15 → a ≠ b → (TX2 a).2.1 ≠ (TX2 b).2.1 := by decide +kernel
theorem tyX2_ok : ∀ k, k < 15 → parseFieldDescriptor (TX2 k).2.2.1 = some (tyX2 k) := by decide +kernel
abbrev cX2_init : ByteArray := prog_4_method_1_code
def yX2_init : MethodName := ⟨RX2, "<init>", "()V"⟩
abbrev cX2_become : ByteArray := prog_4_method_2_code
def yX2_become : MethodName := ⟨RX2, "become", "(LCarpetReasons$Carpet;)V"⟩
abbrev cX2_hasGoer : ByteArray := prog_4_method_3_code
def yX2_hasGoer : MethodName := ⟨RX2, "hasGoer", "(I)Z"⟩
abbrev cX2_isAway : ByteArray := prog_4_method_4_code
def yX2_isAway : MethodName := ⟨RX2, "isAway", "(I)Z"⟩
abbrev cX2_putAway : ByteArray := prog_4_method_5_code
def yX2_putAway : MethodName := ⟨RX2, "putAway", "(IZ)V"⟩
abbrev cX2_addGoer : ByteArray := prog_4_method_6_code
def yX2_addGoer : MethodName := ⟨RX2, "addGoer", "(IIII)I"⟩
abbrev cX2_furnish : ByteArray := prog_4_method_7_code
def yX2_furnish : MethodName := ⟨RX2, "furnish", "(I)V"⟩
abbrev cX2_findWay : ByteArray := prog_4_method_8_code
def yX2_findWay : MethodName := ⟨RX2, "findWay", "(I)V"⟩
abbrev cX2_cellOfWay : ByteArray := prog_4_method_9_code
def yX2_cellOfWay : MethodName := ⟨RX2, "cellOfWay", "(II)I"⟩
abbrev cX2_walkTo : ByteArray := prog_4_method_10_code
def yX2_walkTo : MethodName := ⟨RX2, "walkTo", "(I)I"⟩
abbrev cX2_treads : ByteArray := prog_4_method_11_code
def yX2_treads : MethodName := ⟨RX2, "treads", "(III)I"⟩
abbrev cX2_treadsOnWay : ByteArray := prog_4_method_12_code
def yX2_treadsOnWay : MethodName := ⟨RX2, "treadsOnWay", "(II)I"⟩
abbrev cX2_treadsOfRow : ByteArray := prog_4_method_13_code
def yX2_treadsOfRow : MethodName := ⟨RX2, "treadsOfRow", "(II)I"⟩
abbrev cX2_troddenCells : ByteArray := prog_4_method_14_code
def yX2_troddenCells : MethodName := ⟨RX2, "troddenCells", "()I"⟩
abbrev cX2_printOf : ByteArray := prog_4_method_15_code
def yX2_printOf : MethodName := ⟨RX2, "printOf", "(II)I"⟩
abbrev cX2_gain : ByteArray := prog_4_method_16_code
def yX2_gain : MethodName := ⟨RX2, "gain", "(II)I"⟩
abbrev cX2_spend : ByteArray := prog_4_method_17_code
def yX2_spend : MethodName := ⟨RX2, "spend", "(I)V"⟩
abbrev cX2_limitWear : ByteArray := prog_4_method_18_code
def yX2_limitWear : MethodName := ⟨RX2, "limitWear", "()V"⟩
abbrev cX2_wearOfAll : ByteArray := prog_4_method_19_code
def yX2_wearOfAll : MethodName := ⟨RX2, "wearOfAll", "()I"⟩
abbrev cX2_baldCells : ByteArray := prog_4_method_20_code
def yX2_baldCells : MethodName := ⟨RX2, "baldCells", "()I"⟩
def RX3 : String := "CarpetReasons$Cells"
def TX3 : u_T := fun k => match k with
  | _ => ("", "", "", false)
def tyX3 : Nat → FieldType := fun k => match k with
  | _ => .int
abbrev wsX30 : List Cond := u_ws RX3 TX3 0
theorem nmX3 : ∀ a, a < 0 → ∀ b, b < 0 → a ≠ b → (TX3 a).2.1 ≠ (TX3 b).2.1 := by decide +kernel
theorem tyX3_ok : ∀ k, k < 0 → parseFieldDescriptor (TX3 k).2.2.1 = some (tyX3 k) := by decide +kernel
abbrev cX3_isCell : ByteArray := prog_5_method_2_code
def yX3_isCell : MethodName := ⟨RX3, "isCell", "(I)Z"⟩
abbrev cX3_has : ByteArray := prog_5_method_3_code
def yX3_has : MethodName := ⟨RX3, "has", "(II)Z"⟩
abbrev cX3_nextTo : ByteArray := prog_5_method_4_code
def yX3_nextTo : MethodName := ⟨RX3, "nextTo", "(I)I"⟩
abbrev cX3_first : ByteArray := prog_5_method_5_code
def yX3_first : MethodName := ⟨RX3, "first", "(I)I"⟩
abbrev cX3_howMany : ByteArray := prog_5_method_6_code
def yX3_howMany : MethodName := ⟨RX3, "howMany", "(I)I"⟩
def RX4 : String := "CarpetReasons$Kinds"
def TX4 : u_T := fun k => match k with
  | _ => ("", "", "", false)
def tyX4 : Nat → FieldType := fun k => match k with
  | _ => .int
abbrev wsX40 : List Cond := u_ws RX4 TX4 0
theorem nmX4 : ∀ a, a < 0 → ∀ b, b < 0 → a ≠ b → (TX4 a).2.1 ≠ (TX4 b).2.1 := by decide +kernel
theorem tyX4_ok : ∀ k, k < 0 → parseFieldDescriptor (TX4 k).2.2.1 = some (tyX4 k) := by decide +kernel
abbrev cX4_isKind : ByteArray := prog_6_method_2_code
def yX4_isKind : MethodName := ⟨RX4, "isKind", "(I)Z"⟩
abbrev cX4_above : ByteArray := prog_6_method_3_code
def yX4_above : MethodName := ⟨RX4, "above", "(I)I"⟩
abbrev cX4_isUnder : ByteArray := prog_6_method_4_code
def yX4_isUnder : MethodName := ⟨RX4, "isUnder", "(II)Z"⟩
def RX5 : String := "CarpetReasons$Notes"
def TX5 : u_T := fun k => match k with
  | 0 => ("CarpetReasons$Notes", "seenCells", "[I", true)
  | 1 => ("CarpetReasons$Notes", "seenMore", "[I", true)
  | 2 => ("CarpetReasons$Notes", "seenDays", "[I", true)
  | 3 => ("CarpetReasons$Notes", "planWhats", "[I", true)
  | 4 => ("CarpetReasons$Notes", "planNumbers", "[I", true)
  | 5 => ("CarpetReasons$Notes", "bookCells", "[I", true)
  | 6 => ("CarpetReasons$Notes", "bookWears", "[I", true)
  | 7 => ("CarpetReasons$Notes", "seen", "I", false)
  | 8 => ("CarpetReasons$Notes", "planned", "I", false)
  | _ => ("CarpetReasons$Notes", "booked", "I", false)
def tyX5 : Nat → FieldType := fun k => match k with
  | 0 => .array .int
  | 1 => .array .int
  | 2 => .array .int
  | 3 => .array .int
  | 4 => .array .int
  | 5 => .array .int
  | 6 => .array .int
  | 7 => .int
  | 8 => .int
  | _ => .int
abbrev wsX50 : List Cond := u_ws RX5 TX5 10
theorem nmX5 : ∀ a, a < 10 → ∀ b, b < 10 → a ≠ b → (TX5 a).2.1 ≠ (TX5 b).2.1 := by decide +kernel
theorem tyX5_ok : ∀ k, k < 10 → parseFieldDescriptor (TX5 k).2.2.1 = some (tyX5 k) := by decide +kernel
abbrev cX5_init : ByteArray := prog_7_method_1_code
def yX5_init : MethodName := ⟨RX5, "<init>", "()V"⟩
abbrev cX5_become : ByteArray := prog_7_method_2_code
def yX5_become : MethodName := ⟨RX5, "become", "(LCarpetReasons$Notes;)V"⟩
abbrev cX5_forgetSeen : ByteArray := prog_7_method_3_code
def yX5_forgetSeen : MethodName := ⟨RX5, "forgetSeen", "()I"⟩
abbrev cX5_addSeen : ByteArray := prog_7_method_4_code
def yX5_addSeen : MethodName := ⟨RX5, "addSeen", "(III)Z"⟩
abbrev cX5_isAllSeenSo : ByteArray := prog_7_method_5_code
def yX5_isAllSeenSo : MethodName := ⟨RX5, "isAllSeenSo", "(LCarpetReasons$Carpet;)Z"⟩
abbrev cX5_forgetPlan : ByteArray := prog_7_method_6_code
def yX5_forgetPlan : MethodName := ⟨RX5, "forgetPlan", "()I"⟩
abbrev cX5_addToPlan : ByteArray := prog_7_method_7_code
def yX5_addToPlan : MethodName := ⟨RX5, "addToPlan", "(II)Z"⟩
abbrev cX5_forgetBook : ByteArray := prog_7_method_8_code
def yX5_forgetBook : MethodName := ⟨RX5, "forgetBook", "()I"⟩
abbrev cX5_addToBook : ByteArray := prog_7_method_9_code
def yX5_addToBook : MethodName := ⟨RX5, "addToBook", "(II)Z"⟩
abbrev cX5_firstOtherwise : ByteArray := prog_7_method_10_code
def yX5_firstOtherwise : MethodName := ⟨RX5, "firstOtherwise", "(LCarpetReasons$Carpet;)I"⟩
def RX6 : String := "CarpetReasons$Rooms"
def TX6 : u_T := fun k => match k with
  | 0 => ("CarpetReasons$Rooms", "signs", "[B", true)
  | 1 => ("CarpetReasons$Rooms", "lengths", "[I", true)
  | 2 => ("CarpetReasons$Rooms", "made", "I", false)
  | 3 => ("CarpetReasons$Rooms", "start", "I", false)
  | 4 => ("CarpetReasons$Rooms", "length", "I", false)
  | 5 => ("CarpetReasons$Rooms", "at", "I", false)
  | 6 => ("CarpetReasons$Rooms", "broken", "Z", false)
  | 7 => ("CarpetReasons$Rooms", "goer", "I", false)
  | 8 => ("CarpetReasons$Rooms", "kind", "I", false)
  | 9 => ("CarpetReasons$Rooms", "v", "I", false)
  | 10 => ("CarpetReasons$Rooms", "sums", "[I", true)
  | _ => ("CarpetReasons$Rooms", "bald", "I", false)
def tyX6 : Nat → FieldType := fun k => match k with
  | 0 => .array .byte
  | 1 => .array .int
  | 2 => .int
  | 3 => .int
  | 4 => .int
  | 5 => .int
  | 6 => .boolean
  | 7 => .int
  | 8 => .int
  | 9 => .int
  | 10 => .array .int
  | _ => .int
abbrev wsX60 : List Cond := u_ws RX6 TX6 12
theorem nmX6 : ∀ a, a < 12 → ∀ b, b < 12 → a ≠ b → (TX6 a).2.1 ≠ (TX6 b).2.1 := by decide +kernel
theorem tyX6_ok : ∀ k, k < 12 → parseFieldDescriptor (TX6 k).2.2.1 = some (tyX6 k) := by decide +kernel
abbrev cX6_init : ByteArray := prog_8_method_1_code
def yX6_init : MethodName := ⟨RX6, "<init>", "()V"⟩
abbrev cX6_howMany : ByteArray := prog_8_method_2_code
def yX6_howMany : MethodName := ⟨RX6, "howMany", "()I"⟩
abbrev cX6_textLength : ByteArray := prog_8_method_3_code
def yX6_textLength : MethodName := ⟨RX6, "textLength", "()I"⟩
abbrev cX6_addSign : ByteArray := prog_8_method_4_code
def yX6_addSign : MethodName := ⟨RX6, "addSign", "(B)Z"⟩
abbrev cX6_closeText : ByteArray := prog_8_method_5_code
def yX6_closeText : MethodName := ⟨RX6, "closeText", "()I"⟩
abbrev cX6_baldAt : ByteArray := prog_8_method_6_code
def yX6_baldAt : MethodName := ⟨RX6, "baldAt", "()I"⟩
abbrev cX6_copyYields : ByteArray := prog_8_method_7_code
def yX6_copyYields : MethodName := ⟨RX6, "copyYields", "([II)V"⟩
abbrev cX6_readFor : ByteArray := prog_8_method_8_code
def yX6_readFor : MethodName := ⟨RX6, "readFor", "(IIII)V"⟩
abbrev cX6_clause : ByteArray := prog_8_method_9_code
def yX6_clause : MethodName := ⟨RX6, "clause", "()V"⟩
abbrev cX6_expression : ByteArray := prog_8_method_10_code
def yX6_expression : MethodName := ⟨RX6, "expression", "(I)I"⟩
abbrev cX6_factor : ByteArray := prog_8_method_11_code
def yX6_factor : MethodName := ⟨RX6, "factor", "(I)I"⟩
abbrev cX6_test : ByteArray := prog_8_method_12_code
def yX6_test : MethodName := ⟨RX6, "test", "()I"⟩
abbrev cX6_isLetter : ByteArray := prog_8_method_13_code
def yX6_isLetter : MethodName := ⟨RX6, "isLetter", "(I)Z"⟩
abbrev cX6_valueOf : ByteArray := prog_8_method_14_code
def yX6_valueOf : MethodName := ⟨RX6, "valueOf", "(II)I"⟩
abbrev cX6_number : ByteArray := prog_8_method_15_code
def yX6_number : MethodName := ⟨RX6, "number", "()I"⟩
abbrev cX6_word : ByteArray := prog_8_method_16_code
def yX6_word : MethodName := ⟨RX6, "word", "(Ljava/lang/String;)V"⟩
abbrev cX6_fail : ByteArray := prog_8_method_17_code
def yX6_fail : MethodName := ⟨RX6, "fail", "()I"⟩
abbrev cX6_sign : ByteArray := prog_8_method_18_code
def yX6_sign : MethodName := ⟨RX6, "sign", "()I"⟩
def RX7 : String := "CarpetReasons$Search"
def TX7 : u_T := fun k => match k with
  | 0 => ("CarpetReasons$Search", "layers", "[I", true)
  | _ => ("CarpetReasons$Search", "path", "[I", true)
def tyX7 : Nat → FieldType := fun k => match k with
  | 0 => .array .int
  | _ => .array .int
abbrev wsX70 : List Cond := u_ws RX7 TX7 2
theorem nmX7 : ∀ a, a < 2 → ∀ b, b < 2 → a ≠ b → (TX7 a).2.1 ≠ (TX7 b).2.1 := by decide +kernel
theorem tyX7_ok : ∀ k, k < 2 → parseFieldDescriptor (TX7 k).2.2.1 = some (tyX7 k) := by decide +kernel
abbrev cX7_init : ByteArray := prog_9_method_1_code
def yX7_init : MethodName := ⟨RX7, "<init>", "()V"⟩
abbrev cX7_walk : ByteArray := prog_9_method_2_code
def yX7_walk : MethodName := ⟨RX7, "walk", "(III)I"⟩
abbrev cX7_cellsOf : ByteArray := prog_9_method_3_code
def yX7_cellsOf : MethodName := ⟨RX7, "cellsOf", "(I)I"⟩
abbrev cX7_cellAt : ByteArray := prog_9_method_4_code
def yX7_cellAt : MethodName := ⟨RX7, "cellAt", "(II)I"⟩
def RX8 : String := "CarpetReasons$Tapes"
def TX8 : u_T := fun k => match k with
  | 0 => ("CarpetReasons$Tapes", "items", "[J", true)
  | 1 => ("CarpetReasons$Tapes", "sorts", "[I", true)
  | _ => ("CarpetReasons$Tapes", "sizes", "[I", true)
def tyX8 : Nat → FieldType := fun k => match k with
  | 0 => .array .long
  | 1 => .array .int
  | _ => .array .int
abbrev wsX80 : List Cond := u_ws RX8 TX8 3
theorem nmX8 : ∀ a, a < 3 → ∀ b, b < 3 → a ≠ b → (TX8 a).2.1 ≠ (TX8 b).2.1 := by decide +kernel
theorem tyX8_ok : ∀ k, k < 3 → parseFieldDescriptor (TX8 k).2.2.1 = some (tyX8 k) := by decide +kernel
abbrev cX8_init : ByteArray := prog_10_method_1_code
def yX8_init : MethodName := ⟨RX8, "<init>", "()V"⟩
abbrev cX8_isTape : ByteArray := prog_10_method_2_code
def yX8_isTape : MethodName := ⟨RX8, "isTape", "(I)Z"⟩
abbrev cX8_isEmpty : ByteArray := prog_10_method_3_code
def yX8_isEmpty : MethodName := ⟨RX8, "isEmpty", "(I)Z"⟩
abbrev cX8_sortOf : ByteArray := prog_10_method_4_code
def yX8_sortOf : MethodName := ⟨RX8, "sortOf", "(I)I"⟩
abbrev cX8_hasPlace : ByteArray := prog_10_method_5_code
def yX8_hasPlace : MethodName := ⟨RX8, "hasPlace", "(II)Z"⟩
abbrev cX8_hasStretch : ByteArray := prog_10_method_6_code
def yX8_hasStretch : MethodName := ⟨RX8, "hasStretch", "(III)Z"⟩
abbrev cX8_renew : ByteArray := prog_10_method_7_code
def yX8_renew : MethodName := ⟨RX8, "renew", "(III)V"⟩
abbrev cX8_itemAt : ByteArray := prog_10_method_8_code
def yX8_itemAt : MethodName := ⟨RX8, "itemAt", "(II)J"⟩
abbrev cX8_put : ByteArray := prog_10_method_9_code
def yX8_put : MethodName := ⟨RX8, "put", "(IIJ)V"⟩
abbrev cX8_narrowed : ByteArray := prog_10_method_10_code
def yX8_narrowed : MethodName := ⟨RX8, "narrowed", "(JI)J"⟩
abbrev cX8_copy : ByteArray := prog_10_method_11_code
def yX8_copy : MethodName := ⟨RX8, "copy", "(IIIII)V"⟩
def RX9 : String := "CarpetReasons"
def TX9 : u_T := fun k => match k with
  | 0 => ("CarpetReasons", "carpet", "LCarpetReasons$Carpet;", true)
  | 1 => ("CarpetReasons", "carpetOfImage", "LCarpetReasons$Carpet;", true)
  | 2 => ("CarpetReasons", "notes", "LCarpetReasons$Notes;", true)
  | 3 => ("CarpetReasons", "notesOfImage", "LCarpetReasons$Notes;", true)
  | 4 => ("CarpetReasons", "imageTaken", "Z", false)
  | 5 => ("CarpetReasons", "rooms", "LCarpetReasons$Rooms;", true)
  | 6 => ("CarpetReasons", "asked", "LCarpetReasons$Asked;", true)
  | 7 => ("CarpetReasons", "acts", "LCarpetReasons$Acts;", true)
  | _ => ("CarpetReasons", "tapes", "LCarpetReasons$Tapes;", true)
def tyX9 : Nat → FieldType := fun k => match k with
  | 0 => .object "CarpetReasons$Carpet"
  | 1 => .object "CarpetReasons$Carpet"
  | 2 => .object "CarpetReasons$Notes"
  | 3 => .object "CarpetReasons$Notes"
  | 4 => .boolean
  | 5 => .object "CarpetReasons$Rooms"
  | 6 => .object "CarpetReasons$Asked"
  | 7 => .object "CarpetReasons$Acts"
  | _ => .object "CarpetReasons$Tapes"
abbrev wsX90 : List Cond := u_ws RX9 TX9 9
theorem nmX9 : ∀ a, a < 9 → ∀ b, b < 9 → a ≠ b → (TX9 a).2.1 ≠ (TX9 b).2.1 := by decide +kernel
theorem tyX9_ok : ∀ k, k < 9 → parseFieldDescriptor (TX9 k).2.2.1 = some (tyX9 k) := by decide +kernel
abbrev cX9_init : ByteArray := prog_1_method_1_code
def yX9_init : MethodName := ⟨RX9, "<init>", "()V"⟩
abbrev cX9_goer : ByteArray := prog_1_method_2_code
def yX9_goer : MethodName := ⟨RX9, "goer", "(IIII)I"⟩
abbrev cX9_of : ByteArray := prog_1_method_3_code
def yX9_of : MethodName := ⟨RX9, "of", "(II)I"⟩
abbrev cX9_set : ByteArray := prog_1_method_4_code
def yX9_set : MethodName := ⟨RX9, "set", "(II)I"⟩
abbrev cX9_move : ByteArray := prog_1_method_5_code
def yX9_move : MethodName := ⟨RX9, "move", "(III)I"⟩
abbrev cX9_away : ByteArray := prog_1_method_6_code
def yX9_away : MethodName := ⟨RX9, "away", "(IZ)I"⟩
abbrev cX9_stand : ByteArray := prog_1_method_7_code
def yX9_stand : MethodName := ⟨RX9, "stand", "(IZ)I"⟩
abbrev cX9_row : ByteArray := prog_1_method_8_code
def yX9_row : MethodName := ⟨RX9, "row", "(III)I"⟩
abbrev cX9_feed : ByteArray := prog_1_method_9_code
def yX9_feed : MethodName := ⟨RX9, "feed", "(I)I"⟩
abbrev cX9_room : ByteArray := prog_1_method_10_code
def yX9_room : MethodName := ⟨RX9, "room", "()I"⟩
abbrev cX9_told : ByteArray := prog_1_method_11_code
def yX9_told : MethodName := ⟨RX9, "told", "(I)I"⟩
abbrev cX9_pass : ByteArray := prog_1_method_12_code
def yX9_pass : MethodName := ⟨RX9, "pass", "(I)I"⟩
abbrev cX9_on : ByteArray := prog_1_method_13_code
def yX9_on : MethodName := ⟨RX9, "on", "(II)I"⟩
abbrev cX9_worn : ByteArray := prog_1_method_14_code
def yX9_worn : MethodName := ⟨RX9, "worn", "(I)I"⟩
abbrev cX9_meet : ByteArray := prog_1_method_15_code
def yX9_meet : MethodName := ⟨RX9, "meet", "(II)I"⟩
abbrev cX9_who : ByteArray := prog_1_method_16_code
def yX9_who : MethodName := ⟨RX9, "who", "(III)I"⟩
abbrev cX9_best : ByteArray := prog_1_method_17_code
def yX9_best : MethodName := ⟨RX9, "best", "(I)I"⟩
abbrev cX9_see : ByteArray := prog_1_method_18_code
def yX9_see : MethodName := ⟨RX9, "see", "(III)I"⟩
abbrev cX9_starts : ByteArray := prog_1_method_19_code
def yX9_starts : MethodName := ⟨RX9, "starts", "(I)I"⟩
abbrev cX9_can : ByteArray := prog_1_method_20_code
def yX9_can : MethodName := ⟨RX9, "can", "(II)I"⟩
abbrev cX9_sole : ByteArray := prog_1_method_21_code
def yX9_sole : MethodName := ⟨RX9, "sole", "()I"⟩
abbrev cX9_odds : ByteArray := prog_1_method_22_code
def yX9_odds : MethodName := ⟨RX9, "odds", "(III)J"⟩
abbrev cX9_mean : ByteArray := prog_1_method_23_code
def yX9_mean : MethodName := ⟨RX9, "mean", "(II)J"⟩
abbrev cX9_plan : ByteArray := prog_1_method_24_code
def yX9_plan : MethodName := ⟨RX9, "plan", "(II)I"⟩
abbrev cX9_ends : ByteArray := prog_1_method_25_code
def yX9_ends : MethodName := ⟨RX9, "ends", "(I)I"⟩
abbrev cX9_book : ByteArray := prog_1_method_26_code
def yX9_book : MethodName := ⟨RX9, "book", "(II)I"⟩
abbrev cX9_looked : ByteArray := prog_1_method_27_code
def yX9_looked : MethodName := ⟨RX9, "looked", "()I"⟩
abbrev cX9_judge : ByteArray := prog_1_method_28_code
def yX9_judge : MethodName := ⟨RX9, "judge", "(II)I"⟩
abbrev cX9_image : ByteArray := prog_1_method_29_code
def yX9_image : MethodName := ⟨RX9, "image", "()I"⟩
abbrev cX9_undo : ByteArray := prog_1_method_30_code
def yX9_undo : MethodName := ⟨RX9, "undo", "()I"⟩
abbrev cX9_act : ByteArray := prog_1_method_31_code
def yX9_act : MethodName := ⟨RX9, "act", "(III)I"⟩
abbrev cX9_trace : ByteArray := prog_1_method_32_code
def yX9_trace : MethodName := ⟨RX9, "trace", "(I)I"⟩
abbrev cX9_taken : ByteArray := prog_1_method_33_code
def yX9_taken : MethodName := ⟨RX9, "taken", "(II)I"⟩
abbrev cX9_count : ByteArray := prog_1_method_34_code
def yX9_count : MethodName := ⟨RX9, "count", "(I)I"⟩
abbrev cX9_tape : ByteArray := prog_1_method_35_code
def yX9_tape : MethodName := ⟨RX9, "tape", "(III)I"⟩
abbrev cX9_item : ByteArray := prog_1_method_36_code
def yX9_item : MethodName := ⟨RX9, "item", "(IIJ)I"⟩
abbrev cX9_read : ByteArray := prog_1_method_37_code
def yX9_read : MethodName := ⟨RX9, "read", "(II)J"⟩
abbrev cX9_shift : ByteArray := prog_1_method_38_code
def yX9_shift : MethodName := ⟨RX9, "shift", "(IIIII)I"⟩
abbrev cX9_learnYields : ByteArray := prog_1_method_39_code
def yX9_learnYields : MethodName := ⟨RX9, "learnYields", "(I)V"⟩
abbrev cX9_isBetween : ByteArray := prog_1_method_40_code
def yX9_isBetween : MethodName := ⟨RX9, "isBetween", "(III)Z"⟩
abbrev cX9_isCellAsked : ByteArray := prog_1_method_41_code
def yX9_isCellAsked : MethodName := ⟨RX9, "isCellAsked", "(II)Z"⟩
abbrev cX9_oneIf : ByteArray := prog_1_method_42_code
def yX9_oneIf : MethodName := ⟨RX9, "oneIf", "(Z)I"⟩
abbrev cX9_partOfFraction : ByteArray := prog_1_method_43_code
def yX9_partOfFraction : MethodName := ⟨RX9, "partOfFraction", "(III)J"⟩
abbrev cX9_commonDivisor : ByteArray := prog_1_method_44_code
def yX9_commonDivisor : MethodName := ⟨RX9, "commonDivisor", "(II)I"⟩
def RX10 : String := "CarpetReasonsModel"
def TX10 : u_T := fun k => match k with
  | 0 => ("CarpetReasonsModel", "goers", "I", false)
  | 1 => ("CarpetReasonsModel", "gone", "I", false)
  | 2 => ("CarpetReasonsModel", "stands", "I", false)
  | 3 => ("CarpetReasonsModel", "days", "I", false)
  | 4 => ("CarpetReasonsModel", "wear", "[I", true)
  | 5 => ("CarpetReasonsModel", "kind", "[I", true)
  | 6 => ("CarpetReasonsModel", "v", "[I", true)
  | 7 => ("CarpetReasonsModel", "begins", "[I", true)
  | 8 => ("CarpetReasonsModel", "ends0", "[I", true)
  | 9 => ("CarpetReasonsModel", "rows", "[I", true)
  | 10 => ("CarpetReasonsModel", "rooms", "I", false)
  | 11 => ("CarpetReasonsModel", "the", "I", false)
  | 12 => ("CarpetReasonsModel", "fed", "I", false)
  | 13 => ("CarpetReasonsModel", "at", "I", false)
  | 14 => ("CarpetReasonsModel", "digits", "I", false)
  | 15 => ("CarpetReasonsModel", "text", "[I", true)
  | 16 => ("CarpetReasonsModel", "clauses", "[I", true)
  | 17 => ("CarpetReasonsModel", "word", "[I", true)
  | 18 => ("CarpetReasonsModel", "number", "[I", true)
  | 19 => ("CarpetReasonsModel", "from", "[I", true)
  | 20 => ("CarpetReasonsModel", "to", "[I", true)
  | 21 => ("CarpetReasonsModel", "sign", "[I", true)
  | 22 => ("CarpetReasonsModel", "waits", "[I", true)
  | 23 => ("CarpetReasonsModel", "signs", "I", false)
  | 24 => ("CarpetReasonsModel", "waiting", "I", false)
  | 25 => ("CarpetReasonsModel", "open", "I", false)
  | 26 => ("CarpetReasonsModel", "letters", "[I", true)
  | 27 => ("CarpetReasonsModel", "pile", "[Z", true)
  | 28 => ("CarpetReasonsModel", "dist", "[I", true)
  | 29 => ("CarpetReasonsModel", "wave", "[I", true)
  | 30 => ("CarpetReasonsModel", "way", "[I", true)
  | 31 => ("CarpetReasonsModel", "wayLong", "I", false)
  | 32 => ("CarpetReasonsModel", "worn0", "[I", true)
  | 33 => ("CarpetReasonsModel", "mostWear", "I", false)
  | 34 => ("CarpetReasonsModel", "keptGone", "I", false)
  | 35 => ("CarpetReasonsModel", "keptStands", "I", false)
  | 36 => ("CarpetReasonsModel", "keptDays", "I", false)
  | 37 => ("CarpetReasonsModel", "keptWear", "[I", true)
  | 38 => ("CarpetReasonsModel", "soon", "[I", true)
  | 39 => ("CarpetReasonsModel", "seen", "I", false)
  | 40 => ("CarpetReasonsModel", "seenCell", "[I", true)
  | 41 => ("CarpetReasonsModel", "seenMore", "[I", true)
  | 42 => ("CarpetReasonsModel", "seenWhen", "[I", true)
  | 43 => ("CarpetReasonsModel", "plans", "I", false)
  | 44 => ("CarpetReasonsModel", "books", "I", false)
  | 45 => ("CarpetReasonsModel", "planWhat", "[I", true)
  | 46 => ("CarpetReasonsModel", "planNumber", "[I", true)
  | 47 => ("CarpetReasonsModel", "bookCell", "[I", true)
  | 48 => ("CarpetReasonsModel", "bookWear", "[I", true)
  | 49 => ("CarpetReasonsModel", "hasImage", "Z", false)
  | 50 => ("CarpetReasonsModel", "imageThe", "I", false)
  | 51 => ("CarpetReasonsModel", "imageGoers", "I", false)
  | 52 => ("CarpetReasonsModel", "imageGone", "I", false)
  | 53 => ("CarpetReasonsModel", "imageStands", "I", false)
  | 54 => ("CarpetReasonsModel", "imageDays", "I", false)
  | 55 => ("CarpetReasonsModel", "imageSeen", "I", false)
  | 56 => ("CarpetReasonsModel", "imagePlans", "I", false)
  | 57 => ("CarpetReasonsModel", "imageBooks", "I", false)
  | 58 => ("CarpetReasonsModel", "imageWear", "[I", true)
  | 59 => ("CarpetReasonsModel", "imageKind", "[I", true)
  | 60 => ("CarpetReasonsModel", "imageV", "[I", true)
  | 61 => ("CarpetReasonsModel", "imageFrom", "[I", true)
  | 62 => ("CarpetReasonsModel", "imageTo", "[I", true)
  | 63 => ("CarpetReasonsModel", "imageRows", "[I", true)
  | 64 => ("CarpetReasonsModel", "imageCell", "[I", true)
  | 65 => ("CarpetReasonsModel", "imageMore", "[I", true)
  | 66 => ("CarpetReasonsModel", "imageWhen", "[I", true)
  | 67 => ("CarpetReasonsModel", "imageWhat", "[I", true)
  | 68 => ("CarpetReasonsModel", "imageNumber", "[I", true)
  | 69 => ("CarpetReasonsModel", "imageBookCell", "[I", true)
  | 70 => ("CarpetReasonsModel", "imageBookWear", "[I", true)
  | 71 => ("CarpetReasonsModel", "ran", "I", false)
  | 72 => ("CarpetReasonsModel", "bodies", "[I", true)
  | 73 => ("CarpetReasonsModel", "sort", "[I", true)
  | 74 => ("CarpetReasonsModel", "length", "[I", true)
  | 75 => ("CarpetReasonsModel", "item", "[J", true)
  | _ => ("CarpetReasonsModel", "aside", "[J", true)
def tyX10 : Nat → FieldType := fun k => match k with
  | 0 => .int
  | 1 => .int
  | 2 => .int
  | 3 => .int
  | 4 => .array .int
  | 5 => .array .int
  | 6 => .array .int
  | 7 => .array .int
  | 8 => .array .int
  | 9 => .array .int
  | 10 => .int
  | 11 => .int
  | 12 => .int
  | 13 => .int
  | 14 => .int
  | 15 => .array .int
  | 16 => .array .int
  | 17 => .array .int
  | 18 => .array .int
  | 19 => .array .int
  | 20 => .array .int
  | 21 => .array .int
  | 22 => .array .int
  | 23 => .int
  | 24 => .int
  | 25 => .int
  | 26 => .array .int
  | 27 => .array .boolean
  | 28 => .array .int
  | 29 => .array .int
  | 30 => .array .int
  | 31 => .int
  | 32 => .array .int
  | 33 => .int
  | 34 => .int
  | 35 => .int
  | 36 => .int
  | 37 => .array .int
  | 38 => .array .int
  | 39 => .int
  | 40 => .array .int
  | 41 => .array .int
  | 42 => .array .int
  | 43 => .int
  | 44 => .int
  | 45 => .array .int
  | 46 => .array .int
  | 47 => .array .int
  | 48 => .array .int
  | 49 => .boolean
  | 50 => .int
  | 51 => .int
  | 52 => .int
  | 53 => .int
  | 54 => .int
  | 55 => .int
  | 56 => .int
  | 57 => .int
  | 58 => .array .int
  | 59 => .array .int
  | 60 => .array .int
  | 61 => .array .int
  | 62 => .array .int
  | 63 => .array .int
  | 64 => .array .int
  | 65 => .array .int
  | 66 => .array .int
  | 67 => .array .int
  | 68 => .array .int
  | 69 => .array .int
  | 70 => .array .int
  | 71 => .int
  | 72 => .array .int
  | 73 => .array .int
  | 74 => .array .int
  | 75 => .array .long
  | _ => .array .long
abbrev wsX100 : List Cond := u_ws RX10 TX10 77
theorem nmX10 : ∀ a, a < 77 → ∀ b, b < 77 → a ≠ b → (TX10 a).2.1 ≠ (TX10 b).2.1 := by decide +kernel
theorem tyX10_ok : ∀ k, k < 77 → parseFieldDescriptor (TX10 k).2.2.1 = some (tyX10 k) := by decide +kernel
abbrev cX10_init : ByteArray := prog_12_method_1_code
def yX10_init : MethodName := ⟨RX10, "<init>", "()V"⟩
abbrev cX10_in : ByteArray := prog_12_method_2_code
def yX10_in : MethodName := ⟨RX10, "in", "(III)Z"⟩
abbrev cX10_has : ByteArray := prog_12_method_3_code
def yX10_has : MethodName := ⟨RX10, "has", "(II)Z"⟩
abbrev cX10_least : ByteArray := prog_12_method_4_code
def yX10_least : MethodName := ⟨RX10, "least", "(II)I"⟩
abbrev cX10_bits : ByteArray := prog_12_method_5_code
def yX10_bits : MethodName := ⟨RX10, "bits", "(I)I"⟩
abbrev cX10_apart : ByteArray := prog_12_method_6_code
def yX10_apart : MethodName := ⟨RX10, "apart", "(II)I"⟩
abbrev cX10_isNext : ByteArray := prog_12_method_7_code
def yX10_isNext : MethodName := ⟨RX10, "isNext", "(II)Z"⟩
abbrev cX10_isCell : ByteArray := prog_12_method_8_code
def yX10_isCell : MethodName := ⟨RX10, "isCell", "(I)Z"⟩
abbrev cX10_isGoer : ByteArray := prog_12_method_9_code
def yX10_isGoer : MethodName := ⟨RX10, "isGoer", "(I)Z"⟩
abbrev cX10_isWear : ByteArray := prog_12_method_10_code
def yX10_isWear : MethodName := ⟨RX10, "isWear", "(I)Z"⟩
abbrev cX10_isDays : ByteArray := prog_12_method_11_code
def yX10_isDays : MethodName := ⟨RX10, "isDays", "(I)Z"⟩
abbrev cX10_goer : ByteArray := prog_12_method_12_code
def yX10_goer : MethodName := ⟨RX10, "goer", "(IIII)I"⟩
abbrev cX10_set : ByteArray := prog_12_method_13_code
def yX10_set : MethodName := ⟨RX10, "set", "(II)I"⟩
abbrev cX10_move : ByteArray := prog_12_method_14_code
def yX10_move : MethodName := ⟨RX10, "move", "(III)I"⟩
abbrev cX10_goes : ByteArray := prog_12_method_15_code
def yX10_goes : MethodName := ⟨RX10, "goes", "(IZ)V"⟩
abbrev cX10_away : ByteArray := prog_12_method_16_code
def yX10_away : MethodName := ⟨RX10, "away", "(IZ)I"⟩
abbrev cX10_stand : ByteArray := prog_12_method_17_code
def yX10_stand : MethodName := ⟨RX10, "stand", "(IZ)I"⟩
abbrev cX10_row : ByteArray := prog_12_method_18_code
def yX10_row : MethodName := ⟨RX10, "row", "(III)I"⟩
abbrev cX10_feed : ByteArray := prog_12_method_19_code
def yX10_feed : MethodName := ⟨RX10, "feed", "(I)I"⟩
abbrev cX10_next : ByteArray := prog_12_method_20_code
def yX10_next : MethodName := ⟨RX10, "next", "()I"⟩
abbrev cX10_takes : ByteArray := prog_12_method_21_code
def yX10_takes : MethodName := ⟨RX10, "takes", "(I)Z"⟩
abbrev cX10_takesWord : ByteArray := prog_12_method_22_code
def yX10_takesWord : MethodName := ⟨RX10, "takesWord", "(II)Z"⟩
abbrev cX10_isDigit : ByteArray := prog_12_method_23_code
def yX10_isDigit : MethodName := ⟨RX10, "isDigit", "()Z"⟩
abbrev cX10_takesNumber : ByteArray := prog_12_method_24_code
def yX10_takesNumber : MethodName := ⟨RX10, "takesNumber", "()Z"⟩
abbrev cX10_emits : ByteArray := prog_12_method_25_code
def yX10_emits : MethodName := ⟨RX10, "emits", "(I)V"⟩
abbrev cX10_whole : ByteArray := prog_12_method_26_code
def yX10_whole : MethodName := ⟨RX10, "whole", "()V"⟩
abbrev cX10_settle : ByteArray := prog_12_method_27_code
def yX10_settle : MethodName := ⟨RX10, "settle", "(I)V"⟩
abbrev cX10_place : ByteArray := prog_12_method_28_code
def yX10_place : MethodName := ⟨RX10, "place", "(I)I"⟩
abbrev cX10_takesTest : ByteArray := prog_12_method_29_code
def yX10_takesTest : MethodName := ⟨RX10, "takesTest", "()Z"⟩
abbrev cX10_takesE : ByteArray := prog_12_method_30_code
def yX10_takesE : MethodName := ⟨RX10, "takesE", "(I)Z"⟩
abbrev cX10_takesHead : ByteArray := prog_12_method_31_code
def yX10_takesHead : MethodName := ⟨RX10, "takesHead", "(I)Z"⟩
abbrev cX10_takesClause : ByteArray := prog_12_method_32_code
def yX10_takesClause : MethodName := ⟨RX10, "takesClause", "(I)Z"⟩
abbrev cX10_goesText : ByteArray := prog_12_method_33_code
def yX10_goesText : MethodName := ⟨RX10, "goesText", "(I)Z"⟩
abbrev cX10_room : ByteArray := prog_12_method_34_code
def yX10_room : MethodName := ⟨RX10, "room", "()I"⟩
abbrev cX10_begin : ByteArray := prog_12_method_35_code
def yX10_begin : MethodName := ⟨RX10, "begin", "()I"⟩
abbrev cX10_behind : ByteArray := prog_12_method_36_code
def yX10_behind : MethodName := ⟨RX10, "behind", "()I"⟩
abbrev cX10_bald : ByteArray := prog_12_method_37_code
def yX10_bald : MethodName := ⟨RX10, "bald", "()I"⟩
abbrev cX10_factOf : ByteArray := prog_12_method_38_code
def yX10_factOf : MethodName := ⟨RX10, "factOf", "(III)I"⟩
abbrev cX10_holds : ByteArray := prog_12_method_39_code
def yX10_holds : MethodName := ⟨RX10, "holds", "(III)Z"⟩
abbrev cX10_yieldsOf : ByteArray := prog_12_method_40_code
def yX10_yieldsOf : MethodName := ⟨RX10, "yieldsOf", "(II)I"⟩
abbrev cX10_isFree : ByteArray := prog_12_method_41_code
def yX10_isFree : MethodName := ⟨RX10, "isFree", "(II)Z"⟩
abbrev cX10_layFar : ByteArray := prog_12_method_42_code
def yX10_layFar : MethodName := ⟨RX10, "layFar", "(I)V"⟩
abbrev cX10_layWay : ByteArray := prog_12_method_43_code
def yX10_layWay : MethodName := ⟨RX10, "layWay", "(I)V"⟩
abbrev cX10_waySet : ByteArray := prog_12_method_44_code
def yX10_waySet : MethodName := ⟨RX10, "waySet", "(I)I"⟩
abbrev cX10_treadsBy : ByteArray := prog_12_method_45_code
def yX10_treadsBy : MethodName := ⟨RX10, "treadsBy", "(IIII)I"⟩
abbrev cX10_layWorn : ByteArray := prog_12_method_46_code
def yX10_layWorn : MethodName := ⟨RX10, "layWorn", "()V"⟩
abbrev cX10_here : ByteArray := prog_12_method_47_code
def yX10_here : MethodName := ⟨RX10, "here", "()I"⟩
abbrev cX10_goDay : ByteArray := prog_12_method_48_code
def yX10_goDay : MethodName := ⟨RX10, "goDay", "(I)V"⟩
abbrev cX10_goDays : ByteArray := prog_12_method_49_code
def yX10_goDays : MethodName := ⟨RX10, "goDays", "(II)V"⟩
abbrev cX10_pass : ByteArray := prog_12_method_50_code
def yX10_pass : MethodName := ⟨RX10, "pass", "(I)I"⟩
abbrev cX10_baldSet : ByteArray := prog_12_method_51_code
def yX10_baldSet : MethodName := ⟨RX10, "baldSet", "()I"⟩
abbrev cX10_allWear : ByteArray := prog_12_method_52_code
def yX10_allWear : MethodName := ⟨RX10, "allWear", "()I"⟩
abbrev cX10_allWays : ByteArray := prog_12_method_53_code
def yX10_allWays : MethodName := ⟨RX10, "allWays", "()I"⟩
abbrev cX10_of : ByteArray := prog_12_method_54_code
def yX10_of : MethodName := ⟨RX10, "of", "(II)I"⟩
abbrev cX10_save : ByteArray := prog_12_method_55_code
def yX10_save : MethodName := ⟨RX10, "save", "()V"⟩
abbrev cX10_putBack : ByteArray := prog_12_method_56_code
def yX10_putBack : MethodName := ⟨RX10, "putBack", "()V"⟩
abbrev cX10_laySoon : ByteArray := prog_12_method_57_code
def yX10_laySoon : MethodName := ⟨RX10, "laySoon", "()V"⟩
abbrev cX10_worn : ByteArray := prog_12_method_58_code
def yX10_worn : MethodName := ⟨RX10, "worn", "(I)I"⟩
abbrev cX10_firstOf : ByteArray := prog_12_method_59_code
def yX10_firstOf : MethodName := ⟨RX10, "firstOf", "()I"⟩
abbrev cX10_told : ByteArray := prog_12_method_60_code
def yX10_told : MethodName := ⟨RX10, "told", "(I)I"⟩
abbrev cX10_on : ByteArray := prog_12_method_61_code
def yX10_on : MethodName := ⟨RX10, "on", "(II)I"⟩
abbrev cX10_meet : ByteArray := prog_12_method_62_code
def yX10_meet : MethodName := ⟨RX10, "meet", "(II)I"⟩
abbrev cX10_isPrint : ByteArray := prog_12_method_63_code
def yX10_isPrint : MethodName := ⟨RX10, "isPrint", "(III)Z"⟩
abbrev cX10_who : ByteArray := prog_12_method_64_code
def yX10_who : MethodName := ⟨RX10, "who", "(III)I"⟩
abbrev cX10_wearIf : ByteArray := prog_12_method_65_code
def yX10_wearIf : MethodName := ⟨RX10, "wearIf", "(I)I"⟩
abbrev cX10_busy : ByteArray := prog_12_method_66_code
def yX10_busy : MethodName := ⟨RX10, "busy", "()I"⟩
abbrev cX10_standOf : ByteArray := prog_12_method_67_code
def yX10_standOf : MethodName := ⟨RX10, "standOf", "()I"⟩
abbrev cX10_baldIf : ByteArray := prog_12_method_68_code
def yX10_baldIf : MethodName := ⟨RX10, "baldIf", "(I)I"⟩
abbrev cX10_layOf : ByteArray := prog_12_method_69_code
def yX10_layOf : MethodName := ⟨RX10, "layOf", "()I"⟩
abbrev cX10_best : ByteArray := prog_12_method_70_code
def yX10_best : MethodName := ⟨RX10, "best", "(I)I"⟩
abbrev cX10_see : ByteArray := prog_12_method_71_code
def yX10_see : MethodName := ⟨RX10, "see", "(III)I"⟩
abbrev cX10_isSeen : ByteArray := prog_12_method_72_code
def yX10_isSeen : MethodName := ⟨RX10, "isSeen", "(I)Z"⟩
abbrev cX10_starts : ByteArray := prog_12_method_73_code
def yX10_starts : MethodName := ⟨RX10, "starts", "(I)I"⟩
abbrev cX10_can : ByteArray := prog_12_method_74_code
def yX10_can : MethodName := ⟨RX10, "can", "(II)I"⟩
abbrev cX10_sole : ByteArray := prog_12_method_75_code
def yX10_sole : MethodName := ⟨RX10, "sole", "()I"⟩
abbrev cX10_divisor : ByteArray := prog_12_method_76_code
def yX10_divisor : MethodName := ⟨RX10, "divisor", "(II)I"⟩
abbrev cX10_lowest : ByteArray := prog_12_method_77_code
def yX10_lowest : MethodName := ⟨RX10, "lowest", "(III)J"⟩
abbrev cX10_odds : ByteArray := prog_12_method_78_code
def yX10_odds : MethodName := ⟨RX10, "odds", "(III)J"⟩
abbrev cX10_mean : ByteArray := prog_12_method_79_code
def yX10_mean : MethodName := ⟨RX10, "mean", "(II)J"⟩
abbrev cX10_plan : ByteArray := prog_12_method_80_code
def yX10_plan : MethodName := ⟨RX10, "plan", "(II)I"⟩
abbrev cX10_goPlan : ByteArray := prog_12_method_81_code
def yX10_goPlan : MethodName := ⟨RX10, "goPlan", "(II)V"⟩
abbrev cX10_ends : ByteArray := prog_12_method_82_code
def yX10_ends : MethodName := ⟨RX10, "ends", "(I)I"⟩
abbrev cX10_book : ByteArray := prog_12_method_83_code
def yX10_book : MethodName := ⟨RX10, "book", "(II)I"⟩
abbrev cX10_looked : ByteArray := prog_12_method_84_code
def yX10_looked : MethodName := ⟨RX10, "looked", "()I"⟩
abbrev cX10_judge : ByteArray := prog_12_method_85_code
def yX10_judge : MethodName := ⟨RX10, "judge", "(II)I"⟩
abbrev cX10_image : ByteArray := prog_12_method_86_code
def yX10_image : MethodName := ⟨RX10, "image", "()I"⟩
abbrev cX10_undo : ByteArray := prog_12_method_87_code
def yX10_undo : MethodName := ⟨RX10, "undo", "()I"⟩
abbrev cX10_body : ByteArray := prog_12_method_88_code
def yX10_body : MethodName := ⟨RX10, "body", "(I)V"⟩
abbrev cX10_goerSteps : ByteArray := prog_12_method_89_code
def yX10_goerSteps : MethodName := ⟨RX10, "goerSteps", "(II)I"⟩
abbrev cX10_stepsAct : ByteArray := prog_12_method_90_code
def yX10_stepsAct : MethodName := ⟨RX10, "stepsAct", "(II)I"⟩
abbrev cX10_goerTurns : ByteArray := prog_12_method_91_code
def yX10_goerTurns : MethodName := ⟨RX10, "goerTurns", "(II)I"⟩
abbrev cX10_pacerTurns : ByteArray := prog_12_method_92_code
def yX10_pacerTurns : MethodName := ⟨RX10, "pacerTurns", "(II)I"⟩
abbrev cX10_turnsAct : ByteArray := prog_12_method_93_code
def yX10_turnsAct : MethodName := ⟨RX10, "turnsAct", "(II)I"⟩
abbrev cX10_goerTells : ByteArray := prog_12_method_94_code
def yX10_goerTells : MethodName := ⟨RX10, "goerTells", "(II)I"⟩
abbrev cX10_tellsAct : ByteArray := prog_12_method_95_code
def yX10_tellsAct : MethodName := ⟨RX10, "tellsAct", "(II)I"⟩
abbrev cX10_act : ByteArray := prog_12_method_96_code
def yX10_act : MethodName := ⟨RX10, "act", "(III)I"⟩
abbrev cX10_trace : ByteArray := prog_12_method_97_code
def yX10_trace : MethodName := ⟨RX10, "trace", "(I)I"⟩
abbrev cX10_taken : ByteArray := prog_12_method_98_code
def yX10_taken : MethodName := ⟨RX10, "taken", "(II)I"⟩
abbrev cX10_count : ByteArray := prog_12_method_99_code
def yX10_count : MethodName := ⟨RX10, "count", "(I)I"⟩
abbrev cX10_isTape : ByteArray := prog_12_method_100_code
def yX10_isTape : MethodName := ⟨RX10, "isTape", "(I)Z"⟩
abbrev cX10_tape : ByteArray := prog_12_method_101_code
def yX10_tape : MethodName := ⟨RX10, "tape", "(III)I"⟩
abbrev cX10_narrow : ByteArray := prog_12_method_102_code
def yX10_narrow : MethodName := ⟨RX10, "narrow", "(IJ)J"⟩
abbrev cX10_item : ByteArray := prog_12_method_103_code
def yX10_item : MethodName := ⟨RX10, "item", "(IIJ)I"⟩
abbrev cX10_read : ByteArray := prog_12_method_104_code
def yX10_read : MethodName := ⟨RX10, "read", "(II)J"⟩
abbrev cX10_shift : ByteArray := prog_12_method_105_code
def yX10_shift : MethodName := ⟨RX10, "shift", "(IIIII)I"⟩
def RJ9 : String := "java/lang/Math"
def TJ9 : u_T := fun k => match k with
  | _ => ("", "", "", false)
def tyJ9 : Nat → FieldType := fun k => match k with
  | _ => .int
abbrev cJ9_max_7cf53 : ByteArray := prog_13_method_65_code
def yJ9_max_7cf53 : MethodName := ⟨RJ9, "max", "(II)I"⟩
abbrev cJ9_min_7cf53 : ByteArray := prog_13_method_69_code
def yJ9_min_7cf53 : MethodName := ⟨RJ9, "min", "(II)I"⟩
def RJ0 : String := "java/lang/String"
def TJ0 : u_T := fun k => match k with
  | _ => ("", "", "", false)
def tyJ0 : Nat → FieldType := fun k => match k with
  | _ => .int
abbrev cJ0_length_8abf5 : ByteArray := prog_14_method_54_code
def yJ0_length_8abf5 : MethodName := ⟨RJ0, "length", "()I"⟩
abbrev cJ0_charAt_5068e : ByteArray := prog_14_method_56_code
def yJ0_charAt_5068e : MethodName := ⟨RJ0, "charAt", "(I)C"⟩
abbrev cJ0_coder_7d493 : ByteArray := prog_14_method_152_code
def yJ0_coder_7d493 : MethodName := ⟨RJ0, "coder", "()B"⟩
abbrev cJ0_isLatin1_aae02 : ByteArray := prog_14_method_154_code
def yJ0_isLatin1_aae02 : MethodName := ⟨RJ0, "isLatin1", "()Z"⟩
abbrev cJ0_checkIndex_df160 : ByteArray := prog_14_method_155_code
def yJ0_checkIndex_df160 : MethodName := ⟨RJ0, "checkIndex", "(II)V"⟩
def RJ1 : String := "java/lang/StringLatin1"
def TJ1 : u_T := fun k => match k with
  | _ => ("", "", "", false)
def tyJ1 : Nat → FieldType := fun k => match k with
  | _ => .int
abbrev cJ1_charAt_3b067 : ByteArray := prog_15_method_2_code
def yJ1_charAt_3b067 : MethodName := ⟨RJ1, "charAt", "([BI)C"⟩
def RJ2 : String := "java/lang/StringUTF16"
def TJ2 : u_T := fun k => match k with
  | _ => ("", "", "", false)
def tyJ2 : Nat → FieldType := fun k => match k with
  | _ => .int
abbrev cJ2_getChar_3b067 : ByteArray := prog_16_method_5_code
def yJ2_getChar_3b067 : MethodName := ⟨RJ2, "getChar", "([BI)C"⟩
abbrev cJ2_length_9d52b : ByteArray := prog_16_method_6_code
def yJ2_length_9d52b : MethodName := ⟨RJ2, "length", "([B)I"⟩
abbrev cJ2_charAt_3b067 : ByteArray := prog_16_method_83_code
def yJ2_charAt_3b067 : MethodName := ⟨RJ2, "charAt", "([BI)C"⟩
abbrev cJ2_checkIndex_2214a : ByteArray := prog_16_method_91_code
def yJ2_checkIndex_2214a : MethodName := ⟨RJ2, "checkIndex", "(I[B)V"⟩
def RJ10 : String := "java/lang/System"
def TJ10 : u_T := fun k => match k with
  | _ => ("", "", "", false)
def tyJ10 : Nat → FieldType := fun k => match k with
  | _ => .int
def RJ3 : String := "jdk/internal/util/Preconditions"
def TJ3 : u_T := fun k => match k with
  | _ => ("", "", "", false)
def tyJ3 : Nat → FieldType := fun k => match k with
  | _ => .int
abbrev cJ3_checkIndex_8e157 : ByteArray := prog_18_method_11_code
def yJ3_checkIndex_8e157 : MethodName := ⟨RJ3, "checkIndex", "(IILjava/util/function/BiFunction;)I"⟩
def RL : String := "CarpetReasonsLaw"
abbrev cL_law : ByteArray := code
def yL_law : MethodName := ⟨RL, "law", "([I)Z"⟩
