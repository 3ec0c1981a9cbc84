section
-- ===== PART A: goes FIRST, ahead of the names: the tables' words, and 'selects' of the private methods out of them =====
/-- a private method of a class that the tables say can be made, by its rows of tables_1 -/
def lw_okq (q : MethodName × Nat) : Prop := (q.1.cls ≠ "java/lang/invoke/MethodHandle" ∧ q.1.cls ≠ "java/lang/invoke/VarHandle") ∧ Cond.instantiable q.1.cls q.2 ∈ tables_1 ∧ Cond.privateMethod q.1 ∈ tables_1 ∧ Cond.instanceMethod q.1 ∈ tables_1
theorem lw_p0 : lw_okq (⟨"AskedIn", "paceAt", "(II)I"⟩, 8) := ⟨⟨by decide +kernel, by decide +kernel⟩, List.mem_of_getElem? (i := 22) (by decide +kernel), List.mem_of_getElem? (i := 401) (by decide +kernel), List.mem_of_getElem? (i := 402) (by decide +kernel)⟩
theorem lw_p1 : lw_okq (⟨"AskedIn$Towns", "holds", "(II)Z"⟩, 7) := ⟨⟨by decide +kernel, by decide +kernel⟩, List.mem_of_getElem? (i := 217) (by decide +kernel), List.mem_of_getElem? (i := 414) (by decide +kernel), List.mem_of_getElem? (i := 415) (by decide +kernel)⟩
theorem lw_p2 : lw_okq (⟨"AskedIn$Text", "clause", "()V"⟩, 7) := ⟨⟨by decide +kernel, by decide +kernel⟩, List.mem_of_getElem? (i := 139) (by decide +kernel), List.mem_of_getElem? (i := 465) (by decide +kernel), List.mem_of_getElem? (i := 466) (by decide +kernel)⟩
theorem lw_p3 : lw_okq (⟨"AskedIn$Text", "take", "(C)Z"⟩, 7) := ⟨⟨by decide +kernel, by decide +kernel⟩, List.mem_of_getElem? (i := 139) (by decide +kernel), List.mem_of_getElem? (i := 469) (by decide +kernel), List.mem_of_getElem? (i := 470) (by decide +kernel)⟩
theorem lw_p4 : lw_okq (⟨"AskedIn$Text", "word", "(Ljava/lang/String;)V"⟩, 7) := ⟨⟨by decide +kernel, by decide +kernel⟩, List.mem_of_getElem? (i := 139) (by decide +kernel), List.mem_of_getElem? (i := 476) (by decide +kernel), List.mem_of_getElem? (i := 477) (by decide +kernel)⟩
theorem lw_p5 : lw_okq (⟨"AskedIn$Text", "number", "()I"⟩, 7) := ⟨⟨by decide +kernel, by decide +kernel⟩, List.mem_of_getElem? (i := 139) (by decide +kernel), List.mem_of_getElem? (i := 528) (by decide +kernel), List.mem_of_getElem? (i := 529) (by decide +kernel)⟩
theorem lw_p6 : lw_okq (⟨"AskedIn$Text", "choice", "(Ljava/lang/String;)I"⟩, 7) := ⟨⟨by decide +kernel, by decide +kernel⟩, List.mem_of_getElem? (i := 139) (by decide +kernel), List.mem_of_getElem? (i := 533) (by decide +kernel), List.mem_of_getElem? (i := 534) (by decide +kernel)⟩
theorem lw_p7 : lw_okq (⟨"AskedIn$Text", "either", "(I)V"⟩, 7) := ⟨⟨by decide +kernel, by decide +kernel⟩, List.mem_of_getElem? (i := 139) (by decide +kernel), List.mem_of_getElem? (i := 595) (by decide +kernel), List.mem_of_getElem? (i := 596) (by decide +kernel)⟩
theorem lw_p8 : lw_okq (⟨"AskedIn$Text", "part", "(I)V"⟩, 7) := ⟨⟨by decide +kernel, by decide +kernel⟩, List.mem_of_getElem? (i := 139) (by decide +kernel), List.mem_of_getElem? (i := 599) (by decide +kernel), List.mem_of_getElem? (i := 600) (by decide +kernel)⟩
theorem lw_p9 : lw_okq (⟨"AskedIn$Text", "note", "(II)V"⟩, 7) := ⟨⟨by decide +kernel, by decide +kernel⟩, List.mem_of_getElem? (i := 139) (by decide +kernel), List.mem_of_getElem? (i := 603) (by decide +kernel), List.mem_of_getElem? (i := 604) (by decide +kernel)⟩
theorem lw_p10 : lw_okq (⟨"AskedIn$Night", "isLet", "(I)Z"⟩, 10) := ⟨⟨by decide +kernel, by decide +kernel⟩, List.mem_of_getElem? (i := 289) (by decide +kernel), List.mem_of_getElem? (i := 652) (by decide +kernel), List.mem_of_getElem? (i := 653) (by decide +kernel)⟩
theorem lw_p11 : lw_okq (⟨"AskedIn$Night", "isLate", "(I)Z"⟩, 10) := ⟨⟨by decide +kernel, by decide +kernel⟩, List.mem_of_getElem? (i := 289) (by decide +kernel), List.mem_of_getElem? (i := 656) (by decide +kernel), List.mem_of_getElem? (i := 657) (by decide +kernel)⟩
theorem lw_p12 : lw_okq (⟨"AskedIn$Night", "isKnown", "(II)Z"⟩, 10) := ⟨⟨by decide +kernel, by decide +kernel⟩, List.mem_of_getElem? (i := 289) (by decide +kernel), List.mem_of_getElem? (i := 660) (by decide +kernel), List.mem_of_getElem? (i := 661) (by decide +kernel)⟩
theorem lw_p13 : lw_okq (⟨"AskedIn$Night", "pays", "(I)Z"⟩, 10) := ⟨⟨by decide +kernel, by decide +kernel⟩, List.mem_of_getElem? (i := 289) (by decide +kernel), List.mem_of_getElem? (i := 670) (by decide +kernel), List.mem_of_getElem? (i := 671) (by decide +kernel)⟩
theorem lw_p14 : lw_okq (⟨"AskedIn$Round", "swap", "(II)V"⟩, 5) := ⟨⟨by decide +kernel, by decide +kernel⟩, List.mem_of_getElem? (i := 261) (by decide +kernel), List.mem_of_getElem? (i := 720) (by decide +kernel), List.mem_of_getElem? (i := 721) (by decide +kernel)⟩
theorem lw_p15 : lw_okq (⟨"AskedIn$Questions", "insAt", "(II)I"⟩, 4) := ⟨⟨by decide +kernel, by decide +kernel⟩, List.mem_of_getElem? (i := 255) (by decide +kernel), List.mem_of_getElem? (i := 741) (by decide +kernel), List.mem_of_getElem? (i := 742) (by decide +kernel)⟩
def lw_privs_1 : List (MethodName × Nat) := [(⟨"AskedIn", "paceAt", "(II)I"⟩, 8), (⟨"AskedIn$Towns", "holds", "(II)Z"⟩, 7), (⟨"AskedIn$Text", "clause", "()V"⟩, 7), (⟨"AskedIn$Text", "take", "(C)Z"⟩, 7), (⟨"AskedIn$Text", "word", "(Ljava/lang/String;)V"⟩, 7), (⟨"AskedIn$Text", "number", "()I"⟩, 7), (⟨"AskedIn$Text", "choice", "(Ljava/lang/String;)I"⟩, 7), (⟨"AskedIn$Text", "either", "(I)V"⟩, 7), (⟨"AskedIn$Text", "part", "(I)V"⟩, 7), (⟨"AskedIn$Text", "note", "(II)V"⟩, 7), (⟨"AskedIn$Night", "isLet", "(I)Z"⟩, 10), (⟨"AskedIn$Night", "isLate", "(I)Z"⟩, 10), (⟨"AskedIn$Night", "isKnown", "(II)Z"⟩, 10), (⟨"AskedIn$Night", "pays", "(I)Z"⟩, 10), (⟨"AskedIn$Round", "swap", "(II)V"⟩, 5), (⟨"AskedIn$Questions", "insAt", "(II)I"⟩, 4)]
theorem lw_r1 : ∀ q ∈ lw_privs_1, lw_okq q := List.forall_mem_cons.mpr ⟨lw_p0, List.forall_mem_cons.mpr ⟨lw_p1, List.forall_mem_cons.mpr ⟨lw_p2, List.forall_mem_cons.mpr ⟨lw_p3, List.forall_mem_cons.mpr ⟨lw_p4, List.forall_mem_cons.mpr ⟨lw_p5, List.forall_mem_cons.mpr ⟨lw_p6, List.forall_mem_cons.mpr ⟨lw_p7, List.forall_mem_cons.mpr ⟨lw_p8, List.forall_mem_cons.mpr ⟨lw_p9, List.forall_mem_cons.mpr ⟨lw_p10, List.forall_mem_cons.mpr ⟨lw_p11, List.forall_mem_cons.mpr ⟨lw_p12, List.forall_mem_cons.mpr ⟨lw_p13, List.forall_mem_cons.mpr ⟨lw_p14, List.forall_mem_cons.mpr ⟨lw_p15, fun _ h => absurd h List.not_mem_nil⟩⟩⟩⟩⟩⟩⟩⟩⟩⟩⟩⟩⟩⟩⟩⟩
theorem lw_p16 : lw_okq (⟨"AskedIn$Questions", "walk", "(II)I"⟩, 4) := ⟨⟨by decide +kernel, by decide +kernel⟩, List.mem_of_getElem? (i := 255) (by decide +kernel), List.mem_of_getElem? (i := 758) (by decide +kernel), List.mem_of_getElem? (i := 759) (by decide +kernel)⟩
theorem lw_p17 : lw_okq (⟨"AskedIn$Questions", "apartAt", "(II)I"⟩, 4) := ⟨⟨by decide +kernel, by decide +kernel⟩, List.mem_of_getElem? (i := 255) (by decide +kernel), List.mem_of_getElem? (i := 793) (by decide +kernel), List.mem_of_getElem? (i := 794) (by decide +kernel)⟩
theorem lw_p18 : lw_okq (⟨"AskedIn$Acts", "call", "(IIII)I"⟩, 5) := ⟨⟨by decide +kernel, by decide +kernel⟩, List.mem_of_getElem? (i := 172) (by decide +kernel), List.mem_of_getElem? (i := 874) (by decide +kernel), List.mem_of_getElem? (i := 875) (by decide +kernel)⟩
theorem lw_p19 : lw_okq (⟨"AskedIn$Acts", "run", "(IIII)I"⟩, 5) := ⟨⟨by decide +kernel, by decide +kernel⟩, List.mem_of_getElem? (i := 172) (by decide +kernel), List.mem_of_getElem? (i := 883) (by decide +kernel), List.mem_of_getElem? (i := 884) (by decide +kernel)⟩
theorem lw_p20 : lw_okq (⟨"AskedIn$Acts", "note", "(I)V"⟩, 5) := ⟨⟨by decide +kernel, by decide +kernel⟩, List.mem_of_getElem? (i := 172) (by decide +kernel), List.mem_of_getElem? (i := 887) (by decide +kernel), List.mem_of_getElem? (i := 888) (by decide +kernel)⟩
theorem lw_p21 : lw_okq (⟨"AskedInModel", "in", "(III)Z"⟩, 70) := ⟨⟨by decide +kernel, by decide +kernel⟩, List.mem_of_getElem? (i := 939) (by decide +kernel), List.mem_of_getElem? (i := 1161) (by decide +kernel), List.mem_of_getElem? (i := 1162) (by decide +kernel)⟩
theorem lw_p22 : lw_okq (⟨"AskedInModel", "becomes", "(III)V"⟩, 70) := ⟨⟨by decide +kernel, by decide +kernel⟩, List.mem_of_getElem? (i := 939) (by decide +kernel), List.mem_of_getElem? (i := 1165) (by decide +kernel), List.mem_of_getElem? (i := 1166) (by decide +kernel)⟩
theorem lw_p23 : lw_okq (⟨"AskedInModel", "isHouse", "(I)Z"⟩, 70) := ⟨⟨by decide +kernel, by decide +kernel⟩, List.mem_of_getElem? (i := 939) (by decide +kernel), List.mem_of_getElem? (i := 1173) (by decide +kernel), List.mem_of_getElem? (i := 1174) (by decide +kernel)⟩
theorem lw_p24 : lw_okq (⟨"AskedInModel", "isFolk", "(I)Z"⟩, 70) := ⟨⟨by decide +kernel, by decide +kernel⟩, List.mem_of_getElem? (i := 939) (by decide +kernel), List.mem_of_getElem? (i := 1181) (by decide +kernel), List.mem_of_getElem? (i := 1182) (by decide +kernel)⟩
theorem lw_p25 : lw_okq (⟨"AskedInModel", "goesText", "(I)Z"⟩, 70) := ⟨⟨by decide +kernel, by decide +kernel⟩, List.mem_of_getElem? (i := 939) (by decide +kernel), List.mem_of_getElem? (i := 1213) (by decide +kernel), List.mem_of_getElem? (i := 1214) (by decide +kernel)⟩
theorem lw_p26 : lw_okq (⟨"AskedInModel", "takesClause", "(I)Z"⟩, 70) := ⟨⟨by decide +kernel, by decide +kernel⟩, List.mem_of_getElem? (i := 939) (by decide +kernel), List.mem_of_getElem? (i := 1217) (by decide +kernel), List.mem_of_getElem? (i := 1218) (by decide +kernel)⟩
theorem lw_p27 : lw_okq (⟨"AskedInModel", "takesHead", "(I)Z"⟩, 70) := ⟨⟨by decide +kernel, by decide +kernel⟩, List.mem_of_getElem? (i := 939) (by decide +kernel), List.mem_of_getElem? (i := 1221) (by decide +kernel), List.mem_of_getElem? (i := 1222) (by decide +kernel)⟩
theorem lw_p28 : lw_okq (⟨"AskedInModel", "peek", "()I"⟩, 70) := ⟨⟨by decide +kernel, by decide +kernel⟩, List.mem_of_getElem? (i := 939) (by decide +kernel), List.mem_of_getElem? (i := 1225) (by decide +kernel), List.mem_of_getElem? (i := 1226) (by decide +kernel)⟩
theorem lw_p29 : lw_okq (⟨"AskedInModel", "takesWord", "(II)Z"⟩, 70) := ⟨⟨by decide +kernel, by decide +kernel⟩, List.mem_of_getElem? (i := 939) (by decide +kernel), List.mem_of_getElem? (i := 1229) (by decide +kernel), List.mem_of_getElem? (i := 1230) (by decide +kernel)⟩
theorem lw_p30 : lw_okq (⟨"AskedInModel", "takes", "(I)Z"⟩, 70) := ⟨⟨by decide +kernel, by decide +kernel⟩, List.mem_of_getElem? (i := 939) (by decide +kernel), List.mem_of_getElem? (i := 1233) (by decide +kernel), List.mem_of_getElem? (i := 1234) (by decide +kernel)⟩
theorem lw_p31 : lw_okq (⟨"AskedInModel", "takesNumber", "()Z"⟩, 70) := ⟨⟨by decide +kernel, by decide +kernel⟩, List.mem_of_getElem? (i := 939) (by decide +kernel), List.mem_of_getElem? (i := 1237) (by decide +kernel), List.mem_of_getElem? (i := 1238) (by decide +kernel)⟩
def lw_privs_2 : List (MethodName × Nat) := [(⟨"AskedIn$Questions", "walk", "(II)I"⟩, 4), (⟨"AskedIn$Questions", "apartAt", "(II)I"⟩, 4), (⟨"AskedIn$Acts", "call", "(IIII)I"⟩, 5), (⟨"AskedIn$Acts", "run", "(IIII)I"⟩, 5), (⟨"AskedIn$Acts", "note", "(I)V"⟩, 5), (⟨"AskedInModel", "in", "(III)Z"⟩, 70), (⟨"AskedInModel", "becomes", "(III)V"⟩, 70), (⟨"AskedInModel", "isHouse", "(I)Z"⟩, 70), (⟨"AskedInModel", "isFolk", "(I)Z"⟩, 70), (⟨"AskedInModel", "goesText", "(I)Z"⟩, 70), (⟨"AskedInModel", "takesClause", "(I)Z"⟩, 70), (⟨"AskedInModel", "takesHead", "(I)Z"⟩, 70), (⟨"AskedInModel", "peek", "()I"⟩, 70), (⟨"AskedInModel", "takesWord", "(II)Z"⟩, 70), (⟨"AskedInModel", "takes", "(I)Z"⟩, 70), (⟨"AskedInModel", "takesNumber", "()Z"⟩, 70)]
theorem lw_r2 : ∀ q ∈ lw_privs_2, lw_okq q := List.forall_mem_cons.mpr ⟨lw_p16, List.forall_mem_cons.mpr ⟨lw_p17, List.forall_mem_cons.mpr ⟨lw_p18, List.forall_mem_cons.mpr ⟨lw_p19, List.forall_mem_cons.mpr ⟨lw_p20, List.forall_mem_cons.mpr ⟨lw_p21, List.forall_mem_cons.mpr ⟨lw_p22, List.forall_mem_cons.mpr ⟨lw_p23, List.forall_mem_cons.mpr ⟨lw_p24, List.forall_mem_cons.mpr ⟨lw_p25, List.forall_mem_cons.mpr ⟨lw_p26, List.forall_mem_cons.mpr ⟨lw_p27, List.forall_mem_cons.mpr ⟨lw_p28, List.forall_mem_cons.mpr ⟨lw_p29, List.forall_mem_cons.mpr ⟨lw_p30, List.forall_mem_cons.mpr ⟨lw_p31, fun _ h => absurd h List.not_mem_nil⟩⟩⟩⟩⟩⟩⟩⟩⟩⟩⟩⟩⟩⟩⟩⟩
theorem lw_p32 : lw_okq (⟨"AskedInModel", "isDigit", "()Z"⟩, 70) := ⟨⟨by decide +kernel, by decide +kernel⟩, List.mem_of_getElem? (i := 939) (by decide +kernel), List.mem_of_getElem? (i := 1241) (by decide +kernel), List.mem_of_getElem? (i := 1242) (by decide +kernel)⟩
theorem lw_p33 : lw_okq (⟨"AskedInModel", "takesE", "(I)Z"⟩, 70) := ⟨⟨by decide +kernel, by decide +kernel⟩, List.mem_of_getElem? (i := 939) (by decide +kernel), List.mem_of_getElem? (i := 1245) (by decide +kernel), List.mem_of_getElem? (i := 1246) (by decide +kernel)⟩
theorem lw_p34 : lw_okq (⟨"AskedInModel", "takesTest", "()Z"⟩, 70) := ⟨⟨by decide +kernel, by decide +kernel⟩, List.mem_of_getElem? (i := 939) (by decide +kernel), List.mem_of_getElem? (i := 1249) (by decide +kernel), List.mem_of_getElem? (i := 1250) (by decide +kernel)⟩
theorem lw_p35 : lw_okq (⟨"AskedInModel", "place", "(I)I"⟩, 70) := ⟨⟨by decide +kernel, by decide +kernel⟩, List.mem_of_getElem? (i := 939) (by decide +kernel), List.mem_of_getElem? (i := 1253) (by decide +kernel), List.mem_of_getElem? (i := 1254) (by decide +kernel)⟩
theorem lw_p36 : lw_okq (⟨"AskedInModel", "emits", "(I)V"⟩, 70) := ⟨⟨by decide +kernel, by decide +kernel⟩, List.mem_of_getElem? (i := 939) (by decide +kernel), List.mem_of_getElem? (i := 1257) (by decide +kernel), List.mem_of_getElem? (i := 1258) (by decide +kernel)⟩
theorem lw_p37 : lw_okq (⟨"AskedInModel", "whole", "()V"⟩, 70) := ⟨⟨by decide +kernel, by decide +kernel⟩, List.mem_of_getElem? (i := 939) (by decide +kernel), List.mem_of_getElem? (i := 1261) (by decide +kernel), List.mem_of_getElem? (i := 1262) (by decide +kernel)⟩
theorem lw_p38 : lw_okq (⟨"AskedInModel", "settle", "(I)V"⟩, 70) := ⟨⟨by decide +kernel, by decide +kernel⟩, List.mem_of_getElem? (i := 939) (by decide +kernel), List.mem_of_getElem? (i := 1265) (by decide +kernel), List.mem_of_getElem? (i := 1266) (by decide +kernel)⟩
theorem lw_p39 : lw_okq (⟨"AskedInModel", "begin", "()I"⟩, 70) := ⟨⟨by decide +kernel, by decide +kernel⟩, List.mem_of_getElem? (i := 939) (by decide +kernel), List.mem_of_getElem? (i := 1273) (by decide +kernel), List.mem_of_getElem? (i := 1274) (by decide +kernel)⟩
theorem lw_p40 : lw_okq (⟨"AskedInModel", "behind", "()I"⟩, 70) := ⟨⟨by decide +kernel, by decide +kernel⟩, List.mem_of_getElem? (i := 939) (by decide +kernel), List.mem_of_getElem? (i := 1277) (by decide +kernel), List.mem_of_getElem? (i := 1278) (by decide +kernel)⟩
theorem lw_p41 : lw_okq (⟨"AskedInModel", "slowOf", "(III)I"⟩, 70) := ⟨⟨by decide +kernel, by decide +kernel⟩, List.mem_of_getElem? (i := 939) (by decide +kernel), List.mem_of_getElem? (i := 1285) (by decide +kernel), List.mem_of_getElem? (i := 1286) (by decide +kernel)⟩
theorem lw_p42 : lw_okq (⟨"AskedInModel", "sumOf", "(IIIII)I"⟩, 70) := ⟨⟨by decide +kernel, by decide +kernel⟩, List.mem_of_getElem? (i := 939) (by decide +kernel), List.mem_of_getElem? (i := 1289) (by decide +kernel), List.mem_of_getElem? (i := 1290) (by decide +kernel)⟩
theorem lw_p43 : lw_okq (⟨"AskedInModel", "holds", "(IIII)Z"⟩, 70) := ⟨⟨by decide +kernel, by decide +kernel⟩, List.mem_of_getElem? (i := 939) (by decide +kernel), List.mem_of_getElem? (i := 1293) (by decide +kernel), List.mem_of_getElem? (i := 1294) (by decide +kernel)⟩
theorem lw_p44 : lw_okq (⟨"AskedInModel", "factOf", "(IIII)I"⟩, 70) := ⟨⟨by decide +kernel, by decide +kernel⟩, List.mem_of_getElem? (i := 939) (by decide +kernel), List.mem_of_getElem? (i := 1297) (by decide +kernel), List.mem_of_getElem? (i := 1298) (by decide +kernel)⟩
theorem lw_p45 : lw_okq (⟨"AskedInModel", "farOf", "(III)I"⟩, 70) := ⟨⟨by decide +kernel, by decide +kernel⟩, List.mem_of_getElem? (i := 939) (by decide +kernel), List.mem_of_getElem? (i := 1301) (by decide +kernel), List.mem_of_getElem? (i := 1302) (by decide +kernel)⟩
theorem lw_p46 : lw_okq (⟨"AskedInModel", "comesIn", "(III)Z"⟩, 70) := ⟨⟨by decide +kernel, by decide +kernel⟩, List.mem_of_getElem? (i := 939) (by decide +kernel), List.mem_of_getElem? (i := 1309) (by decide +kernel), List.mem_of_getElem? (i := 1310) (by decide +kernel)⟩
theorem lw_p47 : lw_okq (⟨"AskedInModel", "beginNight", "(II)V"⟩, 70) := ⟨⟨by decide +kernel, by decide +kernel⟩, List.mem_of_getElem? (i := 939) (by decide +kernel), List.mem_of_getElem? (i := 1313) (by decide +kernel), List.mem_of_getElem? (i := 1314) (by decide +kernel)⟩
def lw_privs_3 : List (MethodName × Nat) := [(⟨"AskedInModel", "isDigit", "()Z"⟩, 70), (⟨"AskedInModel", "takesE", "(I)Z"⟩, 70), (⟨"AskedInModel", "takesTest", "()Z"⟩, 70), (⟨"AskedInModel", "place", "(I)I"⟩, 70), (⟨"AskedInModel", "emits", "(I)V"⟩, 70), (⟨"AskedInModel", "whole", "()V"⟩, 70), (⟨"AskedInModel", "settle", "(I)V"⟩, 70), (⟨"AskedInModel", "begin", "()I"⟩, 70), (⟨"AskedInModel", "behind", "()I"⟩, 70), (⟨"AskedInModel", "slowOf", "(III)I"⟩, 70), (⟨"AskedInModel", "sumOf", "(IIIII)I"⟩, 70), (⟨"AskedInModel", "holds", "(IIII)Z"⟩, 70), (⟨"AskedInModel", "factOf", "(IIII)I"⟩, 70), (⟨"AskedInModel", "farOf", "(III)I"⟩, 70), (⟨"AskedInModel", "comesIn", "(III)Z"⟩, 70), (⟨"AskedInModel", "beginNight", "(II)V"⟩, 70)]
theorem lw_r3 : ∀ q ∈ lw_privs_3, lw_okq q := List.forall_mem_cons.mpr ⟨lw_p32, List.forall_mem_cons.mpr ⟨lw_p33, List.forall_mem_cons.mpr ⟨lw_p34, List.forall_mem_cons.mpr ⟨lw_p35, List.forall_mem_cons.mpr ⟨lw_p36, List.forall_mem_cons.mpr ⟨lw_p37, List.forall_mem_cons.mpr ⟨lw_p38, List.forall_mem_cons.mpr ⟨lw_p39, List.forall_mem_cons.mpr ⟨lw_p40, List.forall_mem_cons.mpr ⟨lw_p41, List.forall_mem_cons.mpr ⟨lw_p42, List.forall_mem_cons.mpr ⟨lw_p43, List.forall_mem_cons.mpr ⟨lw_p44, List.forall_mem_cons.mpr ⟨lw_p45, List.forall_mem_cons.mpr ⟨lw_p46, List.forall_mem_cons.mpr ⟨lw_p47, fun _ h => absurd h List.not_mem_nil⟩⟩⟩⟩⟩⟩⟩⟩⟩⟩⟩⟩⟩⟩⟩⟩
theorem lw_p48 : lw_okq (⟨"AskedInModel", "visits", "(I)Z"⟩, 70) := ⟨⟨by decide +kernel, by decide +kernel⟩, List.mem_of_getElem? (i := 939) (by decide +kernel), List.mem_of_getElem? (i := 1317) (by decide +kernel), List.mem_of_getElem? (i := 1318) (by decide +kernel)⟩
theorem lw_p49 : lw_okq (⟨"AskedInModel", "apart", "(II)I"⟩, 70) := ⟨⟨by decide +kernel, by decide +kernel⟩, List.mem_of_getElem? (i := 939) (by decide +kernel), List.mem_of_getElem? (i := 1321) (by decide +kernel), List.mem_of_getElem? (i := 1322) (by decide +kernel)⟩
theorem lw_p50 : lw_okq (⟨"AskedInModel", "has", "(II)Z"⟩, 70) := ⟨⟨by decide +kernel, by decide +kernel⟩, List.mem_of_getElem? (i := 939) (by decide +kernel), List.mem_of_getElem? (i := 1325) (by decide +kernel), List.mem_of_getElem? (i := 1326) (by decide +kernel)⟩
theorem lw_p51 : lw_okq (⟨"AskedInModel", "upBy", "(II)I"⟩, 70) := ⟨⟨by decide +kernel, by decide +kernel⟩, List.mem_of_getElem? (i := 939) (by decide +kernel), List.mem_of_getElem? (i := 1329) (by decide +kernel), List.mem_of_getElem? (i := 1330) (by decide +kernel)⟩
theorem lw_p52 : lw_okq (⟨"AskedInModel", "letsIn", "(I)Z"⟩, 70) := ⟨⟨by decide +kernel, by decide +kernel⟩, List.mem_of_getElem? (i := 939) (by decide +kernel), List.mem_of_getElem? (i := 1334) (by decide +kernel), List.mem_of_getElem? (i := 1335) (by decide +kernel)⟩
theorem lw_p53 : lw_okq (⟨"AskedInModel", "isProudly", "(I)Z"⟩, 70) := ⟨⟨by decide +kernel, by decide +kernel⟩, List.mem_of_getElem? (i := 939) (by decide +kernel), List.mem_of_getElem? (i := 1338) (by decide +kernel), List.mem_of_getElem? (i := 1339) (by decide +kernel)⟩
theorem lw_p54 : lw_okq (⟨"AskedInModel", "ones", "(I)I"⟩, 70) := ⟨⟨by decide +kernel, by decide +kernel⟩, List.mem_of_getElem? (i := 939) (by decide +kernel), List.mem_of_getElem? (i := 1342) (by decide +kernel), List.mem_of_getElem? (i := 1343) (by decide +kernel)⟩
theorem lw_p55 : lw_okq (⟨"AskedInModel", "pays", "(I)Z"⟩, 70) := ⟨⟨by decide +kernel, by decide +kernel⟩, List.mem_of_getElem? (i := 939) (by decide +kernel), List.mem_of_getElem? (i := 1346) (by decide +kernel), List.mem_of_getElem? (i := 1347) (by decide +kernel)⟩
theorem lw_p56 : lw_okq (⟨"AskedInModel", "layOrder", "(II)Z"⟩, 70) := ⟨⟨by decide +kernel, by decide +kernel⟩, List.mem_of_getElem? (i := 939) (by decide +kernel), List.mem_of_getElem? (i := 1362) (by decide +kernel), List.mem_of_getElem? (i := 1363) (by decide +kernel)⟩
theorem lw_p57 : lw_okq (⟨"AskedInModel", "pairsIn", "()I"⟩, 70) := ⟨⟨by decide +kernel, by decide +kernel⟩, List.mem_of_getElem? (i := 939) (by decide +kernel), List.mem_of_getElem? (i := 1374) (by decide +kernel), List.mem_of_getElem? (i := 1375) (by decide +kernel)⟩
theorem lw_p58 : lw_okq (⟨"AskedInModel", "walksTo", "(II)I"⟩, 70) := ⟨⟨by decide +kernel, by decide +kernel⟩, List.mem_of_getElem? (i := 939) (by decide +kernel), List.mem_of_getElem? (i := 1382) (by decide +kernel), List.mem_of_getElem? (i := 1383) (by decide +kernel)⟩
theorem lw_p59 : lw_okq (⟨"AskedInModel", "isLetIn", "(III)Z"⟩, 70) := ⟨⟨by decide +kernel, by decide +kernel⟩, List.mem_of_getElem? (i := 939) (by decide +kernel), List.mem_of_getElem? (i := 1386) (by decide +kernel), List.mem_of_getElem? (i := 1387) (by decide +kernel)⟩
theorem lw_p60 : lw_okq (⟨"AskedInModel", "lowest", "(III)J"⟩, 70) := ⟨⟨by decide +kernel, by decide +kernel⟩, List.mem_of_getElem? (i := 939) (by decide +kernel), List.mem_of_getElem? (i := 1412) (by decide +kernel), List.mem_of_getElem? (i := 1413) (by decide +kernel)⟩
theorem lw_p61 : lw_okq (⟨"AskedInModel", "divisor", "(II)I"⟩, 70) := ⟨⟨by decide +kernel, by decide +kernel⟩, List.mem_of_getElem? (i := 939) (by decide +kernel), List.mem_of_getElem? (i := 1416) (by decide +kernel), List.mem_of_getElem? (i := 1417) (by decide +kernel)⟩
theorem lw_p62 : lw_okq (⟨"AskedInModel", "isTape", "(I)Z"⟩, 70) := ⟨⟨by decide +kernel, by decide +kernel⟩, List.mem_of_getElem? (i := 939) (by decide +kernel), List.mem_of_getElem? (i := 1436) (by decide +kernel), List.mem_of_getElem? (i := 1437) (by decide +kernel)⟩
theorem lw_p63 : lw_okq (⟨"AskedInModel", "asksAct", "(II)I"⟩, 70) := ⟨⟨by decide +kernel, by decide +kernel⟩, List.mem_of_getElem? (i := 939) (by decide +kernel), List.mem_of_getElem? (i := 1452) (by decide +kernel), List.mem_of_getElem? (i := 1453) (by decide +kernel)⟩
def lw_privs_4 : List (MethodName × Nat) := [(⟨"AskedInModel", "visits", "(I)Z"⟩, 70), (⟨"AskedInModel", "apart", "(II)I"⟩, 70), (⟨"AskedInModel", "has", "(II)Z"⟩, 70), (⟨"AskedInModel", "upBy", "(II)I"⟩, 70), (⟨"AskedInModel", "letsIn", "(I)Z"⟩, 70), (⟨"AskedInModel", "isProudly", "(I)Z"⟩, 70), (⟨"AskedInModel", "ones", "(I)I"⟩, 70), (⟨"AskedInModel", "pays", "(I)Z"⟩, 70), (⟨"AskedInModel", "layOrder", "(II)Z"⟩, 70), (⟨"AskedInModel", "pairsIn", "()I"⟩, 70), (⟨"AskedInModel", "walksTo", "(II)I"⟩, 70), (⟨"AskedInModel", "isLetIn", "(III)Z"⟩, 70), (⟨"AskedInModel", "lowest", "(III)J"⟩, 70), (⟨"AskedInModel", "divisor", "(II)I"⟩, 70), (⟨"AskedInModel", "isTape", "(I)Z"⟩, 70), (⟨"AskedInModel", "asksAct", "(II)I"⟩, 70)]
theorem lw_r4 : ∀ q ∈ lw_privs_4, lw_okq q := List.forall_mem_cons.mpr ⟨lw_p48, List.forall_mem_cons.mpr ⟨lw_p49, List.forall_mem_cons.mpr ⟨lw_p50, List.forall_mem_cons.mpr ⟨lw_p51, List.forall_mem_cons.mpr ⟨lw_p52, List.forall_mem_cons.mpr ⟨lw_p53, List.forall_mem_cons.mpr ⟨lw_p54, List.forall_mem_cons.mpr ⟨lw_p55, List.forall_mem_cons.mpr ⟨lw_p56, List.forall_mem_cons.mpr ⟨lw_p57, List.forall_mem_cons.mpr ⟨lw_p58, List.forall_mem_cons.mpr ⟨lw_p59, List.forall_mem_cons.mpr ⟨lw_p60, List.forall_mem_cons.mpr ⟨lw_p61, List.forall_mem_cons.mpr ⟨lw_p62, List.forall_mem_cons.mpr ⟨lw_p63, fun _ h => absurd h List.not_mem_nil⟩⟩⟩⟩⟩⟩⟩⟩⟩⟩⟩⟩⟩⟩⟩⟩
theorem lw_p64 : lw_okq (⟨"AskedInModel", "body", "(I)V"⟩, 70) := ⟨⟨by decide +kernel, by decide +kernel⟩, List.mem_of_getElem? (i := 939) (by decide +kernel), List.mem_of_getElem? (i := 1456) (by decide +kernel), List.mem_of_getElem? (i := 1457) (by decide +kernel)⟩
theorem lw_p65 : lw_okq (⟨"AskedInModel", "houseAsks", "(II)I"⟩, 70) := ⟨⟨by decide +kernel, by decide +kernel⟩, List.mem_of_getElem? (i := 939) (by decide +kernel), List.mem_of_getElem? (i := 1460) (by decide +kernel), List.mem_of_getElem? (i := 1461) (by decide +kernel)⟩
theorem lw_p66 : lw_okq (⟨"AskedInModel", "opensAct", "(II)I"⟩, 70) := ⟨⟨by decide +kernel, by decide +kernel⟩, List.mem_of_getElem? (i := 939) (by decide +kernel), List.mem_of_getElem? (i := 1464) (by decide +kernel), List.mem_of_getElem? (i := 1465) (by decide +kernel)⟩
theorem lw_p67 : lw_okq (⟨"AskedInModel", "lonelyOpens", "(II)I"⟩, 70) := ⟨⟨by decide +kernel, by decide +kernel⟩, List.mem_of_getElem? (i := 939) (by decide +kernel), List.mem_of_getElem? (i := 1468) (by decide +kernel), List.mem_of_getElem? (i := 1469) (by decide +kernel)⟩
theorem lw_p68 : lw_okq (⟨"AskedInModel", "houseOpens", "(II)I"⟩, 70) := ⟨⟨by decide +kernel, by decide +kernel⟩, List.mem_of_getElem? (i := 939) (by decide +kernel), List.mem_of_getElem? (i := 1472) (by decide +kernel), List.mem_of_getElem? (i := 1473) (by decide +kernel)⟩
theorem lw_p69 : lw_okq (⟨"AskedInModel", "tellsAct", "(II)I"⟩, 70) := ⟨⟨by decide +kernel, by decide +kernel⟩, List.mem_of_getElem? (i := 939) (by decide +kernel), List.mem_of_getElem? (i := 1476) (by decide +kernel), List.mem_of_getElem? (i := 1477) (by decide +kernel)⟩
theorem lw_p70 : lw_okq (⟨"AskedInModel", "houseTells", "(II)I"⟩, 70) := ⟨⟨by decide +kernel, by decide +kernel⟩, List.mem_of_getElem? (i := 939) (by decide +kernel), List.mem_of_getElem? (i := 1480) (by decide +kernel), List.mem_of_getElem? (i := 1481) (by decide +kernel)⟩
theorem lw_p71 : lw_okq (⟨"AskedInModel", "narrow", "(IJ)J"⟩, 70) := ⟨⟨by decide +kernel, by decide +kernel⟩, List.mem_of_getElem? (i := 939) (by decide +kernel), List.mem_of_getElem? (i := 1504) (by decide +kernel), List.mem_of_getElem? (i := 1505) (by decide +kernel)⟩
def lw_privs_5 : List (MethodName × Nat) := [(⟨"AskedInModel", "body", "(I)V"⟩, 70), (⟨"AskedInModel", "houseAsks", "(II)I"⟩, 70), (⟨"AskedInModel", "opensAct", "(II)I"⟩, 70), (⟨"AskedInModel", "lonelyOpens", "(II)I"⟩, 70), (⟨"AskedInModel", "houseOpens", "(II)I"⟩, 70), (⟨"AskedInModel", "tellsAct", "(II)I"⟩, 70), (⟨"AskedInModel", "houseTells", "(II)I"⟩, 70), (⟨"AskedInModel", "narrow", "(IJ)J"⟩, 70)]
theorem lw_r5 : ∀ q ∈ lw_privs_5, lw_okq q := List.forall_mem_cons.mpr ⟨lw_p64, List.forall_mem_cons.mpr ⟨lw_p65, List.forall_mem_cons.mpr ⟨lw_p66, List.forall_mem_cons.mpr ⟨lw_p67, List.forall_mem_cons.mpr ⟨lw_p68, List.forall_mem_cons.mpr ⟨lw_p69, List.forall_mem_cons.mpr ⟨lw_p70, List.forall_mem_cons.mpr ⟨lw_p71, fun _ h => absurd h List.not_mem_nil⟩⟩⟩⟩⟩⟩⟩⟩
def lw_privs : List (MethodName × Nat) := lw_privs_1 ++ (lw_privs_2 ++ (lw_privs_3 ++ (lw_privs_4 ++ (lw_privs_5))))
def lw_tbl : List Cond := k2_sels lw_privs ++ tables_1
theorem lw_privs_ok : ∀ q ∈ lw_privs, lw_okq q := by
  show ∀ q ∈ lw_privs_1 ++ (lw_privs_2 ++ (lw_privs_3 ++ (lw_privs_4 ++ (lw_privs_5)))), lw_okq q
  exact List.forall_mem_append.mpr ⟨lw_r1, List.forall_mem_append.mpr ⟨lw_r2, List.forall_mem_append.mpr ⟨lw_r3, List.forall_mem_append.mpr ⟨lw_r4, lw_r5⟩⟩⟩⟩
end
section
def RX0 : String := "AskedIn$Acts"
def TX0 : u_T := fun k => match k with
  | 0 => ("AskedIn$Acts", "begun", "[I", true)
  | 1 => ("AskedIn$Acts", "ran", "I", false)
  | 2 => ("AskedIn$Acts", "number", "I", false)
  | 3 => ("AskedIn$Acts", "kind", "I", false)
  | _ => ("AskedIn$Acts", "v", "I", false)
def tyX0 : Nat → FieldType := fun k => match k with
  | 0 => .array .int
  | 1 => .int
  | 2 => .int
  | 3 => .int
  | _ => .int
abbrev wsX00 : List Cond := u_ws RX0 TX0 5
theorem nmX0 : ∀ a, a < 5 → ∀ b, b < 5 → a ≠ b → (TX0 a).2.1 ≠ (TX0 b).2.1 := by decide +kernel
theorem tyX0_ok : ∀ k, k < 5 → parseFieldDescriptor (TX0 k).2.2.1 = some (tyX0 k) := by decide +kernel
abbrev cX0_init : ByteArray := prog_2_method_1_code
def yX0_init : MethodName := ⟨RX0, "<init>", "()V"⟩
abbrev cX0_forget : ByteArray := prog_2_method_2_code
def yX0_forget : MethodName := ⟨RX0, "forget", "()V"⟩
abbrev cX0_begun : ByteArray := prog_2_method_3_code
def yX0_begun : MethodName := ⟨RX0, "begun", "(I)I"⟩
abbrev cX0_start : ByteArray := prog_2_method_4_code
def yX0_start : MethodName := ⟨RX0, "start", "(LAskedIn$Street;III)I"⟩
abbrev cX0_call : ByteArray := prog_2_method_5_code
def yX0_call : MethodName := ⟨RX0, "call", "(IIII)I"⟩
abbrev cX0_run : ByteArray := prog_2_method_6_code
def yX0_run : MethodName := ⟨RX0, "run", "(IIII)I"⟩
abbrev cX0_note : ByteArray := prog_2_method_7_code
def yX0_note : MethodName := ⟨RX0, "note", "(I)V"⟩
def RX1 : String := "AskedIn$Night"
def TX1 : u_T := fun k => match k with
  | 0 => ("AskedIn$Night", "street", "LAskedIn$Street;", true)
  | 1 => ("AskedIn$Night", "towns", "LAskedIn$Towns;", true)
  | 2 => ("AskedIn$Night", "fars", "[I", true)
  | 3 => ("AskedIn$Night", "countings", "[I", true)
  | 4 => ("AskedIn$Night", "one", "I", false)
  | 5 => ("AskedIn$Night", "place", "I", false)
  | 6 => ("AskedIn$Night", "counted", "I", false)
  | 7 => ("AskedIn$Night", "minute", "I", false)
  | 8 => ("AskedIn$Night", "coins", "I", false)
  | _ => ("AskedIn$Night", "in", "I", false)
def tyX1 : Nat → FieldType := fun k => match k with
  | 0 => .object "AskedIn$Street"
  | 1 => .object "AskedIn$Towns"
  | 2 => .array .int
  | 3 => .array .int
  | 4 => .int
  | 5 => .int
  | 6 => .int
  | 7 => .int
  | 8 => .int
  | _ => .int
abbrev wsX10 : List Cond := u_ws RX1 TX1 10
theorem nmX1 : ∀ a, a < 10 → ∀ b, b < 10 → a ≠ b → (TX1 a).2.1 ≠ (TX1 b).2.1 := by decide +kernel
theorem tyX1_ok : ∀ k, k < 10 → parseFieldDescriptor (TX1 k).2.2.1 = some (tyX1 k) := by decide +kernel
abbrev cX1_init : ByteArray := prog_3_method_1_code
def yX1_init : MethodName := ⟨RX1, "<init>", "(LAskedIn$Street;LAskedIn$Towns;)V"⟩
abbrev cX1_measure : ByteArray := prog_3_method_2_code
def yX1_measure : MethodName := ⟨RX1, "measure", "(III)V"⟩
abbrev cX1_begin : ByteArray := prog_3_method_3_code
def yX1_begin : MethodName := ⟨RX1, "begin", "(II)V"⟩
abbrev cX1_reach : ByteArray := prog_3_method_4_code
def yX1_reach : MethodName := ⟨RX1, "reach", "(I)Z"⟩
abbrev cX1_isLetIn : ByteArray := prog_3_method_5_code
def yX1_isLetIn : MethodName := ⟨RX1, "isLetIn", "(III)Z"⟩
abbrev cX1_isLet : ByteArray := prog_3_method_6_code
def yX1_isLet : MethodName := ⟨RX1, "isLet", "(I)Z"⟩
abbrev cX1_isLate : ByteArray := prog_3_method_7_code
def yX1_isLate : MethodName := ⟨RX1, "isLate", "(I)Z"⟩
abbrev cX1_isKnown : ByteArray := prog_3_method_8_code
def yX1_isKnown : MethodName := ⟨RX1, "isKnown", "(II)Z"⟩
abbrev cX1_pays : ByteArray := prog_3_method_9_code
def yX1_pays : MethodName := ⟨RX1, "pays", "(I)Z"⟩
def RX2 : String := "AskedIn$Questions"
def TX2 : u_T := fun k => match k with
  | 0 => ("AskedIn$Questions", "street", "LAskedIn$Street;", true)
  | 1 => ("AskedIn$Questions", "towns", "LAskedIn$Towns;", true)
  | 2 => ("AskedIn$Questions", "night", "LAskedIn$Night;", true)
  | _ => ("AskedIn$Questions", "best", "LAskedIn$Round;", true)
def tyX2 : Nat → FieldType := fun k => match k with
  | 0 => .object "AskedIn$Street"
  | 1 => .object "AskedIn$Towns"
  | 2 => .object "AskedIn$Night"
  | _ => .object "AskedIn$Round"
abbrev wsX20 : List Cond := u_ws RX2 TX2 4
theorem nmX2 : ∀ a, a < 4 → ∀ b, b < 4 → a ≠ b → (TX2 a).2.1 ≠ (TX2 b).2.1 := by decide +kernel
theorem tyX2_ok : ∀ k, k < 4 → parseFieldDescriptor (TX2 k).2.2.1 = some (tyX2 k) := by decide +kernel
abbrev cX2_init : ByteArray := prog_4_method_1_code
def yX2_init : MethodName := ⟨RX2, "<init>", "(LAskedIn$Street;LAskedIn$Towns;)V"⟩
abbrev cX2_comesIn : ByteArray := prog_4_method_2_code
def yX2_comesIn : MethodName := ⟨RX2, "comesIn", "(III)Z"⟩
abbrev cX2_followPlan : ByteArray := prog_4_method_3_code
def yX2_followPlan : MethodName := ⟨RX2, "followPlan", "(I)I"⟩
abbrev cX2_bestRound : ByteArray := prog_4_method_4_code
def yX2_bestRound : MethodName := ⟨RX2, "bestRound", "(II)LAskedIn$Round;"⟩
abbrev cX2_leastGrain : ByteArray := prog_4_method_5_code
def yX2_leastGrain : MethodName := ⟨RX2, "leastGrain", "(II)I"⟩
abbrev cX2_houseToStrew : ByteArray := prog_4_method_6_code
def yX2_houseToStrew : MethodName := ⟨RX2, "houseToStrew", "(I)I"⟩
abbrev cX2_pairsAfter : ByteArray := prog_4_method_7_code
def yX2_pairsAfter : MethodName := ⟨RX2, "pairsAfter", "(II)I"⟩
abbrev cX2_insAt : ByteArray := prog_4_method_8_code
def yX2_insAt : MethodName := ⟨RX2, "insAt", "(II)I"⟩
abbrev cX2_doneTogether : ByteArray := prog_4_method_9_code
def yX2_doneTogether : MethodName := ⟨RX2, "doneTogether", "(III)I"⟩
abbrev cX2_walk : ByteArray := prog_4_method_10_code
def yX2_walk : MethodName := ⟨RX2, "walk", "(II)I"⟩
abbrev cX2_whoBits : ByteArray := prog_4_method_11_code
def yX2_whoBits : MethodName := ⟨RX2, "whoBits", "()I"⟩
abbrev cX2_houseToWatch : ByteArray := prog_4_method_12_code
def yX2_houseToWatch : MethodName := ⟨RX2, "houseToWatch", "()I"⟩
abbrev cX2_apartAt : ByteArray := prog_4_method_13_code
def yX2_apartAt : MethodName := ⟨RX2, "apartAt", "(II)I"⟩
abbrev cX2_leastStart : ByteArray := prog_4_method_14_code
def yX2_leastStart : MethodName := ⟨RX2, "leastStart", "(II)I"⟩
abbrev cX2_goodStarts : ByteArray := prog_4_method_15_code
def yX2_goodStarts : MethodName := ⟨RX2, "goodStarts", "(II)I"⟩
abbrev cX2_minutesOfAll : ByteArray := prog_4_method_16_code
def yX2_minutesOfAll : MethodName := ⟨RX2, "minutesOfAll", "(I)I"⟩
abbrev cX2_firstKeptOut : ByteArray := prog_4_method_17_code
def yX2_firstKeptOut : MethodName := ⟨RX2, "firstKeptOut", "()I"⟩
def RX3 : String := "AskedIn$Round"
def TX3 : u_T := fun k => match k with
  | 0 => ("AskedIn$Round", "row", "[I", true)
  | 1 => ("AskedIn$Round", "order", "[I", true)
  | 2 => ("AskedIn$Round", "size", "I", false)
  | 3 => ("AskedIn$Round", "ins", "I", false)
  | _ => ("AskedIn$Round", "minute", "I", false)
def tyX3 : Nat → FieldType := fun k => match k with
  | 0 => .array .int
  | 1 => .array .int
  | 2 => .int
  | 3 => .int
  | _ => .int
abbrev wsX30 : List Cond := u_ws RX3 TX3 5
theorem nmX3 : ∀ a, a < 5 → ∀ b, b < 5 → a ≠ b → (TX3 a).2.1 ≠ (TX3 b).2.1 := by decide +kernel
theorem tyX3_ok : ∀ k, k < 5 → parseFieldDescriptor (TX3 k).2.2.1 = some (tyX3 k) := by decide +kernel
abbrev cX3_init : ByteArray := prog_5_method_1_code
def yX3_init : MethodName := ⟨RX3, "<init>", "()V"⟩
abbrev cX3_start : ByteArray := prog_5_method_2_code
def yX3_start : MethodName := ⟨RX3, "start", "(I)V"⟩
abbrev cX3_weigh : ByteArray := prog_5_method_3_code
def yX3_weigh : MethodName := ⟨RX3, "weigh", "(II)V"⟩
abbrev cX3_advance : ByteArray := prog_5_method_4_code
def yX3_advance : MethodName := ⟨RX3, "advance", "()Z"⟩
abbrev cX3_swap : ByteArray := prog_5_method_5_code
def yX3_swap : MethodName := ⟨RX3, "swap", "(II)V"⟩
def RX4 : String := "AskedIn$Rows"
def TX4 : u_T := fun k => match k with
  | 0 => ("AskedIn$Rows", "firsts", "[I", true)
  | 1 => ("AskedIn$Rows", "seconds", "[I", true)
  | _ => ("AskedIn$Rows", "size", "I", false)
def tyX4 : Nat → FieldType := fun k => match k with
  | 0 => .array .int
  | 1 => .array .int
  | _ => .int
abbrev wsX40 : List Cond := u_ws RX4 TX4 3
theorem nmX4 : ∀ a, a < 3 → ∀ b, b < 3 → a ≠ b → (TX4 a).2.1 ≠ (TX4 b).2.1 := by decide +kernel
theorem tyX4_ok : ∀ k, k < 3 → parseFieldDescriptor (TX4 k).2.2.1 = some (tyX4 k) := by decide +kernel
abbrev cX4_init : ByteArray := prog_6_method_1_code
def yX4_init : MethodName := ⟨RX4, "<init>", "(I)V"⟩
abbrev cX4_add : ByteArray := prog_6_method_2_code
def yX4_add : MethodName := ⟨RX4, "add", "(II)I"⟩
abbrev cX4_empty : ByteArray := prog_6_method_3_code
def yX4_empty : MethodName := ⟨RX4, "empty", "()I"⟩
abbrev cX4_copy : ByteArray := prog_6_method_4_code
def yX4_copy : MethodName := ⟨RX4, "copy", "(LAskedIn$Rows;)V"⟩
def RX5 : String := "AskedIn$Street"
def TX5 : u_T := fun k => match k with
  | 0 => ("AskedIn$Street", "houses", "I", false)
  | 1 => ("AskedIn$Street", "kinds", "[I", true)
  | 2 => ("AskedIn$Street", "numbers", "[I", true)
  | 3 => ("AskedIn$Street", "grains", "[I", true)
  | 4 => ("AskedIn$Street", "asked", "[I", true)
  | 5 => ("AskedIn$Street", "rows", "[I", true)
  | 6 => ("AskedIn$Street", "folks", "I", false)
  | 7 => ("AskedIn$Street", "sacks", "[I", true)
  | 8 => ("AskedIn$Street", "purses", "[I", true)
  | 9 => ("AskedIn$Street", "quicknesses", "[I", true)
  | 10 => ("AskedIn$Street", "plan", "LAskedIn$Rows;", true)
  | 11 => ("AskedIn$Street", "watched", "LAskedIn$Rows;", true)
  | 12 => ("AskedIn$Street", "visits", "LAskedIn$Rows;", true)
  | _ => ("AskedIn$Street", "held", "I", false)
def tyX5 : Nat → FieldType := fun k => match k with
  | 0 => .int
  | 1 => .array .int
  | 2 => .array .int
  | 3 => .array .int
  | 4 => .array .int
  | 5 => .array .int
  | 6 => .int
  | 7 => .array .int
  | 8 => .array .int
  | 9 => .array .int
  | 10 => .object "AskedIn$Rows"
  | 11 => .object "AskedIn$Rows"
  | 12 => .object "AskedIn$Rows"
  | _ => .int
abbrev wsX50 : List Cond := u_ws RX5 TX5 14
theorem nmX5 : ∀ a, a < 14 → ∀ b, b < 14 → a ≠ b → (TX5 a).2.1 ≠ (TX5 b).2.1 := by decide +kernel
theorem tyX5_ok : ∀ k, k < 14 → parseFieldDescriptor (TX5 k).2.2.1 = some (tyX5 k) := by decide +kernel
abbrev cX5_init : ByteArray := prog_7_method_1_code
def yX5_init : MethodName := ⟨RX5, "<init>", "()V"⟩
abbrev cX5_hasHouse : ByteArray := prog_7_method_2_code
def yX5_hasHouse : MethodName := ⟨RX5, "hasHouse", "(I)Z"⟩
abbrev cX5_hasFolk : ByteArray := prog_7_method_3_code
def yX5_hasFolk : MethodName := ⟨RX5, "hasFolk", "(I)Z"⟩
abbrev cX5_build : ByteArray := prog_7_method_4_code
def yX5_build : MethodName := ⟨RX5, "build", "(III)I"⟩
abbrev cX5_settle : ByteArray := prog_7_method_5_code
def yX5_settle : MethodName := ⟨RX5, "settle", "(III)V"⟩
abbrev cX5_wake : ByteArray := prog_7_method_6_code
def yX5_wake : MethodName := ⟨RX5, "wake", "(III)I"⟩
abbrev cX5_copy : ByteArray := prog_7_method_7_code
def yX5_copy : MethodName := ⟨RX5, "copy", "(LAskedIn$Street;)V"⟩
def RX6 : String := "AskedIn$Tapes"
def TX6 : u_T := fun k => match k with
  | 0 => ("AskedIn$Tapes", "items", "[[J", true)
  | 1 => ("AskedIn$Tapes", "sizes", "[I", true)
  | _ => ("AskedIn$Tapes", "sorts", "[I", true)
def tyX6 : Nat → FieldType := fun k => match k with
  | 0 => .array (.array .long)
  | 1 => .array .int
  | _ => .array .int
abbrev wsX60 : List Cond := u_ws RX6 TX6 3
theorem nmX6 : ∀ a, a < 3 → ∀ b, b < 3 → a ≠ b → (TX6 a).2.1 ≠ (TX6 b).2.1 := by decide +kernel
theorem tyX6_ok : ∀ k, k < 3 → parseFieldDescriptor (TX6 k).2.2.1 = some (tyX6 k) := by decide +kernel
abbrev cX6_init : ByteArray := prog_8_method_1_code
def yX6_init : MethodName := ⟨RX6, "<init>", "()V"⟩
abbrev cX6_become : ByteArray := prog_8_method_2_code
def yX6_become : MethodName := ⟨RX6, "become", "(III)I"⟩
abbrev cX6_cut : ByteArray := prog_8_method_3_code
def yX6_cut : MethodName := ⟨RX6, "cut", "(IJ)J"⟩
def RX7 : String := "AskedIn$Text"
def TX7 : u_T := fun k => match k with
  | 0 => ("AskedIn$Text", "signs", "[B", true)
  | 1 => ("AskedIn$Text", "length", "I", false)
  | 2 => ("AskedIn$Text", "at", "I", false)
  | 3 => ("AskedIn$Text", "fault", "I", false)
  | 4 => ("AskedIn$Text", "tokens", "[I", false)
  | 5 => ("AskedIn$Text", "noted", "I", false)
  | _ => ("AskedIn$Text", "dawn", "I", false)
def tyX7 : Nat → FieldType := fun k => match k with
  | 0 => .array .byte
  | 1 => .int
  | 2 => .int
  | 3 => .int
  | 4 => .array .int
  | 5 => .int
  | _ => .int
abbrev wsX70 : List Cond := u_ws RX7 TX7 7
theorem nmX7 : ∀ a, a < 7 → ∀ b, b < 7 → a ≠ b → (TX7 a).2.1 ≠ (TX7 b).2.1 := by decide +kernel
theorem tyX7_ok : ∀ k, k < 7 → parseFieldDescriptor (TX7 k).2.2.1 = some (tyX7 k) := by decide +kernel
abbrev cX7_init : ByteArray := prog_9_method_1_code
def yX7_init : MethodName := ⟨RX7, "<init>", "()V"⟩
abbrev cX7_add : ByteArray := prog_9_method_2_code
def yX7_add : MethodName := ⟨RX7, "add", "(I)I"⟩
abbrev cX7_compile : ByteArray := prog_9_method_3_code
def yX7_compile : MethodName := ⟨RX7, "compile", "([I)V"⟩
abbrev cX7_clause : ByteArray := prog_9_method_4_code
def yX7_clause : MethodName := ⟨RX7, "clause", "()V"⟩
abbrev cX7_either : ByteArray := prog_9_method_5_code
def yX7_either : MethodName := ⟨RX7, "either", "(I)V"⟩
abbrev cX7_part : ByteArray := prog_9_method_6_code
def yX7_part : MethodName := ⟨RX7, "part", "(I)V"⟩
abbrev cX7_number : ByteArray := prog_9_method_7_code
def yX7_number : MethodName := ⟨RX7, "number", "()I"⟩
abbrev cX7_word : ByteArray := prog_9_method_8_code
def yX7_word : MethodName := ⟨RX7, "word", "(Ljava/lang/String;)V"⟩
abbrev cX7_choice : ByteArray := prog_9_method_9_code
def yX7_choice : MethodName := ⟨RX7, "choice", "(Ljava/lang/String;)I"⟩
abbrev cX7_take : ByteArray := prog_9_method_10_code
def yX7_take : MethodName := ⟨RX7, "take", "(C)Z"⟩
abbrev cX7_note : ByteArray := prog_9_method_11_code
def yX7_note : MethodName := ⟨RX7, "note", "(II)V"⟩
def RX8 : String := "AskedIn$Token"
def TX8 : u_T := fun k => match k with
  | _ => ("", "", "", false)
def tyX8 : Nat → FieldType := fun k => match k with
  | _ => .int
abbrev wsX80 : List Cond := u_ws RX8 TX8 0
theorem nmX8 : ∀ a, a < 0 → ∀ b, b < 0 → a ≠ b → (TX8 a).2.1 ≠ (TX8 b).2.1 := by decide +kernel
theorem tyX8_ok : ∀ k, k < 0 → parseFieldDescriptor (TX8 k).2.2.1 = some (tyX8 k) := by decide +kernel
def RX9 : String := "AskedIn$Towns"
def TX9 : u_T := fun k => match k with
  | 0 => ("AskedIn$Towns", "tokens", "[[I", true)
  | 1 => ("AskedIn$Towns", "lengths", "[I", true)
  | 2 => ("AskedIn$Towns", "dawns", "[I", true)
  | 3 => ("AskedIn$Towns", "size", "I", false)
  | 4 => ("AskedIn$Towns", "letters", "[I", true)
  | 5 => ("AskedIn$Towns", "slow", "I", false)
  | _ => ("AskedIn$Towns", "far", "I", false)
def tyX9 : Nat → FieldType := fun k => match k with
  | 0 => .array (.array .int)
  | 1 => .array .int
  | 2 => .array .int
  | 3 => .int
  | 4 => .array .int
  | 5 => .int
  | _ => .int
abbrev wsX90 : List Cond := u_ws RX9 TX9 7
theorem nmX9 : ∀ a, a < 7 → ∀ b, b < 7 → a ≠ b → (TX9 a).2.1 ≠ (TX9 b).2.1 := by decide +kernel
theorem tyX9_ok : ∀ k, k < 7 → parseFieldDescriptor (TX9 k).2.2.1 = some (tyX9 k) := by decide +kernel
abbrev cX9_init : ByteArray := prog_11_method_1_code
def yX9_init : MethodName := ⟨RX9, "<init>", "()V"⟩
abbrev cX9_add : ByteArray := prog_11_method_2_code
def yX9_add : MethodName := ⟨RX9, "add", "(II)I"⟩
abbrev cX9_dawnOf : ByteArray := prog_11_method_3_code
def yX9_dawnOf : MethodName := ⟨RX9, "dawnOf", "(I)I"⟩
abbrev cX9_weigh : ByteArray := prog_11_method_4_code
def yX9_weigh : MethodName := ⟨RX9, "weigh", "(LAskedIn$Street;III)V"⟩
abbrev cX9_holds : ByteArray := prog_11_method_5_code
def yX9_holds : MethodName := ⟨RX9, "holds", "(II)Z"⟩
def RX10 : String := "AskedIn"
def TX10 : u_T := fun k => match k with
  | 0 => ("AskedIn", "now", "LAskedIn$Street;", true)
  | 1 => ("AskedIn", "kept", "LAskedIn$Street;", true)
  | 2 => ("AskedIn", "hasImage", "Z", false)
  | 3 => ("AskedIn", "text", "LAskedIn$Text;", true)
  | 4 => ("AskedIn", "towns", "LAskedIn$Towns;", true)
  | 5 => ("AskedIn", "questions", "LAskedIn$Questions;", true)
  | 6 => ("AskedIn", "acts", "LAskedIn$Acts;", true)
  | _ => ("AskedIn", "tapes", "LAskedIn$Tapes;", true)
def tyX10 : Nat → FieldType := fun k => match k with
  | 0 => .object "AskedIn$Street"
  | 1 => .object "AskedIn$Street"
  | 2 => .boolean
  | 3 => .object "AskedIn$Text"
  | 4 => .object "AskedIn$Towns"
  | 5 => .object "AskedIn$Questions"
  | 6 => .object "AskedIn$Acts"
  | _ => .object "AskedIn$Tapes"
abbrev wsX100 : List Cond := u_ws RX10 TX10 8
theorem nmX10 : ∀ a, a < 8 → ∀ b, b < 8 → a ≠ b → (TX10 a).2.1 ≠ (TX10 b).2.1 := by decide +kernel
theorem tyX10_ok : ∀ k, k < 8 → parseFieldDescriptor (TX10 k).2.2.1 = some (tyX10 k) := by decide +kernel
abbrev cX10_init : ByteArray := prog_1_method_1_code
def yX10_init : MethodName := ⟨RX10, "<init>", "()V"⟩
abbrev cX10_house : ByteArray := prog_1_method_2_code
def yX10_house : MethodName := ⟨RX10, "house", "(III)I"⟩
abbrev cX10_folk : ByteArray := prog_1_method_3_code
def yX10_folk : MethodName := ⟨RX10, "folk", "(III)I"⟩
abbrev cX10_of : ByteArray := prog_1_method_4_code
def yX10_of : MethodName := ⟨RX10, "of", "(II)I"⟩
abbrev cX10_who : ByteArray := prog_1_method_5_code
def yX10_who : MethodName := ⟨RX10, "who", "(II)I"⟩
abbrev cX10_strew : ByteArray := prog_1_method_6_code
def yX10_strew : MethodName := ⟨RX10, "strew", "(II)I"⟩
abbrev cX10_ask : ByteArray := prog_1_method_7_code
def yX10_ask : MethodName := ⟨RX10, "ask", "(IIZ)I"⟩
abbrev cX10_sack : ByteArray := prog_1_method_8_code
def yX10_sack : MethodName := ⟨RX10, "sack", "(II)I"⟩
abbrev cX10_sell : ByteArray := prog_1_method_9_code
def yX10_sell : MethodName := ⟨RX10, "sell", "(III)I"⟩
abbrev cX10_row : ByteArray := prog_1_method_10_code
def yX10_row : MethodName := ⟨RX10, "row", "(III)I"⟩
abbrev cX10_feed : ByteArray := prog_1_method_11_code
def yX10_feed : MethodName := ⟨RX10, "feed", "(I)I"⟩
abbrev cX10_town : ByteArray := prog_1_method_12_code
def yX10_town : MethodName := ⟨RX10, "town", "()I"⟩
abbrev cX10_dawn : ByteArray := prog_1_method_13_code
def yX10_dawn : MethodName := ⟨RX10, "dawn", "()I"⟩
abbrev cX10_visit : ByteArray := prog_1_method_14_code
def yX10_visit : MethodName := ⟨RX10, "visit", "(III)I"⟩
abbrev cX10_way : ByteArray := prog_1_method_15_code
def yX10_way : MethodName := ⟨RX10, "way", "(I)I"⟩
abbrev cX10_goes : ByteArray := prog_1_method_16_code
def yX10_goes : MethodName := ⟨RX10, "goes", "(II)I"⟩
abbrev cX10_round : ByteArray := prog_1_method_17_code
def yX10_round : MethodName := ⟨RX10, "round", "(III)I"⟩
abbrev cX10_keep : ByteArray := prog_1_method_18_code
def yX10_keep : MethodName := ⟨RX10, "keep", "(II)I"⟩
abbrev cX10_more : ByteArray := prog_1_method_19_code
def yX10_more : MethodName := ⟨RX10, "more", "(II)I"⟩
abbrev cX10_share : ByteArray := prog_1_method_20_code
def yX10_share : MethodName := ⟨RX10, "share", "(IIII)I"⟩
abbrev cX10_watch : ByteArray := prog_1_method_21_code
def yX10_watch : MethodName := ⟨RX10, "watch", "(IZ)I"⟩
abbrev cX10_suspects : ByteArray := prog_1_method_22_code
def yX10_suspects : MethodName := ⟨RX10, "suspects", "()I"⟩
abbrev cX10_next : ByteArray := prog_1_method_23_code
def yX10_next : MethodName := ⟨RX10, "next", "()I"⟩
abbrev cX10_when : ByteArray := prog_1_method_24_code
def yX10_when : MethodName := ⟨RX10, "when", "(II)I"⟩
abbrev cX10_odds : ByteArray := prog_1_method_25_code
def yX10_odds : MethodName := ⟨RX10, "odds", "(III)J"⟩
abbrev cX10_mean : ByteArray := prog_1_method_26_code
def yX10_mean : MethodName := ⟨RX10, "mean", "(II)J"⟩
abbrev cX10_book : ByteArray := prog_1_method_27_code
def yX10_book : MethodName := ⟨RX10, "book", "(II)I"⟩
abbrev cX10_looked : ByteArray := prog_1_method_28_code
def yX10_looked : MethodName := ⟨RX10, "looked", "()I"⟩
abbrev cX10_judge : ByteArray := prog_1_method_29_code
def yX10_judge : MethodName := ⟨RX10, "judge", "(II)I"⟩
abbrev cX10_image : ByteArray := prog_1_method_30_code
def yX10_image : MethodName := ⟨RX10, "image", "()I"⟩
abbrev cX10_undo : ByteArray := prog_1_method_31_code
def yX10_undo : MethodName := ⟨RX10, "undo", "()I"⟩
abbrev cX10_act : ByteArray := prog_1_method_32_code
def yX10_act : MethodName := ⟨RX10, "act", "(III)I"⟩
abbrev cX10_trace : ByteArray := prog_1_method_33_code
def yX10_trace : MethodName := ⟨RX10, "trace", "(I)I"⟩
abbrev cX10_taken : ByteArray := prog_1_method_34_code
def yX10_taken : MethodName := ⟨RX10, "taken", "(II)I"⟩
abbrev cX10_count : ByteArray := prog_1_method_35_code
def yX10_count : MethodName := ⟨RX10, "count", "(I)I"⟩
abbrev cX10_tape : ByteArray := prog_1_method_36_code
def yX10_tape : MethodName := ⟨RX10, "tape", "(III)I"⟩
abbrev cX10_item : ByteArray := prog_1_method_37_code
def yX10_item : MethodName := ⟨RX10, "item", "(IIJ)I"⟩
abbrev cX10_read : ByteArray := prog_1_method_38_code
def yX10_read : MethodName := ⟨RX10, "read", "(II)J"⟩
abbrev cX10_shift : ByteArray := prog_1_method_39_code
def yX10_shift : MethodName := ⟨RX10, "shift", "(IIIII)I"⟩
abbrev cX10_paceAt : ByteArray := prog_1_method_40_code
def yX10_paceAt : MethodName := ⟨RX10, "paceAt", "(II)I"⟩
abbrev cX10_isUpTo : ByteArray := prog_1_method_41_code
def yX10_isUpTo : MethodName := ⟨RX10, "isUpTo", "(II)Z"⟩
abbrev cX10_bit : ByteArray := prog_1_method_42_code
def yX10_bit : MethodName := ⟨RX10, "bit", "(II)I"⟩
abbrev cX10_withBit : ByteArray := prog_1_method_43_code
def yX10_withBit : MethodName := ⟨RX10, "withBit", "(IIZ)I"⟩
abbrev cX10_isUnder : ByteArray := prog_1_method_44_code
def yX10_isUnder : MethodName := ⟨RX10, "isUnder", "(II)Z"⟩
abbrev cX10_roundedUp : ByteArray := prog_1_method_45_code
def yX10_roundedUp : MethodName := ⟨RX10, "roundedUp", "(II)I"⟩
abbrev cX10_sideOfFraction : ByteArray := prog_1_method_46_code
def yX10_sideOfFraction : MethodName := ⟨RX10, "sideOfFraction", "(JJI)J"⟩
def RX11 : String := "AskedInModel"
def TX11 : u_T := fun k => match k with
  | 0 => ("AskedInModel", "houses", "I", false)
  | 1 => ("AskedInModel", "folks", "I", false)
  | 2 => ("AskedInModel", "kind", "[I", true)
  | 3 => ("AskedInModel", "v", "[I", true)
  | 4 => ("AskedInModel", "grain", "[I", true)
  | 5 => ("AskedInModel", "asked", "[I", true)
  | 6 => ("AskedInModel", "rows", "[I", true)
  | 7 => ("AskedInModel", "sack", "[I", true)
  | 8 => ("AskedInModel", "coins", "[I", true)
  | 9 => ("AskedInModel", "quick", "[I", true)
  | 10 => ("AskedInModel", "towns", "I", false)
  | 11 => ("AskedInModel", "the", "I", false)
  | 12 => ("AskedInModel", "fed", "I", false)
  | 13 => ("AskedInModel", "at", "I", false)
  | 14 => ("AskedInModel", "digits", "I", false)
  | 15 => ("AskedInModel", "text", "[I", true)
  | 16 => ("AskedInModel", "clauses", "[I", true)
  | 17 => ("AskedInModel", "word", "[I", true)
  | 18 => ("AskedInModel", "number", "[I", true)
  | 19 => ("AskedInModel", "from", "[I", true)
  | 20 => ("AskedInModel", "to", "[I", true)
  | 21 => ("AskedInModel", "sign", "[I", true)
  | 22 => ("AskedInModel", "waits", "[I", true)
  | 23 => ("AskedInModel", "signs", "I", false)
  | 24 => ("AskedInModel", "waiting", "I", false)
  | 25 => ("AskedInModel", "open", "I", false)
  | 26 => ("AskedInModel", "letters", "[I", true)
  | 27 => ("AskedInModel", "pile", "[Z", true)
  | 28 => ("AskedInModel", "whose", "I", false)
  | 29 => ("AskedInModel", "minute", "I", false)
  | 30 => ("AskedInModel", "stands", "I", false)
  | 31 => ("AskedInModel", "purse", "I", false)
  | 32 => ("AskedInModel", "been", "I", false)
  | 33 => ("AskedInModel", "inside", "I", false)
  | 34 => ("AskedInModel", "ways", "I", false)
  | 35 => ("AskedInModel", "way", "[I", true)
  | 36 => ("AskedInModel", "order", "[I", true)
  | 37 => ("AskedInModel", "bestOrder", "[I", true)
  | 38 => ("AskedInModel", "watched", "I", false)
  | 39 => ("AskedInModel", "watchHouse", "[I", true)
  | 40 => ("AskedInModel", "watchIn", "[Z", true)
  | 41 => ("AskedInModel", "books", "I", false)
  | 42 => ("AskedInModel", "bookFolk", "[I", true)
  | 43 => ("AskedInModel", "bookHouse", "[I", true)
  | 44 => ("AskedInModel", "hasImage", "Z", false)
  | 45 => ("AskedInModel", "imageThe", "I", false)
  | 46 => ("AskedInModel", "imageHouses", "I", false)
  | 47 => ("AskedInModel", "imageFolks", "I", false)
  | 48 => ("AskedInModel", "imageWays", "I", false)
  | 49 => ("AskedInModel", "imageWatched", "I", false)
  | 50 => ("AskedInModel", "imageBooks", "I", false)
  | 51 => ("AskedInModel", "imageKind", "[I", true)
  | 52 => ("AskedInModel", "imageV", "[I", true)
  | 53 => ("AskedInModel", "imageGrain", "[I", true)
  | 54 => ("AskedInModel", "imageAsked", "[I", true)
  | 55 => ("AskedInModel", "imageRows", "[I", true)
  | 56 => ("AskedInModel", "imageSack", "[I", true)
  | 57 => ("AskedInModel", "imageCoins", "[I", true)
  | 58 => ("AskedInModel", "imageQuick", "[I", true)
  | 59 => ("AskedInModel", "imageWay", "[I", true)
  | 60 => ("AskedInModel", "imageWatch", "[I", true)
  | 61 => ("AskedInModel", "imageFolk", "[I", true)
  | 62 => ("AskedInModel", "imageHouse", "[I", true)
  | 63 => ("AskedInModel", "imageIn", "[Z", true)
  | 64 => ("AskedInModel", "ran", "I", false)
  | 65 => ("AskedInModel", "bodies", "[I", true)
  | 66 => ("AskedInModel", "sort", "[I", true)
  | 67 => ("AskedInModel", "length", "[I", true)
  | 68 => ("AskedInModel", "item", "[J", true)
  | _ => ("AskedInModel", "aside", "[J", true)
def tyX11 : Nat → FieldType := fun k => match k with
  | 0 => .int
  | 1 => .int
  | 2 => .array .int
  | 3 => .array .int
  | 4 => .array .int
  | 5 => .array .int
  | 6 => .array .int
  | 7 => .array .int
  | 8 => .array .int
  | 9 => .array .int
  | 10 => .int
  | 11 => .int
  | 12 => .int
  | 13 => .int
  | 14 => .int
  | 15 => .array .int
  | 16 => .array .int
  | 17 => .array .int
  | 18 => .array .int
  | 19 => .array .int
  | 20 => .array .int
  | 21 => .array .int
  | 22 => .array .int
  | 23 => .int
  | 24 => .int
  | 25 => .int
  | 26 => .array .int
  | 27 => .array .boolean
  | 28 => .int
  | 29 => .int
  | 30 => .int
  | 31 => .int
  | 32 => .int
  | 33 => .int
  | 34 => .int
  | 35 => .array .int
  | 36 => .array .int
  | 37 => .array .int
  | 38 => .int
  | 39 => .array .int
  | 40 => .array .boolean
  | 41 => .int
  | 42 => .array .int
  | 43 => .array .int
  | 44 => .boolean
  | 45 => .int
  | 46 => .int
  | 47 => .int
  | 48 => .int
  | 49 => .int
  | 50 => .int
  | 51 => .array .int
  | 52 => .array .int
  | 53 => .array .int
  | 54 => .array .int
  | 55 => .array .int
  | 56 => .array .int
  | 57 => .array .int
  | 58 => .array .int
  | 59 => .array .int
  | 60 => .array .int
  | 61 => .array .int
  | 62 => .array .int
  | 63 => .array .boolean
  | 64 => .int
  | 65 => .array .int
  | 66 => .array .int
  | 67 => .array .int
  | 68 => .array .long
  | _ => .array .long
abbrev wsX110 : List Cond := u_ws RX11 TX11 70
theorem nmX11 : ∀ a, a < 70 → ∀ b, b < 70 → a ≠ b → (TX11 a).2.1 ≠ (TX11 b).2.1 := by decide +kernel
theorem tyX11_ok : ∀ k, k < 70 → parseFieldDescriptor (TX11 k).2.2.1 = some (tyX11 k) := by decide +kernel
abbrev cX11_init : ByteArray := prog_13_method_1_code
def yX11_init : MethodName := ⟨RX11, "<init>", "()V"⟩
abbrev cX11_in : ByteArray := prog_13_method_2_code
def yX11_in : MethodName := ⟨RX11, "in", "(III)Z"⟩
abbrev cX11_has : ByteArray := prog_13_method_3_code
def yX11_has : MethodName := ⟨RX11, "has", "(II)Z"⟩
abbrev cX11_ones : ByteArray := prog_13_method_4_code
def yX11_ones : MethodName := ⟨RX11, "ones", "(I)I"⟩
abbrev cX11_isHouse : ByteArray := prog_13_method_5_code
def yX11_isHouse : MethodName := ⟨RX11, "isHouse", "(I)Z"⟩
abbrev cX11_isFolk : ByteArray := prog_13_method_6_code
def yX11_isFolk : MethodName := ⟨RX11, "isFolk", "(I)Z"⟩
abbrev cX11_becomes : ByteArray := prog_13_method_7_code
def yX11_becomes : MethodName := ⟨RX11, "becomes", "(III)V"⟩
abbrev cX11_house : ByteArray := prog_13_method_8_code
def yX11_house : MethodName := ⟨RX11, "house", "(III)I"⟩
abbrev cX11_folk : ByteArray := prog_13_method_9_code
def yX11_folk : MethodName := ⟨RX11, "folk", "(III)I"⟩
abbrev cX11_who : ByteArray := prog_13_method_10_code
def yX11_who : MethodName := ⟨RX11, "who", "(II)I"⟩
abbrev cX11_strew : ByteArray := prog_13_method_11_code
def yX11_strew : MethodName := ⟨RX11, "strew", "(II)I"⟩
abbrev cX11_ask : ByteArray := prog_13_method_12_code
def yX11_ask : MethodName := ⟨RX11, "ask", "(IIZ)I"⟩
abbrev cX11_sack : ByteArray := prog_13_method_13_code
def yX11_sack : MethodName := ⟨RX11, "sack", "(II)I"⟩
abbrev cX11_sell : ByteArray := prog_13_method_14_code
def yX11_sell : MethodName := ⟨RX11, "sell", "(III)I"⟩
abbrev cX11_row : ByteArray := prog_13_method_15_code
def yX11_row : MethodName := ⟨RX11, "row", "(III)I"⟩
abbrev cX11_feed : ByteArray := prog_13_method_16_code
def yX11_feed : MethodName := ⟨RX11, "feed", "(I)I"⟩
abbrev cX11_peek : ByteArray := prog_13_method_17_code
def yX11_peek : MethodName := ⟨RX11, "peek", "()I"⟩
abbrev cX11_takes : ByteArray := prog_13_method_18_code
def yX11_takes : MethodName := ⟨RX11, "takes", "(I)Z"⟩
abbrev cX11_takesWord : ByteArray := prog_13_method_19_code
def yX11_takesWord : MethodName := ⟨RX11, "takesWord", "(II)Z"⟩
abbrev cX11_isDigit : ByteArray := prog_13_method_20_code
def yX11_isDigit : MethodName := ⟨RX11, "isDigit", "()Z"⟩
abbrev cX11_takesNumber : ByteArray := prog_13_method_21_code
def yX11_takesNumber : MethodName := ⟨RX11, "takesNumber", "()Z"⟩
abbrev cX11_emits : ByteArray := prog_13_method_22_code
def yX11_emits : MethodName := ⟨RX11, "emits", "(I)V"⟩
abbrev cX11_whole : ByteArray := prog_13_method_23_code
def yX11_whole : MethodName := ⟨RX11, "whole", "()V"⟩
abbrev cX11_settle : ByteArray := prog_13_method_24_code
def yX11_settle : MethodName := ⟨RX11, "settle", "(I)V"⟩
abbrev cX11_place : ByteArray := prog_13_method_25_code
def yX11_place : MethodName := ⟨RX11, "place", "(I)I"⟩
abbrev cX11_takesTest : ByteArray := prog_13_method_26_code
def yX11_takesTest : MethodName := ⟨RX11, "takesTest", "()Z"⟩
abbrev cX11_takesE : ByteArray := prog_13_method_27_code
def yX11_takesE : MethodName := ⟨RX11, "takesE", "(I)Z"⟩
abbrev cX11_takesHead : ByteArray := prog_13_method_28_code
def yX11_takesHead : MethodName := ⟨RX11, "takesHead", "(I)Z"⟩
abbrev cX11_takesClause : ByteArray := prog_13_method_29_code
def yX11_takesClause : MethodName := ⟨RX11, "takesClause", "(I)Z"⟩
abbrev cX11_goesText : ByteArray := prog_13_method_30_code
def yX11_goesText : MethodName := ⟨RX11, "goesText", "(I)Z"⟩
abbrev cX11_town : ByteArray := prog_13_method_31_code
def yX11_town : MethodName := ⟨RX11, "town", "()I"⟩
abbrev cX11_begin : ByteArray := prog_13_method_32_code
def yX11_begin : MethodName := ⟨RX11, "begin", "()I"⟩
abbrev cX11_behind : ByteArray := prog_13_method_33_code
def yX11_behind : MethodName := ⟨RX11, "behind", "()I"⟩
abbrev cX11_dawn : ByteArray := prog_13_method_34_code
def yX11_dawn : MethodName := ⟨RX11, "dawn", "()I"⟩
abbrev cX11_factOf : ByteArray := prog_13_method_35_code
def yX11_factOf : MethodName := ⟨RX11, "factOf", "(IIII)I"⟩
abbrev cX11_holds : ByteArray := prog_13_method_36_code
def yX11_holds : MethodName := ⟨RX11, "holds", "(IIII)Z"⟩
abbrev cX11_sumOf : ByteArray := prog_13_method_37_code
def yX11_sumOf : MethodName := ⟨RX11, "sumOf", "(IIIII)I"⟩
abbrev cX11_slowOf : ByteArray := prog_13_method_38_code
def yX11_slowOf : MethodName := ⟨RX11, "slowOf", "(III)I"⟩
abbrev cX11_farOf : ByteArray := prog_13_method_39_code
def yX11_farOf : MethodName := ⟨RX11, "farOf", "(III)I"⟩
abbrev cX11_of : ByteArray := prog_13_method_40_code
def yX11_of : MethodName := ⟨RX11, "of", "(II)I"⟩
abbrev cX11_beginNight : ByteArray := prog_13_method_41_code
def yX11_beginNight : MethodName := ⟨RX11, "beginNight", "(II)V"⟩
abbrev cX11_isProudly : ByteArray := prog_13_method_42_code
def yX11_isProudly : MethodName := ⟨RX11, "isProudly", "(I)Z"⟩
abbrev cX11_letsIn : ByteArray := prog_13_method_43_code
def yX11_letsIn : MethodName := ⟨RX11, "letsIn", "(I)Z"⟩
abbrev cX11_pays : ByteArray := prog_13_method_44_code
def yX11_pays : MethodName := ⟨RX11, "pays", "(I)Z"⟩
abbrev cX11_apart : ByteArray := prog_13_method_45_code
def yX11_apart : MethodName := ⟨RX11, "apart", "(II)I"⟩
abbrev cX11_upBy : ByteArray := prog_13_method_46_code
def yX11_upBy : MethodName := ⟨RX11, "upBy", "(II)I"⟩
abbrev cX11_visits : ByteArray := prog_13_method_47_code
def yX11_visits : MethodName := ⟨RX11, "visits", "(I)Z"⟩
abbrev cX11_comesIn : ByteArray := prog_13_method_48_code
def yX11_comesIn : MethodName := ⟨RX11, "comesIn", "(III)Z"⟩
abbrev cX11_visit : ByteArray := prog_13_method_49_code
def yX11_visit : MethodName := ⟨RX11, "visit", "(III)I"⟩
abbrev cX11_way : ByteArray := prog_13_method_50_code
def yX11_way : MethodName := ⟨RX11, "way", "(I)I"⟩
abbrev cX11_goes : ByteArray := prog_13_method_51_code
def yX11_goes : MethodName := ⟨RX11, "goes", "(II)I"⟩
abbrev cX11_layOrder : ByteArray := prog_13_method_52_code
def yX11_layOrder : MethodName := ⟨RX11, "layOrder", "(II)Z"⟩
abbrev cX11_round : ByteArray := prog_13_method_53_code
def yX11_round : MethodName := ⟨RX11, "round", "(III)I"⟩
abbrev cX11_keep : ByteArray := prog_13_method_54_code
def yX11_keep : MethodName := ⟨RX11, "keep", "(II)I"⟩
abbrev cX11_pairsIn : ByteArray := prog_13_method_55_code
def yX11_pairsIn : MethodName := ⟨RX11, "pairsIn", "()I"⟩
abbrev cX11_more : ByteArray := prog_13_method_56_code
def yX11_more : MethodName := ⟨RX11, "more", "(II)I"⟩
abbrev cX11_walksTo : ByteArray := prog_13_method_57_code
def yX11_walksTo : MethodName := ⟨RX11, "walksTo", "(II)I"⟩
abbrev cX11_isLetIn : ByteArray := prog_13_method_58_code
def yX11_isLetIn : MethodName := ⟨RX11, "isLetIn", "(III)Z"⟩
abbrev cX11_share : ByteArray := prog_13_method_59_code
def yX11_share : MethodName := ⟨RX11, "share", "(IIII)I"⟩
abbrev cX11_watch : ByteArray := prog_13_method_60_code
def yX11_watch : MethodName := ⟨RX11, "watch", "(IZ)I"⟩
abbrev cX11_suspects : ByteArray := prog_13_method_61_code
def yX11_suspects : MethodName := ⟨RX11, "suspects", "()I"⟩
abbrev cX11_next : ByteArray := prog_13_method_62_code
def yX11_next : MethodName := ⟨RX11, "next", "()I"⟩
abbrev cX11_when : ByteArray := prog_13_method_63_code
def yX11_when : MethodName := ⟨RX11, "when", "(II)I"⟩
abbrev cX11_divisor : ByteArray := prog_13_method_64_code
def yX11_divisor : MethodName := ⟨RX11, "divisor", "(II)I"⟩
abbrev cX11_lowest : ByteArray := prog_13_method_65_code
def yX11_lowest : MethodName := ⟨RX11, "lowest", "(III)J"⟩
abbrev cX11_odds : ByteArray := prog_13_method_66_code
def yX11_odds : MethodName := ⟨RX11, "odds", "(III)J"⟩
abbrev cX11_mean : ByteArray := prog_13_method_67_code
def yX11_mean : MethodName := ⟨RX11, "mean", "(II)J"⟩
abbrev cX11_book : ByteArray := prog_13_method_68_code
def yX11_book : MethodName := ⟨RX11, "book", "(II)I"⟩
abbrev cX11_looked : ByteArray := prog_13_method_69_code
def yX11_looked : MethodName := ⟨RX11, "looked", "()I"⟩
abbrev cX11_judge : ByteArray := prog_13_method_70_code
def yX11_judge : MethodName := ⟨RX11, "judge", "(II)I"⟩
abbrev cX11_image : ByteArray := prog_13_method_71_code
def yX11_image : MethodName := ⟨RX11, "image", "()I"⟩
abbrev cX11_undo : ByteArray := prog_13_method_72_code
def yX11_undo : MethodName := ⟨RX11, "undo", "()I"⟩
abbrev cX11_body : ByteArray := prog_13_method_73_code
def yX11_body : MethodName := ⟨RX11, "body", "(I)V"⟩
abbrev cX11_houseAsks : ByteArray := prog_13_method_74_code
def yX11_houseAsks : MethodName := ⟨RX11, "houseAsks", "(II)I"⟩
abbrev cX11_asksAct : ByteArray := prog_13_method_75_code
def yX11_asksAct : MethodName := ⟨RX11, "asksAct", "(II)I"⟩
abbrev cX11_houseOpens : ByteArray := prog_13_method_76_code
def yX11_houseOpens : MethodName := ⟨RX11, "houseOpens", "(II)I"⟩
abbrev cX11_lonelyOpens : ByteArray := prog_13_method_77_code
def yX11_lonelyOpens : MethodName := ⟨RX11, "lonelyOpens", "(II)I"⟩
abbrev cX11_opensAct : ByteArray := prog_13_method_78_code
def yX11_opensAct : MethodName := ⟨RX11, "opensAct", "(II)I"⟩
abbrev cX11_houseTells : ByteArray := prog_13_method_79_code
def yX11_houseTells : MethodName := ⟨RX11, "houseTells", "(II)I"⟩
abbrev cX11_tellsAct : ByteArray := prog_13_method_80_code
def yX11_tellsAct : MethodName := ⟨RX11, "tellsAct", "(II)I"⟩
abbrev cX11_act : ByteArray := prog_13_method_81_code
def yX11_act : MethodName := ⟨RX11, "act", "(III)I"⟩
abbrev cX11_trace : ByteArray := prog_13_method_82_code
def yX11_trace : MethodName := ⟨RX11, "trace", "(I)I"⟩
abbrev cX11_taken : ByteArray := prog_13_method_83_code
def yX11_taken : MethodName := ⟨RX11, "taken", "(II)I"⟩
abbrev cX11_count : ByteArray := prog_13_method_84_code
def yX11_count : MethodName := ⟨RX11, "count", "(I)I"⟩
abbrev cX11_isTape : ByteArray := prog_13_method_85_code
def yX11_isTape : MethodName := ⟨RX11, "isTape", "(I)Z"⟩
abbrev cX11_tape : ByteArray := prog_13_method_86_code
def yX11_tape : MethodName := ⟨RX11, "tape", "(III)I"⟩
abbrev cX11_narrow : ByteArray := prog_13_method_87_code
def yX11_narrow : MethodName := ⟨RX11, "narrow", "(IJ)J"⟩
abbrev cX11_item : ByteArray := prog_13_method_88_code
def yX11_item : MethodName := ⟨RX11, "item", "(IIJ)I"⟩
abbrev cX11_read : ByteArray := prog_13_method_89_code
def yX11_read : MethodName := ⟨RX11, "read", "(II)J"⟩
abbrev cX11_shift : ByteArray := prog_13_method_90_code
def yX11_shift : MethodName := ⟨RX11, "shift", "(IIIII)I"⟩
def RJx145de : String := "java/io/Serializable"
def TJx145de : u_T := fun k => match k with
  | _ => ("", "", "", false)
def tyJx145de : Nat → FieldType := fun k => match k with
  | _ => .int
abbrev wsJx145de0 : List Cond := u_ws RJx145de TJx145de 0
theorem nmJx145de : ∀ a, a < 0 → ∀ b, b < 0 → a ≠ b → (TJx145de a).2.1 ≠ (TJx145de b).2.1 := by decide +kernel
theorem tyJx145de_ok : ∀ k, k < 0 → parseFieldDescriptor (TJx145de k).2.2.1 = some (tyJx145de k) := by decide +kernel
def RJx9f9b0 : String := "java/lang/CharSequence"
def TJx9f9b0 : u_T := fun k => match k with
  | _ => ("", "", "", false)
def tyJx9f9b0 : Nat → FieldType := fun k => match k with
  | _ => .int
abbrev wsJx9f9b00 : List Cond := u_ws RJx9f9b0 TJx9f9b0 0
theorem nmJx9f9b0 : ∀ a, a < 0 → ∀ b, b < 0 → a ≠ b → (TJx9f9b0 a).2.1 ≠ (TJx9f9b0 b).2.1 := by decide +kernel
theorem tyJx9f9b0_ok : ∀ k, k < 0 → parseFieldDescriptor (TJx9f9b0 k).2.2.1 = some (tyJx9f9b0 k) := by decide +kernel
def RJ11 : String := "java/lang/Character"
def TJ11 : u_T := fun k => match k with
  | _ => ("", "", "", false)
def tyJ11 : Nat → FieldType := fun k => match k with
  | _ => .int
abbrev wsJ110 : List Cond := u_ws RJ11 TJ11 0
theorem nmJ11 : ∀ a, a < 0 → ∀ b, b < 0 → a ≠ b → (TJ11 a).2.1 ≠ (TJ11 b).2.1 := by decide +kernel
theorem tyJ11_ok : ∀ k, k < 0 → parseFieldDescriptor (TJ11 k).2.2.1 = some (tyJ11 k) := by decide +kernel
abbrev cJ11_isValidCodePoint_9a6ad : ByteArray := prog_14_method_11_code
def yJ11_isValidCodePoint_9a6ad : MethodName := ⟨RJ11, "isValidCodePoint", "(I)Z"⟩
abbrev cJ11_highSurrogate_5068e : ByteArray := prog_14_method_28_code
def yJ11_highSurrogate_5068e : MethodName := ⟨RJ11, "highSurrogate", "(I)C"⟩
abbrev cJ11_lowSurrogate_5068e : ByteArray := prog_14_method_29_code
def yJ11_lowSurrogate_5068e : MethodName := ⟨RJ11, "lowSurrogate", "(I)C"⟩
def RJxb160c : String := "java/lang/Comparable"
def TJxb160c : u_T := fun k => match k with
  | _ => ("", "", "", false)
def tyJxb160c : Nat → FieldType := fun k => match k with
  | _ => .int
abbrev wsJxb160c0 : List Cond := u_ws RJxb160c TJxb160c 0
theorem nmJxb160c : ∀ a, a < 0 → ∀ b, b < 0 → a ≠ b → (TJxb160c a).2.1 ≠ (TJxb160c b).2.1 := by decide +kernel
theorem tyJxb160c_ok : ∀ k, k < 0 → parseFieldDescriptor (TJxb160c k).2.2.1 = some (tyJxb160c k) := by decide +kernel
def RJ6 : String := "java/lang/Integer"
def TJ6 : u_T := fun k => match k with
  | _ => ("", "", "", false)
def tyJ6 : Nat → FieldType := fun k => match k with
  | _ => .int
abbrev wsJ60 : List Cond := u_ws RJ6 TJ6 0
theorem nmJ6 : ∀ a, a < 0 → ∀ b, b < 0 → a ≠ b → (TJ6 a).2.1 ≠ (TJ6 b).2.1 := by decide +kernel
theorem tyJ6_ok : ∀ k, k < 0 → parseFieldDescriptor (TJ6 k).2.2.1 = some (tyJ6 k) := by decide +kernel
abbrev cJ6_bitCount_0f7a4 : ByteArray := prog_15_method_49_code
def yJ6_bitCount_0f7a4 : MethodName := ⟨RJ6, "bitCount", "(I)I"⟩
def RJ9 : String := "java/lang/Math"
def TJ9 : u_T := fun k => match k with
  | _ => ("", "", "", false)
def tyJ9 : Nat → FieldType := fun k => match k with
  | _ => .int
abbrev wsJ90 : List Cond := u_ws RJ9 TJ9 0
theorem nmJ9 : ∀ a, a < 0 → ∀ b, b < 0 → a ≠ b → (TJ9 a).2.1 ≠ (TJ9 b).2.1 := by decide +kernel
theorem tyJ9_ok : ∀ k, k < 0 → parseFieldDescriptor (TJ9 k).2.2.1 = some (tyJ9 k) := by decide +kernel
abbrev cJ9_abs_0f7a4 : ByteArray := prog_16_method_59_code
def yJ9_abs_0f7a4 : MethodName := ⟨RJ9, "abs", "(I)I"⟩
abbrev cJ9_max_7cf53 : ByteArray := prog_16_method_65_code
def yJ9_max_7cf53 : MethodName := ⟨RJ9, "max", "(II)I"⟩
abbrev cJ9_min_7cf53 : ByteArray := prog_16_method_69_code
def yJ9_min_7cf53 : MethodName := ⟨RJ9, "min", "(II)I"⟩
def RJ0 : String := "java/lang/String"
def TJ0 : u_T := fun k => match k with
  | _ => ("", "", "", false)
def tyJ0 : Nat → FieldType := fun k => match k with
  | _ => .int
abbrev wsJ00 : List Cond := u_ws RJ0 TJ0 0
theorem nmJ0 : ∀ a, a < 0 → ∀ b, b < 0 → a ≠ b → (TJ0 a).2.1 ≠ (TJ0 b).2.1 := by decide +kernel
theorem tyJ0_ok : ∀ k, k < 0 → parseFieldDescriptor (TJ0 k).2.2.1 = some (tyJ0 k) := by decide +kernel
abbrev cJ0_length_8abf5 : ByteArray := prog_17_method_54_code
def yJ0_length_8abf5 : MethodName := ⟨RJ0, "length", "()I"⟩
abbrev cJ0_charAt_5068e : ByteArray := prog_17_method_56_code
def yJ0_charAt_5068e : MethodName := ⟨RJ0, "charAt", "(I)C"⟩
abbrev cJ0_indexOf_0f7a4 : ByteArray := prog_17_method_79_code
def yJ0_indexOf_0f7a4 : MethodName := ⟨RJ0, "indexOf", "(I)I"⟩
abbrev cJ0_indexOf_7cf53 : ByteArray := prog_17_method_80_code
def yJ0_indexOf_7cf53 : MethodName := ⟨RJ0, "indexOf", "(II)I"⟩
abbrev cJ0_coder_7d493 : ByteArray := prog_17_method_152_code
def yJ0_coder_7d493 : MethodName := ⟨RJ0, "coder", "()B"⟩
abbrev cJ0_isLatin1_aae02 : ByteArray := prog_17_method_154_code
def yJ0_isLatin1_aae02 : MethodName := ⟨RJ0, "isLatin1", "()Z"⟩
abbrev cJ0_checkIndex_df160 : ByteArray := prog_17_method_155_code
def yJ0_checkIndex_df160 : MethodName := ⟨RJ0, "checkIndex", "(II)V"⟩
abbrev cJ0_checkBoundsBeginEnd_23922 : ByteArray := prog_17_method_158_code
def yJ0_checkBoundsBeginEnd_23922 : MethodName := ⟨RJ0, "checkBoundsBeginEnd", "(III)V"⟩
def RJ1 : String := "java/lang/StringLatin1"
def TJ1 : u_T := fun k => match k with
  | _ => ("", "", "", false)
def tyJ1 : Nat → FieldType := fun k => match k with
  | _ => .int
abbrev wsJ10 : List Cond := u_ws RJ1 TJ1 0
theorem nmJ1 : ∀ a, a < 0 → ∀ b, b < 0 → a ≠ b → (TJ1 a).2.1 ≠ (TJ1 b).2.1 := by decide +kernel
theorem tyJ1_ok : ∀ k, k < 0 → parseFieldDescriptor (TJ1 k).2.2.1 = some (tyJ1 k) := by decide +kernel
abbrev cJ1_charAt_3b067 : ByteArray := prog_18_method_2_code
def yJ1_charAt_3b067 : MethodName := ⟨RJ1, "charAt", "([BI)C"⟩
abbrev cJ1_canEncode_9a6ad : ByteArray := prog_18_method_4_code
def yJ1_canEncode_9a6ad : MethodName := ⟨RJ1, "canEncode", "(I)Z"⟩
abbrev cJ1_indexOf_4cfef : ByteArray := prog_18_method_22_code
def yJ1_indexOf_4cfef : MethodName := ⟨RJ1, "indexOf", "([BIII)I"⟩
abbrev cJ1_indexOfChar_4cfef : ByteArray := prog_18_method_23_code
def yJ1_indexOfChar_4cfef : MethodName := ⟨RJ1, "indexOfChar", "([BIII)I"⟩
def RJ2 : String := "java/lang/StringUTF16"
def TJ2 : u_T := fun k => match k with
  | _ => ("", "", "", false)
def tyJ2 : Nat → FieldType := fun k => match k with
  | _ => .int
abbrev wsJ20 : List Cond := u_ws RJ2 TJ2 0
theorem nmJ2 : ∀ a, a < 0 → ∀ b, b < 0 → a ≠ b → (TJ2 a).2.1 ≠ (TJ2 b).2.1 := by decide +kernel
theorem tyJ2_ok : ∀ k, k < 0 → parseFieldDescriptor (TJ2 k).2.2.1 = some (tyJ2 k) := by decide +kernel
abbrev cJ2_getChar_3b067 : ByteArray := prog_19_method_5_code
def yJ2_getChar_3b067 : MethodName := ⟨RJ2, "getChar", "([BI)C"⟩
abbrev cJ2_length_9d52b : ByteArray := prog_19_method_6_code
def yJ2_length_9d52b : MethodName := ⟨RJ2, "length", "([B)I"⟩
abbrev cJ2_indexOf_4cfef : ByteArray := prog_19_method_40_code
def yJ2_indexOf_4cfef : MethodName := ⟨RJ2, "indexOf", "([BIII)I"⟩
abbrev cJ2_indexOfChar_4cfef : ByteArray := prog_19_method_47_code
def yJ2_indexOfChar_4cfef : MethodName := ⟨RJ2, "indexOfChar", "([BIII)I"⟩
abbrev cJ2_indexOfCharUnsafe_4cfef : ByteArray := prog_19_method_48_code
def yJ2_indexOfCharUnsafe_4cfef : MethodName := ⟨RJ2, "indexOfCharUnsafe", "([BIII)I"⟩
abbrev cJ2_indexOfSupplementary_4cfef : ByteArray := prog_19_method_49_code
def yJ2_indexOfSupplementary_4cfef : MethodName := ⟨RJ2, "indexOfSupplementary", "([BIII)I"⟩
abbrev cJ2_charAt_3b067 : ByteArray := prog_19_method_83_code
def yJ2_charAt_3b067 : MethodName := ⟨RJ2, "charAt", "([BI)C"⟩
abbrev cJ2_checkIndex_2214a : ByteArray := prog_19_method_91_code
def yJ2_checkIndex_2214a : MethodName := ⟨RJ2, "checkIndex", "(I[B)V"⟩
abbrev cJ2_checkBoundsBeginEnd_d044e : ByteArray := prog_19_method_93_code
def yJ2_checkBoundsBeginEnd_d044e : MethodName := ⟨RJ2, "checkBoundsBeginEnd", "(II[B)V"⟩
def RJ10 : String := "java/lang/System"
def TJ10 : u_T := fun k => match k with
  | _ => ("", "", "", false)
def tyJ10 : Nat → FieldType := fun k => match k with
  | _ => .int
abbrev wsJ100 : List Cond := u_ws RJ10 TJ10 0
theorem nmJ10 : ∀ a, a < 0 → ∀ b, b < 0 → a ≠ b → (TJ10 a).2.1 ≠ (TJ10 b).2.1 := by decide +kernel
theorem tyJ10_ok : ∀ k, k < 0 → parseFieldDescriptor (TJ10 k).2.2.1 = some (tyJ10 k) := by decide +kernel
def RJxfd54e : String := "java/lang/constant/Constable"
def TJxfd54e : u_T := fun k => match k with
  | _ => ("", "", "", false)
def tyJxfd54e : Nat → FieldType := fun k => match k with
  | _ => .int
abbrev wsJxfd54e0 : List Cond := u_ws RJxfd54e TJxfd54e 0
theorem nmJxfd54e : ∀ a, a < 0 → ∀ b, b < 0 → a ≠ b → (TJxfd54e a).2.1 ≠ (TJxfd54e b).2.1 := by decide +kernel
theorem tyJxfd54e_ok : ∀ k, k < 0 → parseFieldDescriptor (TJxfd54e k).2.2.1 = some (tyJxfd54e k) := by decide +kernel
def RJx3cf43 : String := "java/lang/constant/ConstantDesc"
def TJx3cf43 : u_T := fun k => match k with
  | _ => ("", "", "", false)
def tyJx3cf43 : Nat → FieldType := fun k => match k with
  | _ => .int
abbrev wsJx3cf430 : List Cond := u_ws RJx3cf43 TJx3cf43 0
theorem nmJx3cf43 : ∀ a, a < 0 → ∀ b, b < 0 → a ≠ b → (TJx3cf43 a).2.1 ≠ (TJx3cf43 b).2.1 := by decide +kernel
theorem tyJx3cf43_ok : ∀ k, k < 0 → parseFieldDescriptor (TJx3cf43 k).2.2.1 = some (tyJx3cf43 k) := by decide +kernel
def RJ7 : String := "java/util/Arrays"
def TJ7 : u_T := fun k => match k with
  | _ => ("", "", "", false)
def tyJ7 : Nat → FieldType := fun k => match k with
  | _ => .int
abbrev wsJ70 : List Cond := u_ws RJ7 TJ7 0
theorem nmJ7 : ∀ a, a < 0 → ∀ b, b < 0 → a ≠ b → (TJ7 a).2.1 ≠ (TJ7 b).2.1 := by decide +kernel
theorem tyJ7_ok : ∀ k, k < 0 → parseFieldDescriptor (TJ7 k).2.2.1 = some (tyJ7 k) := by decide +kernel
abbrev cJ7_fill_d0a16 : ByteArray := prog_21_method_101_code
def yJ7_fill_d0a16 : MethodName := ⟨RJ7, "fill", "([JJ)V"⟩
def RJ3 : String := "jdk/internal/util/Preconditions"
def TJ3 : u_T := fun k => match k with
  | _ => ("", "", "", false)
def tyJ3 : Nat → FieldType := fun k => match k with
  | _ => .int
abbrev wsJ30 : List Cond := u_ws RJ3 TJ3 0
theorem nmJ3 : ∀ a, a < 0 → ∀ b, b < 0 → a ≠ b → (TJ3 a).2.1 ≠ (TJ3 b).2.1 := by decide +kernel
theorem tyJ3_ok : ∀ k, k < 0 → parseFieldDescriptor (TJ3 k).2.2.1 = some (tyJ3 k) := by decide +kernel
abbrev cJ3_checkIndex_8e157 : ByteArray := prog_22_method_11_code
def yJ3_checkIndex_8e157 : MethodName := ⟨RJ3, "checkIndex", "(IILjava/util/function/BiFunction;)I"⟩
abbrev cJ3_checkFromToIndex_8c36e : ByteArray := prog_22_method_12_code
def yJ3_checkFromToIndex_8c36e : MethodName := ⟨RJ3, "checkFromToIndex", "(IIILjava/util/function/BiFunction;)I"⟩
def RL : String := "AskedInLaw"
abbrev cL_law : ByteArray := code
def yL_law : MethodName := ⟨RL, "law", "([I)Z"⟩
abbrev vwCl : List vw_C := [(RX0, TX0, 5), (RX1, TX1, 10), (RX2, TX2, 4), (RX3, TX3, 5), (RX4, TX4, 3), (RX5, TX5, 14), (RX6, TX6, 3), (RX7, TX7, 7), (RX9, TX9, 7), (RX10, TX10, 8), (RX11, TX11, 70)]
end
section
def shL : List (Nat × Nat) := [(0, 9), (0, 5), (1, 6), (1, 6), (1, 6), (1, 6), (1, 6), (1, 4), (1, 4), (1, 4), (0, 4), (1, 8), (1, 8), (0, 4), (1, 8), (1, 8), (0, 4), (1, 12), (1, 12), (0, 7), (4, 100), (0, 0), (1, 20), (0, 6), (6, 6), (2, 60), (2, 60), (2, 60), (2, 60), (2, 60), (2, 60), (1, 6), (1, 6), (0, 5), (1, 6), (1, 6), (1, 6), (1, 6), (1, 6), (1, 4), (1, 4), (1, 4), (0, 4), (1, 8), (1, 8), (0, 4), (1, 8), (1, 8), (0, 4), (1, 12), (1, 12), (0, 8), (5, 6), (1, 100), (1, 100), (1, 100), (1, 100), (1, 100), (1, 100), (1, 6), (1, 6), (1, 6), (0, 2), (0, 3), (1, 5), (1, 5), (0, 1), (1, 6), (1, 6), (0, 10), (1, 6), (1, 6), (1, 6), (1, 6), (1, 24), (1, 4), (1, 4), (1, 4), (1, 100), (1, 6), (1, 60), (1, 60), (1, 60), (1, 60), (1, 600), (1, 101), (1, 13), (3, 100), (1, 8), (1, 5), (1, 5), (1, 8), (3, 8), (1, 12), (1, 12), (1, 6), (1, 6), (1, 6), (1, 6), (1, 24), (1, 4), (1, 4), (1, 4), (1, 8), (1, 8), (1, 12), (1, 12), (3, 8), (1, 20), (1, 6), (1, 6), (2, 360), (2, 60)]
def fkL : List (List Nat) := [[1, 0, 0, 0, 0], [1, 1, 1, 1, 0, 0, 0, 0, 0, 0], [1, 1, 1, 1], [1, 1, 0, 0, 0], [1, 1, 0], [0, 1, 1, 1, 1, 1, 0, 1, 1, 1, 1, 1, 1, 0], [1, 1, 1], [1, 0, 0, 0, 1, 0, 0], [1, 1, 1, 0, 1, 0, 0], [1, 1, 2, 1, 1, 1, 1, 1], [0, 0, 1, 1, 1, 1, 1, 1, 1, 1, 0, 0, 0, 0, 0, 1, 1, 1, 1, 1, 1, 1, 1, 0, 0, 0, 1, 1, 0, 0, 0, 0, 0, 0, 0, 1, 1, 1, 0, 1, 1, 0, 1, 1, 2, 0, 0, 0, 0, 0, 0, 1, 1, 1, 1, 1, 1, 1, 1, 1, 1, 1, 1, 1, 0, 1, 1, 1, 1, 1]]
abbrev St : Type := Nat × (Nat → Nat → Nat) × (Nat → Int → Int)
/-- launch, class tables, array classes, the heap at the law's start, addresses of statics and texts -/
abbrev KT : Type := Launch × va_G × (Nat → ClassId) × Heap × (Nat → Nat)
def kL (Γ : KT) : Launch := Γ.1
def kD (Γ : KT) : va_G := Γ.2.1
def kA (Γ : KT) : Nat → ClassId := Γ.2.2.1
def kH (Γ : KT) : Heap := Γ.2.2.2.1
def kS (Γ : KT) : Nat → Nat := Γ.2.2.2.2
def kB (Γ : KT) : Nat := (kH Γ).size
def vI (x : Int) : Value := .int (Int32.ofInt x)
def vL (x : Int) : Value := .long (Int64.ofInt x)
def vR (Γ : KT) (k : Nat) : Value := .ref (kB Γ + k)
abbrev R32 (x : Int) : Prop := -2147483648 ≤ x ∧ x < 2147483648
abbrev R64 (x : Int) : Prop := -9223372036854775808 ≤ x ∧ x < 9223372036854775808
def shp (k : Nat) : Nat × Nat := shL.getD k (9, 0)
def fk (ci : Nat) : List Nat := fkL.getD ci []
def up (σ : Nat → Int → Int) (k : Nat) (j x : Int) : Nat → Int → Int := fun a b => if a = k ∧ b = j then x else σ a b
def upr (ρ : Nat → Nat → Nat) (k j v : Nat) : Nat → Nat → Nat := fun a b => if a = k ∧ b = j then v else ρ a b
def rfv (Γ : KT) (r : Nat) : Option Nat := if r = 0 then none else some (kB Γ + (r - 1))
def fval (Γ : KT) (τ : St) (k j t : Nat) : Value := if t = 1 then va_rf (rfv Γ (τ.2.1 k j)) else vI (τ.2.2 k j)
def fsOf (Γ : KT) (τ : St) (k : Nat) (l : List Nat) : List Value := l.zipIdx.map (fun q => fval Γ τ k q.2 q.1)
def wE (Γ : KT) (τ : St) (k : Nat) : va_E :=
  if (shp k).1 = 0 then .inr ((shp k).2, fsOf Γ τ k (fk (shp k).2))
  else if (shp k).1 = 2 then .inl (kA Γ 2, (shp k).2, .inr (.inl (fun j => Int64.ofInt (τ.2.2 k j))))
  else if (shp k).1 = 5 ∨ (shp k).1 = 6 then .inl (kA Γ (shp k).1, (shp k).2, .inr (.inr (.inr (.inr (fun j => rfv Γ (τ.2.1 k j))))))
  else .inl (kA Γ (shp k).1, (shp k).2, .inl (fun j => Int32.ofInt (τ.2.2 k j)))
def Nz (σ : Nat → Int → Int) : Prop := ∀ k j, if (shp k).1 = 2 then R64 (σ k j) else R32 (σ k j)
def Wd (Γ : KT) (τ : St) (H : Heap) : Prop :=
  H.size = kB Γ + τ.1 ∧ (∀ k, k < τ.1 → va_at (kD Γ) vwCl (kB Γ + k, wE Γ τ k) H) ∧ (∀ q, q < kB Γ → H[q]? = (kH Γ)[q]?) ∧ Nz τ.2.2
theorem Nz.i {σ : Nat → Int → Int} (h : Nz σ) {k : Nat} (j : Int) (hk : (shp k).1 ≠ 2) : R32 (σ k j) := by
  have := h k j
  rwa [if_neg hk] at this
theorem Nz.l {σ : Nat → Int → Int} (h : Nz σ) {k : Nat} (j : Int) (hk : (shp k).1 = 2) : R64 (σ k j) := by
  have := h k j
  rwa [if_pos hk] at this
theorem nz_up {σ : Nat → Int → Int} (h : Nz σ) {k : Nat} {j x : Int} (hx : if (shp k).1 = 2 then R64 x else R32 x) : Nz (up σ k j x) := by
  intro a b
  by_cases e : a = k ∧ b = j
  · obtain ⟨rfl, rfl⟩ := e
    simpa [up] using hx
  · simpa [up, e] using h a b
theorem wd_put {Γ : KT} {τ τ' : St} {H H' : Heap} {k : Nat} (h : Wd Γ τ H) (h1 : va_at (kD Γ) vwCl (kB Γ + k, wE Γ τ' k) H') (oq : ∀ q, q ≠ kB Γ + k → H'[q]? = H[q]?) (z : H'.size = H.size) (hn : τ'.1 = τ.1) (he : ∀ k', k' ≠ k → wE Γ τ' k' = wE Γ τ k') (hz : Nz τ'.2.2) : Wd Γ τ' H' := by
  refine ⟨by rw [z, hn]; exact h.1, fun k' hk' => ?_, fun q hq => ?_, hz⟩
  · by_cases e : k' = k
    · subst e; exact h1
    · rw [he k' e]
      exact (h.2.1 k' (by omega)).kept (oq _ (fun q => e (by omega)))
  · rw [oq q (by omega)]
    exact h.2.2.1 q hq
theorem fval_up_ne {Γ : KT} {n : Nat} {ρ : Nat → Nat → Nat} {σ : Nat → Int → Int} {k k' : Nat} {j x : Int} (h : k' ≠ k) (i t : Nat) : fval Γ (n, ρ, up σ k j x) k' i t = fval Γ (n, ρ, σ) k' i t := by
  unfold fval; simp [up, h]
theorem wE_up_ne {Γ : KT} {n : Nat} {ρ : Nat → Nat → Nat} {σ : Nat → Int → Int} {k : Nat} {j x : Int} (k' : Nat) (h : k' ≠ k) : wE Γ (n, ρ, up σ k j x) k' = wE Γ (n, ρ, σ) k' := by
  unfold wE fsOf
  simp only [fval_up_ne h, up, h, false_and, if_false]
theorem fval_upr_ne {Γ : KT} {n : Nat} {ρ : Nat → Nat → Nat} {σ : Nat → Int → Int} {k k' j v : Nat} (h : k' ≠ k) (i t : Nat) : fval Γ (n, upr ρ k j v, σ) k' i t = fval Γ (n, ρ, σ) k' i t := by
  unfold fval; simp [upr, h]
theorem wE_upr_ne {Γ : KT} {n : Nat} {ρ : Nat → Nat → Nat} {σ : Nat → Int → Int} {k j v : Nat} (k' : Nat) (h : k' ≠ k) : wE Γ (n, upr ρ k j v, σ) k' = wE Γ (n, ρ, σ) k' := by
  unfold wE fsOf
  simp only [fval_upr_ne h, upr, h, false_and, if_false]
theorem fsOf_len {Γ : KT} {τ : St} {k : Nat} {l : List Nat} : (fsOf Γ τ k l).length = l.length := by simp [fsOf]
theorem fsOf_get {Γ : KT} {τ : St} {k j t : Nat} {l : List Nat} (h : l[j]? = some t) : (fsOf Γ τ k l)[j]? = some (fval Γ τ k j t) := by
  unfold fsOf
  rw [List.getElem?_map, List.getElem?_zipIdx, h]
  simp
theorem fsOf_set {Γ : KT} {τ τ' : St} {k j t : Nat} {l : List Nat} {v : Value} (hl : l[j]? = some t) (hv : fval Γ τ' k j t = v) (ho : ∀ i u, i ≠ j → fval Γ τ' k i u = fval Γ τ k i u) : (fsOf Γ τ k l).set j v = fsOf Γ τ' k l := by
  apply List.ext_getElem?
  intro i
  rw [List.getElem?_set]
  have hj : j < l.length := (List.getElem?_eq_some_iff.mp hl).1
  by_cases e : j = i
  · subst e
    rw [if_pos rfl, if_pos (by rw [fsOf_len]; exact hj), fsOf_get hl, hv]
  · rw [if_neg e]
    unfold fsOf
    rw [List.getElem?_map, List.getElem?_zipIdx, List.getElem?_map, List.getElem?_zipIdx]
    cases l[i]? with
    | none => rfl
    | some u => simp [ho i u (fun q => e q.symm)]
/-! words -/
def tblG : List Cond := lw_tbl.filter goodWord
theorem memT {w : Cond} (h : w ∈ lw_tbl) (g : goodWord w = true) : w ∈ tblG := List.mem_filter.mpr ⟨h, g⟩
theorem tblG_good {y : Cond} (hy : y ∈ tblG) : GoodIn tblG (y :: tblG) := by
  have key : ∀ w ∈ tblG, w ∈ tblG ∧ ((w.onTables && w.keeps) = true ∨ ∃ ty, w = .arrayClass ty) := fun w h => ⟨h, good_of_word (List.mem_filter.mp h).2⟩
  intro w h
  rcases List.mem_cons.mp h with rfl | h
  · exact key _ hy
  · exact key _ h
/-! the class and array tables, statics -/
def aty (t : Nat) : FieldType := if t = 1 then .int else if t = 2 then .long else if t = 3 then .boolean else if t = 4 then .byte else if t = 5 then .array .int else .array .long
def stA (Γ : KT) : Nat → Prop := fun q => kB Γ ≤ q
def bodiesF (j : Nat) : Int := [10, 11, 12, 0, 20, 0, 30, 0, 0, 0, 0, 40, 50, 51, 0, 0, 0, 60, 71, 70, 0].getD j 0
def aboveF (j : Nat) : Int := [-1, 0, 0, 0, 1, 2, 3].getD j 0

theorem tin_1 : ∀ w ∈ tables_1_1, w ∈ lw_tbl := fun w h => (List.mem_append_right _ (List.mem_append_left _ h) : w ∈ k2_sels lw_privs ++ (tables_1_1 ++ (tables_1_2 ++ (tables_1_3 ++ (tables_1_4 ++ (tables_1_5 ++ (tables_1_6 ++ (tables_1_7))))))))
theorem tin_2 : ∀ w ∈ tables_1_2, w ∈ lw_tbl := fun w h => (List.mem_append_right _ (List.mem_append_right _ (List.mem_append_left _ h)) : w ∈ k2_sels lw_privs ++ (tables_1_1 ++ (tables_1_2 ++ (tables_1_3 ++ (tables_1_4 ++ (tables_1_5 ++ (tables_1_6 ++ (tables_1_7))))))))
theorem tin_3 : ∀ w ∈ tables_1_3, w ∈ lw_tbl := fun w h => (List.mem_append_right _ (List.mem_append_right _ (List.mem_append_right _ (List.mem_append_left _ h))) : w ∈ k2_sels lw_privs ++ (tables_1_1 ++ (tables_1_2 ++ (tables_1_3 ++ (tables_1_4 ++ (tables_1_5 ++ (tables_1_6 ++ (tables_1_7))))))))
theorem tin_4 : ∀ w ∈ tables_1_4, w ∈ lw_tbl := fun w h => (List.mem_append_right _ (List.mem_append_right _ (List.mem_append_right _ (List.mem_append_right _ (List.mem_append_left _ h)))) : w ∈ k2_sels lw_privs ++ (tables_1_1 ++ (tables_1_2 ++ (tables_1_3 ++ (tables_1_4 ++ (tables_1_5 ++ (tables_1_6 ++ (tables_1_7))))))))
theorem tin_5 : ∀ w ∈ tables_1_5, w ∈ lw_tbl := fun w h => (List.mem_append_right _ (List.mem_append_right _ (List.mem_append_right _ (List.mem_append_right _ (List.mem_append_right _ (List.mem_append_left _ h))))) : w ∈ k2_sels lw_privs ++ (tables_1_1 ++ (tables_1_2 ++ (tables_1_3 ++ (tables_1_4 ++ (tables_1_5 ++ (tables_1_6 ++ (tables_1_7))))))))
theorem tin_6 : ∀ w ∈ tables_1_6, w ∈ lw_tbl := fun w h => (List.mem_append_right _ (List.mem_append_right _ (List.mem_append_right _ (List.mem_append_right _ (List.mem_append_right _ (List.mem_append_right _ (List.mem_append_left _ h)))))) : w ∈ k2_sels lw_privs ++ (tables_1_1 ++ (tables_1_2 ++ (tables_1_3 ++ (tables_1_4 ++ (tables_1_5 ++ (tables_1_6 ++ (tables_1_7))))))))
theorem tin_7 : ∀ w ∈ tables_1_7, w ∈ lw_tbl := fun w h => (List.mem_append_right _ (List.mem_append_right _ (List.mem_append_right _ (List.mem_append_right _ (List.mem_append_right _ (List.mem_append_right _ (List.mem_append_right _ (h))))))) : w ∈ k2_sels lw_privs ++ (tables_1_1 ++ (tables_1_2 ++ (tables_1_3 ++ (tables_1_4 ++ (tables_1_5 ++ (tables_1_6 ++ (tables_1_7))))))))
def nestL : List Cond := [(Jvm.Cond.methodLinkNest "AskedIn" (11 : Nat) ({ cls := "AskedIn$Street", name := "<init>", desc := "()V" } : Jvm.MethodName) "AskedIn"), (Jvm.Cond.methodLinkNest "AskedIn" (20 : Nat) ({ cls := "AskedIn$Text", name := "<init>", desc := "()V" } : Jvm.MethodName) "AskedIn"), (Jvm.Cond.methodLinkNest "AskedIn" (27 : Nat) ({ cls := "AskedIn$Acts", name := "<init>", desc := "()V" } : Jvm.MethodName) "AskedIn"), (Jvm.Cond.methodLinkNest "AskedIn" (34 : Nat) ({ cls := "AskedIn$Tapes", name := "<init>", desc := "()V" } : Jvm.MethodName) "AskedIn"), (Jvm.Cond.methodLinkNest "AskedIn" (41 : Nat) ({ cls := "AskedIn$Towns", name := "<init>", desc := "()V" } : Jvm.MethodName) "AskedIn"), (Jvm.Cond.methodLinkNest "AskedIn$Questions" (11 : Nat) ({ cls := "AskedIn$Round", name := "<init>", desc := "()V" } : Jvm.MethodName) "AskedIn"), (Jvm.Cond.fieldLinkNest "AskedIn$Questions" (71 : Nat) "AskedIn$Round" "order" "[I" "AskedIn"), (Jvm.Cond.methodLinkNest "AskedIn$Towns" (32 : Nat) ({ cls := "AskedIn", name := "isUpTo", desc := "(II)Z" } : Jvm.MethodName) "AskedIn"), (Jvm.Cond.methodLinkNest "AskedIn$Night" (44 : Nat) ({ cls := "AskedIn", name := "roundedUp", desc := "(II)I" } : Jvm.MethodName) "AskedIn"), (Jvm.Cond.methodLinkNest "AskedIn$Night" (78 : Nat) ({ cls := "AskedIn", name := "bit", desc := "(II)I" } : Jvm.MethodName) "AskedIn"), (Jvm.Cond.methodLinkNest "AskedIn$Night" (81 : Nat) ({ cls := "AskedIn", name := "withBit", desc := "(IIZ)I" } : Jvm.MethodName) "AskedIn"), (Jvm.Cond.methodLinkNest "AskedIn$Round" (28 : Nat) ({ cls := "AskedIn", name := "bit", desc := "(II)I" } : Jvm.MethodName) "AskedIn"), (Jvm.Cond.methodLinkNest "AskedIn$Questions" (129 : Nat) ({ cls := "AskedIn", name := "roundedUp", desc := "(II)I" } : Jvm.MethodName) "AskedIn"), (Jvm.Cond.methodLinkNest "AskedIn$Questions" (147 : Nat) ({ cls := "AskedIn", name := "withBit", desc := "(IIZ)I" } : Jvm.MethodName) "AskedIn"), (Jvm.Cond.methodLinkNest "AskedIn$Questions" (158 : Nat) ({ cls := "AskedIn", name := "bit", desc := "(II)I" } : Jvm.MethodName) "AskedIn"), (Jvm.Cond.methodLinkNest "AskedIn$Acts" (25 : Nat) ({ cls := "AskedIn", name := "isUpTo", desc := "(II)Z" } : Jvm.MethodName) "AskedIn"), (Jvm.Cond.fieldLinkNest "AskedIn$Acts" (53 : Nat) "AskedIn" "ABOVE" "[I" "AskedIn")]
theorem nestL_in : ∀ w ∈ nestL, w ∈ lw_tbl := List.forall_mem_cons.mpr ⟨tin_1 _ (List.mem_of_getElem? (i := 31) rfl), List.forall_mem_cons.mpr ⟨tin_1 _ (List.mem_of_getElem? (i := 140) rfl), List.forall_mem_cons.mpr ⟨tin_1 _ (List.mem_of_getElem? (i := 173) rfl), List.forall_mem_cons.mpr ⟨tin_1 _ (List.mem_of_getElem? (i := 196) rfl), List.forall_mem_cons.mpr ⟨tin_1 _ (List.mem_of_getElem? (i := 218) rfl), List.forall_mem_cons.mpr ⟨tin_2 _ (List.mem_of_getElem? (i := 22) rfl), List.forall_mem_cons.mpr ⟨tin_2 _ (List.mem_of_getElem? (i := 29) rfl), List.forall_mem_cons.mpr ⟨tin_2 _ (List.mem_of_getElem? (i := 172) rfl), List.forall_mem_cons.mpr ⟨tin_3 _ (List.mem_of_getElem? (i := 154) rfl), List.forall_mem_cons.mpr ⟨tin_3 _ (List.mem_of_getElem? (i := 168) rfl), List.forall_mem_cons.mpr ⟨tin_3 _ (List.mem_of_getElem? (i := 169) rfl), List.forall_mem_cons.mpr ⟨tin_3 _ (List.mem_of_getElem? (i := 226) rfl), List.forall_mem_cons.mpr ⟨tin_4 _ (List.mem_of_getElem? (i := 44) rfl), List.forall_mem_cons.mpr ⟨tin_4 _ (List.mem_of_getElem? (i := 62) rfl), List.forall_mem_cons.mpr ⟨tin_4 _ (List.mem_of_getElem? (i := 76) rfl), List.forall_mem_cons.mpr ⟨tin_4 _ (List.mem_of_getElem? (i := 157) rfl), List.forall_mem_cons.mpr ⟨tin_4 _ (List.mem_of_getElem? (i := 160) rfl), fun _ h => absurd h List.not_mem_nil⟩⟩⟩⟩⟩⟩⟩⟩⟩⟩⟩⟩⟩⟩⟩⟩⟩
def LinkF (own : String) (idx : Nat) (ref n d : String) : Prop := Cond.fieldLink own idx ref n d ∈ tblG ∨ ∃ host, Cond.fieldLinkNest own idx ref n d host ∈ nestL
def LinkM (own : String) (idx : Nat) (y : MethodName) : Prop := Cond.methodLink own idx y ∈ tblG ∨ ∃ host, Cond.methodLinkNest own idx y host ∈ nestL
abbrev MI : Type := MethodName × ByteArray × Nat × Option FieldType
def Cal (M : MI) (n : Nat) : Prop := Cond.initialized M.1.cls ∈ tblG ∧ Cond.code M.1 M.2.1 M.2.2.1 M.2.2.2 ∈ tblG ∧ (M.1.cls ≠ "java/lang/invoke/MethodHandle" ∧ M.1.cls ≠ "java/lang/invoke/VarHandle") ∧ (parseMethodDescriptor M.1.desc).map (fun d => d.parameters.length) = some n
theorem kL_7 : Cond.classLink RL 7 "AskedIn" ∈ tblG := memT (tin_1 _ (List.mem_of_getElem? (i := 21) rfl)) rfl
theorem kL_9 : LinkM RL 9 yX10_init := Or.inl (memT (tin_1 _ (List.mem_of_getElem? (i := 23) rfl)) rfl)
theorem kX10_3 : LinkM RX10 3 ⟨"java/lang/Object", "<init>", "()V"⟩ := Or.inl (memT (tin_1 _ (List.mem_of_getElem? (i := 26) rfl)) rfl)
theorem kX10_9 : Cond.classLink RX10 9 "AskedIn$Street" ∈ tblG := memT (tin_1 _ (List.mem_of_getElem? (i := 29) rfl)) rfl
theorem kX10_11 : LinkM RX10 11 yX5_init := Or.inr ⟨"AskedIn", List.mem_of_getElem? (i := 0) rfl⟩
theorem kX5_3 : LinkM RX5 3 ⟨"java/lang/Object", "<init>", "()V"⟩ := Or.inl (memT (tin_1 _ (List.mem_of_getElem? (i := 34) rfl)) rfl)
theorem kX5_36 : Cond.classLink RX5 36 "AskedIn$Rows" ∈ tblG := memT (tin_1 _ (List.mem_of_getElem? (i := 35) rfl)) rfl
theorem kX5_38 : LinkM RX5 38 yX4_init := Or.inl (memT (tin_1 _ (List.mem_of_getElem? (i := 37) rfl)) rfl)
theorem kX4_3 : LinkM RX4 3 ⟨"java/lang/Object", "<init>", "()V"⟩ := Or.inl (memT (tin_1 _ (List.mem_of_getElem? (i := 40) rfl)) rfl)
theorem kX4_9 : LinkM RX4 9 yJ9_max_7cf53 := Or.inl (memT (tin_1 _ (List.mem_of_getElem? (i := 41) rfl)) rfl)
theorem kX4_15 : LinkF RX4 15 "AskedIn$Rows" "firsts" "[I" := Or.inl (memT (tin_1 _ (List.mem_of_getElem? (i := 44) rfl)) rfl)
theorem kX2_59 : LinkF RX2 59 "AskedIn$Rows" "firsts" "[I" := Or.inl (memT (tin_1 _ (List.mem_of_getElem? (i := 45) rfl)) rfl)
theorem kX4_21 : LinkF RX4 21 "AskedIn$Rows" "seconds" "[I" := Or.inl (memT (tin_1 _ (List.mem_of_getElem? (i := 46) rfl)) rfl)
theorem kX2_144 : LinkF RX2 144 "AskedIn$Rows" "seconds" "[I" := Or.inl (memT (tin_1 _ (List.mem_of_getElem? (i := 47) rfl)) rfl)
theorem kX4_24 : LinkF RX4 24 "AskedIn$Rows" "size" "I" := Or.inl (memT (tin_1 _ (List.mem_of_getElem? (i := 48) rfl)) rfl)
theorem kX2_53 : LinkF RX2 53 "AskedIn$Rows" "size" "I" := Or.inl (memT (tin_1 _ (List.mem_of_getElem? (i := 49) rfl)) rfl)
theorem kX10_288 : LinkF RX10 288 "AskedIn$Rows" "size" "I" := Or.inl (memT (tin_1 _ (List.mem_of_getElem? (i := 50) rfl)) rfl)
theorem kX5_55 : LinkF RX5 55 "AskedIn$Street" "houses" "I" := Or.inl (memT (tin_1 _ (List.mem_of_getElem? (i := 59) rfl)) rfl)
theorem kX2_97 : LinkF RX2 97 "AskedIn$Street" "houses" "I" := Or.inl (memT (tin_1 _ (List.mem_of_getElem? (i := 60) rfl)) rfl)
theorem kX10_185 : LinkF RX10 185 "AskedIn$Street" "houses" "I" := Or.inl (memT (tin_1 _ (List.mem_of_getElem? (i := 61) rfl)) rfl)
theorem kX5_9 : LinkF RX5 9 "AskedIn$Street" "kinds" "[I" := Or.inl (memT (tin_1 _ (List.mem_of_getElem? (i := 62) rfl)) rfl)
theorem kX0_32 : LinkF RX0 32 "AskedIn$Street" "kinds" "[I" := Or.inl (memT (tin_1 _ (List.mem_of_getElem? (i := 63) rfl)) rfl)
theorem kX9_38 : LinkF RX9 38 "AskedIn$Street" "kinds" "[I" := Or.inl (memT (tin_1 _ (List.mem_of_getElem? (i := 64) rfl)) rfl)
theorem kX10_73 : LinkF RX10 73 "AskedIn$Street" "kinds" "[I" := Or.inl (memT (tin_1 _ (List.mem_of_getElem? (i := 65) rfl)) rfl)
theorem kX1_105 : LinkF RX1 105 "AskedIn$Street" "kinds" "[I" := Or.inl (memT (tin_1 _ (List.mem_of_getElem? (i := 66) rfl)) rfl)
theorem kX5_15 : LinkF RX5 15 "AskedIn$Street" "numbers" "[I" := Or.inl (memT (tin_1 _ (List.mem_of_getElem? (i := 67) rfl)) rfl)
theorem kX0_40 : LinkF RX0 40 "AskedIn$Street" "numbers" "[I" := Or.inl (memT (tin_1 _ (List.mem_of_getElem? (i := 68) rfl)) rfl)
theorem kX9_43 : LinkF RX9 43 "AskedIn$Street" "numbers" "[I" := Or.inl (memT (tin_1 _ (List.mem_of_getElem? (i := 69) rfl)) rfl)
theorem kX10_77 : LinkF RX10 77 "AskedIn$Street" "numbers" "[I" := Or.inl (memT (tin_1 _ (List.mem_of_getElem? (i := 70) rfl)) rfl)
theorem kX1_102 : LinkF RX1 102 "AskedIn$Street" "numbers" "[I" := Or.inl (memT (tin_1 _ (List.mem_of_getElem? (i := 71) rfl)) rfl)
theorem kX5_18 : LinkF RX5 18 "AskedIn$Street" "grains" "[I" := Or.inl (memT (tin_1 _ (List.mem_of_getElem? (i := 72) rfl)) rfl)
theorem kX2_63 : LinkF RX2 63 "AskedIn$Street" "grains" "[I" := Or.inl (memT (tin_1 _ (List.mem_of_getElem? (i := 73) rfl)) rfl)
theorem kX10_80 : LinkF RX10 80 "AskedIn$Street" "grains" "[I" := Or.inl (memT (tin_1 _ (List.mem_of_getElem? (i := 74) rfl)) rfl)
theorem kX5_21 : LinkF RX5 21 "AskedIn$Street" "asked" "[I" := Or.inl (memT (tin_1 _ (List.mem_of_getElem? (i := 75) rfl)) rfl)
theorem kX10_83 : LinkF RX10 83 "AskedIn$Street" "asked" "[I" := Or.inl (memT (tin_1 _ (List.mem_of_getElem? (i := 76) rfl)) rfl)
theorem kX1_99 : LinkF RX1 99 "AskedIn$Street" "asked" "[I" := Or.inl (memT (tin_1 _ (List.mem_of_getElem? (i := 77) rfl)) rfl)
theorem kX5_24 : LinkF RX5 24 "AskedIn$Street" "rows" "[I" := Or.inl (memT (tin_1 _ (List.mem_of_getElem? (i := 78) rfl)) rfl)
theorem kX1_118 : LinkF RX1 118 "AskedIn$Street" "rows" "[I" := Or.inl (memT (tin_1 _ (List.mem_of_getElem? (i := 79) rfl)) rfl)
theorem kX10_113 : LinkF RX10 113 "AskedIn$Street" "rows" "[I" := Or.inl (memT (tin_1 _ (List.mem_of_getElem? (i := 80) rfl)) rfl)
theorem kX5_58 : LinkF RX5 58 "AskedIn$Street" "folks" "I" := Or.inl (memT (tin_1 _ (List.mem_of_getElem? (i := 81) rfl)) rfl)
theorem kX2_109 : LinkF RX2 109 "AskedIn$Street" "folks" "I" := Or.inl (memT (tin_1 _ (List.mem_of_getElem? (i := 82) rfl)) rfl)
theorem kX10_245 : LinkF RX10 245 "AskedIn$Street" "folks" "I" := Or.inl (memT (tin_1 _ (List.mem_of_getElem? (i := 83) rfl)) rfl)
theorem kX5_27 : LinkF RX5 27 "AskedIn$Street" "sacks" "[I" := Or.inl (memT (tin_1 _ (List.mem_of_getElem? (i := 84) rfl)) rfl)
theorem kX1_54 : LinkF RX1 54 "AskedIn$Street" "sacks" "[I" := Or.inl (memT (tin_1 _ (List.mem_of_getElem? (i := 85) rfl)) rfl)
theorem kX10_93 : LinkF RX10 93 "AskedIn$Street" "sacks" "[I" := Or.inl (memT (tin_1 _ (List.mem_of_getElem? (i := 86) rfl)) rfl)
theorem kX2_135 : LinkF RX2 135 "AskedIn$Street" "sacks" "[I" := Or.inl (memT (tin_1 _ (List.mem_of_getElem? (i := 87) rfl)) rfl)
theorem kX5_30 : LinkF RX5 30 "AskedIn$Street" "purses" "[I" := Or.inl (memT (tin_1 _ (List.mem_of_getElem? (i := 88) rfl)) rfl)
theorem kX1_60 : LinkF RX1 60 "AskedIn$Street" "purses" "[I" := Or.inl (memT (tin_1 _ (List.mem_of_getElem? (i := 89) rfl)) rfl)
theorem kX9_46 : LinkF RX9 46 "AskedIn$Street" "purses" "[I" := Or.inl (memT (tin_1 _ (List.mem_of_getElem? (i := 90) rfl)) rfl)
theorem kX10_96 : LinkF RX10 96 "AskedIn$Street" "purses" "[I" := Or.inl (memT (tin_1 _ (List.mem_of_getElem? (i := 91) rfl)) rfl)
theorem kX5_33 : LinkF RX5 33 "AskedIn$Street" "quicknesses" "[I" := Or.inl (memT (tin_1 _ (List.mem_of_getElem? (i := 92) rfl)) rfl)
theorem kX1_39 : LinkF RX1 39 "AskedIn$Street" "quicknesses" "[I" := Or.inl (memT (tin_1 _ (List.mem_of_getElem? (i := 93) rfl)) rfl)
theorem kX10_99 : LinkF RX10 99 "AskedIn$Street" "quicknesses" "[I" := Or.inl (memT (tin_1 _ (List.mem_of_getElem? (i := 94) rfl)) rfl)
theorem kX2_123 : LinkF RX2 123 "AskedIn$Street" "quicknesses" "[I" := Or.inl (memT (tin_1 _ (List.mem_of_getElem? (i := 95) rfl)) rfl)
theorem kX5_41 : LinkF RX5 41 "AskedIn$Street" "plan" "LAskedIn$Rows;" := Or.inl (memT (tin_1 _ (List.mem_of_getElem? (i := 96) rfl)) rfl)
theorem kX2_47 : LinkF RX2 47 "AskedIn$Street" "plan" "LAskedIn$Rows;" := Or.inl (memT (tin_1 _ (List.mem_of_getElem? (i := 97) rfl)) rfl)
theorem kX10_168 : LinkF RX10 168 "AskedIn$Street" "plan" "LAskedIn$Rows;" := Or.inl (memT (tin_1 _ (List.mem_of_getElem? (i := 98) rfl)) rfl)
theorem kX5_45 : LinkF RX5 45 "AskedIn$Street" "watched" "LAskedIn$Rows;" := Or.inl (memT (tin_1 _ (List.mem_of_getElem? (i := 99) rfl)) rfl)
theorem kX2_141 : LinkF RX2 141 "AskedIn$Street" "watched" "LAskedIn$Rows;" := Or.inl (memT (tin_1 _ (List.mem_of_getElem? (i := 100) rfl)) rfl)
theorem kX10_222 : LinkF RX10 222 "AskedIn$Street" "watched" "LAskedIn$Rows;" := Or.inl (memT (tin_1 _ (List.mem_of_getElem? (i := 101) rfl)) rfl)
theorem kX5_48 : LinkF RX5 48 "AskedIn$Street" "visits" "LAskedIn$Rows;" := Or.inl (memT (tin_1 _ (List.mem_of_getElem? (i := 102) rfl)) rfl)
theorem kX2_161 : LinkF RX2 161 "AskedIn$Street" "visits" "LAskedIn$Rows;" := Or.inl (memT (tin_1 _ (List.mem_of_getElem? (i := 103) rfl)) rfl)
theorem kX10_251 : LinkF RX10 251 "AskedIn$Street" "visits" "LAskedIn$Rows;" := Or.inl (memT (tin_1 _ (List.mem_of_getElem? (i := 104) rfl)) rfl)
theorem kX5_51 : LinkF RX5 51 "AskedIn$Street" "held" "I" := Or.inl (memT (tin_1 _ (List.mem_of_getElem? (i := 105) rfl)) rfl)
theorem kX9_49 : LinkF RX9 49 "AskedIn$Street" "held" "I" := Or.inl (memT (tin_1 _ (List.mem_of_getElem? (i := 106) rfl)) rfl)
theorem kX1_85 : LinkF RX1 85 "AskedIn$Street" "held" "I" := Or.inl (memT (tin_1 _ (List.mem_of_getElem? (i := 107) rfl)) rfl)
theorem kX10_146 : LinkF RX10 146 "AskedIn$Street" "held" "I" := Or.inl (memT (tin_1 _ (List.mem_of_getElem? (i := 108) rfl)) rfl)
theorem kX10_18 : Cond.classLink RX10 18 "AskedIn$Text" ∈ tblG := memT (tin_1 _ (List.mem_of_getElem? (i := 138) rfl)) rfl
theorem kX10_20 : LinkM RX10 20 yX7_init := Or.inr ⟨"AskedIn", List.mem_of_getElem? (i := 1) rfl⟩
theorem kX7_3 : LinkM RX7 3 ⟨"java/lang/Object", "<init>", "()V"⟩ := Or.inl (memT (tin_1 _ (List.mem_of_getElem? (i := 143) rfl)) rfl)
theorem kX7_9 : LinkF RX7 9 "AskedIn$Text" "signs" "[B" := Or.inl (memT (tin_1 _ (List.mem_of_getElem? (i := 144) rfl)) rfl)
theorem kX7_19 : LinkF RX7 19 "AskedIn$Text" "length" "I" := Or.inl (memT (tin_1 _ (List.mem_of_getElem? (i := 145) rfl)) rfl)
theorem kX10_132 : LinkF RX10 132 "AskedIn$Text" "length" "I" := Or.inl (memT (tin_1 _ (List.mem_of_getElem? (i := 146) rfl)) rfl)
theorem kX7_22 : LinkF RX7 22 "AskedIn$Text" "at" "I" := Or.inl (memT (tin_1 _ (List.mem_of_getElem? (i := 147) rfl)) rfl)
theorem kX7_15 : LinkF RX7 15 "AskedIn$Text" "fault" "I" := Or.inl (memT (tin_1 _ (List.mem_of_getElem? (i := 148) rfl)) rfl)
theorem kX10_135 : LinkF RX10 135 "AskedIn$Text" "fault" "I" := Or.inl (memT (tin_1 _ (List.mem_of_getElem? (i := 149) rfl)) rfl)
theorem kX7_25 : LinkF RX7 25 "AskedIn$Text" "tokens" "[I" := Or.inl (memT (tin_1 _ (List.mem_of_getElem? (i := 150) rfl)) rfl)
theorem kX7_29 : LinkF RX7 29 "AskedIn$Text" "noted" "I" := Or.inl (memT (tin_1 _ (List.mem_of_getElem? (i := 151) rfl)) rfl)
theorem kX10_138 : LinkF RX10 138 "AskedIn$Text" "noted" "I" := Or.inl (memT (tin_1 _ (List.mem_of_getElem? (i := 152) rfl)) rfl)
theorem kX7_32 : LinkF RX7 32 "AskedIn$Text" "dawn" "I" := Or.inl (memT (tin_1 _ (List.mem_of_getElem? (i := 153) rfl)) rfl)
theorem kX10_141 : LinkF RX10 141 "AskedIn$Text" "dawn" "I" := Or.inl (memT (tin_1 _ (List.mem_of_getElem? (i := 154) rfl)) rfl)
theorem kX10_25 : Cond.classLink RX10 25 "AskedIn$Acts" ∈ tblG := memT (tin_1 _ (List.mem_of_getElem? (i := 171) rfl)) rfl
theorem kX10_27 : LinkM RX10 27 yX0_init := Or.inr ⟨"AskedIn", List.mem_of_getElem? (i := 2) rfl⟩
theorem kX0_3 : LinkM RX0 3 ⟨"java/lang/Object", "<init>", "()V"⟩ := Or.inl (memT (tin_1 _ (List.mem_of_getElem? (i := 176) rfl)) rfl)
theorem kX0_11 : LinkF RX0 11 "AskedIn$Acts" "begun" "[I" := Or.inl (memT (tin_1 _ (List.mem_of_getElem? (i := 177) rfl)) rfl)
theorem kX0_15 : LinkF RX0 15 "AskedIn$Acts" "ran" "I" := Or.inl (memT (tin_1 _ (List.mem_of_getElem? (i := 178) rfl)) rfl)
theorem kX10_289 : LinkF RX10 289 "AskedIn$Acts" "ran" "I" := Or.inl (memT (tin_1 _ (List.mem_of_getElem? (i := 179) rfl)) rfl)
theorem kX0_29 : LinkF RX0 29 "AskedIn$Acts" "number" "I" := Or.inl (memT (tin_1 _ (List.mem_of_getElem? (i := 180) rfl)) rfl)
theorem kX0_37 : LinkF RX0 37 "AskedIn$Acts" "kind" "I" := Or.inl (memT (tin_1 _ (List.mem_of_getElem? (i := 181) rfl)) rfl)
theorem kX0_43 : LinkF RX0 43 "AskedIn$Acts" "v" "I" := Or.inl (memT (tin_1 _ (List.mem_of_getElem? (i := 182) rfl)) rfl)
theorem kX10_32 : Cond.classLink RX10 32 "AskedIn$Tapes" ∈ tblG := memT (tin_1 _ (List.mem_of_getElem? (i := 194) rfl)) rfl
theorem kX10_34 : LinkM RX10 34 yX6_init := Or.inr ⟨"AskedIn", List.mem_of_getElem? (i := 3) rfl⟩
theorem kX6_3 : LinkM RX6 3 ⟨"java/lang/Object", "<init>", "()V"⟩ := Or.inl (memT (tin_1 _ (List.mem_of_getElem? (i := 199) rfl)) rfl)
theorem kX6_11 : Cond.classLink RX6 11 "[[J" ∈ tblG := memT (tin_1 _ (List.mem_of_getElem? (i := 200) rfl)) rfl
theorem kX6_13 : LinkF RX6 13 "AskedIn$Tapes" "items" "[[J" := Or.inl (memT (tin_1 _ (List.mem_of_getElem? (i := 202) rfl)) rfl)
theorem kX10_263 : LinkF RX10 263 "AskedIn$Tapes" "items" "[[J" := Or.inl (memT (tin_1 _ (List.mem_of_getElem? (i := 203) rfl)) rfl)
theorem kX6_16 : LinkF RX6 16 "AskedIn$Tapes" "sizes" "[I" := Or.inl (memT (tin_1 _ (List.mem_of_getElem? (i := 204) rfl)) rfl)
theorem kX10_260 : LinkF RX10 260 "AskedIn$Tapes" "sizes" "[I" := Or.inl (memT (tin_1 _ (List.mem_of_getElem? (i := 205) rfl)) rfl)
theorem kX6_20 : LinkF RX6 20 "AskedIn$Tapes" "sorts" "[I" := Or.inl (memT (tin_1 _ (List.mem_of_getElem? (i := 206) rfl)) rfl)
theorem kX10_257 : LinkF RX10 257 "AskedIn$Tapes" "sorts" "[I" := Or.inl (memT (tin_1 _ (List.mem_of_getElem? (i := 207) rfl)) rfl)
theorem kX10_39 : Cond.classLink RX10 39 "AskedIn$Towns" ∈ tblG := memT (tin_1 _ (List.mem_of_getElem? (i := 216) rfl)) rfl
theorem kX10_41 : LinkM RX10 41 yX9_init := Or.inr ⟨"AskedIn", List.mem_of_getElem? (i := 4) rfl⟩
theorem kX9_3 : LinkM RX9 3 ⟨"java/lang/Object", "<init>", "()V"⟩ := Or.inl (memT (tin_1 _ (List.mem_of_getElem? (i := 221) rfl)) rfl)
theorem kX9_9 : Cond.classLink RX9 9 "[[I" ∈ tblG := memT (tin_1 _ (List.mem_of_getElem? (i := 222) rfl)) rfl
theorem kX9_11 : LinkF RX9 11 "AskedIn$Towns" "tokens" "[[I" := Or.inl (memT (tin_1 _ (List.mem_of_getElem? (i := 224) rfl)) rfl)
theorem kX10_124 : LinkF RX10 124 "AskedIn$Towns" "tokens" "[[I" := Or.inl (memT (tin_1 _ (List.mem_of_getElem? (i := 225) rfl)) rfl)
theorem kX9_16 : LinkF RX9 16 "AskedIn$Towns" "lengths" "[I" := Or.inl (memT (tin_1 _ (List.mem_of_getElem? (i := 226) rfl)) rfl)
theorem kX9_20 : LinkF RX9 20 "AskedIn$Towns" "dawns" "[I" := Or.inl (memT (tin_1 _ (List.mem_of_getElem? (i := 227) rfl)) rfl)
theorem kX9_28 : LinkF RX9 28 "AskedIn$Towns" "size" "I" := Or.inl (memT (tin_1 _ (List.mem_of_getElem? (i := 228) rfl)) rfl)
theorem kX10_120 : LinkF RX10 120 "AskedIn$Towns" "size" "I" := Or.inl (memT (tin_1 _ (List.mem_of_getElem? (i := 229) rfl)) rfl)
theorem kX9_25 : LinkF RX9 25 "AskedIn$Towns" "letters" "[I" := Or.inl (memT (tin_1 _ (List.mem_of_getElem? (i := 230) rfl)) rfl)
theorem kX1_36 : LinkF RX1 36 "AskedIn$Towns" "slow" "I" := Or.inl (memT (tin_1 _ (List.mem_of_getElem? (i := 231) rfl)) rfl)
theorem kX9_52 : LinkF RX9 52 "AskedIn$Towns" "slow" "I" := Or.inl (memT (tin_1 _ (List.mem_of_getElem? (i := 232) rfl)) rfl)
theorem kX2_126 : LinkF RX2 126 "AskedIn$Towns" "slow" "I" := Or.inl (memT (tin_1 _ (List.mem_of_getElem? (i := 233) rfl)) rfl)
theorem kX10_309 : LinkF RX10 309 "AskedIn$Towns" "slow" "I" := Or.inl (memT (tin_1 _ (List.mem_of_getElem? (i := 234) rfl)) rfl)
theorem kX1_32 : LinkF RX1 32 "AskedIn$Towns" "far" "I" := Or.inl (memT (tin_1 _ (List.mem_of_getElem? (i := 235) rfl)) rfl)
theorem kX9_55 : LinkF RX9 55 "AskedIn$Towns" "far" "I" := Or.inl (memT (tin_1 _ (List.mem_of_getElem? (i := 236) rfl)) rfl)
theorem kX2_132 : LinkF RX2 132 "AskedIn$Towns" "far" "I" := Or.inl (memT (tin_1 _ (List.mem_of_getElem? (i := 237) rfl)) rfl)
theorem kX10_312 : LinkF RX10 312 "AskedIn$Towns" "far" "I" := Or.inl (memT (tin_1 _ (List.mem_of_getElem? (i := 238) rfl)) rfl)
theorem kX10_49 : Cond.classLink RX10 49 "AskedIn$Questions" ∈ tblG := memT (tin_2 _ (List.mem_of_getElem? (i := 14) rfl)) rfl
theorem kX10_51 : LinkM RX10 51 yX2_init := Or.inl (memT (tin_2 _ (List.mem_of_getElem? (i := 16) rfl)) rfl)
theorem kX2_3 : LinkM RX2 3 ⟨"java/lang/Object", "<init>", "()V"⟩ := Or.inl (memT (tin_2 _ (List.mem_of_getElem? (i := 19) rfl)) rfl)
theorem kX2_9 : Cond.classLink RX2 9 "AskedIn$Round" ∈ tblG := memT (tin_2 _ (List.mem_of_getElem? (i := 20) rfl)) rfl
theorem kX2_11 : LinkM RX2 11 yX3_init := Or.inr ⟨"AskedIn", List.mem_of_getElem? (i := 5) rfl⟩
theorem kX3_3 : LinkM RX3 3 ⟨"java/lang/Object", "<init>", "()V"⟩ := Or.inl (memT (tin_2 _ (List.mem_of_getElem? (i := 25) rfl)) rfl)
theorem kX3_9 : LinkF RX3 9 "AskedIn$Round" "row" "[I" := Or.inl (memT (tin_2 _ (List.mem_of_getElem? (i := 26) rfl)) rfl)
theorem kX10_200 : LinkF RX10 200 "AskedIn$Round" "row" "[I" := Or.inl (memT (tin_2 _ (List.mem_of_getElem? (i := 27) rfl)) rfl)
theorem kX3_15 : LinkF RX3 15 "AskedIn$Round" "order" "[I" := Or.inl (memT (tin_2 _ (List.mem_of_getElem? (i := 28) rfl)) rfl)
theorem kX2_71 : LinkF RX2 71 "AskedIn$Round" "order" "[I" := Or.inr ⟨"AskedIn", List.mem_of_getElem? (i := 6) rfl⟩
theorem kX3_18 : LinkF RX3 18 "AskedIn$Round" "size" "I" := Or.inl (memT (tin_2 _ (List.mem_of_getElem? (i := 30) rfl)) rfl)
theorem kX2_70 : LinkF RX2 70 "AskedIn$Round" "size" "I" := Or.inl (memT (tin_2 _ (List.mem_of_getElem? (i := 31) rfl)) rfl)
theorem kX10_197 : LinkF RX10 197 "AskedIn$Round" "size" "I" := Or.inl (memT (tin_2 _ (List.mem_of_getElem? (i := 32) rfl)) rfl)
theorem kX3_22 : LinkF RX3 22 "AskedIn$Round" "ins" "I" := Or.inl (memT (tin_2 _ (List.mem_of_getElem? (i := 33) rfl)) rfl)
theorem kX10_203 : LinkF RX10 203 "AskedIn$Round" "ins" "I" := Or.inl (memT (tin_2 _ (List.mem_of_getElem? (i := 34) rfl)) rfl)
theorem kX3_25 : LinkF RX3 25 "AskedIn$Round" "minute" "I" := Or.inl (memT (tin_2 _ (List.mem_of_getElem? (i := 35) rfl)) rfl)
theorem kX10_206 : LinkF RX10 206 "AskedIn$Round" "minute" "I" := Or.inl (memT (tin_2 _ (List.mem_of_getElem? (i := 36) rfl)) rfl)
theorem kX2_26 : Cond.classLink RX2 26 "AskedIn$Night" ∈ tblG := memT (tin_2 _ (List.mem_of_getElem? (i := 48) rfl)) rfl
theorem kX2_28 : LinkM RX2 28 yX1_init := Or.inl (memT (tin_2 _ (List.mem_of_getElem? (i := 50) rfl)) rfl)
theorem kX1_3 : LinkM RX1 3 ⟨"java/lang/Object", "<init>", "()V"⟩ := Or.inl (memT (tin_2 _ (List.mem_of_getElem? (i := 53) rfl)) rfl)
theorem kX1_18 : LinkF RX1 18 "AskedIn$Night" "street" "LAskedIn$Street;" := Or.inl (memT (tin_2 _ (List.mem_of_getElem? (i := 54) rfl)) rfl)
theorem kX1_22 : LinkF RX1 22 "AskedIn$Night" "towns" "LAskedIn$Towns;" := Or.inl (memT (tin_2 _ (List.mem_of_getElem? (i := 55) rfl)) rfl)
theorem kX1_9 : LinkF RX1 9 "AskedIn$Night" "fars" "[I" := Or.inl (memT (tin_2 _ (List.mem_of_getElem? (i := 56) rfl)) rfl)
theorem kX1_15 : LinkF RX1 15 "AskedIn$Night" "countings" "[I" := Or.inl (memT (tin_2 _ (List.mem_of_getElem? (i := 57) rfl)) rfl)
theorem kX1_48 : LinkF RX1 48 "AskedIn$Night" "one" "I" := Or.inl (memT (tin_2 _ (List.mem_of_getElem? (i := 58) rfl)) rfl)
theorem kX1_57 : LinkF RX1 57 "AskedIn$Night" "place" "I" := Or.inl (memT (tin_2 _ (List.mem_of_getElem? (i := 59) rfl)) rfl)
theorem kX1_69 : LinkF RX1 69 "AskedIn$Night" "counted" "I" := Or.inl (memT (tin_2 _ (List.mem_of_getElem? (i := 60) rfl)) rfl)
theorem kX1_51 : LinkF RX1 51 "AskedIn$Night" "minute" "I" := Or.inl (memT (tin_2 _ (List.mem_of_getElem? (i := 61) rfl)) rfl)
theorem kX2_83 : LinkF RX2 83 "AskedIn$Night" "minute" "I" := Or.inl (memT (tin_2 _ (List.mem_of_getElem? (i := 62) rfl)) rfl)
theorem kX10_160 : LinkF RX10 160 "AskedIn$Night" "minute" "I" := Or.inl (memT (tin_2 _ (List.mem_of_getElem? (i := 63) rfl)) rfl)
theorem kX1_63 : LinkF RX1 63 "AskedIn$Night" "coins" "I" := Or.inl (memT (tin_2 _ (List.mem_of_getElem? (i := 64) rfl)) rfl)
theorem kX10_165 : LinkF RX10 165 "AskedIn$Night" "coins" "I" := Or.inl (memT (tin_2 _ (List.mem_of_getElem? (i := 65) rfl)) rfl)
theorem kX1_66 : LinkF RX1 66 "AskedIn$Night" "in" "I" := Or.inl (memT (tin_2 _ (List.mem_of_getElem? (i := 66) rfl)) rfl)
theorem kX2_74 : LinkF RX2 74 "AskedIn$Night" "in" "I" := Or.inl (memT (tin_2 _ (List.mem_of_getElem? (i := 67) rfl)) rfl)
theorem kX10_182 : LinkF RX10 182 "AskedIn$Night" "in" "I" := Or.inl (memT (tin_2 _ (List.mem_of_getElem? (i := 68) rfl)) rfl)
theorem kX2_18 : LinkF RX2 18 "AskedIn$Questions" "street" "LAskedIn$Street;" := Or.inl (memT (tin_2 _ (List.mem_of_getElem? (i := 90) rfl)) rfl)
theorem kX2_22 : LinkF RX2 22 "AskedIn$Questions" "towns" "LAskedIn$Towns;" := Or.inl (memT (tin_2 _ (List.mem_of_getElem? (i := 91) rfl)) rfl)
theorem kX2_31 : LinkF RX2 31 "AskedIn$Questions" "night" "LAskedIn$Night;" := Or.inl (memT (tin_2 _ (List.mem_of_getElem? (i := 92) rfl)) rfl)
theorem kX10_156 : LinkF RX10 156 "AskedIn$Questions" "night" "LAskedIn$Night;" := Or.inl (memT (tin_2 _ (List.mem_of_getElem? (i := 93) rfl)) rfl)
theorem kX2_12 : LinkF RX2 12 "AskedIn$Questions" "best" "LAskedIn$Round;" := Or.inl (memT (tin_2 _ (List.mem_of_getElem? (i := 94) rfl)) rfl)
theorem kX10_42 : LinkF RX10 42 "AskedIn" "now" "LAskedIn$Street;" := Or.inl (memT (tin_2 _ (List.mem_of_getElem? (i := 104) rfl)) rfl)
theorem kX10_12 : LinkF RX10 12 "AskedIn" "kept" "LAskedIn$Street;" := Or.inl (memT (tin_2 _ (List.mem_of_getElem? (i := 105) rfl)) rfl)
theorem kX10_271 : LinkF RX10 271 "AskedIn" "hasImage" "Z" := Or.inl (memT (tin_2 _ (List.mem_of_getElem? (i := 106) rfl)) rfl)
theorem kX10_21 : LinkF RX10 21 "AskedIn" "text" "LAskedIn$Text;" := Or.inl (memT (tin_2 _ (List.mem_of_getElem? (i := 107) rfl)) rfl)
theorem kX10_45 : LinkF RX10 45 "AskedIn" "towns" "LAskedIn$Towns;" := Or.inl (memT (tin_2 _ (List.mem_of_getElem? (i := 108) rfl)) rfl)
theorem kX10_54 : LinkF RX10 54 "AskedIn" "questions" "LAskedIn$Questions;" := Or.inl (memT (tin_2 _ (List.mem_of_getElem? (i := 109) rfl)) rfl)
theorem kX10_28 : LinkF RX10 28 "AskedIn" "acts" "LAskedIn$Acts;" := Or.inl (memT (tin_2 _ (List.mem_of_getElem? (i := 110) rfl)) rfl)
theorem kX10_35 : LinkF RX10 35 "AskedIn" "tapes" "LAskedIn$Tapes;" := Or.inl (memT (tin_2 _ (List.mem_of_getElem? (i := 111) rfl)) rfl)
theorem kL_13 : LinkM RL 13 yX10_house := Or.inl (memT (tin_2 _ (List.mem_of_getElem? (i := 129) rfl)) rfl)
theorem kX10_58 : LinkM RX10 58 yX10_isUpTo := Or.inl (memT (tin_2 _ (List.mem_of_getElem? (i := 133) rfl)) rfl)
theorem kX10_62 : LinkM RX10 62 yX5_build := Or.inl (memT (tin_2 _ (List.mem_of_getElem? (i := 136) rfl)) rfl)
theorem kX5_61 : LinkM RX5 61 yX5_settle := Or.inl (memT (tin_2 _ (List.mem_of_getElem? (i := 140) rfl)) rfl)
theorem kL_18 : LinkM RL 18 yX10_folk := Or.inl (memT (tin_2 _ (List.mem_of_getElem? (i := 144) rfl)) rfl)
theorem kX10_66 : LinkM RX10 66 yX5_hasHouse := Or.inl (memT (tin_2 _ (List.mem_of_getElem? (i := 148) rfl)) rfl)
theorem kX10_70 : LinkM RX10 70 yX5_wake := Or.inl (memT (tin_2 _ (List.mem_of_getElem? (i := 152) rfl)) rfl)
theorem kL_22 : LinkM RL 22 yX10_of := Or.inl (memT (tin_2 _ (List.mem_of_getElem? (i := 156) rfl)) rfl)
theorem kX10_86 : LinkM RX10 86 yX10_paceAt := Or.inl (memT (tin_2 _ (List.mem_of_getElem? (i := 160) rfl)) rfl)
theorem kX10_90 : LinkM RX10 90 yX5_hasFolk := Or.inl (memT (tin_2 _ (List.mem_of_getElem? (i := 164) rfl)) rfl)
theorem kX10_305 : LinkM RX10 305 yX9_weigh := Or.inl (memT (tin_2 _ (List.mem_of_getElem? (i := 168) rfl)) rfl)
theorem kX9_32 : LinkM RX9 32 yX10_isUpTo := Or.inr ⟨"AskedIn", List.mem_of_getElem? (i := 7) rfl⟩
theorem kX9_58 : LinkM RX9 58 yX9_holds := Or.inl (memT (tin_2 _ (List.mem_of_getElem? (i := 173) rfl)) rfl)
theorem kL_27 : LinkM RL 27 yX10_who := Or.inl (memT (tin_2 _ (List.mem_of_getElem? (i := 177) rfl)) rfl)
theorem kL_31 : LinkM RL 31 yX10_strew := Or.inl (memT (tin_2 _ (List.mem_of_getElem? (i := 181) rfl)) rfl)
theorem kL_35 : LinkM RL 35 yX10_ask := Or.inl (memT (tin_2 _ (List.mem_of_getElem? (i := 185) rfl)) rfl)
theorem kX10_102 : LinkM RX10 102 yX10_bit := Or.inl (memT (tin_2 _ (List.mem_of_getElem? (i := 189) rfl)) rfl)
theorem kX10_105 : LinkM RX10 105 yX10_withBit := Or.inl (memT (tin_2 _ (List.mem_of_getElem? (i := 192) rfl)) rfl)
theorem kL_40 : LinkM RL 40 yX10_sack := Or.inl (memT (tin_2 _ (List.mem_of_getElem? (i := 195) rfl)) rfl)
theorem kL_44 : LinkM RL 44 yX10_sell := Or.inl (memT (tin_2 _ (List.mem_of_getElem? (i := 199) rfl)) rfl)
theorem kX10_109 : LinkM RX10 109 yX5_settle := Or.inl (memT (tin_2 _ (List.mem_of_getElem? (i := 203) rfl)) rfl)
theorem kL_48 : LinkM RL 48 yX10_row := Or.inl (memT (tin_2 _ (List.mem_of_getElem? (i := 204) rfl)) rfl)
theorem kL_52 : LinkM RL 52 yX10_feed := Or.inl (memT (tin_2 _ (List.mem_of_getElem? (i := 208) rfl)) rfl)
theorem kX10_116 : LinkM RX10 116 yX7_add := Or.inl (memT (tin_2 _ (List.mem_of_getElem? (i := 212) rfl)) rfl)
theorem kL_57 : LinkM RL 57 yX10_town := Or.inl (memT (tin_2 _ (List.mem_of_getElem? (i := 216) rfl)) rfl)
theorem kX10_128 : LinkM RX10 128 yX7_compile := Or.inl (memT (tin_2 _ (List.mem_of_getElem? (i := 220) rfl)) rfl)
theorem kX7_35 : LinkM RX7 35 yX7_clause := Or.inl (memT (tin_2 _ (List.mem_of_getElem? (i := 224) rfl)) rfl)
theorem kX7_38 : LinkM RX7 38 yX7_take := Or.inl (memT (tin_2 _ (List.mem_of_getElem? (i := 228) rfl)) rfl)
theorem kX7_50 : LinkM RX7 50 yX7_word := Or.inl (memT (tin_2 _ (List.mem_of_getElem? (i := 235) rfl)) rfl)
theorem kX7_83 : LinkM RX7 83 yJ0_length_8abf5 := Or.inl (memT (tin_2 _ (List.mem_of_getElem? (i := 239) rfl)) rfl)
theorem kJ0_335 : LinkM RJ0 335 yJ0_coder_7d493 := Or.inl (memT (tin_3 _ (List.mem_of_getElem? (i := 3) rfl)) rfl)
theorem kJ0_38 : LinkF RJ0 38 "java/lang/String" "COMPACT_STRINGS" "Z" := Or.inl (memT (tin_3 _ (List.mem_of_getElem? (i := 7) rfl)) rfl)
theorem kX7_87 : LinkM RX7 87 yJ0_charAt_5068e := Or.inl (memT (tin_3 _ (List.mem_of_getElem? (i := 9) rfl)) rfl)
theorem kJ0_492 : LinkM RJ0 492 yJ0_isLatin1_aae02 := Or.inl (memT (tin_3 _ (List.mem_of_getElem? (i := 13) rfl)) rfl)
theorem kJ0_495 : LinkM RJ0 495 yJ1_charAt_3b067 := Or.inl (memT (tin_3 _ (List.mem_of_getElem? (i := 17) rfl)) rfl)
theorem kJ1_9 : LinkM RJ1 9 yJ0_checkIndex_df160 := Or.inl (memT (tin_3 _ (List.mem_of_getElem? (i := 20) rfl)) rfl)
theorem kJ0_1053 : LinkF RJ0 1053 "jdk/internal/util/Preconditions" "SIOOBE_FORMATTER" "Ljava/util/function/BiFunction;" := Or.inl (memT (tin_3 _ (List.mem_of_getElem? (i := 23) rfl)) rfl)
theorem kJ0_1059 : LinkM RJ0 1059 yJ3_checkIndex_8e157 := Or.inl (memT (tin_3 _ (List.mem_of_getElem? (i := 25) rfl)) rfl)
theorem kJ0_498 : LinkM RJ0 498 yJ2_charAt_3b067 := Or.inl (memT (tin_3 _ (List.mem_of_getElem? (i := 28) rfl)) rfl)
theorem kJ2_67 : LinkM RJ2 67 yJ2_checkIndex_2214a := Or.inl (memT (tin_3 _ (List.mem_of_getElem? (i := 31) rfl)) rfl)
theorem kJ2_48 : LinkM RJ2 48 yJ2_length_9d52b := Or.inl (memT (tin_3 _ (List.mem_of_getElem? (i := 34) rfl)) rfl)
theorem kJ2_414 : LinkM RJ2 414 yJ0_checkIndex_df160 := Or.inl (memT (tin_3 _ (List.mem_of_getElem? (i := 37) rfl)) rfl)
theorem kJ2_71 : LinkM RJ2 71 yJ2_getChar_3b067 := Or.inl (memT (tin_3 _ (List.mem_of_getElem? (i := 38) rfl)) rfl)
theorem kJ2_44 : LinkF RJ2 44 "java/lang/StringUTF16" "$assertionsDisabled" "Z" := Or.inl (memT (tin_3 _ (List.mem_of_getElem? (i := 41) rfl)) rfl)
theorem kJ2_59 : LinkF RJ2 59 "java/lang/StringUTF16" "HI_BYTE_SHIFT" "I" := Or.inl (memT (tin_3 _ (List.mem_of_getElem? (i := 43) rfl)) rfl)
theorem kJ2_63 : LinkF RJ2 63 "java/lang/StringUTF16" "LO_BYTE_SHIFT" "I" := Or.inl (memT (tin_3 _ (List.mem_of_getElem? (i := 45) rfl)) rfl)
theorem kX7_54 : LinkM RX7 54 yX7_number := Or.inl (memT (tin_3 _ (List.mem_of_getElem? (i := 47) rfl)) rfl)
theorem kX7_75 : LinkM RX7 75 yX7_choice := Or.inl (memT (tin_3 _ (List.mem_of_getElem? (i := 52) rfl)) rfl)
theorem kX7_91 : LinkM RX7 91 yJ0_indexOf_0f7a4 := Or.inl (memT (tin_3 _ (List.mem_of_getElem? (i := 56) rfl)) rfl)
theorem kJ0_633 : LinkM RJ0 633 yJ0_indexOf_7cf53 := Or.inl (memT (tin_3 _ (List.mem_of_getElem? (i := 60) rfl)) rfl)
theorem kJ0_505 : LinkM RJ0 505 yJ0_length_8abf5 := Or.inl (memT (tin_3 _ (List.mem_of_getElem? (i := 64) rfl)) rfl)
theorem kJ0_637 : LinkM RJ0 637 yJ1_indexOf_4cfef := Or.inl (memT (tin_3 _ (List.mem_of_getElem? (i := 65) rfl)) rfl)
theorem kJ1_88 : LinkM RJ1 88 yJ1_canEncode_9a6ad := Or.inl (memT (tin_3 _ (List.mem_of_getElem? (i := 68) rfl)) rfl)
theorem kJ1_92 : LinkM RJ1 92 yJ9_max_7cf53 := Or.inl (memT (tin_3 _ (List.mem_of_getElem? (i := 71) rfl)) rfl)
theorem kJ1_38 : LinkM RJ1 38 yJ9_min_7cf53 := Or.inl (memT (tin_3 _ (List.mem_of_getElem? (i := 72) rfl)) rfl)
theorem kJ1_95 : LinkM RJ1 95 yJ1_indexOfChar_4cfef := Or.inl (memT (tin_3 _ (List.mem_of_getElem? (i := 75) rfl)) rfl)
theorem kJ0_640 : LinkM RJ0 640 yJ2_indexOf_4cfef := Or.inl (memT (tin_3 _ (List.mem_of_getElem? (i := 78) rfl)) rfl)
theorem kJ2_224 : LinkM RJ2 224 yJ9_max_7cf53 := Or.inl (memT (tin_3 _ (List.mem_of_getElem? (i := 81) rfl)) rfl)
theorem kJ2_183 : LinkM RJ2 183 yJ9_min_7cf53 := Or.inl (memT (tin_3 _ (List.mem_of_getElem? (i := 82) rfl)) rfl)
theorem kJ2_227 : Cond.constant RJ2 227 (65536) ∈ tblG := memT (tin_3 _ (List.mem_of_getElem? (i := 83) rfl)) rfl
theorem kJ2_228 : LinkM RJ2 228 yJ2_indexOfChar_4cfef := Or.inl (memT (tin_3 _ (List.mem_of_getElem? (i := 84) rfl)) rfl)
theorem kJ2_96 : LinkM RJ2 96 yJ2_checkBoundsBeginEnd_d044e := Or.inl (memT (tin_3 _ (List.mem_of_getElem? (i := 87) rfl)) rfl)
theorem kJ2_241 : LinkM RJ2 241 yJ0_checkBoundsBeginEnd_23922 := Or.inl (memT (tin_3 _ (List.mem_of_getElem? (i := 90) rfl)) rfl)
theorem kJ0_1062 : LinkM RJ0 1062 yJ3_checkFromToIndex_8c36e := Or.inl (memT (tin_3 _ (List.mem_of_getElem? (i := 93) rfl)) rfl)
theorem kJ2_244 : LinkM RJ2 244 yJ2_indexOfCharUnsafe_4cfef := Or.inl (memT (tin_3 _ (List.mem_of_getElem? (i := 96) rfl)) rfl)
theorem kJ2_232 : LinkM RJ2 232 yJ2_indexOfSupplementary_4cfef := Or.inl (memT (tin_3 _ (List.mem_of_getElem? (i := 99) rfl)) rfl)
theorem kJ2_164 : LinkM RJ2 164 yJ11_isValidCodePoint_9a6ad := Or.inl (memT (tin_3 _ (List.mem_of_getElem? (i := 102) rfl)) rfl)
theorem kJ2_157 : LinkM RJ2 157 yJ11_highSurrogate_5068e := Or.inl (memT (tin_3 _ (List.mem_of_getElem? (i := 105) rfl)) rfl)
theorem kJ11_110 : Cond.constant RJ11 110 (55232) ∈ tblG := memT (tin_3 _ (List.mem_of_getElem? (i := 108) rfl)) rfl
theorem kJ2_161 : LinkM RJ2 161 yJ11_lowSurrogate_5068e := Or.inl (memT (tin_3 _ (List.mem_of_getElem? (i := 109) rfl)) rfl)
theorem kJ11_76 : Cond.constant RJ11 76 (56320) ∈ tblG := memT (tin_3 _ (List.mem_of_getElem? (i := 112) rfl)) rfl
theorem kX7_60 : LinkM RX7 60 yX7_either := Or.inl (memT (tin_3 _ (List.mem_of_getElem? (i := 114) rfl)) rfl)
theorem kX7_68 : LinkM RX7 68 yX7_part := Or.inl (memT (tin_3 _ (List.mem_of_getElem? (i := 118) rfl)) rfl)
theorem kX7_64 : LinkM RX7 64 yX7_note := Or.inl (memT (tin_3 _ (List.mem_of_getElem? (i := 122) rfl)) rfl)
theorem kX10_144 : LinkM RX10 144 yX9_add := Or.inl (memT (tin_3 _ (List.mem_of_getElem? (i := 129) rfl)) rfl)
theorem kL_62 : LinkM RL 62 yX10_dawn := Or.inl (memT (tin_3 _ (List.mem_of_getElem? (i := 133) rfl)) rfl)
theorem kX10_149 : LinkM RX10 149 yX9_dawnOf := Or.inl (memT (tin_3 _ (List.mem_of_getElem? (i := 137) rfl)) rfl)
theorem kL_66 : LinkM RL 66 yX10_visit := Or.inl (memT (tin_3 _ (List.mem_of_getElem? (i := 141) rfl)) rfl)
theorem kX10_152 : LinkM RX10 152 yX2_comesIn := Or.inl (memT (tin_3 _ (List.mem_of_getElem? (i := 145) rfl)) rfl)
theorem kX2_35 : LinkM RX2 35 yX1_measure := Or.inl (memT (tin_3 _ (List.mem_of_getElem? (i := 149) rfl)) rfl)
theorem kX1_26 : LinkM RX1 26 yX9_weigh := Or.inl (memT (tin_3 _ (List.mem_of_getElem? (i := 153) rfl)) rfl)
theorem kX1_44 : LinkM RX1 44 yX10_roundedUp := Or.inr ⟨"AskedIn", List.mem_of_getElem? (i := 8) rfl⟩
theorem kX2_39 : LinkM RX2 39 yX1_begin := Or.inl (memT (tin_3 _ (List.mem_of_getElem? (i := 157) rfl)) rfl)
theorem kX2_43 : LinkM RX2 43 yX1_reach := Or.inl (memT (tin_3 _ (List.mem_of_getElem? (i := 161) rfl)) rfl)
theorem kX1_72 : LinkM RX1 72 yJ9_abs_0f7a4 := Or.inl (memT (tin_3 _ (List.mem_of_getElem? (i := 165) rfl)) rfl)
theorem kX1_78 : LinkM RX1 78 yX10_bit := Or.inr ⟨"AskedIn", List.mem_of_getElem? (i := 9) rfl⟩
theorem kX1_81 : LinkM RX1 81 yX10_withBit := Or.inr ⟨"AskedIn", List.mem_of_getElem? (i := 10) rfl⟩
theorem kX1_88 : LinkM RX1 88 yX9_dawnOf := Or.inl (memT (tin_3 _ (List.mem_of_getElem? (i := 170) rfl)) rfl)
theorem kX1_91 : LinkM RX1 91 yX1_isLet := Or.inl (memT (tin_3 _ (List.mem_of_getElem? (i := 171) rfl)) rfl)
theorem kX1_108 : LinkM RX1 108 yX1_isLate := Or.inl (memT (tin_3 _ (List.mem_of_getElem? (i := 175) rfl)) rfl)
theorem kX1_111 : LinkM RX1 111 yX1_isKnown := Or.inl (memT (tin_3 _ (List.mem_of_getElem? (i := 179) rfl)) rfl)
theorem kX1_121 : LinkM RX1 121 yJ6_bitCount_0f7a4 := Or.inl (memT (tin_3 _ (List.mem_of_getElem? (i := 183) rfl)) rfl)
theorem kJ6_265 : Cond.constant RJ6 265 (1431655765) ∈ tblG := memT (tin_3 _ (List.mem_of_getElem? (i := 186) rfl)) rfl
theorem kJ6_266 : Cond.constant RJ6 266 (858993459) ∈ tblG := memT (tin_3 _ (List.mem_of_getElem? (i := 187) rfl)) rfl
theorem kJ6_267 : Cond.constant RJ6 267 (252645135) ∈ tblG := memT (tin_3 _ (List.mem_of_getElem? (i := 188) rfl)) rfl
theorem kX1_115 : LinkM RX1 115 yX1_pays := Or.inl (memT (tin_3 _ (List.mem_of_getElem? (i := 189) rfl)) rfl)
theorem kL_70 : LinkM RL 70 yX10_way := Or.inl (memT (tin_3 _ (List.mem_of_getElem? (i := 193) rfl)) rfl)
theorem kX10_172 : LinkM RX10 172 yX4_empty := Or.inl (memT (tin_3 _ (List.mem_of_getElem? (i := 197) rfl)) rfl)
theorem kX10_178 : LinkM RX10 178 yX4_add := Or.inl (memT (tin_3 _ (List.mem_of_getElem? (i := 201) rfl)) rfl)
theorem kL_74 : LinkM RL 74 yX10_goes := Or.inl (memT (tin_3 _ (List.mem_of_getElem? (i := 205) rfl)) rfl)
theorem kX10_179 : LinkM RX10 179 yX2_followPlan := Or.inl (memT (tin_3 _ (List.mem_of_getElem? (i := 209) rfl)) rfl)
theorem kL_78 : LinkM RL 78 yX10_round := Or.inl (memT (tin_3 _ (List.mem_of_getElem? (i := 213) rfl)) rfl)
theorem kX10_188 : LinkM RX10 188 yJ6_bitCount_0f7a4 := Or.inl (memT (tin_3 _ (List.mem_of_getElem? (i := 217) rfl)) rfl)
theorem kX10_193 : LinkM RX10 193 yX2_bestRound := Or.inl (memT (tin_3 _ (List.mem_of_getElem? (i := 218) rfl)) rfl)
theorem kX2_66 : LinkM RX2 66 yX3_start := Or.inl (memT (tin_3 _ (List.mem_of_getElem? (i := 222) rfl)) rfl)
theorem kX3_28 : LinkM RX3 28 yX10_bit := Or.inr ⟨"AskedIn", List.mem_of_getElem? (i := 11) rfl⟩
theorem kX2_77 : LinkM RX2 77 yJ6_bitCount_0f7a4 := Or.inl (memT (tin_3 _ (List.mem_of_getElem? (i := 227) rfl)) rfl)
theorem kX2_86 : LinkM RX2 86 yX3_weigh := Or.inl (memT (tin_3 _ (List.mem_of_getElem? (i := 228) rfl)) rfl)
theorem kX3_32 : LinkM RX3 32 ⟨"java/lang/System", "arraycopy", "(Ljava/lang/Object;ILjava/lang/Object;II)V"⟩ := Or.inl (memT (tin_3 _ (List.mem_of_getElem? (i := 232) rfl)) rfl)
theorem kX2_89 : LinkM RX2 89 yX3_advance := Or.inl (memT (tin_3 _ (List.mem_of_getElem? (i := 235) rfl)) rfl)
theorem kX3_38 : LinkM RX3 38 yX3_swap := Or.inl (memT (tin_3 _ (List.mem_of_getElem? (i := 239) rfl)) rfl)
theorem kL_82 : LinkM RL 82 yX10_keep := Or.inl (memT (tin_4 _ (List.mem_of_getElem? (i := 3) rfl)) rfl)
theorem kX10_207 : LinkM RX10 207 yX2_leastGrain := Or.inl (memT (tin_4 _ (List.mem_of_getElem? (i := 7) rfl)) rfl)
theorem kX2_93 : LinkM RX2 93 yX2_comesIn := Or.inl (memT (tin_4 _ (List.mem_of_getElem? (i := 11) rfl)) rfl)
theorem kL_86 : LinkM RL 86 yX10_more := Or.inl (memT (tin_4 _ (List.mem_of_getElem? (i := 12) rfl)) rfl)
theorem kX10_210 : LinkM RX10 210 yX2_houseToStrew := Or.inl (memT (tin_4 _ (List.mem_of_getElem? (i := 16) rfl)) rfl)
theorem kX2_100 : LinkM RX2 100 yX2_insAt := Or.inl (memT (tin_4 _ (List.mem_of_getElem? (i := 20) rfl)) rfl)
theorem kX2_104 : LinkM RX2 104 yJ9_min_7cf53 := Or.inl (memT (tin_4 _ (List.mem_of_getElem? (i := 24) rfl)) rfl)
theorem kX10_213 : LinkM RX10 213 yX2_pairsAfter := Or.inl (memT (tin_4 _ (List.mem_of_getElem? (i := 25) rfl)) rfl)
theorem kL_90 : LinkM RL 90 yX10_share := Or.inl (memT (tin_4 _ (List.mem_of_getElem? (i := 29) rfl)) rfl)
theorem kX10_216 : LinkM RX10 216 yX2_doneTogether := Or.inl (memT (tin_4 _ (List.mem_of_getElem? (i := 33) rfl)) rfl)
theorem kX2_112 : LinkM RX2 112 yX2_walk := Or.inl (memT (tin_4 _ (List.mem_of_getElem? (i := 37) rfl)) rfl)
theorem kX2_118 : LinkM RX2 118 yX9_weigh := Or.inl (memT (tin_4 _ (List.mem_of_getElem? (i := 41) rfl)) rfl)
theorem kX2_138 : LinkM RX2 138 yJ9_abs_0f7a4 := Or.inl (memT (tin_4 _ (List.mem_of_getElem? (i := 42) rfl)) rfl)
theorem kX2_115 : LinkM RX2 115 yJ9_max_7cf53 := Or.inl (memT (tin_4 _ (List.mem_of_getElem? (i := 43) rfl)) rfl)
theorem kX2_129 : LinkM RX2 129 yX10_roundedUp := Or.inr ⟨"AskedIn", List.mem_of_getElem? (i := 12) rfl⟩
theorem kX10_219 : LinkM RX10 219 yX1_isLetIn := Or.inl (memT (tin_4 _ (List.mem_of_getElem? (i := 45) rfl)) rfl)
theorem kX1_95 : LinkM RX1 95 yX1_begin := Or.inl (memT (tin_4 _ (List.mem_of_getElem? (i := 49) rfl)) rfl)
theorem kL_95 : LinkM RL 95 yX10_watch := Or.inl (memT (tin_4 _ (List.mem_of_getElem? (i := 50) rfl)) rfl)
theorem kL_100 : LinkM RL 100 yX10_suspects := Or.inl (memT (tin_4 _ (List.mem_of_getElem? (i := 54) rfl)) rfl)
theorem kX10_225 : LinkM RX10 225 yX2_whoBits := Or.inl (memT (tin_4 _ (List.mem_of_getElem? (i := 58) rfl)) rfl)
theorem kX2_147 : LinkM RX2 147 yX10_withBit := Or.inr ⟨"AskedIn", List.mem_of_getElem? (i := 13) rfl⟩
theorem kL_104 : LinkM RL 104 yX10_next := Or.inl (memT (tin_4 _ (List.mem_of_getElem? (i := 63) rfl)) rfl)
theorem kX10_228 : LinkM RX10 228 yX2_houseToWatch := Or.inl (memT (tin_4 _ (List.mem_of_getElem? (i := 67) rfl)) rfl)
theorem kX2_151 : LinkM RX2 151 yX2_whoBits := Or.inl (memT (tin_4 _ (List.mem_of_getElem? (i := 71) rfl)) rfl)
theorem kX2_155 : LinkM RX2 155 yX2_apartAt := Or.inl (memT (tin_4 _ (List.mem_of_getElem? (i := 72) rfl)) rfl)
theorem kX2_158 : LinkM RX2 158 yX10_bit := Or.inr ⟨"AskedIn", List.mem_of_getElem? (i := 14) rfl⟩
theorem kL_108 : LinkM RL 108 yX10_when := Or.inl (memT (tin_4 _ (List.mem_of_getElem? (i := 77) rfl)) rfl)
theorem kX10_231 : LinkM RX10 231 yX2_leastStart := Or.inl (memT (tin_4 _ (List.mem_of_getElem? (i := 81) rfl)) rfl)
theorem kL_112 : LinkM RL 112 yX10_odds := Or.inl (memT (tin_4 _ (List.mem_of_getElem? (i := 85) rfl)) rfl)
theorem kX10_234 : Cond.constantLong RX10 234 (-9223372036854775808) ∈ tblG := memT (tin_4 _ (List.mem_of_getElem? (i := 89) rfl)) rfl
theorem kX10_236 : LinkM RX10 236 yX2_goodStarts := Or.inl (memT (tin_4 _ (List.mem_of_getElem? (i := 90) rfl)) rfl)
theorem kX10_239 : Cond.constantLong RX10 239 (60) ∈ tblG := memT (tin_4 _ (List.mem_of_getElem? (i := 94) rfl)) rfl
theorem kX10_241 : LinkM RX10 241 yX10_sideOfFraction := Or.inl (memT (tin_4 _ (List.mem_of_getElem? (i := 95) rfl)) rfl)
theorem kL_117 : LinkM RL 117 yX10_mean := Or.inl (memT (tin_4 _ (List.mem_of_getElem? (i := 98) rfl)) rfl)
theorem kX10_248 : LinkM RX10 248 yX2_minutesOfAll := Or.inl (memT (tin_4 _ (List.mem_of_getElem? (i := 102) rfl)) rfl)
theorem kL_122 : LinkM RL 122 yX10_book := Or.inl (memT (tin_4 _ (List.mem_of_getElem? (i := 106) rfl)) rfl)
theorem kL_126 : LinkM RL 126 yX10_looked := Or.inl (memT (tin_4 _ (List.mem_of_getElem? (i := 110) rfl)) rfl)
theorem kX10_254 : LinkM RX10 254 yX2_firstKeptOut := Or.inl (memT (tin_4 _ (List.mem_of_getElem? (i := 114) rfl)) rfl)
theorem kL_130 : LinkM RL 130 yX10_judge := Or.inl (memT (tin_4 _ (List.mem_of_getElem? (i := 118) rfl)) rfl)
theorem kL_134 : LinkM RL 134 yX10_image := Or.inl (memT (tin_4 _ (List.mem_of_getElem? (i := 122) rfl)) rfl)
theorem kX10_267 : LinkM RX10 267 yX5_copy := Or.inl (memT (tin_4 _ (List.mem_of_getElem? (i := 126) rfl)) rfl)
theorem kX5_65 : LinkM RX5 65 ⟨"java/lang/System", "arraycopy", "(Ljava/lang/Object;ILjava/lang/Object;II)V"⟩ := Or.inl (memT (tin_4 _ (List.mem_of_getElem? (i := 130) rfl)) rfl)
theorem kX5_71 : LinkM RX5 71 yX4_copy := Or.inl (memT (tin_4 _ (List.mem_of_getElem? (i := 131) rfl)) rfl)
theorem kX4_28 : LinkM RX4 28 yJ9_min_7cf53 := Or.inl (memT (tin_4 _ (List.mem_of_getElem? (i := 135) rfl)) rfl)
theorem kX4_31 : LinkM RX4 31 ⟨"java/lang/System", "arraycopy", "(Ljava/lang/Object;ILjava/lang/Object;II)V"⟩ := Or.inl (memT (tin_4 _ (List.mem_of_getElem? (i := 136) rfl)) rfl)
theorem kL_138 : LinkM RL 138 yX10_undo := Or.inl (memT (tin_4 _ (List.mem_of_getElem? (i := 137) rfl)) rfl)
theorem kL_142 : LinkM RL 142 yX10_act := Or.inl (memT (tin_4 _ (List.mem_of_getElem? (i := 141) rfl)) rfl)
theorem kX10_275 : LinkM RX10 275 yX0_forget := Or.inl (memT (tin_4 _ (List.mem_of_getElem? (i := 145) rfl)) rfl)
theorem kX10_278 : LinkM RX10 278 yX0_start := Or.inl (memT (tin_4 _ (List.mem_of_getElem? (i := 149) rfl)) rfl)
theorem kX0_46 : LinkM RX0 46 yX0_call := Or.inl (memT (tin_4 _ (List.mem_of_getElem? (i := 153) rfl)) rfl)
theorem kX0_25 : LinkM RX0 25 yX10_isUpTo := Or.inr ⟨"AskedIn", List.mem_of_getElem? (i := 15) rfl⟩
theorem kX0_50 : LinkF RX0 50 "AskedIn$Acts" "BODIES" "[I" := Or.inl (memT (tin_4 _ (List.mem_of_getElem? (i := 158) rfl)) rfl)
theorem kX0_53 : LinkF RX0 53 "AskedIn" "ABOVE" "[I" := Or.inr ⟨"AskedIn", List.mem_of_getElem? (i := 16) rfl⟩
theorem kX0_56 : LinkM RX0 56 yX0_run := Or.inl (memT (tin_4 _ (List.mem_of_getElem? (i := 162) rfl)) rfl)
theorem kX0_59 : LinkM RX0 59 yX0_note := Or.inl (memT (tin_4 _ (List.mem_of_getElem? (i := 166) rfl)) rfl)
theorem kL_146 : LinkM RL 146 yX10_trace := Or.inl (memT (tin_4 _ (List.mem_of_getElem? (i := 170) rfl)) rfl)
theorem kX10_282 : LinkM RX10 282 yX0_begun := Or.inl (memT (tin_4 _ (List.mem_of_getElem? (i := 174) rfl)) rfl)
theorem kX0_19 : LinkM RX0 19 yJ9_min_7cf53 := Or.inl (memT (tin_4 _ (List.mem_of_getElem? (i := 178) rfl)) rfl)
theorem kL_150 : LinkM RL 150 yX10_taken := Or.inl (memT (tin_4 _ (List.mem_of_getElem? (i := 179) rfl)) rfl)
theorem kX10_285 : LinkM RX10 285 yX10_isUnder := Or.inl (memT (tin_4 _ (List.mem_of_getElem? (i := 183) rfl)) rfl)
theorem kX10_315 : LinkF RX10 315 "AskedIn" "ABOVE" "[I" := Or.inl (memT (tin_4 _ (List.mem_of_getElem? (i := 186) rfl)) rfl)
theorem kL_154 : LinkM RL 154 yX10_count := Or.inl (memT (tin_4 _ (List.mem_of_getElem? (i := 187) rfl)) rfl)
theorem kL_158 : LinkM RL 158 yX10_tape := Or.inl (memT (tin_4 _ (List.mem_of_getElem? (i := 191) rfl)) rfl)
theorem kX10_292 : LinkM RX10 292 yX6_become := Or.inl (memT (tin_4 _ (List.mem_of_getElem? (i := 195) rfl)) rfl)
theorem kX6_23 : LinkM RX6 23 yJ7_fill_d0a16 := Or.inl (memT (tin_4 _ (List.mem_of_getElem? (i := 199) rfl)) rfl)
theorem kL_164 : LinkM RL 164 yX10_item := Or.inl (memT (tin_4 _ (List.mem_of_getElem? (i := 202) rfl)) rfl)
theorem kX10_295 : LinkM RX10 295 yX6_cut := Or.inl (memT (tin_4 _ (List.mem_of_getElem? (i := 206) rfl)) rfl)
theorem kL_169 : LinkM RL 169 yX10_read := Or.inl (memT (tin_4 _ (List.mem_of_getElem? (i := 209) rfl)) rfl)
theorem kL_173 : LinkM RL 173 yX10_shift := Or.inl (memT (tin_4 _ (List.mem_of_getElem? (i := 213) rfl)) rfl)
theorem kX10_299 : LinkM RX10 299 ⟨"java/lang/System", "arraycopy", "(Ljava/lang/Object;ILjava/lang/Object;II)V"⟩ := Or.inl (memT (tin_4 _ (List.mem_of_getElem? (i := 217) rfl)) rfl)
theorem kL_10 : Cond.classLink RL 10 "AskedInModel" ∈ tblG := memT (tin_4 _ (List.mem_of_getElem? (i := 218) rfl)) rfl
theorem kL_12 : LinkM RL 12 yX11_init := Or.inl (memT (tin_4 _ (List.mem_of_getElem? (i := 220) rfl)) rfl)
theorem kX11_1 : LinkM RX11 1 ⟨"java/lang/Object", "<init>", "()V"⟩ := Or.inl (memT (tin_4 _ (List.mem_of_getElem? (i := 223) rfl)) rfl)
theorem kX11_7 : LinkF RX11 7 "AskedInModel" "houses" "I" := Or.inl (memT (tin_4 _ (List.mem_of_getElem? (i := 224) rfl)) rfl)
theorem kX11_13 : LinkF RX11 13 "AskedInModel" "folks" "I" := Or.inl (memT (tin_4 _ (List.mem_of_getElem? (i := 225) rfl)) rfl)
theorem kX11_16 : LinkF RX11 16 "AskedInModel" "kind" "[I" := Or.inl (memT (tin_4 _ (List.mem_of_getElem? (i := 226) rfl)) rfl)
theorem kX11_20 : LinkF RX11 20 "AskedInModel" "v" "[I" := Or.inl (memT (tin_4 _ (List.mem_of_getElem? (i := 227) rfl)) rfl)
theorem kX11_23 : LinkF RX11 23 "AskedInModel" "grain" "[I" := Or.inl (memT (tin_4 _ (List.mem_of_getElem? (i := 228) rfl)) rfl)
theorem kX11_26 : LinkF RX11 26 "AskedInModel" "asked" "[I" := Or.inl (memT (tin_4 _ (List.mem_of_getElem? (i := 229) rfl)) rfl)
theorem kX11_29 : LinkF RX11 29 "AskedInModel" "rows" "[I" := Or.inl (memT (tin_4 _ (List.mem_of_getElem? (i := 230) rfl)) rfl)
theorem kX11_32 : LinkF RX11 32 "AskedInModel" "sack" "[I" := Or.inl (memT (tin_4 _ (List.mem_of_getElem? (i := 231) rfl)) rfl)
theorem kX11_35 : LinkF RX11 35 "AskedInModel" "coins" "[I" := Or.inl (memT (tin_4 _ (List.mem_of_getElem? (i := 232) rfl)) rfl)
theorem kX11_38 : LinkF RX11 38 "AskedInModel" "quick" "[I" := Or.inl (memT (tin_4 _ (List.mem_of_getElem? (i := 233) rfl)) rfl)
theorem kX11_41 : LinkF RX11 41 "AskedInModel" "towns" "I" := Or.inl (memT (tin_4 _ (List.mem_of_getElem? (i := 234) rfl)) rfl)
theorem kX11_44 : LinkF RX11 44 "AskedInModel" "the" "I" := Or.inl (memT (tin_4 _ (List.mem_of_getElem? (i := 235) rfl)) rfl)
theorem kX11_47 : LinkF RX11 47 "AskedInModel" "fed" "I" := Or.inl (memT (tin_4 _ (List.mem_of_getElem? (i := 236) rfl)) rfl)
theorem kX11_50 : LinkF RX11 50 "AskedInModel" "at" "I" := Or.inl (memT (tin_4 _ (List.mem_of_getElem? (i := 237) rfl)) rfl)
theorem kX11_53 : LinkF RX11 53 "AskedInModel" "digits" "I" := Or.inl (memT (tin_4 _ (List.mem_of_getElem? (i := 238) rfl)) rfl)
theorem kX11_56 : LinkF RX11 56 "AskedInModel" "text" "[I" := Or.inl (memT (tin_4 _ (List.mem_of_getElem? (i := 239) rfl)) rfl)
theorem kX11_59 : LinkF RX11 59 "AskedInModel" "clauses" "[I" := Or.inl (memT (tin_5 _ (List.mem_of_getElem? (i := 0) rfl)) rfl)
theorem kX11_62 : LinkF RX11 62 "AskedInModel" "word" "[I" := Or.inl (memT (tin_5 _ (List.mem_of_getElem? (i := 1) rfl)) rfl)
theorem kX11_65 : LinkF RX11 65 "AskedInModel" "number" "[I" := Or.inl (memT (tin_5 _ (List.mem_of_getElem? (i := 2) rfl)) rfl)
theorem kX11_68 : LinkF RX11 68 "AskedInModel" "from" "[I" := Or.inl (memT (tin_5 _ (List.mem_of_getElem? (i := 3) rfl)) rfl)
theorem kX11_71 : LinkF RX11 71 "AskedInModel" "to" "[I" := Or.inl (memT (tin_5 _ (List.mem_of_getElem? (i := 4) rfl)) rfl)
theorem kX11_74 : LinkF RX11 74 "AskedInModel" "sign" "[I" := Or.inl (memT (tin_5 _ (List.mem_of_getElem? (i := 5) rfl)) rfl)
theorem kX11_77 : LinkF RX11 77 "AskedInModel" "waits" "[I" := Or.inl (memT (tin_5 _ (List.mem_of_getElem? (i := 6) rfl)) rfl)
theorem kX11_80 : LinkF RX11 80 "AskedInModel" "signs" "I" := Or.inl (memT (tin_5 _ (List.mem_of_getElem? (i := 7) rfl)) rfl)
theorem kX11_83 : LinkF RX11 83 "AskedInModel" "waiting" "I" := Or.inl (memT (tin_5 _ (List.mem_of_getElem? (i := 8) rfl)) rfl)
theorem kX11_86 : LinkF RX11 86 "AskedInModel" "open" "I" := Or.inl (memT (tin_5 _ (List.mem_of_getElem? (i := 9) rfl)) rfl)
theorem kX11_89 : LinkF RX11 89 "AskedInModel" "letters" "[I" := Or.inl (memT (tin_5 _ (List.mem_of_getElem? (i := 10) rfl)) rfl)
theorem kX11_92 : LinkF RX11 92 "AskedInModel" "pile" "[Z" := Or.inl (memT (tin_5 _ (List.mem_of_getElem? (i := 11) rfl)) rfl)
theorem kX11_96 : LinkF RX11 96 "AskedInModel" "whose" "I" := Or.inl (memT (tin_5 _ (List.mem_of_getElem? (i := 12) rfl)) rfl)
theorem kX11_99 : LinkF RX11 99 "AskedInModel" "minute" "I" := Or.inl (memT (tin_5 _ (List.mem_of_getElem? (i := 13) rfl)) rfl)
theorem kX11_102 : LinkF RX11 102 "AskedInModel" "stands" "I" := Or.inl (memT (tin_5 _ (List.mem_of_getElem? (i := 14) rfl)) rfl)
theorem kX11_105 : LinkF RX11 105 "AskedInModel" "purse" "I" := Or.inl (memT (tin_5 _ (List.mem_of_getElem? (i := 15) rfl)) rfl)
theorem kX11_108 : LinkF RX11 108 "AskedInModel" "been" "I" := Or.inl (memT (tin_5 _ (List.mem_of_getElem? (i := 16) rfl)) rfl)
theorem kX11_111 : LinkF RX11 111 "AskedInModel" "inside" "I" := Or.inl (memT (tin_5 _ (List.mem_of_getElem? (i := 17) rfl)) rfl)
theorem kX11_114 : LinkF RX11 114 "AskedInModel" "ways" "I" := Or.inl (memT (tin_5 _ (List.mem_of_getElem? (i := 18) rfl)) rfl)
theorem kX11_117 : LinkF RX11 117 "AskedInModel" "way" "[I" := Or.inl (memT (tin_5 _ (List.mem_of_getElem? (i := 19) rfl)) rfl)
theorem kX11_120 : LinkF RX11 120 "AskedInModel" "order" "[I" := Or.inl (memT (tin_5 _ (List.mem_of_getElem? (i := 20) rfl)) rfl)
theorem kX11_123 : LinkF RX11 123 "AskedInModel" "bestOrder" "[I" := Or.inl (memT (tin_5 _ (List.mem_of_getElem? (i := 21) rfl)) rfl)
theorem kX11_126 : LinkF RX11 126 "AskedInModel" "watched" "I" := Or.inl (memT (tin_5 _ (List.mem_of_getElem? (i := 22) rfl)) rfl)
theorem kX11_129 : LinkF RX11 129 "AskedInModel" "watchHouse" "[I" := Or.inl (memT (tin_5 _ (List.mem_of_getElem? (i := 23) rfl)) rfl)
theorem kX11_132 : LinkF RX11 132 "AskedInModel" "watchIn" "[Z" := Or.inl (memT (tin_5 _ (List.mem_of_getElem? (i := 24) rfl)) rfl)
theorem kX11_135 : LinkF RX11 135 "AskedInModel" "books" "I" := Or.inl (memT (tin_5 _ (List.mem_of_getElem? (i := 25) rfl)) rfl)
theorem kX11_138 : LinkF RX11 138 "AskedInModel" "bookFolk" "[I" := Or.inl (memT (tin_5 _ (List.mem_of_getElem? (i := 26) rfl)) rfl)
theorem kX11_141 : LinkF RX11 141 "AskedInModel" "bookHouse" "[I" := Or.inl (memT (tin_5 _ (List.mem_of_getElem? (i := 27) rfl)) rfl)
theorem kX11_144 : LinkF RX11 144 "AskedInModel" "hasImage" "Z" := Or.inl (memT (tin_5 _ (List.mem_of_getElem? (i := 28) rfl)) rfl)
theorem kX11_148 : LinkF RX11 148 "AskedInModel" "imageThe" "I" := Or.inl (memT (tin_5 _ (List.mem_of_getElem? (i := 29) rfl)) rfl)
theorem kX11_151 : LinkF RX11 151 "AskedInModel" "imageHouses" "I" := Or.inl (memT (tin_5 _ (List.mem_of_getElem? (i := 30) rfl)) rfl)
theorem kX11_154 : LinkF RX11 154 "AskedInModel" "imageFolks" "I" := Or.inl (memT (tin_5 _ (List.mem_of_getElem? (i := 31) rfl)) rfl)
theorem kX11_157 : LinkF RX11 157 "AskedInModel" "imageWays" "I" := Or.inl (memT (tin_5 _ (List.mem_of_getElem? (i := 32) rfl)) rfl)
theorem kX11_160 : LinkF RX11 160 "AskedInModel" "imageWatched" "I" := Or.inl (memT (tin_5 _ (List.mem_of_getElem? (i := 33) rfl)) rfl)
theorem kX11_163 : LinkF RX11 163 "AskedInModel" "imageBooks" "I" := Or.inl (memT (tin_5 _ (List.mem_of_getElem? (i := 34) rfl)) rfl)
theorem kX11_166 : LinkF RX11 166 "AskedInModel" "imageKind" "[I" := Or.inl (memT (tin_5 _ (List.mem_of_getElem? (i := 35) rfl)) rfl)
theorem kX11_169 : LinkF RX11 169 "AskedInModel" "imageV" "[I" := Or.inl (memT (tin_5 _ (List.mem_of_getElem? (i := 36) rfl)) rfl)
theorem kX11_172 : LinkF RX11 172 "AskedInModel" "imageGrain" "[I" := Or.inl (memT (tin_5 _ (List.mem_of_getElem? (i := 37) rfl)) rfl)
theorem kX11_175 : LinkF RX11 175 "AskedInModel" "imageAsked" "[I" := Or.inl (memT (tin_5 _ (List.mem_of_getElem? (i := 38) rfl)) rfl)
theorem kX11_178 : LinkF RX11 178 "AskedInModel" "imageRows" "[I" := Or.inl (memT (tin_5 _ (List.mem_of_getElem? (i := 39) rfl)) rfl)
theorem kX11_181 : LinkF RX11 181 "AskedInModel" "imageSack" "[I" := Or.inl (memT (tin_5 _ (List.mem_of_getElem? (i := 40) rfl)) rfl)
theorem kX11_184 : LinkF RX11 184 "AskedInModel" "imageCoins" "[I" := Or.inl (memT (tin_5 _ (List.mem_of_getElem? (i := 41) rfl)) rfl)
theorem kX11_187 : LinkF RX11 187 "AskedInModel" "imageQuick" "[I" := Or.inl (memT (tin_5 _ (List.mem_of_getElem? (i := 42) rfl)) rfl)
theorem kX11_190 : LinkF RX11 190 "AskedInModel" "imageWay" "[I" := Or.inl (memT (tin_5 _ (List.mem_of_getElem? (i := 43) rfl)) rfl)
theorem kX11_193 : LinkF RX11 193 "AskedInModel" "imageWatch" "[I" := Or.inl (memT (tin_5 _ (List.mem_of_getElem? (i := 44) rfl)) rfl)
theorem kX11_196 : LinkF RX11 196 "AskedInModel" "imageFolk" "[I" := Or.inl (memT (tin_5 _ (List.mem_of_getElem? (i := 45) rfl)) rfl)
theorem kX11_199 : LinkF RX11 199 "AskedInModel" "imageHouse" "[I" := Or.inl (memT (tin_5 _ (List.mem_of_getElem? (i := 46) rfl)) rfl)
theorem kX11_202 : LinkF RX11 202 "AskedInModel" "imageIn" "[Z" := Or.inl (memT (tin_5 _ (List.mem_of_getElem? (i := 47) rfl)) rfl)
theorem kX11_205 : LinkF RX11 205 "AskedInModel" "ran" "I" := Or.inl (memT (tin_5 _ (List.mem_of_getElem? (i := 48) rfl)) rfl)
theorem kX11_208 : LinkF RX11 208 "AskedInModel" "bodies" "[I" := Or.inl (memT (tin_5 _ (List.mem_of_getElem? (i := 49) rfl)) rfl)
theorem kX11_211 : LinkF RX11 211 "AskedInModel" "sort" "[I" := Or.inl (memT (tin_5 _ (List.mem_of_getElem? (i := 50) rfl)) rfl)
theorem kX11_214 : LinkF RX11 214 "AskedInModel" "length" "[I" := Or.inl (memT (tin_5 _ (List.mem_of_getElem? (i := 51) rfl)) rfl)
theorem kX11_217 : LinkF RX11 217 "AskedInModel" "item" "[J" := Or.inl (memT (tin_5 _ (List.mem_of_getElem? (i := 52) rfl)) rfl)
theorem kX11_221 : LinkF RX11 221 "AskedInModel" "aside" "[J" := Or.inl (memT (tin_5 _ (List.mem_of_getElem? (i := 53) rfl)) rfl)
theorem kL_17 : LinkM RL 17 yX11_house := Or.inl (memT (tin_5 _ (List.mem_of_getElem? (i := 196) rfl)) rfl)
theorem kX11_224 : LinkM RX11 224 yX11_in := Or.inl (memT (tin_5 _ (List.mem_of_getElem? (i := 200) rfl)) rfl)
theorem kX11_228 : LinkM RX11 228 yX11_becomes := Or.inl (memT (tin_5 _ (List.mem_of_getElem? (i := 204) rfl)) rfl)
theorem kL_21 : LinkM RL 21 yX11_folk := Or.inl (memT (tin_5 _ (List.mem_of_getElem? (i := 208) rfl)) rfl)
theorem kX11_232 : LinkM RX11 232 yX11_isHouse := Or.inl (memT (tin_5 _ (List.mem_of_getElem? (i := 212) rfl)) rfl)
theorem kL_30 : LinkM RL 30 yX11_who := Or.inl (memT (tin_5 _ (List.mem_of_getElem? (i := 216) rfl)) rfl)
theorem kX11_236 : LinkM RX11 236 yX11_isFolk := Or.inl (memT (tin_5 _ (List.mem_of_getElem? (i := 220) rfl)) rfl)
theorem kL_34 : LinkM RL 34 yX11_strew := Or.inl (memT (tin_5 _ (List.mem_of_getElem? (i := 224) rfl)) rfl)
theorem kL_39 : LinkM RL 39 yX11_ask := Or.inl (memT (tin_5 _ (List.mem_of_getElem? (i := 228) rfl)) rfl)
theorem kL_43 : LinkM RL 43 yX11_sack := Or.inl (memT (tin_5 _ (List.mem_of_getElem? (i := 232) rfl)) rfl)
theorem kL_47 : LinkM RL 47 yX11_sell := Or.inl (memT (tin_5 _ (List.mem_of_getElem? (i := 236) rfl)) rfl)
theorem kL_51 : LinkM RL 51 yX11_row := Or.inl (memT (tin_6 _ (List.mem_of_getElem? (i := 0) rfl)) rfl)
theorem kL_56 : LinkM RL 56 yX11_feed := Or.inl (memT (tin_6 _ (List.mem_of_getElem? (i := 4) rfl)) rfl)
theorem kL_61 : LinkM RL 61 yX11_town := Or.inl (memT (tin_6 _ (List.mem_of_getElem? (i := 8) rfl)) rfl)
theorem kX11_283 : LinkM RX11 283 yX11_goesText := Or.inl (memT (tin_6 _ (List.mem_of_getElem? (i := 12) rfl)) rfl)
theorem kX11_280 : LinkM RX11 280 yX11_takesClause := Or.inl (memT (tin_6 _ (List.mem_of_getElem? (i := 16) rfl)) rfl)
theorem kX11_274 : LinkM RX11 274 yX11_takesHead := Or.inl (memT (tin_6 _ (List.mem_of_getElem? (i := 20) rfl)) rfl)
theorem kX11_239 : LinkM RX11 239 yX11_peek := Or.inl (memT (tin_6 _ (List.mem_of_getElem? (i := 24) rfl)) rfl)
theorem kX11_270 : LinkM RX11 270 yX11_takesWord := Or.inl (memT (tin_6 _ (List.mem_of_getElem? (i := 28) rfl)) rfl)
theorem kX11_243 : LinkM RX11 243 yX11_takes := Or.inl (memT (tin_6 _ (List.mem_of_getElem? (i := 32) rfl)) rfl)
theorem kX11_258 : LinkM RX11 258 yX11_takesNumber := Or.inl (memT (tin_6 _ (List.mem_of_getElem? (i := 36) rfl)) rfl)
theorem kX11_246 : LinkM RX11 246 yX11_isDigit := Or.inl (memT (tin_6 _ (List.mem_of_getElem? (i := 40) rfl)) rfl)
theorem kX11_277 : LinkM RX11 277 yX11_takesE := Or.inl (memT (tin_6 _ (List.mem_of_getElem? (i := 44) rfl)) rfl)
theorem kX11_264 : LinkM RX11 264 yX11_takesTest := Or.inl (memT (tin_6 _ (List.mem_of_getElem? (i := 48) rfl)) rfl)
theorem kX11_254 : LinkM RX11 254 yX11_place := Or.inl (memT (tin_6 _ (List.mem_of_getElem? (i := 52) rfl)) rfl)
theorem kX11_250 : LinkM RX11 250 yX11_emits := Or.inl (memT (tin_6 _ (List.mem_of_getElem? (i := 56) rfl)) rfl)
theorem kX11_261 : LinkM RX11 261 yX11_whole := Or.inl (memT (tin_6 _ (List.mem_of_getElem? (i := 60) rfl)) rfl)
theorem kX11_267 : LinkM RX11 267 yX11_settle := Or.inl (memT (tin_6 _ (List.mem_of_getElem? (i := 64) rfl)) rfl)
theorem kL_65 : LinkM RL 65 yX11_dawn := Or.inl (memT (tin_6 _ (List.mem_of_getElem? (i := 68) rfl)) rfl)
theorem kX11_286 : LinkM RX11 286 yX11_begin := Or.inl (memT (tin_6 _ (List.mem_of_getElem? (i := 72) rfl)) rfl)
theorem kX11_289 : LinkM RX11 289 yX11_behind := Or.inl (memT (tin_6 _ (List.mem_of_getElem? (i := 76) rfl)) rfl)
theorem kL_26 : LinkM RL 26 yX11_of := Or.inl (memT (tin_6 _ (List.mem_of_getElem? (i := 80) rfl)) rfl)
theorem kX11_304 : LinkM RX11 304 yX11_slowOf := Or.inl (memT (tin_6 _ (List.mem_of_getElem? (i := 84) rfl)) rfl)
theorem kX11_300 : LinkM RX11 300 yX11_sumOf := Or.inl (memT (tin_6 _ (List.mem_of_getElem? (i := 88) rfl)) rfl)
theorem kX11_296 : LinkM RX11 296 yX11_holds := Or.inl (memT (tin_6 _ (List.mem_of_getElem? (i := 92) rfl)) rfl)
theorem kX11_292 : LinkM RX11 292 yX11_factOf := Or.inl (memT (tin_6 _ (List.mem_of_getElem? (i := 96) rfl)) rfl)
theorem kX11_308 : LinkM RX11 308 yX11_farOf := Or.inl (memT (tin_6 _ (List.mem_of_getElem? (i := 100) rfl)) rfl)
theorem kL_69 : LinkM RL 69 yX11_visit := Or.inl (memT (tin_6 _ (List.mem_of_getElem? (i := 104) rfl)) rfl)
theorem kX11_343 : LinkM RX11 343 yX11_comesIn := Or.inl (memT (tin_6 _ (List.mem_of_getElem? (i := 108) rfl)) rfl)
theorem kX11_336 : LinkM RX11 336 yX11_beginNight := Or.inl (memT (tin_6 _ (List.mem_of_getElem? (i := 112) rfl)) rfl)
theorem kX11_340 : LinkM RX11 340 yX11_visits := Or.inl (memT (tin_6 _ (List.mem_of_getElem? (i := 116) rfl)) rfl)
theorem kX11_323 : LinkM RX11 323 yX11_apart := Or.inl (memT (tin_6 _ (List.mem_of_getElem? (i := 120) rfl)) rfl)
theorem kX11_314 : LinkM RX11 314 yX11_has := Or.inl (memT (tin_6 _ (List.mem_of_getElem? (i := 124) rfl)) rfl)
theorem kX11_327 : LinkM RX11 327 yX11_upBy := Or.inl (memT (tin_6 _ (List.mem_of_getElem? (i := 128) rfl)) rfl)
theorem kX11_330 : LinkM RX11 330 yX11_dawn := Or.inl (memT (tin_6 _ (List.mem_of_getElem? (i := 132) rfl)) rfl)
theorem kX11_333 : LinkM RX11 333 yX11_letsIn := Or.inl (memT (tin_6 _ (List.mem_of_getElem? (i := 133) rfl)) rfl)
theorem kX11_317 : LinkM RX11 317 yX11_isProudly := Or.inl (memT (tin_6 _ (List.mem_of_getElem? (i := 137) rfl)) rfl)
theorem kX11_311 : LinkM RX11 311 yX11_ones := Or.inl (memT (tin_6 _ (List.mem_of_getElem? (i := 141) rfl)) rfl)
theorem kX11_320 : LinkM RX11 320 yX11_pays := Or.inl (memT (tin_6 _ (List.mem_of_getElem? (i := 145) rfl)) rfl)
theorem kL_73 : LinkM RL 73 yX11_way := Or.inl (memT (tin_6 _ (List.mem_of_getElem? (i := 149) rfl)) rfl)
theorem kL_77 : LinkM RL 77 yX11_goes := Or.inl (memT (tin_6 _ (List.mem_of_getElem? (i := 153) rfl)) rfl)
theorem kL_81 : LinkM RL 81 yX11_round := Or.inl (memT (tin_6 _ (List.mem_of_getElem? (i := 157) rfl)) rfl)
theorem kX11_346 : LinkM RX11 346 yX11_layOrder := Or.inl (memT (tin_6 _ (List.mem_of_getElem? (i := 161) rfl)) rfl)
theorem kL_85 : LinkM RL 85 yX11_keep := Or.inl (memT (tin_6 _ (List.mem_of_getElem? (i := 165) rfl)) rfl)
theorem kL_89 : LinkM RL 89 yX11_more := Or.inl (memT (tin_6 _ (List.mem_of_getElem? (i := 169) rfl)) rfl)
theorem kX11_349 : LinkM RX11 349 yX11_pairsIn := Or.inl (memT (tin_6 _ (List.mem_of_getElem? (i := 173) rfl)) rfl)
theorem kL_94 : LinkM RL 94 yX11_share := Or.inl (memT (tin_6 _ (List.mem_of_getElem? (i := 177) rfl)) rfl)
theorem kX11_352 : LinkM RX11 352 yX11_walksTo := Or.inl (memT (tin_6 _ (List.mem_of_getElem? (i := 181) rfl)) rfl)
theorem kX11_355 : LinkM RX11 355 yX11_isLetIn := Or.inl (memT (tin_6 _ (List.mem_of_getElem? (i := 185) rfl)) rfl)
theorem kL_99 : LinkM RL 99 yX11_watch := Or.inl (memT (tin_6 _ (List.mem_of_getElem? (i := 189) rfl)) rfl)
theorem kL_103 : LinkM RL 103 yX11_suspects := Or.inl (memT (tin_6 _ (List.mem_of_getElem? (i := 193) rfl)) rfl)
theorem kL_107 : LinkM RL 107 yX11_next := Or.inl (memT (tin_6 _ (List.mem_of_getElem? (i := 197) rfl)) rfl)
theorem kX11_358 : LinkM RX11 358 yX11_suspects := Or.inl (memT (tin_6 _ (List.mem_of_getElem? (i := 201) rfl)) rfl)
theorem kL_111 : LinkM RL 111 yX11_when := Or.inl (memT (tin_6 _ (List.mem_of_getElem? (i := 202) rfl)) rfl)
theorem kL_116 : LinkM RL 116 yX11_odds := Or.inl (memT (tin_6 _ (List.mem_of_getElem? (i := 206) rfl)) rfl)
theorem kX11_364 : Cond.constantLong RX11 364 (-9223372036854775808) ∈ tblG := memT (tin_6 _ (List.mem_of_getElem? (i := 210) rfl)) rfl
theorem kX11_366 : LinkM RX11 366 yX11_lowest := Or.inl (memT (tin_6 _ (List.mem_of_getElem? (i := 211) rfl)) rfl)
theorem kX11_361 : LinkM RX11 361 yX11_divisor := Or.inl (memT (tin_6 _ (List.mem_of_getElem? (i := 215) rfl)) rfl)
theorem kL_121 : LinkM RL 121 yX11_mean := Or.inl (memT (tin_6 _ (List.mem_of_getElem? (i := 219) rfl)) rfl)
theorem kL_125 : LinkM RL 125 yX11_book := Or.inl (memT (tin_6 _ (List.mem_of_getElem? (i := 223) rfl)) rfl)
theorem kL_129 : LinkM RL 129 yX11_looked := Or.inl (memT (tin_6 _ (List.mem_of_getElem? (i := 227) rfl)) rfl)
theorem kL_133 : LinkM RL 133 yX11_judge := Or.inl (memT (tin_6 _ (List.mem_of_getElem? (i := 231) rfl)) rfl)
theorem kX11_370 : LinkM RX11 370 yX11_isTape := Or.inl (memT (tin_6 _ (List.mem_of_getElem? (i := 235) rfl)) rfl)
theorem kL_137 : LinkM RL 137 yX11_image := Or.inl (memT (tin_6 _ (List.mem_of_getElem? (i := 239) rfl)) rfl)
theorem kL_141 : LinkM RL 141 yX11_undo := Or.inl (memT (tin_7 _ (List.mem_of_getElem? (i := 3) rfl)) rfl)
theorem kL_145 : LinkM RL 145 yX11_act := Or.inl (memT (tin_7 _ (List.mem_of_getElem? (i := 7) rfl)) rfl)
theorem kX11_379 : LinkM RX11 379 yX11_asksAct := Or.inl (memT (tin_7 _ (List.mem_of_getElem? (i := 11) rfl)) rfl)
theorem kX11_373 : LinkM RX11 373 yX11_body := Or.inl (memT (tin_7 _ (List.mem_of_getElem? (i := 15) rfl)) rfl)
theorem kX11_376 : LinkM RX11 376 yX11_houseAsks := Or.inl (memT (tin_7 _ (List.mem_of_getElem? (i := 19) rfl)) rfl)
theorem kX11_388 : LinkM RX11 388 yX11_opensAct := Or.inl (memT (tin_7 _ (List.mem_of_getElem? (i := 23) rfl)) rfl)
theorem kX11_385 : LinkM RX11 385 yX11_lonelyOpens := Or.inl (memT (tin_7 _ (List.mem_of_getElem? (i := 27) rfl)) rfl)
theorem kX11_382 : LinkM RX11 382 yX11_houseOpens := Or.inl (memT (tin_7 _ (List.mem_of_getElem? (i := 31) rfl)) rfl)
theorem kX11_394 : LinkM RX11 394 yX11_tellsAct := Or.inl (memT (tin_7 _ (List.mem_of_getElem? (i := 35) rfl)) rfl)
theorem kX11_391 : LinkM RX11 391 yX11_houseTells := Or.inl (memT (tin_7 _ (List.mem_of_getElem? (i := 39) rfl)) rfl)
theorem kL_149 : LinkM RL 149 yX11_trace := Or.inl (memT (tin_7 _ (List.mem_of_getElem? (i := 43) rfl)) rfl)
theorem kL_153 : LinkM RL 153 yX11_taken := Or.inl (memT (tin_7 _ (List.mem_of_getElem? (i := 47) rfl)) rfl)
theorem kL_157 : LinkM RL 157 yX11_count := Or.inl (memT (tin_7 _ (List.mem_of_getElem? (i := 51) rfl)) rfl)
theorem kL_161 : LinkM RL 161 yX11_tape := Or.inl (memT (tin_7 _ (List.mem_of_getElem? (i := 55) rfl)) rfl)
theorem kL_168 : LinkM RL 168 yX11_item := Or.inl (memT (tin_7 _ (List.mem_of_getElem? (i := 59) rfl)) rfl)
theorem kX11_397 : LinkM RX11 397 yX11_narrow := Or.inl (memT (tin_7 _ (List.mem_of_getElem? (i := 63) rfl)) rfl)
theorem kL_172 : LinkM RL 172 yX11_read := Or.inl (memT (tin_7 _ (List.mem_of_getElem? (i := 67) rfl)) rfl)
theorem kL_177 : LinkM RL 177 yX11_shift := Or.inl (memT (tin_7 _ (List.mem_of_getElem? (i := 71) rfl)) rfl)
theorem kL_162 : Cond.constantLong RL 162 (4294967295) ∈ tblG := memT (tin_7 _ (List.mem_of_getElem? (i := 75) rfl)) rfl
theorem kJ0_9 : LinkF RJ0 9 "java/lang/String" "value" "[B" := Or.inl (memT (tin_7 _ (List.mem_of_getElem? (i := 76) rfl)) rfl)
theorem kJ0_15 : LinkF RJ0 15 "java/lang/String" "coder" "B" := Or.inl (memT (tin_7 _ (List.mem_of_getElem? (i := 77) rfl)) rfl)
abbrev mX0_init : MI := (yX0_init, cX0_init, 1, none)
theorem qX0_init : Cal mX0_init 0 := ⟨memT (tin_1 _ (List.mem_of_getElem? (i := 6) rfl)) rfl, memT (tin_1 _ (List.mem_of_getElem? (i := 175) rfl)) rfl, ⟨by decide +kernel, by decide +kernel⟩, by decide +kernel⟩
theorem vX0_init : Cond.instanceMethod yX0_init ∈ tblG := memT (tin_1 _ (List.mem_of_getElem? (i := 174) rfl)) rfl
abbrev mX0_forget : MI := (yX0_forget, cX0_forget, 1, none)
theorem qX0_forget : Cal mX0_forget 0 := ⟨memT (tin_1 _ (List.mem_of_getElem? (i := 6) rfl)) rfl, memT (tin_4 _ (List.mem_of_getElem? (i := 148) rfl)) rfl, ⟨by decide +kernel, by decide +kernel⟩, by decide +kernel⟩
theorem vX0_forget : Cond.instanceMethod yX0_forget ∈ tblG := memT (tin_4 _ (List.mem_of_getElem? (i := 146) rfl)) rfl
theorem sX0_forget : Cond.selects RX0 yX0_forget yX0_forget ∈ tblG := memT (tin_4 _ (List.mem_of_getElem? (i := 147) rfl)) rfl
abbrev mX0_begun : MI := (yX0_begun, cX0_begun, 2, (some (.int)))
theorem qX0_begun : Cal mX0_begun 1 := ⟨memT (tin_1 _ (List.mem_of_getElem? (i := 6) rfl)) rfl, memT (tin_4 _ (List.mem_of_getElem? (i := 177) rfl)) rfl, ⟨by decide +kernel, by decide +kernel⟩, by decide +kernel⟩
theorem vX0_begun : Cond.instanceMethod yX0_begun ∈ tblG := memT (tin_4 _ (List.mem_of_getElem? (i := 175) rfl)) rfl
theorem sX0_begun : Cond.selects RX0 yX0_begun yX0_begun ∈ tblG := memT (tin_4 _ (List.mem_of_getElem? (i := 176) rfl)) rfl
abbrev mX0_start : MI := (yX0_start, cX0_start, 5, (some (.int)))
theorem qX0_start : Cal mX0_start 4 := ⟨memT (tin_1 _ (List.mem_of_getElem? (i := 6) rfl)) rfl, memT (tin_4 _ (List.mem_of_getElem? (i := 152) rfl)) rfl, ⟨by decide +kernel, by decide +kernel⟩, by decide +kernel⟩
theorem vX0_start : Cond.instanceMethod yX0_start ∈ tblG := memT (tin_4 _ (List.mem_of_getElem? (i := 150) rfl)) rfl
theorem sX0_start : Cond.selects RX0 yX0_start yX0_start ∈ tblG := memT (tin_4 _ (List.mem_of_getElem? (i := 151) rfl)) rfl
abbrev mX0_call : MI := (yX0_call, cX0_call, 8, (some (.int)))
theorem qX0_call : Cal mX0_call 4 := ⟨memT (tin_1 _ (List.mem_of_getElem? (i := 6) rfl)) rfl, memT (tin_4 _ (List.mem_of_getElem? (i := 156) rfl)) rfl, ⟨by decide +kernel, by decide +kernel⟩, by decide +kernel⟩
theorem vX0_call : Cond.instanceMethod yX0_call ∈ tblG := memT (tin_4 _ (List.mem_of_getElem? (i := 155) rfl)) rfl
theorem sX0_call : Cond.selects RX0 yX0_call yX0_call ∈ tblG := memT (List.mem_append_left _ (List.mem_of_getElem? (i := 18) rfl)) rfl
abbrev mX0_run : MI := (yX0_run, cX0_run, 5, (some (.int)))
theorem qX0_run : Cal mX0_run 4 := ⟨memT (tin_1 _ (List.mem_of_getElem? (i := 6) rfl)) rfl, memT (tin_4 _ (List.mem_of_getElem? (i := 165) rfl)) rfl, ⟨by decide +kernel, by decide +kernel⟩, by decide +kernel⟩
theorem vX0_run : Cond.instanceMethod yX0_run ∈ tblG := memT (tin_4 _ (List.mem_of_getElem? (i := 164) rfl)) rfl
theorem sX0_run : Cond.selects RX0 yX0_run yX0_run ∈ tblG := memT (List.mem_append_left _ (List.mem_of_getElem? (i := 19) rfl)) rfl
abbrev mX0_note : MI := (yX0_note, cX0_note, 2, none)
theorem qX0_note : Cal mX0_note 1 := ⟨memT (tin_1 _ (List.mem_of_getElem? (i := 6) rfl)) rfl, memT (tin_4 _ (List.mem_of_getElem? (i := 169) rfl)) rfl, ⟨by decide +kernel, by decide +kernel⟩, by decide +kernel⟩
theorem vX0_note : Cond.instanceMethod yX0_note ∈ tblG := memT (tin_4 _ (List.mem_of_getElem? (i := 168) rfl)) rfl
theorem sX0_note : Cond.selects RX0 yX0_note yX0_note ∈ tblG := memT (List.mem_append_left _ (List.mem_of_getElem? (i := 20) rfl)) rfl
abbrev mX1_init : MI := (yX1_init, cX1_init, 3, none)
theorem qX1_init : Cal mX1_init 2 := ⟨memT (tin_1 _ (List.mem_of_getElem? (i := 11) rfl)) rfl, memT (tin_2 _ (List.mem_of_getElem? (i := 52) rfl)) rfl, ⟨by decide +kernel, by decide +kernel⟩, by decide +kernel⟩
theorem vX1_init : Cond.instanceMethod yX1_init ∈ tblG := memT (tin_2 _ (List.mem_of_getElem? (i := 51) rfl)) rfl
abbrev mX1_measure : MI := (yX1_measure, cX1_measure, 4, none)
theorem qX1_measure : Cal mX1_measure 3 := ⟨memT (tin_1 _ (List.mem_of_getElem? (i := 11) rfl)) rfl, memT (tin_3 _ (List.mem_of_getElem? (i := 152) rfl)) rfl, ⟨by decide +kernel, by decide +kernel⟩, by decide +kernel⟩
theorem vX1_measure : Cond.instanceMethod yX1_measure ∈ tblG := memT (tin_3 _ (List.mem_of_getElem? (i := 150) rfl)) rfl
theorem sX1_measure : Cond.selects RX1 yX1_measure yX1_measure ∈ tblG := memT (tin_3 _ (List.mem_of_getElem? (i := 151) rfl)) rfl
abbrev mX1_begin : MI := (yX1_begin, cX1_begin, 3, none)
theorem qX1_begin : Cal mX1_begin 2 := ⟨memT (tin_1 _ (List.mem_of_getElem? (i := 11) rfl)) rfl, memT (tin_3 _ (List.mem_of_getElem? (i := 160) rfl)) rfl, ⟨by decide +kernel, by decide +kernel⟩, by decide +kernel⟩
theorem vX1_begin : Cond.instanceMethod yX1_begin ∈ tblG := memT (tin_3 _ (List.mem_of_getElem? (i := 158) rfl)) rfl
theorem sX1_begin : Cond.selects RX1 yX1_begin yX1_begin ∈ tblG := memT (tin_3 _ (List.mem_of_getElem? (i := 159) rfl)) rfl
abbrev mX1_reach : MI := (yX1_reach, cX1_reach, 3, (some (.boolean)))
theorem qX1_reach : Cal mX1_reach 1 := ⟨memT (tin_1 _ (List.mem_of_getElem? (i := 11) rfl)) rfl, memT (tin_3 _ (List.mem_of_getElem? (i := 164) rfl)) rfl, ⟨by decide +kernel, by decide +kernel⟩, by decide +kernel⟩
theorem vX1_reach : Cond.instanceMethod yX1_reach ∈ tblG := memT (tin_3 _ (List.mem_of_getElem? (i := 162) rfl)) rfl
theorem sX1_reach : Cond.selects RX1 yX1_reach yX1_reach ∈ tblG := memT (tin_3 _ (List.mem_of_getElem? (i := 163) rfl)) rfl
abbrev mX1_isLetIn : MI := (yX1_isLetIn, cX1_isLetIn, 4, (some (.boolean)))
theorem qX1_isLetIn : Cal mX1_isLetIn 3 := ⟨memT (tin_1 _ (List.mem_of_getElem? (i := 11) rfl)) rfl, memT (tin_4 _ (List.mem_of_getElem? (i := 48) rfl)) rfl, ⟨by decide +kernel, by decide +kernel⟩, by decide +kernel⟩
theorem vX1_isLetIn : Cond.instanceMethod yX1_isLetIn ∈ tblG := memT (tin_4 _ (List.mem_of_getElem? (i := 46) rfl)) rfl
theorem sX1_isLetIn : Cond.selects RX1 yX1_isLetIn yX1_isLetIn ∈ tblG := memT (tin_4 _ (List.mem_of_getElem? (i := 47) rfl)) rfl
abbrev mX1_isLet : MI := (yX1_isLet, cX1_isLet, 3, (some (.boolean)))
theorem qX1_isLet : Cal mX1_isLet 1 := ⟨memT (tin_1 _ (List.mem_of_getElem? (i := 11) rfl)) rfl, memT (tin_3 _ (List.mem_of_getElem? (i := 174) rfl)) rfl, ⟨by decide +kernel, by decide +kernel⟩, by decide +kernel⟩
theorem vX1_isLet : Cond.instanceMethod yX1_isLet ∈ tblG := memT (tin_3 _ (List.mem_of_getElem? (i := 173) rfl)) rfl
theorem sX1_isLet : Cond.selects RX1 yX1_isLet yX1_isLet ∈ tblG := memT (List.mem_append_left _ (List.mem_of_getElem? (i := 10) rfl)) rfl
abbrev mX1_isLate : MI := (yX1_isLate, cX1_isLate, 2, (some (.boolean)))
theorem qX1_isLate : Cal mX1_isLate 1 := ⟨memT (tin_1 _ (List.mem_of_getElem? (i := 11) rfl)) rfl, memT (tin_3 _ (List.mem_of_getElem? (i := 178) rfl)) rfl, ⟨by decide +kernel, by decide +kernel⟩, by decide +kernel⟩
theorem vX1_isLate : Cond.instanceMethod yX1_isLate ∈ tblG := memT (tin_3 _ (List.mem_of_getElem? (i := 177) rfl)) rfl
theorem sX1_isLate : Cond.selects RX1 yX1_isLate yX1_isLate ∈ tblG := memT (List.mem_append_left _ (List.mem_of_getElem? (i := 11) rfl)) rfl
abbrev mX1_isKnown : MI := (yX1_isKnown, cX1_isKnown, 3, (some (.boolean)))
theorem qX1_isKnown : Cal mX1_isKnown 2 := ⟨memT (tin_1 _ (List.mem_of_getElem? (i := 11) rfl)) rfl, memT (tin_3 _ (List.mem_of_getElem? (i := 182) rfl)) rfl, ⟨by decide +kernel, by decide +kernel⟩, by decide +kernel⟩
theorem vX1_isKnown : Cond.instanceMethod yX1_isKnown ∈ tblG := memT (tin_3 _ (List.mem_of_getElem? (i := 181) rfl)) rfl
theorem sX1_isKnown : Cond.selects RX1 yX1_isKnown yX1_isKnown ∈ tblG := memT (List.mem_append_left _ (List.mem_of_getElem? (i := 12) rfl)) rfl
abbrev mX1_pays : MI := (yX1_pays, cX1_pays, 3, (some (.boolean)))
theorem qX1_pays : Cal mX1_pays 1 := ⟨memT (tin_1 _ (List.mem_of_getElem? (i := 11) rfl)) rfl, memT (tin_3 _ (List.mem_of_getElem? (i := 192) rfl)) rfl, ⟨by decide +kernel, by decide +kernel⟩, by decide +kernel⟩
theorem vX1_pays : Cond.instanceMethod yX1_pays ∈ tblG := memT (tin_3 _ (List.mem_of_getElem? (i := 191) rfl)) rfl
theorem sX1_pays : Cond.selects RX1 yX1_pays yX1_pays ∈ tblG := memT (List.mem_append_left _ (List.mem_of_getElem? (i := 13) rfl)) rfl
abbrev mX2_init : MI := (yX2_init, cX2_init, 3, none)
theorem qX2_init : Cal mX2_init 2 := ⟨memT (tin_1 _ (List.mem_of_getElem? (i := 9) rfl)) rfl, memT (tin_2 _ (List.mem_of_getElem? (i := 18) rfl)) rfl, ⟨by decide +kernel, by decide +kernel⟩, by decide +kernel⟩
theorem vX2_init : Cond.instanceMethod yX2_init ∈ tblG := memT (tin_2 _ (List.mem_of_getElem? (i := 17) rfl)) rfl
abbrev mX2_comesIn : MI := (yX2_comesIn, cX2_comesIn, 4, (some (.boolean)))
theorem qX2_comesIn : Cal mX2_comesIn 3 := ⟨memT (tin_1 _ (List.mem_of_getElem? (i := 9) rfl)) rfl, memT (tin_3 _ (List.mem_of_getElem? (i := 148) rfl)) rfl, ⟨by decide +kernel, by decide +kernel⟩, by decide +kernel⟩
theorem vX2_comesIn : Cond.instanceMethod yX2_comesIn ∈ tblG := memT (tin_3 _ (List.mem_of_getElem? (i := 146) rfl)) rfl
theorem sX2_comesIn : Cond.selects RX2 yX2_comesIn yX2_comesIn ∈ tblG := memT (tin_3 _ (List.mem_of_getElem? (i := 147) rfl)) rfl
abbrev mX2_followPlan : MI := (yX2_followPlan, cX2_followPlan, 5, (some (.int)))
theorem qX2_followPlan : Cal mX2_followPlan 1 := ⟨memT (tin_1 _ (List.mem_of_getElem? (i := 9) rfl)) rfl, memT (tin_3 _ (List.mem_of_getElem? (i := 212) rfl)) rfl, ⟨by decide +kernel, by decide +kernel⟩, by decide +kernel⟩
theorem vX2_followPlan : Cond.instanceMethod yX2_followPlan ∈ tblG := memT (tin_3 _ (List.mem_of_getElem? (i := 210) rfl)) rfl
theorem sX2_followPlan : Cond.selects RX2 yX2_followPlan yX2_followPlan ∈ tblG := memT (tin_3 _ (List.mem_of_getElem? (i := 211) rfl)) rfl
abbrev mX2_bestRound : MI := (yX2_bestRound, cX2_bestRound, 6, (some ((.object "AskedIn$Round"))))
theorem qX2_bestRound : Cal mX2_bestRound 2 := ⟨memT (tin_1 _ (List.mem_of_getElem? (i := 9) rfl)) rfl, memT (tin_3 _ (List.mem_of_getElem? (i := 221) rfl)) rfl, ⟨by decide +kernel, by decide +kernel⟩, by decide +kernel⟩
theorem vX2_bestRound : Cond.instanceMethod yX2_bestRound ∈ tblG := memT (tin_3 _ (List.mem_of_getElem? (i := 219) rfl)) rfl
theorem sX2_bestRound : Cond.selects RX2 yX2_bestRound yX2_bestRound ∈ tblG := memT (tin_3 _ (List.mem_of_getElem? (i := 220) rfl)) rfl
abbrev mX2_leastGrain : MI := (yX2_leastGrain, cX2_leastGrain, 4, (some (.int)))
theorem qX2_leastGrain : Cal mX2_leastGrain 2 := ⟨memT (tin_1 _ (List.mem_of_getElem? (i := 9) rfl)) rfl, memT (tin_4 _ (List.mem_of_getElem? (i := 10) rfl)) rfl, ⟨by decide +kernel, by decide +kernel⟩, by decide +kernel⟩
theorem vX2_leastGrain : Cond.instanceMethod yX2_leastGrain ∈ tblG := memT (tin_4 _ (List.mem_of_getElem? (i := 8) rfl)) rfl
theorem sX2_leastGrain : Cond.selects RX2 yX2_leastGrain yX2_leastGrain ∈ tblG := memT (tin_4 _ (List.mem_of_getElem? (i := 9) rfl)) rfl
abbrev mX2_houseToStrew : MI := (yX2_houseToStrew, cX2_houseToStrew, 6, (some (.int)))
theorem qX2_houseToStrew : Cal mX2_houseToStrew 1 := ⟨memT (tin_1 _ (List.mem_of_getElem? (i := 9) rfl)) rfl, memT (tin_4 _ (List.mem_of_getElem? (i := 19) rfl)) rfl, ⟨by decide +kernel, by decide +kernel⟩, by decide +kernel⟩
theorem vX2_houseToStrew : Cond.instanceMethod yX2_houseToStrew ∈ tblG := memT (tin_4 _ (List.mem_of_getElem? (i := 17) rfl)) rfl
theorem sX2_houseToStrew : Cond.selects RX2 yX2_houseToStrew yX2_houseToStrew ∈ tblG := memT (tin_4 _ (List.mem_of_getElem? (i := 18) rfl)) rfl
abbrev mX2_pairsAfter : MI := (yX2_pairsAfter, cX2_pairsAfter, 5, (some (.int)))
theorem qX2_pairsAfter : Cal mX2_pairsAfter 2 := ⟨memT (tin_1 _ (List.mem_of_getElem? (i := 9) rfl)) rfl, memT (tin_4 _ (List.mem_of_getElem? (i := 28) rfl)) rfl, ⟨by decide +kernel, by decide +kernel⟩, by decide +kernel⟩
theorem vX2_pairsAfter : Cond.instanceMethod yX2_pairsAfter ∈ tblG := memT (tin_4 _ (List.mem_of_getElem? (i := 26) rfl)) rfl
theorem sX2_pairsAfter : Cond.selects RX2 yX2_pairsAfter yX2_pairsAfter ∈ tblG := memT (tin_4 _ (List.mem_of_getElem? (i := 27) rfl)) rfl
abbrev mX2_insAt : MI := (yX2_insAt, cX2_insAt, 6, (some (.int)))
theorem qX2_insAt : Cal mX2_insAt 2 := ⟨memT (tin_1 _ (List.mem_of_getElem? (i := 9) rfl)) rfl, memT (tin_4 _ (List.mem_of_getElem? (i := 23) rfl)) rfl, ⟨by decide +kernel, by decide +kernel⟩, by decide +kernel⟩
theorem vX2_insAt : Cond.instanceMethod yX2_insAt ∈ tblG := memT (tin_4 _ (List.mem_of_getElem? (i := 22) rfl)) rfl
theorem sX2_insAt : Cond.selects RX2 yX2_insAt yX2_insAt ∈ tblG := memT (List.mem_append_left _ (List.mem_of_getElem? (i := 15) rfl)) rfl
abbrev mX2_doneTogether : MI := (yX2_doneTogether, cX2_doneTogether, 7, (some (.int)))
theorem qX2_doneTogether : Cal mX2_doneTogether 3 := ⟨memT (tin_1 _ (List.mem_of_getElem? (i := 9) rfl)) rfl, memT (tin_4 _ (List.mem_of_getElem? (i := 36) rfl)) rfl, ⟨by decide +kernel, by decide +kernel⟩, by decide +kernel⟩
theorem vX2_doneTogether : Cond.instanceMethod yX2_doneTogether ∈ tblG := memT (tin_4 _ (List.mem_of_getElem? (i := 34) rfl)) rfl
theorem sX2_doneTogether : Cond.selects RX2 yX2_doneTogether yX2_doneTogether ∈ tblG := memT (tin_4 _ (List.mem_of_getElem? (i := 35) rfl)) rfl
abbrev mX2_walk : MI := (yX2_walk, cX2_walk, 3, (some (.int)))
theorem qX2_walk : Cal mX2_walk 2 := ⟨memT (tin_1 _ (List.mem_of_getElem? (i := 9) rfl)) rfl, memT (tin_4 _ (List.mem_of_getElem? (i := 40) rfl)) rfl, ⟨by decide +kernel, by decide +kernel⟩, by decide +kernel⟩
theorem vX2_walk : Cond.instanceMethod yX2_walk ∈ tblG := memT (tin_4 _ (List.mem_of_getElem? (i := 39) rfl)) rfl
theorem sX2_walk : Cond.selects RX2 yX2_walk yX2_walk ∈ tblG := memT (List.mem_append_left _ (List.mem_of_getElem? (i := 16) rfl)) rfl
abbrev mX2_whoBits : MI := (yX2_whoBits, cX2_whoBits, 7, (some (.int)))
theorem qX2_whoBits : Cal mX2_whoBits 0 := ⟨memT (tin_1 _ (List.mem_of_getElem? (i := 9) rfl)) rfl, memT (tin_4 _ (List.mem_of_getElem? (i := 61) rfl)) rfl, ⟨by decide +kernel, by decide +kernel⟩, by decide +kernel⟩
theorem vX2_whoBits : Cond.instanceMethod yX2_whoBits ∈ tblG := memT (tin_4 _ (List.mem_of_getElem? (i := 59) rfl)) rfl
theorem sX2_whoBits : Cond.selects RX2 yX2_whoBits yX2_whoBits ∈ tblG := memT (tin_4 _ (List.mem_of_getElem? (i := 60) rfl)) rfl
abbrev mX2_houseToWatch : MI := (yX2_houseToWatch, cX2_houseToWatch, 6, (some (.int)))
theorem qX2_houseToWatch : Cal mX2_houseToWatch 0 := ⟨memT (tin_1 _ (List.mem_of_getElem? (i := 9) rfl)) rfl, memT (tin_4 _ (List.mem_of_getElem? (i := 70) rfl)) rfl, ⟨by decide +kernel, by decide +kernel⟩, by decide +kernel⟩
theorem vX2_houseToWatch : Cond.instanceMethod yX2_houseToWatch ∈ tblG := memT (tin_4 _ (List.mem_of_getElem? (i := 68) rfl)) rfl
theorem sX2_houseToWatch : Cond.selects RX2 yX2_houseToWatch yX2_houseToWatch ∈ tblG := memT (tin_4 _ (List.mem_of_getElem? (i := 69) rfl)) rfl
abbrev mX2_apartAt : MI := (yX2_apartAt, cX2_apartAt, 5, (some (.int)))
theorem qX2_apartAt : Cal mX2_apartAt 2 := ⟨memT (tin_1 _ (List.mem_of_getElem? (i := 9) rfl)) rfl, memT (tin_4 _ (List.mem_of_getElem? (i := 75) rfl)) rfl, ⟨by decide +kernel, by decide +kernel⟩, by decide +kernel⟩
theorem vX2_apartAt : Cond.instanceMethod yX2_apartAt ∈ tblG := memT (tin_4 _ (List.mem_of_getElem? (i := 74) rfl)) rfl
theorem sX2_apartAt : Cond.selects RX2 yX2_apartAt yX2_apartAt ∈ tblG := memT (List.mem_append_left _ (List.mem_of_getElem? (i := 17) rfl)) rfl
abbrev mX2_leastStart : MI := (yX2_leastStart, cX2_leastStart, 4, (some (.int)))
theorem qX2_leastStart : Cal mX2_leastStart 2 := ⟨memT (tin_1 _ (List.mem_of_getElem? (i := 9) rfl)) rfl, memT (tin_4 _ (List.mem_of_getElem? (i := 84) rfl)) rfl, ⟨by decide +kernel, by decide +kernel⟩, by decide +kernel⟩
theorem vX2_leastStart : Cond.instanceMethod yX2_leastStart ∈ tblG := memT (tin_4 _ (List.mem_of_getElem? (i := 82) rfl)) rfl
theorem sX2_leastStart : Cond.selects RX2 yX2_leastStart yX2_leastStart ∈ tblG := memT (tin_4 _ (List.mem_of_getElem? (i := 83) rfl)) rfl
abbrev mX2_goodStarts : MI := (yX2_goodStarts, cX2_goodStarts, 5, (some (.int)))
theorem qX2_goodStarts : Cal mX2_goodStarts 2 := ⟨memT (tin_1 _ (List.mem_of_getElem? (i := 9) rfl)) rfl, memT (tin_4 _ (List.mem_of_getElem? (i := 93) rfl)) rfl, ⟨by decide +kernel, by decide +kernel⟩, by decide +kernel⟩
theorem vX2_goodStarts : Cond.instanceMethod yX2_goodStarts ∈ tblG := memT (tin_4 _ (List.mem_of_getElem? (i := 91) rfl)) rfl
theorem sX2_goodStarts : Cond.selects RX2 yX2_goodStarts yX2_goodStarts ∈ tblG := memT (tin_4 _ (List.mem_of_getElem? (i := 92) rfl)) rfl
abbrev mX2_minutesOfAll : MI := (yX2_minutesOfAll, cX2_minutesOfAll, 4, (some (.int)))
theorem qX2_minutesOfAll : Cal mX2_minutesOfAll 1 := ⟨memT (tin_1 _ (List.mem_of_getElem? (i := 9) rfl)) rfl, memT (tin_4 _ (List.mem_of_getElem? (i := 105) rfl)) rfl, ⟨by decide +kernel, by decide +kernel⟩, by decide +kernel⟩
theorem vX2_minutesOfAll : Cond.instanceMethod yX2_minutesOfAll ∈ tblG := memT (tin_4 _ (List.mem_of_getElem? (i := 103) rfl)) rfl
theorem sX2_minutesOfAll : Cond.selects RX2 yX2_minutesOfAll yX2_minutesOfAll ∈ tblG := memT (tin_4 _ (List.mem_of_getElem? (i := 104) rfl)) rfl
abbrev mX2_firstKeptOut : MI := (yX2_firstKeptOut, cX2_firstKeptOut, 4, (some (.int)))
theorem qX2_firstKeptOut : Cal mX2_firstKeptOut 0 := ⟨memT (tin_1 _ (List.mem_of_getElem? (i := 9) rfl)) rfl, memT (tin_4 _ (List.mem_of_getElem? (i := 117) rfl)) rfl, ⟨by decide +kernel, by decide +kernel⟩, by decide +kernel⟩
theorem vX2_firstKeptOut : Cond.instanceMethod yX2_firstKeptOut ∈ tblG := memT (tin_4 _ (List.mem_of_getElem? (i := 115) rfl)) rfl
theorem sX2_firstKeptOut : Cond.selects RX2 yX2_firstKeptOut yX2_firstKeptOut ∈ tblG := memT (tin_4 _ (List.mem_of_getElem? (i := 116) rfl)) rfl
abbrev mX3_init : MI := (yX3_init, cX3_init, 1, none)
theorem qX3_init : Cal mX3_init 0 := ⟨memT (tin_1 _ (List.mem_of_getElem? (i := 10) rfl)) rfl, memT (tin_2 _ (List.mem_of_getElem? (i := 24) rfl)) rfl, ⟨by decide +kernel, by decide +kernel⟩, by decide +kernel⟩
theorem vX3_init : Cond.instanceMethod yX3_init ∈ tblG := memT (tin_2 _ (List.mem_of_getElem? (i := 23) rfl)) rfl
abbrev mX3_start : MI := (yX3_start, cX3_start, 3, none)
theorem qX3_start : Cal mX3_start 1 := ⟨memT (tin_1 _ (List.mem_of_getElem? (i := 10) rfl)) rfl, memT (tin_3 _ (List.mem_of_getElem? (i := 225) rfl)) rfl, ⟨by decide +kernel, by decide +kernel⟩, by decide +kernel⟩
theorem vX3_start : Cond.instanceMethod yX3_start ∈ tblG := memT (tin_3 _ (List.mem_of_getElem? (i := 223) rfl)) rfl
theorem sX3_start : Cond.selects RX3 yX3_start yX3_start ∈ tblG := memT (tin_3 _ (List.mem_of_getElem? (i := 224) rfl)) rfl
abbrev mX3_weigh : MI := (yX3_weigh, cX3_weigh, 3, none)
theorem qX3_weigh : Cal mX3_weigh 2 := ⟨memT (tin_1 _ (List.mem_of_getElem? (i := 10) rfl)) rfl, memT (tin_3 _ (List.mem_of_getElem? (i := 231) rfl)) rfl, ⟨by decide +kernel, by decide +kernel⟩, by decide +kernel⟩
theorem vX3_weigh : Cond.instanceMethod yX3_weigh ∈ tblG := memT (tin_3 _ (List.mem_of_getElem? (i := 229) rfl)) rfl
theorem sX3_weigh : Cond.selects RX3 yX3_weigh yX3_weigh ∈ tblG := memT (tin_3 _ (List.mem_of_getElem? (i := 230) rfl)) rfl
abbrev mX3_advance : MI := (yX3_advance, cX3_advance, 5, (some (.boolean)))
theorem qX3_advance : Cal mX3_advance 0 := ⟨memT (tin_1 _ (List.mem_of_getElem? (i := 10) rfl)) rfl, memT (tin_3 _ (List.mem_of_getElem? (i := 238) rfl)) rfl, ⟨by decide +kernel, by decide +kernel⟩, by decide +kernel⟩
theorem vX3_advance : Cond.instanceMethod yX3_advance ∈ tblG := memT (tin_3 _ (List.mem_of_getElem? (i := 236) rfl)) rfl
theorem sX3_advance : Cond.selects RX3 yX3_advance yX3_advance ∈ tblG := memT (tin_3 _ (List.mem_of_getElem? (i := 237) rfl)) rfl
abbrev mX3_swap : MI := (yX3_swap, cX3_swap, 4, none)
theorem qX3_swap : Cal mX3_swap 2 := ⟨memT (tin_1 _ (List.mem_of_getElem? (i := 10) rfl)) rfl, memT (tin_4 _ (List.mem_of_getElem? (i := 2) rfl)) rfl, ⟨by decide +kernel, by decide +kernel⟩, by decide +kernel⟩
theorem vX3_swap : Cond.instanceMethod yX3_swap ∈ tblG := memT (tin_4 _ (List.mem_of_getElem? (i := 1) rfl)) rfl
theorem sX3_swap : Cond.selects RX3 yX3_swap yX3_swap ∈ tblG := memT (List.mem_append_left _ (List.mem_of_getElem? (i := 14) rfl)) rfl
abbrev mX4_init : MI := (yX4_init, cX4_init, 3, none)
theorem qX4_init : Cal mX4_init 1 := ⟨memT (tin_1 _ (List.mem_of_getElem? (i := 3) rfl)) rfl, memT (tin_1 _ (List.mem_of_getElem? (i := 39) rfl)) rfl, ⟨by decide +kernel, by decide +kernel⟩, by decide +kernel⟩
theorem vX4_init : Cond.instanceMethod yX4_init ∈ tblG := memT (tin_1 _ (List.mem_of_getElem? (i := 38) rfl)) rfl
abbrev mX4_add : MI := (yX4_add, cX4_add, 3, (some (.int)))
theorem qX4_add : Cal mX4_add 2 := ⟨memT (tin_1 _ (List.mem_of_getElem? (i := 3) rfl)) rfl, memT (tin_3 _ (List.mem_of_getElem? (i := 204) rfl)) rfl, ⟨by decide +kernel, by decide +kernel⟩, by decide +kernel⟩
theorem vX4_add : Cond.instanceMethod yX4_add ∈ tblG := memT (tin_3 _ (List.mem_of_getElem? (i := 202) rfl)) rfl
theorem sX4_add : Cond.selects RX4 yX4_add yX4_add ∈ tblG := memT (tin_3 _ (List.mem_of_getElem? (i := 203) rfl)) rfl
abbrev mX4_empty : MI := (yX4_empty, cX4_empty, 1, (some (.int)))
theorem qX4_empty : Cal mX4_empty 0 := ⟨memT (tin_1 _ (List.mem_of_getElem? (i := 3) rfl)) rfl, memT (tin_3 _ (List.mem_of_getElem? (i := 200) rfl)) rfl, ⟨by decide +kernel, by decide +kernel⟩, by decide +kernel⟩
theorem vX4_empty : Cond.instanceMethod yX4_empty ∈ tblG := memT (tin_3 _ (List.mem_of_getElem? (i := 198) rfl)) rfl
theorem sX4_empty : Cond.selects RX4 yX4_empty yX4_empty ∈ tblG := memT (tin_3 _ (List.mem_of_getElem? (i := 199) rfl)) rfl
abbrev mX4_copy : MI := (yX4_copy, cX4_copy, 2, none)
theorem qX4_copy : Cal mX4_copy 1 := ⟨memT (tin_1 _ (List.mem_of_getElem? (i := 3) rfl)) rfl, memT (tin_4 _ (List.mem_of_getElem? (i := 134) rfl)) rfl, ⟨by decide +kernel, by decide +kernel⟩, by decide +kernel⟩
theorem vX4_copy : Cond.instanceMethod yX4_copy ∈ tblG := memT (tin_4 _ (List.mem_of_getElem? (i := 132) rfl)) rfl
theorem sX4_copy : Cond.selects RX4 yX4_copy yX4_copy ∈ tblG := memT (tin_4 _ (List.mem_of_getElem? (i := 133) rfl)) rfl
abbrev mX5_init : MI := (yX5_init, cX5_init, 1, none)
theorem qX5_init : Cal mX5_init 0 := ⟨memT (tin_1 _ (List.mem_of_getElem? (i := 2) rfl)) rfl, memT (tin_1 _ (List.mem_of_getElem? (i := 33) rfl)) rfl, ⟨by decide +kernel, by decide +kernel⟩, by decide +kernel⟩
theorem vX5_init : Cond.instanceMethod yX5_init ∈ tblG := memT (tin_1 _ (List.mem_of_getElem? (i := 32) rfl)) rfl
abbrev mX5_hasHouse : MI := (yX5_hasHouse, cX5_hasHouse, 2, (some (.boolean)))
theorem qX5_hasHouse : Cal mX5_hasHouse 1 := ⟨memT (tin_1 _ (List.mem_of_getElem? (i := 2) rfl)) rfl, memT (tin_2 _ (List.mem_of_getElem? (i := 151) rfl)) rfl, ⟨by decide +kernel, by decide +kernel⟩, by decide +kernel⟩
theorem vX5_hasHouse : Cond.instanceMethod yX5_hasHouse ∈ tblG := memT (tin_2 _ (List.mem_of_getElem? (i := 149) rfl)) rfl
theorem sX5_hasHouse : Cond.selects RX5 yX5_hasHouse yX5_hasHouse ∈ tblG := memT (tin_2 _ (List.mem_of_getElem? (i := 150) rfl)) rfl
abbrev mX5_hasFolk : MI := (yX5_hasFolk, cX5_hasFolk, 2, (some (.boolean)))
theorem qX5_hasFolk : Cal mX5_hasFolk 1 := ⟨memT (tin_1 _ (List.mem_of_getElem? (i := 2) rfl)) rfl, memT (tin_2 _ (List.mem_of_getElem? (i := 167) rfl)) rfl, ⟨by decide +kernel, by decide +kernel⟩, by decide +kernel⟩
theorem vX5_hasFolk : Cond.instanceMethod yX5_hasFolk ∈ tblG := memT (tin_2 _ (List.mem_of_getElem? (i := 165) rfl)) rfl
theorem sX5_hasFolk : Cond.selects RX5 yX5_hasFolk yX5_hasFolk ∈ tblG := memT (tin_2 _ (List.mem_of_getElem? (i := 166) rfl)) rfl
abbrev mX5_build : MI := (yX5_build, cX5_build, 5, (some (.int)))
theorem qX5_build : Cal mX5_build 3 := ⟨memT (tin_1 _ (List.mem_of_getElem? (i := 2) rfl)) rfl, memT (tin_2 _ (List.mem_of_getElem? (i := 139) rfl)) rfl, ⟨by decide +kernel, by decide +kernel⟩, by decide +kernel⟩
theorem vX5_build : Cond.instanceMethod yX5_build ∈ tblG := memT (tin_2 _ (List.mem_of_getElem? (i := 137) rfl)) rfl
theorem sX5_build : Cond.selects RX5 yX5_build yX5_build ∈ tblG := memT (tin_2 _ (List.mem_of_getElem? (i := 138) rfl)) rfl
abbrev mX5_settle : MI := (yX5_settle, cX5_settle, 4, none)
theorem qX5_settle : Cal mX5_settle 3 := ⟨memT (tin_1 _ (List.mem_of_getElem? (i := 2) rfl)) rfl, memT (tin_2 _ (List.mem_of_getElem? (i := 143) rfl)) rfl, ⟨by decide +kernel, by decide +kernel⟩, by decide +kernel⟩
theorem vX5_settle : Cond.instanceMethod yX5_settle ∈ tblG := memT (tin_2 _ (List.mem_of_getElem? (i := 141) rfl)) rfl
theorem sX5_settle : Cond.selects RX5 yX5_settle yX5_settle ∈ tblG := memT (tin_2 _ (List.mem_of_getElem? (i := 142) rfl)) rfl
abbrev mX5_wake : MI := (yX5_wake, cX5_wake, 5, (some (.int)))
theorem qX5_wake : Cal mX5_wake 3 := ⟨memT (tin_1 _ (List.mem_of_getElem? (i := 2) rfl)) rfl, memT (tin_2 _ (List.mem_of_getElem? (i := 155) rfl)) rfl, ⟨by decide +kernel, by decide +kernel⟩, by decide +kernel⟩
theorem vX5_wake : Cond.instanceMethod yX5_wake ∈ tblG := memT (tin_2 _ (List.mem_of_getElem? (i := 153) rfl)) rfl
theorem sX5_wake : Cond.selects RX5 yX5_wake yX5_wake ∈ tblG := memT (tin_2 _ (List.mem_of_getElem? (i := 154) rfl)) rfl
abbrev mX5_copy : MI := (yX5_copy, cX5_copy, 2, none)
theorem qX5_copy : Cal mX5_copy 1 := ⟨memT (tin_1 _ (List.mem_of_getElem? (i := 2) rfl)) rfl, memT (tin_4 _ (List.mem_of_getElem? (i := 129) rfl)) rfl, ⟨by decide +kernel, by decide +kernel⟩, by decide +kernel⟩
theorem vX5_copy : Cond.instanceMethod yX5_copy ∈ tblG := memT (tin_4 _ (List.mem_of_getElem? (i := 127) rfl)) rfl
theorem sX5_copy : Cond.selects RX5 yX5_copy yX5_copy ∈ tblG := memT (tin_4 _ (List.mem_of_getElem? (i := 128) rfl)) rfl
abbrev mX6_init : MI := (yX6_init, cX6_init, 1, none)
theorem qX6_init : Cal mX6_init 0 := ⟨memT (tin_1 _ (List.mem_of_getElem? (i := 7) rfl)) rfl, memT (tin_1 _ (List.mem_of_getElem? (i := 198) rfl)) rfl, ⟨by decide +kernel, by decide +kernel⟩, by decide +kernel⟩
theorem vX6_init : Cond.instanceMethod yX6_init ∈ tblG := memT (tin_1 _ (List.mem_of_getElem? (i := 197) rfl)) rfl
abbrev mX6_become : MI := (yX6_become, cX6_become, 4, (some (.int)))
theorem qX6_become : Cal mX6_become 3 := ⟨memT (tin_1 _ (List.mem_of_getElem? (i := 7) rfl)) rfl, memT (tin_4 _ (List.mem_of_getElem? (i := 198) rfl)) rfl, ⟨by decide +kernel, by decide +kernel⟩, by decide +kernel⟩
theorem vX6_become : Cond.instanceMethod yX6_become ∈ tblG := memT (tin_4 _ (List.mem_of_getElem? (i := 196) rfl)) rfl
theorem sX6_become : Cond.selects RX6 yX6_become yX6_become ∈ tblG := memT (tin_4 _ (List.mem_of_getElem? (i := 197) rfl)) rfl
abbrev mX6_cut : MI := (yX6_cut, cX6_cut, 3, (some (.long)))
theorem qX6_cut : Cal mX6_cut 2 := ⟨memT (tin_1 _ (List.mem_of_getElem? (i := 7) rfl)) rfl, memT (tin_4 _ (List.mem_of_getElem? (i := 208) rfl)) rfl, ⟨by decide +kernel, by decide +kernel⟩, by decide +kernel⟩
theorem vX6_cut : Cond.static yX6_cut ∈ tblG := memT (tin_4 _ (List.mem_of_getElem? (i := 207) rfl)) rfl
abbrev mX7_init : MI := (yX7_init, cX7_init, 1, none)
theorem qX7_init : Cal mX7_init 0 := ⟨memT (tin_1 _ (List.mem_of_getElem? (i := 5) rfl)) rfl, memT (tin_1 _ (List.mem_of_getElem? (i := 142) rfl)) rfl, ⟨by decide +kernel, by decide +kernel⟩, by decide +kernel⟩
theorem vX7_init : Cond.instanceMethod yX7_init ∈ tblG := memT (tin_1 _ (List.mem_of_getElem? (i := 141) rfl)) rfl
abbrev mX7_add : MI := (yX7_add, cX7_add, 2, (some (.int)))
theorem qX7_add : Cal mX7_add 1 := ⟨memT (tin_1 _ (List.mem_of_getElem? (i := 5) rfl)) rfl, memT (tin_2 _ (List.mem_of_getElem? (i := 215) rfl)) rfl, ⟨by decide +kernel, by decide +kernel⟩, by decide +kernel⟩
theorem vX7_add : Cond.instanceMethod yX7_add ∈ tblG := memT (tin_2 _ (List.mem_of_getElem? (i := 213) rfl)) rfl
theorem sX7_add : Cond.selects RX7 yX7_add yX7_add ∈ tblG := memT (tin_2 _ (List.mem_of_getElem? (i := 214) rfl)) rfl
abbrev mX7_compile : MI := (yX7_compile, cX7_compile, 3, none)
theorem qX7_compile : Cal mX7_compile 1 := ⟨memT (tin_1 _ (List.mem_of_getElem? (i := 5) rfl)) rfl, memT (tin_2 _ (List.mem_of_getElem? (i := 223) rfl)) rfl, ⟨by decide +kernel, by decide +kernel⟩, by decide +kernel⟩
theorem vX7_compile : Cond.instanceMethod yX7_compile ∈ tblG := memT (tin_2 _ (List.mem_of_getElem? (i := 221) rfl)) rfl
theorem sX7_compile : Cond.selects RX7 yX7_compile yX7_compile ∈ tblG := memT (tin_2 _ (List.mem_of_getElem? (i := 222) rfl)) rfl
abbrev mX7_clause : MI := (yX7_clause, cX7_clause, 3, none)
theorem qX7_clause : Cal mX7_clause 0 := ⟨memT (tin_1 _ (List.mem_of_getElem? (i := 5) rfl)) rfl, memT (tin_2 _ (List.mem_of_getElem? (i := 227) rfl)) rfl, ⟨by decide +kernel, by decide +kernel⟩, by decide +kernel⟩
theorem vX7_clause : Cond.instanceMethod yX7_clause ∈ tblG := memT (tin_2 _ (List.mem_of_getElem? (i := 226) rfl)) rfl
theorem sX7_clause : Cond.selects RX7 yX7_clause yX7_clause ∈ tblG := memT (List.mem_append_left _ (List.mem_of_getElem? (i := 2) rfl)) rfl
abbrev mX7_either : MI := (yX7_either, cX7_either, 5, none)
theorem qX7_either : Cal mX7_either 1 := ⟨memT (tin_1 _ (List.mem_of_getElem? (i := 5) rfl)) rfl, memT (tin_3 _ (List.mem_of_getElem? (i := 117) rfl)) rfl, ⟨by decide +kernel, by decide +kernel⟩, by decide +kernel⟩
theorem vX7_either : Cond.instanceMethod yX7_either ∈ tblG := memT (tin_3 _ (List.mem_of_getElem? (i := 116) rfl)) rfl
theorem sX7_either : Cond.selects RX7 yX7_either yX7_either ∈ tblG := memT (List.mem_append_left _ (List.mem_of_getElem? (i := 7) rfl)) rfl
abbrev mX7_part : MI := (yX7_part, cX7_part, 5, none)
theorem qX7_part : Cal mX7_part 1 := ⟨memT (tin_1 _ (List.mem_of_getElem? (i := 5) rfl)) rfl, memT (tin_3 _ (List.mem_of_getElem? (i := 121) rfl)) rfl, ⟨by decide +kernel, by decide +kernel⟩, by decide +kernel⟩
theorem vX7_part : Cond.instanceMethod yX7_part ∈ tblG := memT (tin_3 _ (List.mem_of_getElem? (i := 120) rfl)) rfl
theorem sX7_part : Cond.selects RX7 yX7_part yX7_part ∈ tblG := memT (List.mem_append_left _ (List.mem_of_getElem? (i := 8) rfl)) rfl
abbrev mX7_number : MI := (yX7_number, cX7_number, 2, (some (.int)))
theorem qX7_number : Cal mX7_number 0 := ⟨memT (tin_1 _ (List.mem_of_getElem? (i := 5) rfl)) rfl, memT (tin_3 _ (List.mem_of_getElem? (i := 50) rfl)) rfl, ⟨by decide +kernel, by decide +kernel⟩, by decide +kernel⟩
theorem vX7_number : Cond.instanceMethod yX7_number ∈ tblG := memT (tin_3 _ (List.mem_of_getElem? (i := 49) rfl)) rfl
theorem sX7_number : Cond.selects RX7 yX7_number yX7_number ∈ tblG := memT (List.mem_append_left _ (List.mem_of_getElem? (i := 5) rfl)) rfl
abbrev mX7_word : MI := (yX7_word, cX7_word, 3, none)
theorem qX7_word : Cal mX7_word 1 := ⟨memT (tin_1 _ (List.mem_of_getElem? (i := 5) rfl)) rfl, memT (tin_2 _ (List.mem_of_getElem? (i := 238) rfl)) rfl, ⟨by decide +kernel, by decide +kernel⟩, by decide +kernel⟩
theorem vX7_word : Cond.instanceMethod yX7_word ∈ tblG := memT (tin_2 _ (List.mem_of_getElem? (i := 237) rfl)) rfl
theorem sX7_word : Cond.selects RX7 yX7_word yX7_word ∈ tblG := memT (List.mem_append_left _ (List.mem_of_getElem? (i := 4) rfl)) rfl
abbrev mX7_choice : MI := (yX7_choice, cX7_choice, 3, (some (.int)))
theorem qX7_choice : Cal mX7_choice 1 := ⟨memT (tin_1 _ (List.mem_of_getElem? (i := 5) rfl)) rfl, memT (tin_3 _ (List.mem_of_getElem? (i := 55) rfl)) rfl, ⟨by decide +kernel, by decide +kernel⟩, by decide +kernel⟩
theorem vX7_choice : Cond.instanceMethod yX7_choice ∈ tblG := memT (tin_3 _ (List.mem_of_getElem? (i := 54) rfl)) rfl
theorem sX7_choice : Cond.selects RX7 yX7_choice yX7_choice ∈ tblG := memT (List.mem_append_left _ (List.mem_of_getElem? (i := 6) rfl)) rfl
abbrev mX7_take : MI := (yX7_take, cX7_take, 3, (some (.boolean)))
theorem qX7_take : Cal mX7_take 1 := ⟨memT (tin_1 _ (List.mem_of_getElem? (i := 5) rfl)) rfl, memT (tin_2 _ (List.mem_of_getElem? (i := 231) rfl)) rfl, ⟨by decide +kernel, by decide +kernel⟩, by decide +kernel⟩
theorem vX7_take : Cond.instanceMethod yX7_take ∈ tblG := memT (tin_2 _ (List.mem_of_getElem? (i := 230) rfl)) rfl
theorem sX7_take : Cond.selects RX7 yX7_take yX7_take ∈ tblG := memT (List.mem_append_left _ (List.mem_of_getElem? (i := 3) rfl)) rfl
abbrev mX7_note : MI := (yX7_note, cX7_note, 3, none)
theorem qX7_note : Cal mX7_note 2 := ⟨memT (tin_1 _ (List.mem_of_getElem? (i := 5) rfl)) rfl, memT (tin_3 _ (List.mem_of_getElem? (i := 125) rfl)) rfl, ⟨by decide +kernel, by decide +kernel⟩, by decide +kernel⟩
theorem vX7_note : Cond.instanceMethod yX7_note ∈ tblG := memT (tin_3 _ (List.mem_of_getElem? (i := 124) rfl)) rfl
theorem sX7_note : Cond.selects RX7 yX7_note yX7_note ∈ tblG := memT (List.mem_append_left _ (List.mem_of_getElem? (i := 9) rfl)) rfl
abbrev mX9_init : MI := (yX9_init, cX9_init, 1, none)
theorem qX9_init : Cal mX9_init 0 := ⟨memT (tin_1 _ (List.mem_of_getElem? (i := 8) rfl)) rfl, memT (tin_1 _ (List.mem_of_getElem? (i := 220) rfl)) rfl, ⟨by decide +kernel, by decide +kernel⟩, by decide +kernel⟩
theorem vX9_init : Cond.instanceMethod yX9_init ∈ tblG := memT (tin_1 _ (List.mem_of_getElem? (i := 219) rfl)) rfl
abbrev mX9_add : MI := (yX9_add, cX9_add, 4, (some (.int)))
theorem qX9_add : Cal mX9_add 2 := ⟨memT (tin_1 _ (List.mem_of_getElem? (i := 8) rfl)) rfl, memT (tin_3 _ (List.mem_of_getElem? (i := 132) rfl)) rfl, ⟨by decide +kernel, by decide +kernel⟩, by decide +kernel⟩
theorem vX9_add : Cond.instanceMethod yX9_add ∈ tblG := memT (tin_3 _ (List.mem_of_getElem? (i := 130) rfl)) rfl
theorem sX9_add : Cond.selects RX9 yX9_add yX9_add ∈ tblG := memT (tin_3 _ (List.mem_of_getElem? (i := 131) rfl)) rfl
abbrev mX9_dawnOf : MI := (yX9_dawnOf, cX9_dawnOf, 2, (some (.int)))
theorem qX9_dawnOf : Cal mX9_dawnOf 1 := ⟨memT (tin_1 _ (List.mem_of_getElem? (i := 8) rfl)) rfl, memT (tin_3 _ (List.mem_of_getElem? (i := 140) rfl)) rfl, ⟨by decide +kernel, by decide +kernel⟩, by decide +kernel⟩
theorem vX9_dawnOf : Cond.instanceMethod yX9_dawnOf ∈ tblG := memT (tin_3 _ (List.mem_of_getElem? (i := 138) rfl)) rfl
theorem sX9_dawnOf : Cond.selects RX9 yX9_dawnOf yX9_dawnOf ∈ tblG := memT (tin_3 _ (List.mem_of_getElem? (i := 139) rfl)) rfl
abbrev mX9_weigh : MI := (yX9_weigh, cX9_weigh, 13, none)
theorem qX9_weigh : Cal mX9_weigh 4 := ⟨memT (tin_1 _ (List.mem_of_getElem? (i := 8) rfl)) rfl, memT (tin_2 _ (List.mem_of_getElem? (i := 171) rfl)) rfl, ⟨by decide +kernel, by decide +kernel⟩, by decide +kernel⟩
theorem vX9_weigh : Cond.instanceMethod yX9_weigh ∈ tblG := memT (tin_2 _ (List.mem_of_getElem? (i := 169) rfl)) rfl
theorem sX9_weigh : Cond.selects RX9 yX9_weigh yX9_weigh ∈ tblG := memT (tin_2 _ (List.mem_of_getElem? (i := 170) rfl)) rfl
abbrev mX9_holds : MI := (yX9_holds, cX9_holds, 5, (some (.boolean)))
theorem qX9_holds : Cal mX9_holds 2 := ⟨memT (tin_1 _ (List.mem_of_getElem? (i := 8) rfl)) rfl, memT (tin_2 _ (List.mem_of_getElem? (i := 176) rfl)) rfl, ⟨by decide +kernel, by decide +kernel⟩, by decide +kernel⟩
theorem vX9_holds : Cond.instanceMethod yX9_holds ∈ tblG := memT (tin_2 _ (List.mem_of_getElem? (i := 175) rfl)) rfl
theorem sX9_holds : Cond.selects RX9 yX9_holds yX9_holds ∈ tblG := memT (List.mem_append_left _ (List.mem_of_getElem? (i := 1) rfl)) rfl
abbrev mX10_init : MI := (yX10_init, cX10_init, 3, none)
theorem qX10_init : Cal mX10_init 0 := ⟨memT (tin_1 _ (List.mem_of_getElem? (i := 1) rfl)) rfl, memT (tin_1 _ (List.mem_of_getElem? (i := 25) rfl)) rfl, ⟨by decide +kernel, by decide +kernel⟩, by decide +kernel⟩
theorem vX10_init : Cond.instanceMethod yX10_init ∈ tblG := memT (tin_1 _ (List.mem_of_getElem? (i := 24) rfl)) rfl
abbrev mX10_house : MI := (yX10_house, cX10_house, 4, (some (.int)))
theorem qX10_house : Cal mX10_house 3 := ⟨memT (tin_1 _ (List.mem_of_getElem? (i := 1) rfl)) rfl, memT (tin_2 _ (List.mem_of_getElem? (i := 132) rfl)) rfl, ⟨by decide +kernel, by decide +kernel⟩, by decide +kernel⟩
theorem vX10_house : Cond.instanceMethod yX10_house ∈ tblG := memT (tin_2 _ (List.mem_of_getElem? (i := 130) rfl)) rfl
theorem sX10_house : Cond.selects RX10 yX10_house yX10_house ∈ tblG := memT (tin_2 _ (List.mem_of_getElem? (i := 131) rfl)) rfl
abbrev mX10_folk : MI := (yX10_folk, cX10_folk, 4, (some (.int)))
theorem qX10_folk : Cal mX10_folk 3 := ⟨memT (tin_1 _ (List.mem_of_getElem? (i := 1) rfl)) rfl, memT (tin_2 _ (List.mem_of_getElem? (i := 147) rfl)) rfl, ⟨by decide +kernel, by decide +kernel⟩, by decide +kernel⟩
theorem vX10_folk : Cond.instanceMethod yX10_folk ∈ tblG := memT (tin_2 _ (List.mem_of_getElem? (i := 145) rfl)) rfl
theorem sX10_folk : Cond.selects RX10 yX10_folk yX10_folk ∈ tblG := memT (tin_2 _ (List.mem_of_getElem? (i := 146) rfl)) rfl
abbrev mX10_of : MI := (yX10_of, cX10_of, 3, (some (.int)))
theorem qX10_of : Cal mX10_of 2 := ⟨memT (tin_1 _ (List.mem_of_getElem? (i := 1) rfl)) rfl, memT (tin_2 _ (List.mem_of_getElem? (i := 159) rfl)) rfl, ⟨by decide +kernel, by decide +kernel⟩, by decide +kernel⟩
theorem vX10_of : Cond.instanceMethod yX10_of ∈ tblG := memT (tin_2 _ (List.mem_of_getElem? (i := 157) rfl)) rfl
theorem sX10_of : Cond.selects RX10 yX10_of yX10_of ∈ tblG := memT (tin_2 _ (List.mem_of_getElem? (i := 158) rfl)) rfl
abbrev mX10_who : MI := (yX10_who, cX10_who, 3, (some (.int)))
theorem qX10_who : Cal mX10_who 2 := ⟨memT (tin_1 _ (List.mem_of_getElem? (i := 1) rfl)) rfl, memT (tin_2 _ (List.mem_of_getElem? (i := 180) rfl)) rfl, ⟨by decide +kernel, by decide +kernel⟩, by decide +kernel⟩
theorem vX10_who : Cond.instanceMethod yX10_who ∈ tblG := memT (tin_2 _ (List.mem_of_getElem? (i := 178) rfl)) rfl
theorem sX10_who : Cond.selects RX10 yX10_who yX10_who ∈ tblG := memT (tin_2 _ (List.mem_of_getElem? (i := 179) rfl)) rfl
abbrev mX10_strew : MI := (yX10_strew, cX10_strew, 4, (some (.int)))
theorem qX10_strew : Cal mX10_strew 2 := ⟨memT (tin_1 _ (List.mem_of_getElem? (i := 1) rfl)) rfl, memT (tin_2 _ (List.mem_of_getElem? (i := 184) rfl)) rfl, ⟨by decide +kernel, by decide +kernel⟩, by decide +kernel⟩
theorem vX10_strew : Cond.instanceMethod yX10_strew ∈ tblG := memT (tin_2 _ (List.mem_of_getElem? (i := 182) rfl)) rfl
theorem sX10_strew : Cond.selects RX10 yX10_strew yX10_strew ∈ tblG := memT (tin_2 _ (List.mem_of_getElem? (i := 183) rfl)) rfl
abbrev mX10_ask : MI := (yX10_ask, cX10_ask, 5, (some (.int)))
theorem qX10_ask : Cal mX10_ask 3 := ⟨memT (tin_1 _ (List.mem_of_getElem? (i := 1) rfl)) rfl, memT (tin_2 _ (List.mem_of_getElem? (i := 188) rfl)) rfl, ⟨by decide +kernel, by decide +kernel⟩, by decide +kernel⟩
theorem vX10_ask : Cond.instanceMethod yX10_ask ∈ tblG := memT (tin_2 _ (List.mem_of_getElem? (i := 186) rfl)) rfl
theorem sX10_ask : Cond.selects RX10 yX10_ask yX10_ask ∈ tblG := memT (tin_2 _ (List.mem_of_getElem? (i := 187) rfl)) rfl
abbrev mX10_sack : MI := (yX10_sack, cX10_sack, 4, (some (.int)))
theorem qX10_sack : Cal mX10_sack 2 := ⟨memT (tin_1 _ (List.mem_of_getElem? (i := 1) rfl)) rfl, memT (tin_2 _ (List.mem_of_getElem? (i := 198) rfl)) rfl, ⟨by decide +kernel, by decide +kernel⟩, by decide +kernel⟩
theorem vX10_sack : Cond.instanceMethod yX10_sack ∈ tblG := memT (tin_2 _ (List.mem_of_getElem? (i := 196) rfl)) rfl
theorem sX10_sack : Cond.selects RX10 yX10_sack yX10_sack ∈ tblG := memT (tin_2 _ (List.mem_of_getElem? (i := 197) rfl)) rfl
abbrev mX10_sell : MI := (yX10_sell, cX10_sell, 5, (some (.int)))
theorem qX10_sell : Cal mX10_sell 3 := ⟨memT (tin_1 _ (List.mem_of_getElem? (i := 1) rfl)) rfl, memT (tin_2 _ (List.mem_of_getElem? (i := 202) rfl)) rfl, ⟨by decide +kernel, by decide +kernel⟩, by decide +kernel⟩
theorem vX10_sell : Cond.instanceMethod yX10_sell ∈ tblG := memT (tin_2 _ (List.mem_of_getElem? (i := 200) rfl)) rfl
theorem sX10_sell : Cond.selects RX10 yX10_sell yX10_sell ∈ tblG := memT (tin_2 _ (List.mem_of_getElem? (i := 201) rfl)) rfl
abbrev mX10_row : MI := (yX10_row, cX10_row, 5, (some (.int)))
theorem qX10_row : Cal mX10_row 3 := ⟨memT (tin_1 _ (List.mem_of_getElem? (i := 1) rfl)) rfl, memT (tin_2 _ (List.mem_of_getElem? (i := 207) rfl)) rfl, ⟨by decide +kernel, by decide +kernel⟩, by decide +kernel⟩
theorem vX10_row : Cond.instanceMethod yX10_row ∈ tblG := memT (tin_2 _ (List.mem_of_getElem? (i := 205) rfl)) rfl
theorem sX10_row : Cond.selects RX10 yX10_row yX10_row ∈ tblG := memT (tin_2 _ (List.mem_of_getElem? (i := 206) rfl)) rfl
abbrev mX10_feed : MI := (yX10_feed, cX10_feed, 2, (some (.int)))
theorem qX10_feed : Cal mX10_feed 1 := ⟨memT (tin_1 _ (List.mem_of_getElem? (i := 1) rfl)) rfl, memT (tin_2 _ (List.mem_of_getElem? (i := 211) rfl)) rfl, ⟨by decide +kernel, by decide +kernel⟩, by decide +kernel⟩
theorem vX10_feed : Cond.instanceMethod yX10_feed ∈ tblG := memT (tin_2 _ (List.mem_of_getElem? (i := 209) rfl)) rfl
theorem sX10_feed : Cond.selects RX10 yX10_feed yX10_feed ∈ tblG := memT (tin_2 _ (List.mem_of_getElem? (i := 210) rfl)) rfl
abbrev mX10_town : MI := (yX10_town, cX10_town, 1, (some (.int)))
theorem qX10_town : Cal mX10_town 0 := ⟨memT (tin_1 _ (List.mem_of_getElem? (i := 1) rfl)) rfl, memT (tin_2 _ (List.mem_of_getElem? (i := 219) rfl)) rfl, ⟨by decide +kernel, by decide +kernel⟩, by decide +kernel⟩
theorem vX10_town : Cond.instanceMethod yX10_town ∈ tblG := memT (tin_2 _ (List.mem_of_getElem? (i := 217) rfl)) rfl
theorem sX10_town : Cond.selects RX10 yX10_town yX10_town ∈ tblG := memT (tin_2 _ (List.mem_of_getElem? (i := 218) rfl)) rfl
abbrev mX10_dawn : MI := (yX10_dawn, cX10_dawn, 1, (some (.int)))
theorem qX10_dawn : Cal mX10_dawn 0 := ⟨memT (tin_1 _ (List.mem_of_getElem? (i := 1) rfl)) rfl, memT (tin_3 _ (List.mem_of_getElem? (i := 136) rfl)) rfl, ⟨by decide +kernel, by decide +kernel⟩, by decide +kernel⟩
theorem vX10_dawn : Cond.instanceMethod yX10_dawn ∈ tblG := memT (tin_3 _ (List.mem_of_getElem? (i := 134) rfl)) rfl
theorem sX10_dawn : Cond.selects RX10 yX10_dawn yX10_dawn ∈ tblG := memT (tin_3 _ (List.mem_of_getElem? (i := 135) rfl)) rfl
abbrev mX10_visit : MI := (yX10_visit, cX10_visit, 5, (some (.int)))
theorem qX10_visit : Cal mX10_visit 3 := ⟨memT (tin_1 _ (List.mem_of_getElem? (i := 1) rfl)) rfl, memT (tin_3 _ (List.mem_of_getElem? (i := 144) rfl)) rfl, ⟨by decide +kernel, by decide +kernel⟩, by decide +kernel⟩
theorem vX10_visit : Cond.instanceMethod yX10_visit ∈ tblG := memT (tin_3 _ (List.mem_of_getElem? (i := 142) rfl)) rfl
theorem sX10_visit : Cond.selects RX10 yX10_visit yX10_visit ∈ tblG := memT (tin_3 _ (List.mem_of_getElem? (i := 143) rfl)) rfl
abbrev mX10_way : MI := (yX10_way, cX10_way, 2, (some (.int)))
theorem qX10_way : Cal mX10_way 1 := ⟨memT (tin_1 _ (List.mem_of_getElem? (i := 1) rfl)) rfl, memT (tin_3 _ (List.mem_of_getElem? (i := 196) rfl)) rfl, ⟨by decide +kernel, by decide +kernel⟩, by decide +kernel⟩
theorem vX10_way : Cond.instanceMethod yX10_way ∈ tblG := memT (tin_3 _ (List.mem_of_getElem? (i := 194) rfl)) rfl
theorem sX10_way : Cond.selects RX10 yX10_way yX10_way ∈ tblG := memT (tin_3 _ (List.mem_of_getElem? (i := 195) rfl)) rfl
abbrev mX10_goes : MI := (yX10_goes, cX10_goes, 4, (some (.int)))
theorem qX10_goes : Cal mX10_goes 2 := ⟨memT (tin_1 _ (List.mem_of_getElem? (i := 1) rfl)) rfl, memT (tin_3 _ (List.mem_of_getElem? (i := 208) rfl)) rfl, ⟨by decide +kernel, by decide +kernel⟩, by decide +kernel⟩
theorem vX10_goes : Cond.instanceMethod yX10_goes ∈ tblG := memT (tin_3 _ (List.mem_of_getElem? (i := 206) rfl)) rfl
theorem sX10_goes : Cond.selects RX10 yX10_goes yX10_goes ∈ tblG := memT (tin_3 _ (List.mem_of_getElem? (i := 207) rfl)) rfl
abbrev mX10_round : MI := (yX10_round, cX10_round, 7, (some (.int)))
theorem qX10_round : Cal mX10_round 3 := ⟨memT (tin_1 _ (List.mem_of_getElem? (i := 1) rfl)) rfl, memT (tin_3 _ (List.mem_of_getElem? (i := 216) rfl)) rfl, ⟨by decide +kernel, by decide +kernel⟩, by decide +kernel⟩
theorem vX10_round : Cond.instanceMethod yX10_round ∈ tblG := memT (tin_3 _ (List.mem_of_getElem? (i := 214) rfl)) rfl
theorem sX10_round : Cond.selects RX10 yX10_round yX10_round ∈ tblG := memT (tin_3 _ (List.mem_of_getElem? (i := 215) rfl)) rfl
abbrev mX10_keep : MI := (yX10_keep, cX10_keep, 3, (some (.int)))
theorem qX10_keep : Cal mX10_keep 2 := ⟨memT (tin_1 _ (List.mem_of_getElem? (i := 1) rfl)) rfl, memT (tin_4 _ (List.mem_of_getElem? (i := 6) rfl)) rfl, ⟨by decide +kernel, by decide +kernel⟩, by decide +kernel⟩
theorem vX10_keep : Cond.instanceMethod yX10_keep ∈ tblG := memT (tin_4 _ (List.mem_of_getElem? (i := 4) rfl)) rfl
theorem sX10_keep : Cond.selects RX10 yX10_keep yX10_keep ∈ tblG := memT (tin_4 _ (List.mem_of_getElem? (i := 5) rfl)) rfl
abbrev mX10_more : MI := (yX10_more, cX10_more, 4, (some (.int)))
theorem qX10_more : Cal mX10_more 2 := ⟨memT (tin_1 _ (List.mem_of_getElem? (i := 1) rfl)) rfl, memT (tin_4 _ (List.mem_of_getElem? (i := 15) rfl)) rfl, ⟨by decide +kernel, by decide +kernel⟩, by decide +kernel⟩
theorem vX10_more : Cond.instanceMethod yX10_more ∈ tblG := memT (tin_4 _ (List.mem_of_getElem? (i := 13) rfl)) rfl
theorem sX10_more : Cond.selects RX10 yX10_more yX10_more ∈ tblG := memT (tin_4 _ (List.mem_of_getElem? (i := 14) rfl)) rfl
abbrev mX10_share : MI := (yX10_share, cX10_share, 8, (some (.int)))
theorem qX10_share : Cal mX10_share 4 := ⟨memT (tin_1 _ (List.mem_of_getElem? (i := 1) rfl)) rfl, memT (tin_4 _ (List.mem_of_getElem? (i := 32) rfl)) rfl, ⟨by decide +kernel, by decide +kernel⟩, by decide +kernel⟩
theorem vX10_share : Cond.instanceMethod yX10_share ∈ tblG := memT (tin_4 _ (List.mem_of_getElem? (i := 30) rfl)) rfl
theorem sX10_share : Cond.selects RX10 yX10_share yX10_share ∈ tblG := memT (tin_4 _ (List.mem_of_getElem? (i := 31) rfl)) rfl
abbrev mX10_watch : MI := (yX10_watch, cX10_watch, 3, (some (.int)))
theorem qX10_watch : Cal mX10_watch 2 := ⟨memT (tin_1 _ (List.mem_of_getElem? (i := 1) rfl)) rfl, memT (tin_4 _ (List.mem_of_getElem? (i := 53) rfl)) rfl, ⟨by decide +kernel, by decide +kernel⟩, by decide +kernel⟩
theorem vX10_watch : Cond.instanceMethod yX10_watch ∈ tblG := memT (tin_4 _ (List.mem_of_getElem? (i := 51) rfl)) rfl
theorem sX10_watch : Cond.selects RX10 yX10_watch yX10_watch ∈ tblG := memT (tin_4 _ (List.mem_of_getElem? (i := 52) rfl)) rfl
abbrev mX10_suspects : MI := (yX10_suspects, cX10_suspects, 1, (some (.int)))
theorem qX10_suspects : Cal mX10_suspects 0 := ⟨memT (tin_1 _ (List.mem_of_getElem? (i := 1) rfl)) rfl, memT (tin_4 _ (List.mem_of_getElem? (i := 57) rfl)) rfl, ⟨by decide +kernel, by decide +kernel⟩, by decide +kernel⟩
theorem vX10_suspects : Cond.instanceMethod yX10_suspects ∈ tblG := memT (tin_4 _ (List.mem_of_getElem? (i := 55) rfl)) rfl
theorem sX10_suspects : Cond.selects RX10 yX10_suspects yX10_suspects ∈ tblG := memT (tin_4 _ (List.mem_of_getElem? (i := 56) rfl)) rfl
abbrev mX10_next : MI := (yX10_next, cX10_next, 1, (some (.int)))
theorem qX10_next : Cal mX10_next 0 := ⟨memT (tin_1 _ (List.mem_of_getElem? (i := 1) rfl)) rfl, memT (tin_4 _ (List.mem_of_getElem? (i := 66) rfl)) rfl, ⟨by decide +kernel, by decide +kernel⟩, by decide +kernel⟩
theorem vX10_next : Cond.instanceMethod yX10_next ∈ tblG := memT (tin_4 _ (List.mem_of_getElem? (i := 64) rfl)) rfl
theorem sX10_next : Cond.selects RX10 yX10_next yX10_next ∈ tblG := memT (tin_4 _ (List.mem_of_getElem? (i := 65) rfl)) rfl
abbrev mX10_when : MI := (yX10_when, cX10_when, 3, (some (.int)))
theorem qX10_when : Cal mX10_when 2 := ⟨memT (tin_1 _ (List.mem_of_getElem? (i := 1) rfl)) rfl, memT (tin_4 _ (List.mem_of_getElem? (i := 80) rfl)) rfl, ⟨by decide +kernel, by decide +kernel⟩, by decide +kernel⟩
theorem vX10_when : Cond.instanceMethod yX10_when ∈ tblG := memT (tin_4 _ (List.mem_of_getElem? (i := 78) rfl)) rfl
theorem sX10_when : Cond.selects RX10 yX10_when yX10_when ∈ tblG := memT (tin_4 _ (List.mem_of_getElem? (i := 79) rfl)) rfl
abbrev mX10_odds : MI := (yX10_odds, cX10_odds, 4, (some (.long)))
theorem qX10_odds : Cal mX10_odds 3 := ⟨memT (tin_1 _ (List.mem_of_getElem? (i := 1) rfl)) rfl, memT (tin_4 _ (List.mem_of_getElem? (i := 88) rfl)) rfl, ⟨by decide +kernel, by decide +kernel⟩, by decide +kernel⟩
theorem vX10_odds : Cond.instanceMethod yX10_odds ∈ tblG := memT (tin_4 _ (List.mem_of_getElem? (i := 86) rfl)) rfl
theorem sX10_odds : Cond.selects RX10 yX10_odds yX10_odds ∈ tblG := memT (tin_4 _ (List.mem_of_getElem? (i := 87) rfl)) rfl
abbrev mX10_mean : MI := (yX10_mean, cX10_mean, 3, (some (.long)))
theorem qX10_mean : Cal mX10_mean 2 := ⟨memT (tin_1 _ (List.mem_of_getElem? (i := 1) rfl)) rfl, memT (tin_4 _ (List.mem_of_getElem? (i := 101) rfl)) rfl, ⟨by decide +kernel, by decide +kernel⟩, by decide +kernel⟩
theorem vX10_mean : Cond.instanceMethod yX10_mean ∈ tblG := memT (tin_4 _ (List.mem_of_getElem? (i := 99) rfl)) rfl
theorem sX10_mean : Cond.selects RX10 yX10_mean yX10_mean ∈ tblG := memT (tin_4 _ (List.mem_of_getElem? (i := 100) rfl)) rfl
abbrev mX10_book : MI := (yX10_book, cX10_book, 3, (some (.int)))
theorem qX10_book : Cal mX10_book 2 := ⟨memT (tin_1 _ (List.mem_of_getElem? (i := 1) rfl)) rfl, memT (tin_4 _ (List.mem_of_getElem? (i := 109) rfl)) rfl, ⟨by decide +kernel, by decide +kernel⟩, by decide +kernel⟩
theorem vX10_book : Cond.instanceMethod yX10_book ∈ tblG := memT (tin_4 _ (List.mem_of_getElem? (i := 107) rfl)) rfl
theorem sX10_book : Cond.selects RX10 yX10_book yX10_book ∈ tblG := memT (tin_4 _ (List.mem_of_getElem? (i := 108) rfl)) rfl
abbrev mX10_looked : MI := (yX10_looked, cX10_looked, 1, (some (.int)))
theorem qX10_looked : Cal mX10_looked 0 := ⟨memT (tin_1 _ (List.mem_of_getElem? (i := 1) rfl)) rfl, memT (tin_4 _ (List.mem_of_getElem? (i := 113) rfl)) rfl, ⟨by decide +kernel, by decide +kernel⟩, by decide +kernel⟩
theorem vX10_looked : Cond.instanceMethod yX10_looked ∈ tblG := memT (tin_4 _ (List.mem_of_getElem? (i := 111) rfl)) rfl
theorem sX10_looked : Cond.selects RX10 yX10_looked yX10_looked ∈ tblG := memT (tin_4 _ (List.mem_of_getElem? (i := 112) rfl)) rfl
abbrev mX10_judge : MI := (yX10_judge, cX10_judge, 4, (some (.int)))
theorem qX10_judge : Cal mX10_judge 2 := ⟨memT (tin_1 _ (List.mem_of_getElem? (i := 1) rfl)) rfl, memT (tin_4 _ (List.mem_of_getElem? (i := 121) rfl)) rfl, ⟨by decide +kernel, by decide +kernel⟩, by decide +kernel⟩
theorem vX10_judge : Cond.instanceMethod yX10_judge ∈ tblG := memT (tin_4 _ (List.mem_of_getElem? (i := 119) rfl)) rfl
theorem sX10_judge : Cond.selects RX10 yX10_judge yX10_judge ∈ tblG := memT (tin_4 _ (List.mem_of_getElem? (i := 120) rfl)) rfl
abbrev mX10_image : MI := (yX10_image, cX10_image, 1, (some (.int)))
theorem qX10_image : Cal mX10_image 0 := ⟨memT (tin_1 _ (List.mem_of_getElem? (i := 1) rfl)) rfl, memT (tin_4 _ (List.mem_of_getElem? (i := 125) rfl)) rfl, ⟨by decide +kernel, by decide +kernel⟩, by decide +kernel⟩
theorem vX10_image : Cond.instanceMethod yX10_image ∈ tblG := memT (tin_4 _ (List.mem_of_getElem? (i := 123) rfl)) rfl
theorem sX10_image : Cond.selects RX10 yX10_image yX10_image ∈ tblG := memT (tin_4 _ (List.mem_of_getElem? (i := 124) rfl)) rfl
abbrev mX10_undo : MI := (yX10_undo, cX10_undo, 1, (some (.int)))
theorem qX10_undo : Cal mX10_undo 0 := ⟨memT (tin_1 _ (List.mem_of_getElem? (i := 1) rfl)) rfl, memT (tin_4 _ (List.mem_of_getElem? (i := 140) rfl)) rfl, ⟨by decide +kernel, by decide +kernel⟩, by decide +kernel⟩
theorem vX10_undo : Cond.instanceMethod yX10_undo ∈ tblG := memT (tin_4 _ (List.mem_of_getElem? (i := 138) rfl)) rfl
theorem sX10_undo : Cond.selects RX10 yX10_undo yX10_undo ∈ tblG := memT (tin_4 _ (List.mem_of_getElem? (i := 139) rfl)) rfl
abbrev mX10_act : MI := (yX10_act, cX10_act, 4, (some (.int)))
theorem qX10_act : Cal mX10_act 3 := ⟨memT (tin_1 _ (List.mem_of_getElem? (i := 1) rfl)) rfl, memT (tin_4 _ (List.mem_of_getElem? (i := 144) rfl)) rfl, ⟨by decide +kernel, by decide +kernel⟩, by decide +kernel⟩
theorem vX10_act : Cond.instanceMethod yX10_act ∈ tblG := memT (tin_4 _ (List.mem_of_getElem? (i := 142) rfl)) rfl
theorem sX10_act : Cond.selects RX10 yX10_act yX10_act ∈ tblG := memT (tin_4 _ (List.mem_of_getElem? (i := 143) rfl)) rfl
abbrev mX10_trace : MI := (yX10_trace, cX10_trace, 2, (some (.int)))
theorem qX10_trace : Cal mX10_trace 1 := ⟨memT (tin_1 _ (List.mem_of_getElem? (i := 1) rfl)) rfl, memT (tin_4 _ (List.mem_of_getElem? (i := 173) rfl)) rfl, ⟨by decide +kernel, by decide +kernel⟩, by decide +kernel⟩
theorem vX10_trace : Cond.instanceMethod yX10_trace ∈ tblG := memT (tin_4 _ (List.mem_of_getElem? (i := 171) rfl)) rfl
theorem sX10_trace : Cond.selects RX10 yX10_trace yX10_trace ∈ tblG := memT (tin_4 _ (List.mem_of_getElem? (i := 172) rfl)) rfl
abbrev mX10_taken : MI := (yX10_taken, cX10_taken, 4, (some (.int)))
theorem qX10_taken : Cal mX10_taken 2 := ⟨memT (tin_1 _ (List.mem_of_getElem? (i := 1) rfl)) rfl, memT (tin_4 _ (List.mem_of_getElem? (i := 182) rfl)) rfl, ⟨by decide +kernel, by decide +kernel⟩, by decide +kernel⟩
theorem vX10_taken : Cond.instanceMethod yX10_taken ∈ tblG := memT (tin_4 _ (List.mem_of_getElem? (i := 180) rfl)) rfl
theorem sX10_taken : Cond.selects RX10 yX10_taken yX10_taken ∈ tblG := memT (tin_4 _ (List.mem_of_getElem? (i := 181) rfl)) rfl
abbrev mX10_count : MI := (yX10_count, cX10_count, 2, (some (.int)))
theorem qX10_count : Cal mX10_count 1 := ⟨memT (tin_1 _ (List.mem_of_getElem? (i := 1) rfl)) rfl, memT (tin_4 _ (List.mem_of_getElem? (i := 190) rfl)) rfl, ⟨by decide +kernel, by decide +kernel⟩, by decide +kernel⟩
theorem vX10_count : Cond.instanceMethod yX10_count ∈ tblG := memT (tin_4 _ (List.mem_of_getElem? (i := 188) rfl)) rfl
theorem sX10_count : Cond.selects RX10 yX10_count yX10_count ∈ tblG := memT (tin_4 _ (List.mem_of_getElem? (i := 189) rfl)) rfl
abbrev mX10_tape : MI := (yX10_tape, cX10_tape, 4, (some (.int)))
theorem qX10_tape : Cal mX10_tape 3 := ⟨memT (tin_1 _ (List.mem_of_getElem? (i := 1) rfl)) rfl, memT (tin_4 _ (List.mem_of_getElem? (i := 194) rfl)) rfl, ⟨by decide +kernel, by decide +kernel⟩, by decide +kernel⟩
theorem vX10_tape : Cond.instanceMethod yX10_tape ∈ tblG := memT (tin_4 _ (List.mem_of_getElem? (i := 192) rfl)) rfl
theorem sX10_tape : Cond.selects RX10 yX10_tape yX10_tape ∈ tblG := memT (tin_4 _ (List.mem_of_getElem? (i := 193) rfl)) rfl
abbrev mX10_item : MI := (yX10_item, cX10_item, 5, (some (.int)))
theorem qX10_item : Cal mX10_item 3 := ⟨memT (tin_1 _ (List.mem_of_getElem? (i := 1) rfl)) rfl, memT (tin_4 _ (List.mem_of_getElem? (i := 205) rfl)) rfl, ⟨by decide +kernel, by decide +kernel⟩, by decide +kernel⟩
theorem vX10_item : Cond.instanceMethod yX10_item ∈ tblG := memT (tin_4 _ (List.mem_of_getElem? (i := 203) rfl)) rfl
theorem sX10_item : Cond.selects RX10 yX10_item yX10_item ∈ tblG := memT (tin_4 _ (List.mem_of_getElem? (i := 204) rfl)) rfl
abbrev mX10_read : MI := (yX10_read, cX10_read, 3, (some (.long)))
theorem qX10_read : Cal mX10_read 2 := ⟨memT (tin_1 _ (List.mem_of_getElem? (i := 1) rfl)) rfl, memT (tin_4 _ (List.mem_of_getElem? (i := 212) rfl)) rfl, ⟨by decide +kernel, by decide +kernel⟩, by decide +kernel⟩
theorem vX10_read : Cond.instanceMethod yX10_read ∈ tblG := memT (tin_4 _ (List.mem_of_getElem? (i := 210) rfl)) rfl
theorem sX10_read : Cond.selects RX10 yX10_read yX10_read ∈ tblG := memT (tin_4 _ (List.mem_of_getElem? (i := 211) rfl)) rfl
abbrev mX10_shift : MI := (yX10_shift, cX10_shift, 6, (some (.int)))
theorem qX10_shift : Cal mX10_shift 5 := ⟨memT (tin_1 _ (List.mem_of_getElem? (i := 1) rfl)) rfl, memT (tin_4 _ (List.mem_of_getElem? (i := 216) rfl)) rfl, ⟨by decide +kernel, by decide +kernel⟩, by decide +kernel⟩
theorem vX10_shift : Cond.instanceMethod yX10_shift ∈ tblG := memT (tin_4 _ (List.mem_of_getElem? (i := 214) rfl)) rfl
theorem sX10_shift : Cond.selects RX10 yX10_shift yX10_shift ∈ tblG := memT (tin_4 _ (List.mem_of_getElem? (i := 215) rfl)) rfl
abbrev mX10_paceAt : MI := (yX10_paceAt, cX10_paceAt, 3, (some (.int)))
theorem qX10_paceAt : Cal mX10_paceAt 2 := ⟨memT (tin_1 _ (List.mem_of_getElem? (i := 1) rfl)) rfl, memT (tin_2 _ (List.mem_of_getElem? (i := 163) rfl)) rfl, ⟨by decide +kernel, by decide +kernel⟩, by decide +kernel⟩
theorem vX10_paceAt : Cond.instanceMethod yX10_paceAt ∈ tblG := memT (tin_2 _ (List.mem_of_getElem? (i := 162) rfl)) rfl
theorem sX10_paceAt : Cond.selects RX10 yX10_paceAt yX10_paceAt ∈ tblG := memT (List.mem_append_left _ (List.mem_of_getElem? (i := 0) rfl)) rfl
abbrev mX10_isUpTo : MI := (yX10_isUpTo, cX10_isUpTo, 2, (some (.boolean)))
theorem qX10_isUpTo : Cal mX10_isUpTo 2 := ⟨memT (tin_1 _ (List.mem_of_getElem? (i := 1) rfl)) rfl, memT (tin_2 _ (List.mem_of_getElem? (i := 135) rfl)) rfl, ⟨by decide +kernel, by decide +kernel⟩, by decide +kernel⟩
theorem vX10_isUpTo : Cond.static yX10_isUpTo ∈ tblG := memT (tin_2 _ (List.mem_of_getElem? (i := 134) rfl)) rfl
abbrev mX10_bit : MI := (yX10_bit, cX10_bit, 2, (some (.int)))
theorem qX10_bit : Cal mX10_bit 2 := ⟨memT (tin_1 _ (List.mem_of_getElem? (i := 1) rfl)) rfl, memT (tin_2 _ (List.mem_of_getElem? (i := 191) rfl)) rfl, ⟨by decide +kernel, by decide +kernel⟩, by decide +kernel⟩
theorem vX10_bit : Cond.static yX10_bit ∈ tblG := memT (tin_2 _ (List.mem_of_getElem? (i := 190) rfl)) rfl
abbrev mX10_withBit : MI := (yX10_withBit, cX10_withBit, 3, (some (.int)))
theorem qX10_withBit : Cal mX10_withBit 3 := ⟨memT (tin_1 _ (List.mem_of_getElem? (i := 1) rfl)) rfl, memT (tin_2 _ (List.mem_of_getElem? (i := 194) rfl)) rfl, ⟨by decide +kernel, by decide +kernel⟩, by decide +kernel⟩
theorem vX10_withBit : Cond.static yX10_withBit ∈ tblG := memT (tin_2 _ (List.mem_of_getElem? (i := 193) rfl)) rfl
abbrev mX10_isUnder : MI := (yX10_isUnder, cX10_isUnder, 4, (some (.boolean)))
theorem qX10_isUnder : Cal mX10_isUnder 2 := ⟨memT (tin_1 _ (List.mem_of_getElem? (i := 1) rfl)) rfl, memT (tin_4 _ (List.mem_of_getElem? (i := 185) rfl)) rfl, ⟨by decide +kernel, by decide +kernel⟩, by decide +kernel⟩
theorem vX10_isUnder : Cond.static yX10_isUnder ∈ tblG := memT (tin_4 _ (List.mem_of_getElem? (i := 184) rfl)) rfl
abbrev mX10_roundedUp : MI := (yX10_roundedUp, cX10_roundedUp, 2, (some (.int)))
theorem qX10_roundedUp : Cal mX10_roundedUp 2 := ⟨memT (tin_1 _ (List.mem_of_getElem? (i := 1) rfl)) rfl, memT (tin_3 _ (List.mem_of_getElem? (i := 156) rfl)) rfl, ⟨by decide +kernel, by decide +kernel⟩, by decide +kernel⟩
theorem vX10_roundedUp : Cond.static yX10_roundedUp ∈ tblG := memT (tin_3 _ (List.mem_of_getElem? (i := 155) rfl)) rfl
abbrev mX10_sideOfFraction : MI := (yX10_sideOfFraction, cX10_sideOfFraction, 12, (some (.long)))
theorem qX10_sideOfFraction : Cal mX10_sideOfFraction 3 := ⟨memT (tin_1 _ (List.mem_of_getElem? (i := 1) rfl)) rfl, memT (tin_4 _ (List.mem_of_getElem? (i := 97) rfl)) rfl, ⟨by decide +kernel, by decide +kernel⟩, by decide +kernel⟩
theorem vX10_sideOfFraction : Cond.static yX10_sideOfFraction ∈ tblG := memT (tin_4 _ (List.mem_of_getElem? (i := 96) rfl)) rfl
abbrev mX11_init : MI := (yX11_init, cX11_init, 1, none)
theorem qX11_init : Cal mX11_init 0 := ⟨memT (tin_1 _ (List.mem_of_getElem? (i := 12) rfl)) rfl, memT (tin_4 _ (List.mem_of_getElem? (i := 222) rfl)) rfl, ⟨by decide +kernel, by decide +kernel⟩, by decide +kernel⟩
theorem vX11_init : Cond.instanceMethod yX11_init ∈ tblG := memT (tin_4 _ (List.mem_of_getElem? (i := 221) rfl)) rfl
abbrev mX11_in : MI := (yX11_in, cX11_in, 4, (some (.boolean)))
theorem qX11_in : Cal mX11_in 3 := ⟨memT (tin_1 _ (List.mem_of_getElem? (i := 12) rfl)) rfl, memT (tin_5 _ (List.mem_of_getElem? (i := 203) rfl)) rfl, ⟨by decide +kernel, by decide +kernel⟩, by decide +kernel⟩
theorem vX11_in : Cond.instanceMethod yX11_in ∈ tblG := memT (tin_5 _ (List.mem_of_getElem? (i := 202) rfl)) rfl
theorem sX11_in : Cond.selects RX11 yX11_in yX11_in ∈ tblG := memT (List.mem_append_left _ (List.mem_of_getElem? (i := 21) rfl)) rfl
abbrev mX11_has : MI := (yX11_has, cX11_has, 3, (some (.boolean)))
theorem qX11_has : Cal mX11_has 2 := ⟨memT (tin_1 _ (List.mem_of_getElem? (i := 12) rfl)) rfl, memT (tin_6 _ (List.mem_of_getElem? (i := 127) rfl)) rfl, ⟨by decide +kernel, by decide +kernel⟩, by decide +kernel⟩
theorem vX11_has : Cond.instanceMethod yX11_has ∈ tblG := memT (tin_6 _ (List.mem_of_getElem? (i := 126) rfl)) rfl
theorem sX11_has : Cond.selects RX11 yX11_has yX11_has ∈ tblG := memT (List.mem_append_left _ (List.mem_of_getElem? (i := 50) rfl)) rfl
abbrev mX11_ones : MI := (yX11_ones, cX11_ones, 4, (some (.int)))
theorem qX11_ones : Cal mX11_ones 1 := ⟨memT (tin_1 _ (List.mem_of_getElem? (i := 12) rfl)) rfl, memT (tin_6 _ (List.mem_of_getElem? (i := 144) rfl)) rfl, ⟨by decide +kernel, by decide +kernel⟩, by decide +kernel⟩
theorem vX11_ones : Cond.instanceMethod yX11_ones ∈ tblG := memT (tin_6 _ (List.mem_of_getElem? (i := 143) rfl)) rfl
theorem sX11_ones : Cond.selects RX11 yX11_ones yX11_ones ∈ tblG := memT (List.mem_append_left _ (List.mem_of_getElem? (i := 54) rfl)) rfl
abbrev mX11_isHouse : MI := (yX11_isHouse, cX11_isHouse, 2, (some (.boolean)))
theorem qX11_isHouse : Cal mX11_isHouse 1 := ⟨memT (tin_1 _ (List.mem_of_getElem? (i := 12) rfl)) rfl, memT (tin_5 _ (List.mem_of_getElem? (i := 215) rfl)) rfl, ⟨by decide +kernel, by decide +kernel⟩, by decide +kernel⟩
theorem vX11_isHouse : Cond.instanceMethod yX11_isHouse ∈ tblG := memT (tin_5 _ (List.mem_of_getElem? (i := 214) rfl)) rfl
theorem sX11_isHouse : Cond.selects RX11 yX11_isHouse yX11_isHouse ∈ tblG := memT (List.mem_append_left _ (List.mem_of_getElem? (i := 23) rfl)) rfl
abbrev mX11_isFolk : MI := (yX11_isFolk, cX11_isFolk, 2, (some (.boolean)))
theorem qX11_isFolk : Cal mX11_isFolk 1 := ⟨memT (tin_1 _ (List.mem_of_getElem? (i := 12) rfl)) rfl, memT (tin_5 _ (List.mem_of_getElem? (i := 223) rfl)) rfl, ⟨by decide +kernel, by decide +kernel⟩, by decide +kernel⟩
theorem vX11_isFolk : Cond.instanceMethod yX11_isFolk ∈ tblG := memT (tin_5 _ (List.mem_of_getElem? (i := 222) rfl)) rfl
theorem sX11_isFolk : Cond.selects RX11 yX11_isFolk yX11_isFolk ∈ tblG := memT (List.mem_append_left _ (List.mem_of_getElem? (i := 24) rfl)) rfl
abbrev mX11_becomes : MI := (yX11_becomes, cX11_becomes, 5, none)
theorem qX11_becomes : Cal mX11_becomes 3 := ⟨memT (tin_1 _ (List.mem_of_getElem? (i := 12) rfl)) rfl, memT (tin_5 _ (List.mem_of_getElem? (i := 207) rfl)) rfl, ⟨by decide +kernel, by decide +kernel⟩, by decide +kernel⟩
theorem vX11_becomes : Cond.instanceMethod yX11_becomes ∈ tblG := memT (tin_5 _ (List.mem_of_getElem? (i := 206) rfl)) rfl
theorem sX11_becomes : Cond.selects RX11 yX11_becomes yX11_becomes ∈ tblG := memT (List.mem_append_left _ (List.mem_of_getElem? (i := 22) rfl)) rfl
abbrev mX11_house : MI := (yX11_house, cX11_house, 4, (some (.int)))
theorem qX11_house : Cal mX11_house 3 := ⟨memT (tin_1 _ (List.mem_of_getElem? (i := 12) rfl)) rfl, memT (tin_5 _ (List.mem_of_getElem? (i := 199) rfl)) rfl, ⟨by decide +kernel, by decide +kernel⟩, by decide +kernel⟩
theorem vX11_house : Cond.instanceMethod yX11_house ∈ tblG := memT (tin_5 _ (List.mem_of_getElem? (i := 197) rfl)) rfl
theorem sX11_house : Cond.selects RX11 yX11_house yX11_house ∈ tblG := memT (tin_5 _ (List.mem_of_getElem? (i := 198) rfl)) rfl
abbrev mX11_folk : MI := (yX11_folk, cX11_folk, 4, (some (.int)))
theorem qX11_folk : Cal mX11_folk 3 := ⟨memT (tin_1 _ (List.mem_of_getElem? (i := 12) rfl)) rfl, memT (tin_5 _ (List.mem_of_getElem? (i := 211) rfl)) rfl, ⟨by decide +kernel, by decide +kernel⟩, by decide +kernel⟩
theorem vX11_folk : Cond.instanceMethod yX11_folk ∈ tblG := memT (tin_5 _ (List.mem_of_getElem? (i := 209) rfl)) rfl
theorem sX11_folk : Cond.selects RX11 yX11_folk yX11_folk ∈ tblG := memT (tin_5 _ (List.mem_of_getElem? (i := 210) rfl)) rfl
abbrev mX11_who : MI := (yX11_who, cX11_who, 3, (some (.int)))
theorem qX11_who : Cal mX11_who 2 := ⟨memT (tin_1 _ (List.mem_of_getElem? (i := 12) rfl)) rfl, memT (tin_5 _ (List.mem_of_getElem? (i := 219) rfl)) rfl, ⟨by decide +kernel, by decide +kernel⟩, by decide +kernel⟩
theorem vX11_who : Cond.instanceMethod yX11_who ∈ tblG := memT (tin_5 _ (List.mem_of_getElem? (i := 217) rfl)) rfl
theorem sX11_who : Cond.selects RX11 yX11_who yX11_who ∈ tblG := memT (tin_5 _ (List.mem_of_getElem? (i := 218) rfl)) rfl
abbrev mX11_strew : MI := (yX11_strew, cX11_strew, 4, (some (.int)))
theorem qX11_strew : Cal mX11_strew 2 := ⟨memT (tin_1 _ (List.mem_of_getElem? (i := 12) rfl)) rfl, memT (tin_5 _ (List.mem_of_getElem? (i := 227) rfl)) rfl, ⟨by decide +kernel, by decide +kernel⟩, by decide +kernel⟩
theorem vX11_strew : Cond.instanceMethod yX11_strew ∈ tblG := memT (tin_5 _ (List.mem_of_getElem? (i := 225) rfl)) rfl
theorem sX11_strew : Cond.selects RX11 yX11_strew yX11_strew ∈ tblG := memT (tin_5 _ (List.mem_of_getElem? (i := 226) rfl)) rfl
abbrev mX11_ask : MI := (yX11_ask, cX11_ask, 5, (some (.int)))
theorem qX11_ask : Cal mX11_ask 3 := ⟨memT (tin_1 _ (List.mem_of_getElem? (i := 12) rfl)) rfl, memT (tin_5 _ (List.mem_of_getElem? (i := 231) rfl)) rfl, ⟨by decide +kernel, by decide +kernel⟩, by decide +kernel⟩
theorem vX11_ask : Cond.instanceMethod yX11_ask ∈ tblG := memT (tin_5 _ (List.mem_of_getElem? (i := 229) rfl)) rfl
theorem sX11_ask : Cond.selects RX11 yX11_ask yX11_ask ∈ tblG := memT (tin_5 _ (List.mem_of_getElem? (i := 230) rfl)) rfl
abbrev mX11_sack : MI := (yX11_sack, cX11_sack, 4, (some (.int)))
theorem qX11_sack : Cal mX11_sack 2 := ⟨memT (tin_1 _ (List.mem_of_getElem? (i := 12) rfl)) rfl, memT (tin_5 _ (List.mem_of_getElem? (i := 235) rfl)) rfl, ⟨by decide +kernel, by decide +kernel⟩, by decide +kernel⟩
theorem vX11_sack : Cond.instanceMethod yX11_sack ∈ tblG := memT (tin_5 _ (List.mem_of_getElem? (i := 233) rfl)) rfl
theorem sX11_sack : Cond.selects RX11 yX11_sack yX11_sack ∈ tblG := memT (tin_5 _ (List.mem_of_getElem? (i := 234) rfl)) rfl
abbrev mX11_sell : MI := (yX11_sell, cX11_sell, 5, (some (.int)))
theorem qX11_sell : Cal mX11_sell 3 := ⟨memT (tin_1 _ (List.mem_of_getElem? (i := 12) rfl)) rfl, memT (tin_5 _ (List.mem_of_getElem? (i := 239) rfl)) rfl, ⟨by decide +kernel, by decide +kernel⟩, by decide +kernel⟩
theorem vX11_sell : Cond.instanceMethod yX11_sell ∈ tblG := memT (tin_5 _ (List.mem_of_getElem? (i := 237) rfl)) rfl
theorem sX11_sell : Cond.selects RX11 yX11_sell yX11_sell ∈ tblG := memT (tin_5 _ (List.mem_of_getElem? (i := 238) rfl)) rfl
abbrev mX11_row : MI := (yX11_row, cX11_row, 5, (some (.int)))
theorem qX11_row : Cal mX11_row 3 := ⟨memT (tin_1 _ (List.mem_of_getElem? (i := 12) rfl)) rfl, memT (tin_6 _ (List.mem_of_getElem? (i := 3) rfl)) rfl, ⟨by decide +kernel, by decide +kernel⟩, by decide +kernel⟩
theorem vX11_row : Cond.instanceMethod yX11_row ∈ tblG := memT (tin_6 _ (List.mem_of_getElem? (i := 1) rfl)) rfl
theorem sX11_row : Cond.selects RX11 yX11_row yX11_row ∈ tblG := memT (tin_6 _ (List.mem_of_getElem? (i := 2) rfl)) rfl
abbrev mX11_feed : MI := (yX11_feed, cX11_feed, 2, (some (.int)))
theorem qX11_feed : Cal mX11_feed 1 := ⟨memT (tin_1 _ (List.mem_of_getElem? (i := 12) rfl)) rfl, memT (tin_6 _ (List.mem_of_getElem? (i := 7) rfl)) rfl, ⟨by decide +kernel, by decide +kernel⟩, by decide +kernel⟩
theorem vX11_feed : Cond.instanceMethod yX11_feed ∈ tblG := memT (tin_6 _ (List.mem_of_getElem? (i := 5) rfl)) rfl
theorem sX11_feed : Cond.selects RX11 yX11_feed yX11_feed ∈ tblG := memT (tin_6 _ (List.mem_of_getElem? (i := 6) rfl)) rfl
abbrev mX11_peek : MI := (yX11_peek, cX11_peek, 1, (some (.int)))
theorem qX11_peek : Cal mX11_peek 0 := ⟨memT (tin_1 _ (List.mem_of_getElem? (i := 12) rfl)) rfl, memT (tin_6 _ (List.mem_of_getElem? (i := 27) rfl)) rfl, ⟨by decide +kernel, by decide +kernel⟩, by decide +kernel⟩
theorem vX11_peek : Cond.instanceMethod yX11_peek ∈ tblG := memT (tin_6 _ (List.mem_of_getElem? (i := 26) rfl)) rfl
theorem sX11_peek : Cond.selects RX11 yX11_peek yX11_peek ∈ tblG := memT (List.mem_append_left _ (List.mem_of_getElem? (i := 28) rfl)) rfl
abbrev mX11_takes : MI := (yX11_takes, cX11_takes, 2, (some (.boolean)))
theorem qX11_takes : Cal mX11_takes 1 := ⟨memT (tin_1 _ (List.mem_of_getElem? (i := 12) rfl)) rfl, memT (tin_6 _ (List.mem_of_getElem? (i := 35) rfl)) rfl, ⟨by decide +kernel, by decide +kernel⟩, by decide +kernel⟩
theorem vX11_takes : Cond.instanceMethod yX11_takes ∈ tblG := memT (tin_6 _ (List.mem_of_getElem? (i := 34) rfl)) rfl
theorem sX11_takes : Cond.selects RX11 yX11_takes yX11_takes ∈ tblG := memT (List.mem_append_left _ (List.mem_of_getElem? (i := 30) rfl)) rfl
abbrev mX11_takesWord : MI := (yX11_takesWord, cX11_takesWord, 4, (some (.boolean)))
theorem qX11_takesWord : Cal mX11_takesWord 2 := ⟨memT (tin_1 _ (List.mem_of_getElem? (i := 12) rfl)) rfl, memT (tin_6 _ (List.mem_of_getElem? (i := 31) rfl)) rfl, ⟨by decide +kernel, by decide +kernel⟩, by decide +kernel⟩
theorem vX11_takesWord : Cond.instanceMethod yX11_takesWord ∈ tblG := memT (tin_6 _ (List.mem_of_getElem? (i := 30) rfl)) rfl
theorem sX11_takesWord : Cond.selects RX11 yX11_takesWord yX11_takesWord ∈ tblG := memT (List.mem_append_left _ (List.mem_of_getElem? (i := 29) rfl)) rfl
abbrev mX11_isDigit : MI := (yX11_isDigit, cX11_isDigit, 1, (some (.boolean)))
theorem qX11_isDigit : Cal mX11_isDigit 0 := ⟨memT (tin_1 _ (List.mem_of_getElem? (i := 12) rfl)) rfl, memT (tin_6 _ (List.mem_of_getElem? (i := 43) rfl)) rfl, ⟨by decide +kernel, by decide +kernel⟩, by decide +kernel⟩
theorem vX11_isDigit : Cond.instanceMethod yX11_isDigit ∈ tblG := memT (tin_6 _ (List.mem_of_getElem? (i := 42) rfl)) rfl
theorem sX11_isDigit : Cond.selects RX11 yX11_isDigit yX11_isDigit ∈ tblG := memT (List.mem_append_left _ (List.mem_of_getElem? (i := 32) rfl)) rfl
abbrev mX11_takesNumber : MI := (yX11_takesNumber, cX11_takesNumber, 2, (some (.boolean)))
theorem qX11_takesNumber : Cal mX11_takesNumber 0 := ⟨memT (tin_1 _ (List.mem_of_getElem? (i := 12) rfl)) rfl, memT (tin_6 _ (List.mem_of_getElem? (i := 39) rfl)) rfl, ⟨by decide +kernel, by decide +kernel⟩, by decide +kernel⟩
theorem vX11_takesNumber : Cond.instanceMethod yX11_takesNumber ∈ tblG := memT (tin_6 _ (List.mem_of_getElem? (i := 38) rfl)) rfl
theorem sX11_takesNumber : Cond.selects RX11 yX11_takesNumber yX11_takesNumber ∈ tblG := memT (List.mem_append_left _ (List.mem_of_getElem? (i := 31) rfl)) rfl
abbrev mX11_emits : MI := (yX11_emits, cX11_emits, 2, none)
theorem qX11_emits : Cal mX11_emits 1 := ⟨memT (tin_1 _ (List.mem_of_getElem? (i := 12) rfl)) rfl, memT (tin_6 _ (List.mem_of_getElem? (i := 59) rfl)) rfl, ⟨by decide +kernel, by decide +kernel⟩, by decide +kernel⟩
theorem vX11_emits : Cond.instanceMethod yX11_emits ∈ tblG := memT (tin_6 _ (List.mem_of_getElem? (i := 58) rfl)) rfl
theorem sX11_emits : Cond.selects RX11 yX11_emits yX11_emits ∈ tblG := memT (List.mem_append_left _ (List.mem_of_getElem? (i := 36) rfl)) rfl
abbrev mX11_whole : MI := (yX11_whole, cX11_whole, 1, none)
theorem qX11_whole : Cal mX11_whole 0 := ⟨memT (tin_1 _ (List.mem_of_getElem? (i := 12) rfl)) rfl, memT (tin_6 _ (List.mem_of_getElem? (i := 63) rfl)) rfl, ⟨by decide +kernel, by decide +kernel⟩, by decide +kernel⟩
theorem vX11_whole : Cond.instanceMethod yX11_whole ∈ tblG := memT (tin_6 _ (List.mem_of_getElem? (i := 62) rfl)) rfl
theorem sX11_whole : Cond.selects RX11 yX11_whole yX11_whole ∈ tblG := memT (List.mem_append_left _ (List.mem_of_getElem? (i := 37) rfl)) rfl
abbrev mX11_settle : MI := (yX11_settle, cX11_settle, 2, none)
theorem qX11_settle : Cal mX11_settle 1 := ⟨memT (tin_1 _ (List.mem_of_getElem? (i := 12) rfl)) rfl, memT (tin_6 _ (List.mem_of_getElem? (i := 67) rfl)) rfl, ⟨by decide +kernel, by decide +kernel⟩, by decide +kernel⟩
theorem vX11_settle : Cond.instanceMethod yX11_settle ∈ tblG := memT (tin_6 _ (List.mem_of_getElem? (i := 66) rfl)) rfl
theorem sX11_settle : Cond.selects RX11 yX11_settle yX11_settle ∈ tblG := memT (List.mem_append_left _ (List.mem_of_getElem? (i := 38) rfl)) rfl
abbrev mX11_place : MI := (yX11_place, cX11_place, 2, (some (.int)))
theorem qX11_place : Cal mX11_place 1 := ⟨memT (tin_1 _ (List.mem_of_getElem? (i := 12) rfl)) rfl, memT (tin_6 _ (List.mem_of_getElem? (i := 55) rfl)) rfl, ⟨by decide +kernel, by decide +kernel⟩, by decide +kernel⟩
theorem vX11_place : Cond.instanceMethod yX11_place ∈ tblG := memT (tin_6 _ (List.mem_of_getElem? (i := 54) rfl)) rfl
theorem sX11_place : Cond.selects RX11 yX11_place yX11_place ∈ tblG := memT (List.mem_append_left _ (List.mem_of_getElem? (i := 35) rfl)) rfl
abbrev mX11_takesTest : MI := (yX11_takesTest, cX11_takesTest, 3, (some (.boolean)))
theorem qX11_takesTest : Cal mX11_takesTest 0 := ⟨memT (tin_1 _ (List.mem_of_getElem? (i := 12) rfl)) rfl, memT (tin_6 _ (List.mem_of_getElem? (i := 51) rfl)) rfl, ⟨by decide +kernel, by decide +kernel⟩, by decide +kernel⟩
theorem vX11_takesTest : Cond.instanceMethod yX11_takesTest ∈ tblG := memT (tin_6 _ (List.mem_of_getElem? (i := 50) rfl)) rfl
theorem sX11_takesTest : Cond.selects RX11 yX11_takesTest yX11_takesTest ∈ tblG := memT (List.mem_append_left _ (List.mem_of_getElem? (i := 34) rfl)) rfl
abbrev mX11_takesE : MI := (yX11_takesE, cX11_takesE, 4, (some (.boolean)))
theorem qX11_takesE : Cal mX11_takesE 1 := ⟨memT (tin_1 _ (List.mem_of_getElem? (i := 12) rfl)) rfl, memT (tin_6 _ (List.mem_of_getElem? (i := 47) rfl)) rfl, ⟨by decide +kernel, by decide +kernel⟩, by decide +kernel⟩
theorem vX11_takesE : Cond.instanceMethod yX11_takesE ∈ tblG := memT (tin_6 _ (List.mem_of_getElem? (i := 46) rfl)) rfl
theorem sX11_takesE : Cond.selects RX11 yX11_takesE yX11_takesE ∈ tblG := memT (List.mem_append_left _ (List.mem_of_getElem? (i := 33) rfl)) rfl
abbrev mX11_takesHead : MI := (yX11_takesHead, cX11_takesHead, 2, (some (.boolean)))
theorem qX11_takesHead : Cal mX11_takesHead 1 := ⟨memT (tin_1 _ (List.mem_of_getElem? (i := 12) rfl)) rfl, memT (tin_6 _ (List.mem_of_getElem? (i := 23) rfl)) rfl, ⟨by decide +kernel, by decide +kernel⟩, by decide +kernel⟩
theorem vX11_takesHead : Cond.instanceMethod yX11_takesHead ∈ tblG := memT (tin_6 _ (List.mem_of_getElem? (i := 22) rfl)) rfl
theorem sX11_takesHead : Cond.selects RX11 yX11_takesHead yX11_takesHead ∈ tblG := memT (List.mem_append_left _ (List.mem_of_getElem? (i := 27) rfl)) rfl
abbrev mX11_takesClause : MI := (yX11_takesClause, cX11_takesClause, 2, (some (.boolean)))
theorem qX11_takesClause : Cal mX11_takesClause 1 := ⟨memT (tin_1 _ (List.mem_of_getElem? (i := 12) rfl)) rfl, memT (tin_6 _ (List.mem_of_getElem? (i := 19) rfl)) rfl, ⟨by decide +kernel, by decide +kernel⟩, by decide +kernel⟩
theorem vX11_takesClause : Cond.instanceMethod yX11_takesClause ∈ tblG := memT (tin_6 _ (List.mem_of_getElem? (i := 18) rfl)) rfl
theorem sX11_takesClause : Cond.selects RX11 yX11_takesClause yX11_takesClause ∈ tblG := memT (List.mem_append_left _ (List.mem_of_getElem? (i := 26) rfl)) rfl
abbrev mX11_goesText : MI := (yX11_goesText, cX11_goesText, 3, (some (.boolean)))
theorem qX11_goesText : Cal mX11_goesText 1 := ⟨memT (tin_1 _ (List.mem_of_getElem? (i := 12) rfl)) rfl, memT (tin_6 _ (List.mem_of_getElem? (i := 15) rfl)) rfl, ⟨by decide +kernel, by decide +kernel⟩, by decide +kernel⟩
theorem vX11_goesText : Cond.instanceMethod yX11_goesText ∈ tblG := memT (tin_6 _ (List.mem_of_getElem? (i := 14) rfl)) rfl
theorem sX11_goesText : Cond.selects RX11 yX11_goesText yX11_goesText ∈ tblG := memT (List.mem_append_left _ (List.mem_of_getElem? (i := 25) rfl)) rfl
abbrev mX11_town : MI := (yX11_town, cX11_town, 2, (some (.int)))
theorem qX11_town : Cal mX11_town 0 := ⟨memT (tin_1 _ (List.mem_of_getElem? (i := 12) rfl)) rfl, memT (tin_6 _ (List.mem_of_getElem? (i := 11) rfl)) rfl, ⟨by decide +kernel, by decide +kernel⟩, by decide +kernel⟩
theorem vX11_town : Cond.instanceMethod yX11_town ∈ tblG := memT (tin_6 _ (List.mem_of_getElem? (i := 9) rfl)) rfl
theorem sX11_town : Cond.selects RX11 yX11_town yX11_town ∈ tblG := memT (tin_6 _ (List.mem_of_getElem? (i := 10) rfl)) rfl
abbrev mX11_begin : MI := (yX11_begin, cX11_begin, 1, (some (.int)))
theorem qX11_begin : Cal mX11_begin 0 := ⟨memT (tin_1 _ (List.mem_of_getElem? (i := 12) rfl)) rfl, memT (tin_6 _ (List.mem_of_getElem? (i := 75) rfl)) rfl, ⟨by decide +kernel, by decide +kernel⟩, by decide +kernel⟩
theorem vX11_begin : Cond.instanceMethod yX11_begin ∈ tblG := memT (tin_6 _ (List.mem_of_getElem? (i := 74) rfl)) rfl
theorem sX11_begin : Cond.selects RX11 yX11_begin yX11_begin ∈ tblG := memT (List.mem_append_left _ (List.mem_of_getElem? (i := 39) rfl)) rfl
abbrev mX11_behind : MI := (yX11_behind, cX11_behind, 1, (some (.int)))
theorem qX11_behind : Cal mX11_behind 0 := ⟨memT (tin_1 _ (List.mem_of_getElem? (i := 12) rfl)) rfl, memT (tin_6 _ (List.mem_of_getElem? (i := 79) rfl)) rfl, ⟨by decide +kernel, by decide +kernel⟩, by decide +kernel⟩
theorem vX11_behind : Cond.instanceMethod yX11_behind ∈ tblG := memT (tin_6 _ (List.mem_of_getElem? (i := 78) rfl)) rfl
theorem sX11_behind : Cond.selects RX11 yX11_behind yX11_behind ∈ tblG := memT (List.mem_append_left _ (List.mem_of_getElem? (i := 40) rfl)) rfl
abbrev mX11_dawn : MI := (yX11_dawn, cX11_dawn, 3, (some (.int)))
theorem qX11_dawn : Cal mX11_dawn 0 := ⟨memT (tin_1 _ (List.mem_of_getElem? (i := 12) rfl)) rfl, memT (tin_6 _ (List.mem_of_getElem? (i := 71) rfl)) rfl, ⟨by decide +kernel, by decide +kernel⟩, by decide +kernel⟩
theorem vX11_dawn : Cond.instanceMethod yX11_dawn ∈ tblG := memT (tin_6 _ (List.mem_of_getElem? (i := 69) rfl)) rfl
theorem sX11_dawn : Cond.selects RX11 yX11_dawn yX11_dawn ∈ tblG := memT (tin_6 _ (List.mem_of_getElem? (i := 70) rfl)) rfl
abbrev mX11_factOf : MI := (yX11_factOf, cX11_factOf, 5, (some (.int)))
theorem qX11_factOf : Cal mX11_factOf 4 := ⟨memT (tin_1 _ (List.mem_of_getElem? (i := 12) rfl)) rfl, memT (tin_6 _ (List.mem_of_getElem? (i := 99) rfl)) rfl, ⟨by decide +kernel, by decide +kernel⟩, by decide +kernel⟩
theorem vX11_factOf : Cond.instanceMethod yX11_factOf ∈ tblG := memT (tin_6 _ (List.mem_of_getElem? (i := 98) rfl)) rfl
theorem sX11_factOf : Cond.selects RX11 yX11_factOf yX11_factOf ∈ tblG := memT (List.mem_append_left _ (List.mem_of_getElem? (i := 44) rfl)) rfl
abbrev mX11_holds : MI := (yX11_holds, cX11_holds, 10, (some (.boolean)))
theorem qX11_holds : Cal mX11_holds 4 := ⟨memT (tin_1 _ (List.mem_of_getElem? (i := 12) rfl)) rfl, memT (tin_6 _ (List.mem_of_getElem? (i := 95) rfl)) rfl, ⟨by decide +kernel, by decide +kernel⟩, by decide +kernel⟩
theorem vX11_holds : Cond.instanceMethod yX11_holds ∈ tblG := memT (tin_6 _ (List.mem_of_getElem? (i := 94) rfl)) rfl
theorem sX11_holds : Cond.selects RX11 yX11_holds yX11_holds ∈ tblG := memT (List.mem_append_left _ (List.mem_of_getElem? (i := 43) rfl)) rfl
abbrev mX11_sumOf : MI := (yX11_sumOf, cX11_sumOf, 9, (some (.int)))
theorem qX11_sumOf : Cal mX11_sumOf 5 := ⟨memT (tin_1 _ (List.mem_of_getElem? (i := 12) rfl)) rfl, memT (tin_6 _ (List.mem_of_getElem? (i := 91) rfl)) rfl, ⟨by decide +kernel, by decide +kernel⟩, by decide +kernel⟩
theorem vX11_sumOf : Cond.instanceMethod yX11_sumOf ∈ tblG := memT (tin_6 _ (List.mem_of_getElem? (i := 90) rfl)) rfl
theorem sX11_sumOf : Cond.selects RX11 yX11_sumOf yX11_sumOf ∈ tblG := memT (List.mem_append_left _ (List.mem_of_getElem? (i := 42) rfl)) rfl
abbrev mX11_slowOf : MI := (yX11_slowOf, cX11_slowOf, 4, (some (.int)))
theorem qX11_slowOf : Cal mX11_slowOf 3 := ⟨memT (tin_1 _ (List.mem_of_getElem? (i := 12) rfl)) rfl, memT (tin_6 _ (List.mem_of_getElem? (i := 87) rfl)) rfl, ⟨by decide +kernel, by decide +kernel⟩, by decide +kernel⟩
theorem vX11_slowOf : Cond.instanceMethod yX11_slowOf ∈ tblG := memT (tin_6 _ (List.mem_of_getElem? (i := 86) rfl)) rfl
theorem sX11_slowOf : Cond.selects RX11 yX11_slowOf yX11_slowOf ∈ tblG := memT (List.mem_append_left _ (List.mem_of_getElem? (i := 41) rfl)) rfl
abbrev mX11_farOf : MI := (yX11_farOf, cX11_farOf, 4, (some (.int)))
theorem qX11_farOf : Cal mX11_farOf 3 := ⟨memT (tin_1 _ (List.mem_of_getElem? (i := 12) rfl)) rfl, memT (tin_6 _ (List.mem_of_getElem? (i := 103) rfl)) rfl, ⟨by decide +kernel, by decide +kernel⟩, by decide +kernel⟩
theorem vX11_farOf : Cond.instanceMethod yX11_farOf ∈ tblG := memT (tin_6 _ (List.mem_of_getElem? (i := 102) rfl)) rfl
theorem sX11_farOf : Cond.selects RX11 yX11_farOf yX11_farOf ∈ tblG := memT (List.mem_append_left _ (List.mem_of_getElem? (i := 45) rfl)) rfl
abbrev mX11_of : MI := (yX11_of, cX11_of, 3, (some (.int)))
theorem qX11_of : Cal mX11_of 2 := ⟨memT (tin_1 _ (List.mem_of_getElem? (i := 12) rfl)) rfl, memT (tin_6 _ (List.mem_of_getElem? (i := 83) rfl)) rfl, ⟨by decide +kernel, by decide +kernel⟩, by decide +kernel⟩
theorem vX11_of : Cond.instanceMethod yX11_of ∈ tblG := memT (tin_6 _ (List.mem_of_getElem? (i := 81) rfl)) rfl
theorem sX11_of : Cond.selects RX11 yX11_of yX11_of ∈ tblG := memT (tin_6 _ (List.mem_of_getElem? (i := 82) rfl)) rfl
abbrev mX11_beginNight : MI := (yX11_beginNight, cX11_beginNight, 3, none)
theorem qX11_beginNight : Cal mX11_beginNight 2 := ⟨memT (tin_1 _ (List.mem_of_getElem? (i := 12) rfl)) rfl, memT (tin_6 _ (List.mem_of_getElem? (i := 115) rfl)) rfl, ⟨by decide +kernel, by decide +kernel⟩, by decide +kernel⟩
theorem vX11_beginNight : Cond.instanceMethod yX11_beginNight ∈ tblG := memT (tin_6 _ (List.mem_of_getElem? (i := 114) rfl)) rfl
theorem sX11_beginNight : Cond.selects RX11 yX11_beginNight yX11_beginNight ∈ tblG := memT (List.mem_append_left _ (List.mem_of_getElem? (i := 47) rfl)) rfl
abbrev mX11_isProudly : MI := (yX11_isProudly, cX11_isProudly, 2, (some (.boolean)))
theorem qX11_isProudly : Cal mX11_isProudly 1 := ⟨memT (tin_1 _ (List.mem_of_getElem? (i := 12) rfl)) rfl, memT (tin_6 _ (List.mem_of_getElem? (i := 140) rfl)) rfl, ⟨by decide +kernel, by decide +kernel⟩, by decide +kernel⟩
theorem vX11_isProudly : Cond.instanceMethod yX11_isProudly ∈ tblG := memT (tin_6 _ (List.mem_of_getElem? (i := 139) rfl)) rfl
theorem sX11_isProudly : Cond.selects RX11 yX11_isProudly yX11_isProudly ∈ tblG := memT (List.mem_append_left _ (List.mem_of_getElem? (i := 53) rfl)) rfl
abbrev mX11_letsIn : MI := (yX11_letsIn, cX11_letsIn, 2, (some (.boolean)))
theorem qX11_letsIn : Cal mX11_letsIn 1 := ⟨memT (tin_1 _ (List.mem_of_getElem? (i := 12) rfl)) rfl, memT (tin_6 _ (List.mem_of_getElem? (i := 136) rfl)) rfl, ⟨by decide +kernel, by decide +kernel⟩, by decide +kernel⟩
theorem vX11_letsIn : Cond.instanceMethod yX11_letsIn ∈ tblG := memT (tin_6 _ (List.mem_of_getElem? (i := 135) rfl)) rfl
theorem sX11_letsIn : Cond.selects RX11 yX11_letsIn yX11_letsIn ∈ tblG := memT (List.mem_append_left _ (List.mem_of_getElem? (i := 52) rfl)) rfl
abbrev mX11_pays : MI := (yX11_pays, cX11_pays, 2, (some (.boolean)))
theorem qX11_pays : Cal mX11_pays 1 := ⟨memT (tin_1 _ (List.mem_of_getElem? (i := 12) rfl)) rfl, memT (tin_6 _ (List.mem_of_getElem? (i := 148) rfl)) rfl, ⟨by decide +kernel, by decide +kernel⟩, by decide +kernel⟩
theorem vX11_pays : Cond.instanceMethod yX11_pays ∈ tblG := memT (tin_6 _ (List.mem_of_getElem? (i := 147) rfl)) rfl
theorem sX11_pays : Cond.selects RX11 yX11_pays yX11_pays ∈ tblG := memT (List.mem_append_left _ (List.mem_of_getElem? (i := 55) rfl)) rfl
abbrev mX11_apart : MI := (yX11_apart, cX11_apart, 3, (some (.int)))
theorem qX11_apart : Cal mX11_apart 2 := ⟨memT (tin_1 _ (List.mem_of_getElem? (i := 12) rfl)) rfl, memT (tin_6 _ (List.mem_of_getElem? (i := 123) rfl)) rfl, ⟨by decide +kernel, by decide +kernel⟩, by decide +kernel⟩
theorem vX11_apart : Cond.instanceMethod yX11_apart ∈ tblG := memT (tin_6 _ (List.mem_of_getElem? (i := 122) rfl)) rfl
theorem sX11_apart : Cond.selects RX11 yX11_apart yX11_apart ∈ tblG := memT (List.mem_append_left _ (List.mem_of_getElem? (i := 49) rfl)) rfl
abbrev mX11_upBy : MI := (yX11_upBy, cX11_upBy, 3, (some (.int)))
theorem qX11_upBy : Cal mX11_upBy 2 := ⟨memT (tin_1 _ (List.mem_of_getElem? (i := 12) rfl)) rfl, memT (tin_6 _ (List.mem_of_getElem? (i := 131) rfl)) rfl, ⟨by decide +kernel, by decide +kernel⟩, by decide +kernel⟩
theorem vX11_upBy : Cond.instanceMethod yX11_upBy ∈ tblG := memT (tin_6 _ (List.mem_of_getElem? (i := 130) rfl)) rfl
theorem sX11_upBy : Cond.selects RX11 yX11_upBy yX11_upBy ∈ tblG := memT (List.mem_append_left _ (List.mem_of_getElem? (i := 51) rfl)) rfl
abbrev mX11_visits : MI := (yX11_visits, cX11_visits, 4, (some (.boolean)))
theorem qX11_visits : Cal mX11_visits 1 := ⟨memT (tin_1 _ (List.mem_of_getElem? (i := 12) rfl)) rfl, memT (tin_6 _ (List.mem_of_getElem? (i := 119) rfl)) rfl, ⟨by decide +kernel, by decide +kernel⟩, by decide +kernel⟩
theorem vX11_visits : Cond.instanceMethod yX11_visits ∈ tblG := memT (tin_6 _ (List.mem_of_getElem? (i := 118) rfl)) rfl
theorem sX11_visits : Cond.selects RX11 yX11_visits yX11_visits ∈ tblG := memT (List.mem_append_left _ (List.mem_of_getElem? (i := 48) rfl)) rfl
abbrev mX11_comesIn : MI := (yX11_comesIn, cX11_comesIn, 4, (some (.boolean)))
theorem qX11_comesIn : Cal mX11_comesIn 3 := ⟨memT (tin_1 _ (List.mem_of_getElem? (i := 12) rfl)) rfl, memT (tin_6 _ (List.mem_of_getElem? (i := 111) rfl)) rfl, ⟨by decide +kernel, by decide +kernel⟩, by decide +kernel⟩
theorem vX11_comesIn : Cond.instanceMethod yX11_comesIn ∈ tblG := memT (tin_6 _ (List.mem_of_getElem? (i := 110) rfl)) rfl
theorem sX11_comesIn : Cond.selects RX11 yX11_comesIn yX11_comesIn ∈ tblG := memT (List.mem_append_left _ (List.mem_of_getElem? (i := 46) rfl)) rfl
abbrev mX11_visit : MI := (yX11_visit, cX11_visit, 5, (some (.int)))
theorem qX11_visit : Cal mX11_visit 3 := ⟨memT (tin_1 _ (List.mem_of_getElem? (i := 12) rfl)) rfl, memT (tin_6 _ (List.mem_of_getElem? (i := 107) rfl)) rfl, ⟨by decide +kernel, by decide +kernel⟩, by decide +kernel⟩
theorem vX11_visit : Cond.instanceMethod yX11_visit ∈ tblG := memT (tin_6 _ (List.mem_of_getElem? (i := 105) rfl)) rfl
theorem sX11_visit : Cond.selects RX11 yX11_visit yX11_visit ∈ tblG := memT (tin_6 _ (List.mem_of_getElem? (i := 106) rfl)) rfl
abbrev mX11_way : MI := (yX11_way, cX11_way, 2, (some (.int)))
theorem qX11_way : Cal mX11_way 1 := ⟨memT (tin_1 _ (List.mem_of_getElem? (i := 12) rfl)) rfl, memT (tin_6 _ (List.mem_of_getElem? (i := 152) rfl)) rfl, ⟨by decide +kernel, by decide +kernel⟩, by decide +kernel⟩
theorem vX11_way : Cond.instanceMethod yX11_way ∈ tblG := memT (tin_6 _ (List.mem_of_getElem? (i := 150) rfl)) rfl
theorem sX11_way : Cond.selects RX11 yX11_way yX11_way ∈ tblG := memT (tin_6 _ (List.mem_of_getElem? (i := 151) rfl)) rfl
abbrev mX11_goes : MI := (yX11_goes, cX11_goes, 6, (some (.int)))
theorem qX11_goes : Cal mX11_goes 2 := ⟨memT (tin_1 _ (List.mem_of_getElem? (i := 12) rfl)) rfl, memT (tin_6 _ (List.mem_of_getElem? (i := 156) rfl)) rfl, ⟨by decide +kernel, by decide +kernel⟩, by decide +kernel⟩
theorem vX11_goes : Cond.instanceMethod yX11_goes ∈ tblG := memT (tin_6 _ (List.mem_of_getElem? (i := 154) rfl)) rfl
theorem sX11_goes : Cond.selects RX11 yX11_goes yX11_goes ∈ tblG := memT (tin_6 _ (List.mem_of_getElem? (i := 155) rfl)) rfl
abbrev mX11_layOrder : MI := (yX11_layOrder, cX11_layOrder, 10, (some (.boolean)))
theorem qX11_layOrder : Cal mX11_layOrder 2 := ⟨memT (tin_1 _ (List.mem_of_getElem? (i := 12) rfl)) rfl, memT (tin_6 _ (List.mem_of_getElem? (i := 164) rfl)) rfl, ⟨by decide +kernel, by decide +kernel⟩, by decide +kernel⟩
theorem vX11_layOrder : Cond.instanceMethod yX11_layOrder ∈ tblG := memT (tin_6 _ (List.mem_of_getElem? (i := 163) rfl)) rfl
theorem sX11_layOrder : Cond.selects RX11 yX11_layOrder yX11_layOrder ∈ tblG := memT (List.mem_append_left _ (List.mem_of_getElem? (i := 56) rfl)) rfl
abbrev mX11_round : MI := (yX11_round, cX11_round, 10, (some (.int)))
theorem qX11_round : Cal mX11_round 3 := ⟨memT (tin_1 _ (List.mem_of_getElem? (i := 12) rfl)) rfl, memT (tin_6 _ (List.mem_of_getElem? (i := 160) rfl)) rfl, ⟨by decide +kernel, by decide +kernel⟩, by decide +kernel⟩
theorem vX11_round : Cond.instanceMethod yX11_round ∈ tblG := memT (tin_6 _ (List.mem_of_getElem? (i := 158) rfl)) rfl
theorem sX11_round : Cond.selects RX11 yX11_round yX11_round ∈ tblG := memT (tin_6 _ (List.mem_of_getElem? (i := 159) rfl)) rfl
abbrev mX11_keep : MI := (yX11_keep, cX11_keep, 6, (some (.int)))
theorem qX11_keep : Cal mX11_keep 2 := ⟨memT (tin_1 _ (List.mem_of_getElem? (i := 12) rfl)) rfl, memT (tin_6 _ (List.mem_of_getElem? (i := 168) rfl)) rfl, ⟨by decide +kernel, by decide +kernel⟩, by decide +kernel⟩
theorem vX11_keep : Cond.instanceMethod yX11_keep ∈ tblG := memT (tin_6 _ (List.mem_of_getElem? (i := 166) rfl)) rfl
theorem sX11_keep : Cond.selects RX11 yX11_keep yX11_keep ∈ tblG := memT (tin_6 _ (List.mem_of_getElem? (i := 167) rfl)) rfl
abbrev mX11_pairsIn : MI := (yX11_pairsIn, cX11_pairsIn, 4, (some (.int)))
theorem qX11_pairsIn : Cal mX11_pairsIn 0 := ⟨memT (tin_1 _ (List.mem_of_getElem? (i := 12) rfl)) rfl, memT (tin_6 _ (List.mem_of_getElem? (i := 176) rfl)) rfl, ⟨by decide +kernel, by decide +kernel⟩, by decide +kernel⟩
theorem vX11_pairsIn : Cond.instanceMethod yX11_pairsIn ∈ tblG := memT (tin_6 _ (List.mem_of_getElem? (i := 175) rfl)) rfl
theorem sX11_pairsIn : Cond.selects RX11 yX11_pairsIn yX11_pairsIn ∈ tblG := memT (List.mem_append_left _ (List.mem_of_getElem? (i := 57) rfl)) rfl
abbrev mX11_more : MI := (yX11_more, cX11_more, 8, (some (.int)))
theorem qX11_more : Cal mX11_more 2 := ⟨memT (tin_1 _ (List.mem_of_getElem? (i := 12) rfl)) rfl, memT (tin_6 _ (List.mem_of_getElem? (i := 172) rfl)) rfl, ⟨by decide +kernel, by decide +kernel⟩, by decide +kernel⟩
theorem vX11_more : Cond.instanceMethod yX11_more ∈ tblG := memT (tin_6 _ (List.mem_of_getElem? (i := 170) rfl)) rfl
theorem sX11_more : Cond.selects RX11 yX11_more yX11_more ∈ tblG := memT (tin_6 _ (List.mem_of_getElem? (i := 171) rfl)) rfl
abbrev mX11_walksTo : MI := (yX11_walksTo, cX11_walksTo, 3, (some (.int)))
theorem qX11_walksTo : Cal mX11_walksTo 2 := ⟨memT (tin_1 _ (List.mem_of_getElem? (i := 12) rfl)) rfl, memT (tin_6 _ (List.mem_of_getElem? (i := 184) rfl)) rfl, ⟨by decide +kernel, by decide +kernel⟩, by decide +kernel⟩
theorem vX11_walksTo : Cond.instanceMethod yX11_walksTo ∈ tblG := memT (tin_6 _ (List.mem_of_getElem? (i := 183) rfl)) rfl
theorem sX11_walksTo : Cond.selects RX11 yX11_walksTo yX11_walksTo ∈ tblG := memT (List.mem_append_left _ (List.mem_of_getElem? (i := 58) rfl)) rfl
abbrev mX11_isLetIn : MI := (yX11_isLetIn, cX11_isLetIn, 4, (some (.boolean)))
theorem qX11_isLetIn : Cal mX11_isLetIn 3 := ⟨memT (tin_1 _ (List.mem_of_getElem? (i := 12) rfl)) rfl, memT (tin_6 _ (List.mem_of_getElem? (i := 188) rfl)) rfl, ⟨by decide +kernel, by decide +kernel⟩, by decide +kernel⟩
theorem vX11_isLetIn : Cond.instanceMethod yX11_isLetIn ∈ tblG := memT (tin_6 _ (List.mem_of_getElem? (i := 187) rfl)) rfl
theorem sX11_isLetIn : Cond.selects RX11 yX11_isLetIn yX11_isLetIn ∈ tblG := memT (List.mem_append_left _ (List.mem_of_getElem? (i := 59) rfl)) rfl
abbrev mX11_share : MI := (yX11_share, cX11_share, 9, (some (.int)))
theorem qX11_share : Cal mX11_share 4 := ⟨memT (tin_1 _ (List.mem_of_getElem? (i := 12) rfl)) rfl, memT (tin_6 _ (List.mem_of_getElem? (i := 180) rfl)) rfl, ⟨by decide +kernel, by decide +kernel⟩, by decide +kernel⟩
theorem vX11_share : Cond.instanceMethod yX11_share ∈ tblG := memT (tin_6 _ (List.mem_of_getElem? (i := 178) rfl)) rfl
theorem sX11_share : Cond.selects RX11 yX11_share yX11_share ∈ tblG := memT (tin_6 _ (List.mem_of_getElem? (i := 179) rfl)) rfl
abbrev mX11_watch : MI := (yX11_watch, cX11_watch, 3, (some (.int)))
theorem qX11_watch : Cal mX11_watch 2 := ⟨memT (tin_1 _ (List.mem_of_getElem? (i := 12) rfl)) rfl, memT (tin_6 _ (List.mem_of_getElem? (i := 192) rfl)) rfl, ⟨by decide +kernel, by decide +kernel⟩, by decide +kernel⟩
theorem vX11_watch : Cond.instanceMethod yX11_watch ∈ tblG := memT (tin_6 _ (List.mem_of_getElem? (i := 190) rfl)) rfl
theorem sX11_watch : Cond.selects RX11 yX11_watch yX11_watch ∈ tblG := memT (tin_6 _ (List.mem_of_getElem? (i := 191) rfl)) rfl
abbrev mX11_suspects : MI := (yX11_suspects, cX11_suspects, 5, (some (.int)))
theorem qX11_suspects : Cal mX11_suspects 0 := ⟨memT (tin_1 _ (List.mem_of_getElem? (i := 12) rfl)) rfl, memT (tin_6 _ (List.mem_of_getElem? (i := 196) rfl)) rfl, ⟨by decide +kernel, by decide +kernel⟩, by decide +kernel⟩
theorem vX11_suspects : Cond.instanceMethod yX11_suspects ∈ tblG := memT (tin_6 _ (List.mem_of_getElem? (i := 194) rfl)) rfl
theorem sX11_suspects : Cond.selects RX11 yX11_suspects yX11_suspects ∈ tblG := memT (tin_6 _ (List.mem_of_getElem? (i := 195) rfl)) rfl
abbrev mX11_next : MI := (yX11_next, cX11_next, 7, (some (.int)))
theorem qX11_next : Cal mX11_next 0 := ⟨memT (tin_1 _ (List.mem_of_getElem? (i := 12) rfl)) rfl, memT (tin_6 _ (List.mem_of_getElem? (i := 200) rfl)) rfl, ⟨by decide +kernel, by decide +kernel⟩, by decide +kernel⟩
theorem vX11_next : Cond.instanceMethod yX11_next ∈ tblG := memT (tin_6 _ (List.mem_of_getElem? (i := 198) rfl)) rfl
theorem sX11_next : Cond.selects RX11 yX11_next yX11_next ∈ tblG := memT (tin_6 _ (List.mem_of_getElem? (i := 199) rfl)) rfl
abbrev mX11_when : MI := (yX11_when, cX11_when, 4, (some (.int)))
theorem qX11_when : Cal mX11_when 2 := ⟨memT (tin_1 _ (List.mem_of_getElem? (i := 12) rfl)) rfl, memT (tin_6 _ (List.mem_of_getElem? (i := 205) rfl)) rfl, ⟨by decide +kernel, by decide +kernel⟩, by decide +kernel⟩
theorem vX11_when : Cond.instanceMethod yX11_when ∈ tblG := memT (tin_6 _ (List.mem_of_getElem? (i := 203) rfl)) rfl
theorem sX11_when : Cond.selects RX11 yX11_when yX11_when ∈ tblG := memT (tin_6 _ (List.mem_of_getElem? (i := 204) rfl)) rfl
abbrev mX11_divisor : MI := (yX11_divisor, cX11_divisor, 6, (some (.int)))
theorem qX11_divisor : Cal mX11_divisor 2 := ⟨memT (tin_1 _ (List.mem_of_getElem? (i := 12) rfl)) rfl, memT (tin_6 _ (List.mem_of_getElem? (i := 218) rfl)) rfl, ⟨by decide +kernel, by decide +kernel⟩, by decide +kernel⟩
theorem vX11_divisor : Cond.instanceMethod yX11_divisor ∈ tblG := memT (tin_6 _ (List.mem_of_getElem? (i := 217) rfl)) rfl
theorem sX11_divisor : Cond.selects RX11 yX11_divisor yX11_divisor ∈ tblG := memT (List.mem_append_left _ (List.mem_of_getElem? (i := 61) rfl)) rfl
abbrev mX11_lowest : MI := (yX11_lowest, cX11_lowest, 5, (some (.long)))
theorem qX11_lowest : Cal mX11_lowest 3 := ⟨memT (tin_1 _ (List.mem_of_getElem? (i := 12) rfl)) rfl, memT (tin_6 _ (List.mem_of_getElem? (i := 214) rfl)) rfl, ⟨by decide +kernel, by decide +kernel⟩, by decide +kernel⟩
theorem vX11_lowest : Cond.instanceMethod yX11_lowest ∈ tblG := memT (tin_6 _ (List.mem_of_getElem? (i := 213) rfl)) rfl
theorem sX11_lowest : Cond.selects RX11 yX11_lowest yX11_lowest ∈ tblG := memT (List.mem_append_left _ (List.mem_of_getElem? (i := 60) rfl)) rfl
abbrev mX11_odds : MI := (yX11_odds, cX11_odds, 6, (some (.long)))
theorem qX11_odds : Cal mX11_odds 3 := ⟨memT (tin_1 _ (List.mem_of_getElem? (i := 12) rfl)) rfl, memT (tin_6 _ (List.mem_of_getElem? (i := 209) rfl)) rfl, ⟨by decide +kernel, by decide +kernel⟩, by decide +kernel⟩
theorem vX11_odds : Cond.instanceMethod yX11_odds ∈ tblG := memT (tin_6 _ (List.mem_of_getElem? (i := 207) rfl)) rfl
theorem sX11_odds : Cond.selects RX11 yX11_odds yX11_odds ∈ tblG := memT (tin_6 _ (List.mem_of_getElem? (i := 208) rfl)) rfl
abbrev mX11_mean : MI := (yX11_mean, cX11_mean, 6, (some (.long)))
theorem qX11_mean : Cal mX11_mean 2 := ⟨memT (tin_1 _ (List.mem_of_getElem? (i := 12) rfl)) rfl, memT (tin_6 _ (List.mem_of_getElem? (i := 222) rfl)) rfl, ⟨by decide +kernel, by decide +kernel⟩, by decide +kernel⟩
theorem vX11_mean : Cond.instanceMethod yX11_mean ∈ tblG := memT (tin_6 _ (List.mem_of_getElem? (i := 220) rfl)) rfl
theorem sX11_mean : Cond.selects RX11 yX11_mean yX11_mean ∈ tblG := memT (tin_6 _ (List.mem_of_getElem? (i := 221) rfl)) rfl
abbrev mX11_book : MI := (yX11_book, cX11_book, 3, (some (.int)))
theorem qX11_book : Cal mX11_book 2 := ⟨memT (tin_1 _ (List.mem_of_getElem? (i := 12) rfl)) rfl, memT (tin_6 _ (List.mem_of_getElem? (i := 226) rfl)) rfl, ⟨by decide +kernel, by decide +kernel⟩, by decide +kernel⟩
theorem vX11_book : Cond.instanceMethod yX11_book ∈ tblG := memT (tin_6 _ (List.mem_of_getElem? (i := 224) rfl)) rfl
theorem sX11_book : Cond.selects RX11 yX11_book yX11_book ∈ tblG := memT (tin_6 _ (List.mem_of_getElem? (i := 225) rfl)) rfl
abbrev mX11_looked : MI := (yX11_looked, cX11_looked, 2, (some (.int)))
theorem qX11_looked : Cal mX11_looked 0 := ⟨memT (tin_1 _ (List.mem_of_getElem? (i := 12) rfl)) rfl, memT (tin_6 _ (List.mem_of_getElem? (i := 230) rfl)) rfl, ⟨by decide +kernel, by decide +kernel⟩, by decide +kernel⟩
theorem vX11_looked : Cond.instanceMethod yX11_looked ∈ tblG := memT (tin_6 _ (List.mem_of_getElem? (i := 228) rfl)) rfl
theorem sX11_looked : Cond.selects RX11 yX11_looked yX11_looked ∈ tblG := memT (tin_6 _ (List.mem_of_getElem? (i := 229) rfl)) rfl
abbrev mX11_judge : MI := (yX11_judge, cX11_judge, 4, (some (.int)))
theorem qX11_judge : Cal mX11_judge 2 := ⟨memT (tin_1 _ (List.mem_of_getElem? (i := 12) rfl)) rfl, memT (tin_6 _ (List.mem_of_getElem? (i := 234) rfl)) rfl, ⟨by decide +kernel, by decide +kernel⟩, by decide +kernel⟩
theorem vX11_judge : Cond.instanceMethod yX11_judge ∈ tblG := memT (tin_6 _ (List.mem_of_getElem? (i := 232) rfl)) rfl
theorem sX11_judge : Cond.selects RX11 yX11_judge yX11_judge ∈ tblG := memT (tin_6 _ (List.mem_of_getElem? (i := 233) rfl)) rfl
abbrev mX11_image : MI := (yX11_image, cX11_image, 2, (some (.int)))
theorem qX11_image : Cal mX11_image 0 := ⟨memT (tin_1 _ (List.mem_of_getElem? (i := 12) rfl)) rfl, memT (tin_7 _ (List.mem_of_getElem? (i := 2) rfl)) rfl, ⟨by decide +kernel, by decide +kernel⟩, by decide +kernel⟩
theorem vX11_image : Cond.instanceMethod yX11_image ∈ tblG := memT (tin_7 _ (List.mem_of_getElem? (i := 0) rfl)) rfl
theorem sX11_image : Cond.selects RX11 yX11_image yX11_image ∈ tblG := memT (tin_7 _ (List.mem_of_getElem? (i := 1) rfl)) rfl
abbrev mX11_undo : MI := (yX11_undo, cX11_undo, 2, (some (.int)))
theorem qX11_undo : Cal mX11_undo 0 := ⟨memT (tin_1 _ (List.mem_of_getElem? (i := 12) rfl)) rfl, memT (tin_7 _ (List.mem_of_getElem? (i := 6) rfl)) rfl, ⟨by decide +kernel, by decide +kernel⟩, by decide +kernel⟩
theorem vX11_undo : Cond.instanceMethod yX11_undo ∈ tblG := memT (tin_7 _ (List.mem_of_getElem? (i := 4) rfl)) rfl
theorem sX11_undo : Cond.selects RX11 yX11_undo yX11_undo ∈ tblG := memT (tin_7 _ (List.mem_of_getElem? (i := 5) rfl)) rfl
abbrev mX11_body : MI := (yX11_body, cX11_body, 2, none)
theorem qX11_body : Cal mX11_body 1 := ⟨memT (tin_1 _ (List.mem_of_getElem? (i := 12) rfl)) rfl, memT (tin_7 _ (List.mem_of_getElem? (i := 18) rfl)) rfl, ⟨by decide +kernel, by decide +kernel⟩, by decide +kernel⟩
theorem vX11_body : Cond.instanceMethod yX11_body ∈ tblG := memT (tin_7 _ (List.mem_of_getElem? (i := 17) rfl)) rfl
theorem sX11_body : Cond.selects RX11 yX11_body yX11_body ∈ tblG := memT (List.mem_append_left _ (List.mem_of_getElem? (i := 64) rfl)) rfl
abbrev mX11_houseAsks : MI := (yX11_houseAsks, cX11_houseAsks, 3, (some (.int)))
theorem qX11_houseAsks : Cal mX11_houseAsks 2 := ⟨memT (tin_1 _ (List.mem_of_getElem? (i := 12) rfl)) rfl, memT (tin_7 _ (List.mem_of_getElem? (i := 22) rfl)) rfl, ⟨by decide +kernel, by decide +kernel⟩, by decide +kernel⟩
theorem vX11_houseAsks : Cond.instanceMethod yX11_houseAsks ∈ tblG := memT (tin_7 _ (List.mem_of_getElem? (i := 21) rfl)) rfl
theorem sX11_houseAsks : Cond.selects RX11 yX11_houseAsks yX11_houseAsks ∈ tblG := memT (List.mem_append_left _ (List.mem_of_getElem? (i := 65) rfl)) rfl
abbrev mX11_asksAct : MI := (yX11_asksAct, cX11_asksAct, 3, (some (.int)))
theorem qX11_asksAct : Cal mX11_asksAct 2 := ⟨memT (tin_1 _ (List.mem_of_getElem? (i := 12) rfl)) rfl, memT (tin_7 _ (List.mem_of_getElem? (i := 14) rfl)) rfl, ⟨by decide +kernel, by decide +kernel⟩, by decide +kernel⟩
theorem vX11_asksAct : Cond.instanceMethod yX11_asksAct ∈ tblG := memT (tin_7 _ (List.mem_of_getElem? (i := 13) rfl)) rfl
theorem sX11_asksAct : Cond.selects RX11 yX11_asksAct yX11_asksAct ∈ tblG := memT (List.mem_append_left _ (List.mem_of_getElem? (i := 63) rfl)) rfl
abbrev mX11_houseOpens : MI := (yX11_houseOpens, cX11_houseOpens, 3, (some (.int)))
theorem qX11_houseOpens : Cal mX11_houseOpens 2 := ⟨memT (tin_1 _ (List.mem_of_getElem? (i := 12) rfl)) rfl, memT (tin_7 _ (List.mem_of_getElem? (i := 34) rfl)) rfl, ⟨by decide +kernel, by decide +kernel⟩, by decide +kernel⟩
theorem vX11_houseOpens : Cond.instanceMethod yX11_houseOpens ∈ tblG := memT (tin_7 _ (List.mem_of_getElem? (i := 33) rfl)) rfl
theorem sX11_houseOpens : Cond.selects RX11 yX11_houseOpens yX11_houseOpens ∈ tblG := memT (List.mem_append_left _ (List.mem_of_getElem? (i := 68) rfl)) rfl
abbrev mX11_lonelyOpens : MI := (yX11_lonelyOpens, cX11_lonelyOpens, 3, (some (.int)))
theorem qX11_lonelyOpens : Cal mX11_lonelyOpens 2 := ⟨memT (tin_1 _ (List.mem_of_getElem? (i := 12) rfl)) rfl, memT (tin_7 _ (List.mem_of_getElem? (i := 30) rfl)) rfl, ⟨by decide +kernel, by decide +kernel⟩, by decide +kernel⟩
theorem vX11_lonelyOpens : Cond.instanceMethod yX11_lonelyOpens ∈ tblG := memT (tin_7 _ (List.mem_of_getElem? (i := 29) rfl)) rfl
theorem sX11_lonelyOpens : Cond.selects RX11 yX11_lonelyOpens yX11_lonelyOpens ∈ tblG := memT (List.mem_append_left _ (List.mem_of_getElem? (i := 67) rfl)) rfl
abbrev mX11_opensAct : MI := (yX11_opensAct, cX11_opensAct, 4, (some (.int)))
theorem qX11_opensAct : Cal mX11_opensAct 2 := ⟨memT (tin_1 _ (List.mem_of_getElem? (i := 12) rfl)) rfl, memT (tin_7 _ (List.mem_of_getElem? (i := 26) rfl)) rfl, ⟨by decide +kernel, by decide +kernel⟩, by decide +kernel⟩
theorem vX11_opensAct : Cond.instanceMethod yX11_opensAct ∈ tblG := memT (tin_7 _ (List.mem_of_getElem? (i := 25) rfl)) rfl
theorem sX11_opensAct : Cond.selects RX11 yX11_opensAct yX11_opensAct ∈ tblG := memT (List.mem_append_left _ (List.mem_of_getElem? (i := 66) rfl)) rfl
abbrev mX11_houseTells : MI := (yX11_houseTells, cX11_houseTells, 3, (some (.int)))
theorem qX11_houseTells : Cal mX11_houseTells 2 := ⟨memT (tin_1 _ (List.mem_of_getElem? (i := 12) rfl)) rfl, memT (tin_7 _ (List.mem_of_getElem? (i := 42) rfl)) rfl, ⟨by decide +kernel, by decide +kernel⟩, by decide +kernel⟩
theorem vX11_houseTells : Cond.instanceMethod yX11_houseTells ∈ tblG := memT (tin_7 _ (List.mem_of_getElem? (i := 41) rfl)) rfl
theorem sX11_houseTells : Cond.selects RX11 yX11_houseTells yX11_houseTells ∈ tblG := memT (List.mem_append_left _ (List.mem_of_getElem? (i := 70) rfl)) rfl
abbrev mX11_tellsAct : MI := (yX11_tellsAct, cX11_tellsAct, 4, (some (.int)))
theorem qX11_tellsAct : Cal mX11_tellsAct 2 := ⟨memT (tin_1 _ (List.mem_of_getElem? (i := 12) rfl)) rfl, memT (tin_7 _ (List.mem_of_getElem? (i := 38) rfl)) rfl, ⟨by decide +kernel, by decide +kernel⟩, by decide +kernel⟩
theorem vX11_tellsAct : Cond.instanceMethod yX11_tellsAct ∈ tblG := memT (tin_7 _ (List.mem_of_getElem? (i := 37) rfl)) rfl
theorem sX11_tellsAct : Cond.selects RX11 yX11_tellsAct yX11_tellsAct ∈ tblG := memT (List.mem_append_left _ (List.mem_of_getElem? (i := 69) rfl)) rfl
abbrev mX11_act : MI := (yX11_act, cX11_act, 4, (some (.int)))
theorem qX11_act : Cal mX11_act 3 := ⟨memT (tin_1 _ (List.mem_of_getElem? (i := 12) rfl)) rfl, memT (tin_7 _ (List.mem_of_getElem? (i := 10) rfl)) rfl, ⟨by decide +kernel, by decide +kernel⟩, by decide +kernel⟩
theorem vX11_act : Cond.instanceMethod yX11_act ∈ tblG := memT (tin_7 _ (List.mem_of_getElem? (i := 8) rfl)) rfl
theorem sX11_act : Cond.selects RX11 yX11_act yX11_act ∈ tblG := memT (tin_7 _ (List.mem_of_getElem? (i := 9) rfl)) rfl
abbrev mX11_trace : MI := (yX11_trace, cX11_trace, 2, (some (.int)))
theorem qX11_trace : Cal mX11_trace 1 := ⟨memT (tin_1 _ (List.mem_of_getElem? (i := 12) rfl)) rfl, memT (tin_7 _ (List.mem_of_getElem? (i := 46) rfl)) rfl, ⟨by decide +kernel, by decide +kernel⟩, by decide +kernel⟩
theorem vX11_trace : Cond.instanceMethod yX11_trace ∈ tblG := memT (tin_7 _ (List.mem_of_getElem? (i := 44) rfl)) rfl
theorem sX11_trace : Cond.selects RX11 yX11_trace yX11_trace ∈ tblG := memT (tin_7 _ (List.mem_of_getElem? (i := 45) rfl)) rfl
abbrev mX11_taken : MI := (yX11_taken, cX11_taken, 4, (some (.int)))
theorem qX11_taken : Cal mX11_taken 2 := ⟨memT (tin_1 _ (List.mem_of_getElem? (i := 12) rfl)) rfl, memT (tin_7 _ (List.mem_of_getElem? (i := 50) rfl)) rfl, ⟨by decide +kernel, by decide +kernel⟩, by decide +kernel⟩
theorem vX11_taken : Cond.instanceMethod yX11_taken ∈ tblG := memT (tin_7 _ (List.mem_of_getElem? (i := 48) rfl)) rfl
theorem sX11_taken : Cond.selects RX11 yX11_taken yX11_taken ∈ tblG := memT (tin_7 _ (List.mem_of_getElem? (i := 49) rfl)) rfl
abbrev mX11_count : MI := (yX11_count, cX11_count, 2, (some (.int)))
theorem qX11_count : Cal mX11_count 1 := ⟨memT (tin_1 _ (List.mem_of_getElem? (i := 12) rfl)) rfl, memT (tin_7 _ (List.mem_of_getElem? (i := 54) rfl)) rfl, ⟨by decide +kernel, by decide +kernel⟩, by decide +kernel⟩
theorem vX11_count : Cond.instanceMethod yX11_count ∈ tblG := memT (tin_7 _ (List.mem_of_getElem? (i := 52) rfl)) rfl
theorem sX11_count : Cond.selects RX11 yX11_count yX11_count ∈ tblG := memT (tin_7 _ (List.mem_of_getElem? (i := 53) rfl)) rfl
abbrev mX11_isTape : MI := (yX11_isTape, cX11_isTape, 2, (some (.boolean)))
theorem qX11_isTape : Cal mX11_isTape 1 := ⟨memT (tin_1 _ (List.mem_of_getElem? (i := 12) rfl)) rfl, memT (tin_6 _ (List.mem_of_getElem? (i := 238) rfl)) rfl, ⟨by decide +kernel, by decide +kernel⟩, by decide +kernel⟩
theorem vX11_isTape : Cond.instanceMethod yX11_isTape ∈ tblG := memT (tin_6 _ (List.mem_of_getElem? (i := 237) rfl)) rfl
theorem sX11_isTape : Cond.selects RX11 yX11_isTape yX11_isTape ∈ tblG := memT (List.mem_append_left _ (List.mem_of_getElem? (i := 62) rfl)) rfl
abbrev mX11_tape : MI := (yX11_tape, cX11_tape, 5, (some (.int)))
theorem qX11_tape : Cal mX11_tape 3 := ⟨memT (tin_1 _ (List.mem_of_getElem? (i := 12) rfl)) rfl, memT (tin_7 _ (List.mem_of_getElem? (i := 58) rfl)) rfl, ⟨by decide +kernel, by decide +kernel⟩, by decide +kernel⟩
theorem vX11_tape : Cond.instanceMethod yX11_tape ∈ tblG := memT (tin_7 _ (List.mem_of_getElem? (i := 56) rfl)) rfl
theorem sX11_tape : Cond.selects RX11 yX11_tape yX11_tape ∈ tblG := memT (tin_7 _ (List.mem_of_getElem? (i := 57) rfl)) rfl
abbrev mX11_narrow : MI := (yX11_narrow, cX11_narrow, 4, (some (.long)))
theorem qX11_narrow : Cal mX11_narrow 2 := ⟨memT (tin_1 _ (List.mem_of_getElem? (i := 12) rfl)) rfl, memT (tin_7 _ (List.mem_of_getElem? (i := 66) rfl)) rfl, ⟨by decide +kernel, by decide +kernel⟩, by decide +kernel⟩
theorem vX11_narrow : Cond.instanceMethod yX11_narrow ∈ tblG := memT (tin_7 _ (List.mem_of_getElem? (i := 65) rfl)) rfl
theorem sX11_narrow : Cond.selects RX11 yX11_narrow yX11_narrow ∈ tblG := memT (List.mem_append_left _ (List.mem_of_getElem? (i := 71) rfl)) rfl
abbrev mX11_item : MI := (yX11_item, cX11_item, 5, (some (.int)))
theorem qX11_item : Cal mX11_item 3 := ⟨memT (tin_1 _ (List.mem_of_getElem? (i := 12) rfl)) rfl, memT (tin_7 _ (List.mem_of_getElem? (i := 62) rfl)) rfl, ⟨by decide +kernel, by decide +kernel⟩, by decide +kernel⟩
theorem vX11_item : Cond.instanceMethod yX11_item ∈ tblG := memT (tin_7 _ (List.mem_of_getElem? (i := 60) rfl)) rfl
theorem sX11_item : Cond.selects RX11 yX11_item yX11_item ∈ tblG := memT (tin_7 _ (List.mem_of_getElem? (i := 61) rfl)) rfl
abbrev mX11_read : MI := (yX11_read, cX11_read, 3, (some (.long)))
theorem qX11_read : Cal mX11_read 2 := ⟨memT (tin_1 _ (List.mem_of_getElem? (i := 12) rfl)) rfl, memT (tin_7 _ (List.mem_of_getElem? (i := 70) rfl)) rfl, ⟨by decide +kernel, by decide +kernel⟩, by decide +kernel⟩
theorem vX11_read : Cond.instanceMethod yX11_read ∈ tblG := memT (tin_7 _ (List.mem_of_getElem? (i := 68) rfl)) rfl
theorem sX11_read : Cond.selects RX11 yX11_read yX11_read ∈ tblG := memT (tin_7 _ (List.mem_of_getElem? (i := 69) rfl)) rfl
abbrev mX11_shift : MI := (yX11_shift, cX11_shift, 7, (some (.int)))
theorem qX11_shift : Cal mX11_shift 5 := ⟨memT (tin_1 _ (List.mem_of_getElem? (i := 12) rfl)) rfl, memT (tin_7 _ (List.mem_of_getElem? (i := 74) rfl)) rfl, ⟨by decide +kernel, by decide +kernel⟩, by decide +kernel⟩
theorem vX11_shift : Cond.instanceMethod yX11_shift ∈ tblG := memT (tin_7 _ (List.mem_of_getElem? (i := 72) rfl)) rfl
theorem sX11_shift : Cond.selects RX11 yX11_shift yX11_shift ∈ tblG := memT (tin_7 _ (List.mem_of_getElem? (i := 73) rfl)) rfl
abbrev mJ11_isValidCodePoint_9a6ad : MI := (yJ11_isValidCodePoint_9a6ad, cJ11_isValidCodePoint_9a6ad, 2, (some (.boolean)))
theorem qJ11_isValidCodePoint_9a6ad : Cal mJ11_isValidCodePoint_9a6ad 1 := ⟨memT (tin_1 _ (List.mem_of_getElem? (i := 17) rfl)) rfl, memT (tin_3 _ (List.mem_of_getElem? (i := 104) rfl)) rfl, ⟨by decide +kernel, by decide +kernel⟩, by decide +kernel⟩
theorem vJ11_isValidCodePoint_9a6ad : Cond.static yJ11_isValidCodePoint_9a6ad ∈ tblG := memT (tin_3 _ (List.mem_of_getElem? (i := 103) rfl)) rfl
abbrev mJ11_highSurrogate_5068e : MI := (yJ11_highSurrogate_5068e, cJ11_highSurrogate_5068e, 1, (some (.char)))
theorem qJ11_highSurrogate_5068e : Cal mJ11_highSurrogate_5068e 1 := ⟨memT (tin_1 _ (List.mem_of_getElem? (i := 17) rfl)) rfl, memT (tin_3 _ (List.mem_of_getElem? (i := 107) rfl)) rfl, ⟨by decide +kernel, by decide +kernel⟩, by decide +kernel⟩
theorem vJ11_highSurrogate_5068e : Cond.static yJ11_highSurrogate_5068e ∈ tblG := memT (tin_3 _ (List.mem_of_getElem? (i := 106) rfl)) rfl
abbrev mJ11_lowSurrogate_5068e : MI := (yJ11_lowSurrogate_5068e, cJ11_lowSurrogate_5068e, 1, (some (.char)))
theorem qJ11_lowSurrogate_5068e : Cal mJ11_lowSurrogate_5068e 1 := ⟨memT (tin_1 _ (List.mem_of_getElem? (i := 17) rfl)) rfl, memT (tin_3 _ (List.mem_of_getElem? (i := 111) rfl)) rfl, ⟨by decide +kernel, by decide +kernel⟩, by decide +kernel⟩
theorem vJ11_lowSurrogate_5068e : Cond.static yJ11_lowSurrogate_5068e ∈ tblG := memT (tin_3 _ (List.mem_of_getElem? (i := 110) rfl)) rfl
abbrev mJ6_bitCount_0f7a4 : MI := (yJ6_bitCount_0f7a4, cJ6_bitCount_0f7a4, 1, (some (.int)))
theorem qJ6_bitCount_0f7a4 : Cal mJ6_bitCount_0f7a4 1 := ⟨memT (tin_1 _ (List.mem_of_getElem? (i := 18) rfl)) rfl, memT (tin_3 _ (List.mem_of_getElem? (i := 185) rfl)) rfl, ⟨by decide +kernel, by decide +kernel⟩, by decide +kernel⟩
theorem vJ6_bitCount_0f7a4 : Cond.static yJ6_bitCount_0f7a4 ∈ tblG := memT (tin_3 _ (List.mem_of_getElem? (i := 184) rfl)) rfl
abbrev mJ9_abs_0f7a4 : MI := (yJ9_abs_0f7a4, cJ9_abs_0f7a4, 1, (some (.int)))
theorem qJ9_abs_0f7a4 : Cal mJ9_abs_0f7a4 1 := ⟨memT (tin_1 _ (List.mem_of_getElem? (i := 4) rfl)) rfl, memT (tin_3 _ (List.mem_of_getElem? (i := 167) rfl)) rfl, ⟨by decide +kernel, by decide +kernel⟩, by decide +kernel⟩
theorem vJ9_abs_0f7a4 : Cond.static yJ9_abs_0f7a4 ∈ tblG := memT (tin_3 _ (List.mem_of_getElem? (i := 166) rfl)) rfl
abbrev mJ9_max_7cf53 : MI := (yJ9_max_7cf53, cJ9_max_7cf53, 2, (some (.int)))
theorem qJ9_max_7cf53 : Cal mJ9_max_7cf53 2 := ⟨memT (tin_1 _ (List.mem_of_getElem? (i := 4) rfl)) rfl, memT (tin_1 _ (List.mem_of_getElem? (i := 43) rfl)) rfl, ⟨by decide +kernel, by decide +kernel⟩, by decide +kernel⟩
theorem vJ9_max_7cf53 : Cond.static yJ9_max_7cf53 ∈ tblG := memT (tin_1 _ (List.mem_of_getElem? (i := 42) rfl)) rfl
abbrev mJ9_min_7cf53 : MI := (yJ9_min_7cf53, cJ9_min_7cf53, 2, (some (.int)))
theorem qJ9_min_7cf53 : Cal mJ9_min_7cf53 2 := ⟨memT (tin_1 _ (List.mem_of_getElem? (i := 4) rfl)) rfl, memT (tin_3 _ (List.mem_of_getElem? (i := 74) rfl)) rfl, ⟨by decide +kernel, by decide +kernel⟩, by decide +kernel⟩
theorem vJ9_min_7cf53 : Cond.static yJ9_min_7cf53 ∈ tblG := memT (tin_3 _ (List.mem_of_getElem? (i := 73) rfl)) rfl
abbrev mJ0_length_8abf5 : MI := (yJ0_length_8abf5, cJ0_length_8abf5, 1, (some (.int)))
theorem qJ0_length_8abf5 : Cal mJ0_length_8abf5 0 := ⟨memT (tin_1 _ (List.mem_of_getElem? (i := 13) rfl)) rfl, memT (tin_3 _ (List.mem_of_getElem? (i := 2) rfl)) rfl, ⟨by decide +kernel, by decide +kernel⟩, by decide +kernel⟩
theorem vJ0_length_8abf5 : Cond.instanceMethod yJ0_length_8abf5 ∈ tblG := memT (tin_3 _ (List.mem_of_getElem? (i := 0) rfl)) rfl
theorem sJ0_length_8abf5 : Cond.selects RJ0 yJ0_length_8abf5 yJ0_length_8abf5 ∈ tblG := memT (tin_3 _ (List.mem_of_getElem? (i := 1) rfl)) rfl
abbrev mJ0_charAt_5068e : MI := (yJ0_charAt_5068e, cJ0_charAt_5068e, 2, (some (.char)))
theorem qJ0_charAt_5068e : Cal mJ0_charAt_5068e 1 := ⟨memT (tin_1 _ (List.mem_of_getElem? (i := 13) rfl)) rfl, memT (tin_3 _ (List.mem_of_getElem? (i := 12) rfl)) rfl, ⟨by decide +kernel, by decide +kernel⟩, by decide +kernel⟩
theorem vJ0_charAt_5068e : Cond.instanceMethod yJ0_charAt_5068e ∈ tblG := memT (tin_3 _ (List.mem_of_getElem? (i := 10) rfl)) rfl
theorem sJ0_charAt_5068e : Cond.selects RJ0 yJ0_charAt_5068e yJ0_charAt_5068e ∈ tblG := memT (tin_3 _ (List.mem_of_getElem? (i := 11) rfl)) rfl
abbrev mJ0_indexOf_0f7a4 : MI := (yJ0_indexOf_0f7a4, cJ0_indexOf_0f7a4, 2, (some (.int)))
theorem qJ0_indexOf_0f7a4 : Cal mJ0_indexOf_0f7a4 1 := ⟨memT (tin_1 _ (List.mem_of_getElem? (i := 13) rfl)) rfl, memT (tin_3 _ (List.mem_of_getElem? (i := 59) rfl)) rfl, ⟨by decide +kernel, by decide +kernel⟩, by decide +kernel⟩
theorem vJ0_indexOf_0f7a4 : Cond.instanceMethod yJ0_indexOf_0f7a4 ∈ tblG := memT (tin_3 _ (List.mem_of_getElem? (i := 57) rfl)) rfl
theorem sJ0_indexOf_0f7a4 : Cond.selects RJ0 yJ0_indexOf_0f7a4 yJ0_indexOf_0f7a4 ∈ tblG := memT (tin_3 _ (List.mem_of_getElem? (i := 58) rfl)) rfl
abbrev mJ0_indexOf_7cf53 : MI := (yJ0_indexOf_7cf53, cJ0_indexOf_7cf53, 3, (some (.int)))
theorem qJ0_indexOf_7cf53 : Cal mJ0_indexOf_7cf53 2 := ⟨memT (tin_1 _ (List.mem_of_getElem? (i := 13) rfl)) rfl, memT (tin_3 _ (List.mem_of_getElem? (i := 63) rfl)) rfl, ⟨by decide +kernel, by decide +kernel⟩, by decide +kernel⟩
theorem vJ0_indexOf_7cf53 : Cond.instanceMethod yJ0_indexOf_7cf53 ∈ tblG := memT (tin_3 _ (List.mem_of_getElem? (i := 61) rfl)) rfl
theorem sJ0_indexOf_7cf53 : Cond.selects RJ0 yJ0_indexOf_7cf53 yJ0_indexOf_7cf53 ∈ tblG := memT (tin_3 _ (List.mem_of_getElem? (i := 62) rfl)) rfl
abbrev mJ0_coder_7d493 : MI := (yJ0_coder_7d493, cJ0_coder_7d493, 1, (some (.byte)))
theorem qJ0_coder_7d493 : Cal mJ0_coder_7d493 0 := ⟨memT (tin_1 _ (List.mem_of_getElem? (i := 13) rfl)) rfl, memT (tin_3 _ (List.mem_of_getElem? (i := 6) rfl)) rfl, ⟨by decide +kernel, by decide +kernel⟩, by decide +kernel⟩
theorem vJ0_coder_7d493 : Cond.instanceMethod yJ0_coder_7d493 ∈ tblG := memT (tin_3 _ (List.mem_of_getElem? (i := 4) rfl)) rfl
theorem sJ0_coder_7d493 : Cond.selects RJ0 yJ0_coder_7d493 yJ0_coder_7d493 ∈ tblG := memT (tin_3 _ (List.mem_of_getElem? (i := 5) rfl)) rfl
abbrev mJ0_isLatin1_aae02 : MI := (yJ0_isLatin1_aae02, cJ0_isLatin1_aae02, 1, (some (.boolean)))
theorem qJ0_isLatin1_aae02 : Cal mJ0_isLatin1_aae02 0 := ⟨memT (tin_1 _ (List.mem_of_getElem? (i := 13) rfl)) rfl, memT (tin_3 _ (List.mem_of_getElem? (i := 16) rfl)) rfl, ⟨by decide +kernel, by decide +kernel⟩, by decide +kernel⟩
theorem vJ0_isLatin1_aae02 : Cond.instanceMethod yJ0_isLatin1_aae02 ∈ tblG := memT (tin_3 _ (List.mem_of_getElem? (i := 14) rfl)) rfl
theorem sJ0_isLatin1_aae02 : Cond.selects RJ0 yJ0_isLatin1_aae02 yJ0_isLatin1_aae02 ∈ tblG := memT (tin_3 _ (List.mem_of_getElem? (i := 15) rfl)) rfl
abbrev mJ0_checkIndex_df160 : MI := (yJ0_checkIndex_df160, cJ0_checkIndex_df160, 2, none)
theorem qJ0_checkIndex_df160 : Cal mJ0_checkIndex_df160 2 := ⟨memT (tin_1 _ (List.mem_of_getElem? (i := 13) rfl)) rfl, memT (tin_3 _ (List.mem_of_getElem? (i := 22) rfl)) rfl, ⟨by decide +kernel, by decide +kernel⟩, by decide +kernel⟩
theorem vJ0_checkIndex_df160 : Cond.static yJ0_checkIndex_df160 ∈ tblG := memT (tin_3 _ (List.mem_of_getElem? (i := 21) rfl)) rfl
abbrev mJ0_checkBoundsBeginEnd_23922 : MI := (yJ0_checkBoundsBeginEnd_23922, cJ0_checkBoundsBeginEnd_23922, 3, none)
theorem qJ0_checkBoundsBeginEnd_23922 : Cal mJ0_checkBoundsBeginEnd_23922 3 := ⟨memT (tin_1 _ (List.mem_of_getElem? (i := 13) rfl)) rfl, memT (tin_3 _ (List.mem_of_getElem? (i := 92) rfl)) rfl, ⟨by decide +kernel, by decide +kernel⟩, by decide +kernel⟩
theorem vJ0_checkBoundsBeginEnd_23922 : Cond.static yJ0_checkBoundsBeginEnd_23922 ∈ tblG := memT (tin_3 _ (List.mem_of_getElem? (i := 91) rfl)) rfl
abbrev mJ1_charAt_3b067 : MI := (yJ1_charAt_3b067, cJ1_charAt_3b067, 2, (some (.char)))
theorem qJ1_charAt_3b067 : Cal mJ1_charAt_3b067 2 := ⟨memT (tin_1 _ (List.mem_of_getElem? (i := 14) rfl)) rfl, memT (tin_3 _ (List.mem_of_getElem? (i := 19) rfl)) rfl, ⟨by decide +kernel, by decide +kernel⟩, by decide +kernel⟩
theorem vJ1_charAt_3b067 : Cond.static yJ1_charAt_3b067 ∈ tblG := memT (tin_3 _ (List.mem_of_getElem? (i := 18) rfl)) rfl
abbrev mJ1_canEncode_9a6ad : MI := (yJ1_canEncode_9a6ad, cJ1_canEncode_9a6ad, 1, (some (.boolean)))
theorem qJ1_canEncode_9a6ad : Cal mJ1_canEncode_9a6ad 1 := ⟨memT (tin_1 _ (List.mem_of_getElem? (i := 14) rfl)) rfl, memT (tin_3 _ (List.mem_of_getElem? (i := 70) rfl)) rfl, ⟨by decide +kernel, by decide +kernel⟩, by decide +kernel⟩
theorem vJ1_canEncode_9a6ad : Cond.static yJ1_canEncode_9a6ad ∈ tblG := memT (tin_3 _ (List.mem_of_getElem? (i := 69) rfl)) rfl
abbrev mJ1_indexOf_4cfef : MI := (yJ1_indexOf_4cfef, cJ1_indexOf_4cfef, 4, (some (.int)))
theorem qJ1_indexOf_4cfef : Cal mJ1_indexOf_4cfef 4 := ⟨memT (tin_1 _ (List.mem_of_getElem? (i := 14) rfl)) rfl, memT (tin_3 _ (List.mem_of_getElem? (i := 67) rfl)) rfl, ⟨by decide +kernel, by decide +kernel⟩, by decide +kernel⟩
theorem vJ1_indexOf_4cfef : Cond.static yJ1_indexOf_4cfef ∈ tblG := memT (tin_3 _ (List.mem_of_getElem? (i := 66) rfl)) rfl
abbrev mJ1_indexOfChar_4cfef : MI := (yJ1_indexOfChar_4cfef, cJ1_indexOfChar_4cfef, 6, (some (.int)))
theorem qJ1_indexOfChar_4cfef : Cal mJ1_indexOfChar_4cfef 4 := ⟨memT (tin_1 _ (List.mem_of_getElem? (i := 14) rfl)) rfl, memT (tin_3 _ (List.mem_of_getElem? (i := 77) rfl)) rfl, ⟨by decide +kernel, by decide +kernel⟩, by decide +kernel⟩
theorem vJ1_indexOfChar_4cfef : Cond.static yJ1_indexOfChar_4cfef ∈ tblG := memT (tin_3 _ (List.mem_of_getElem? (i := 76) rfl)) rfl
abbrev mJ2_getChar_3b067 : MI := (yJ2_getChar_3b067, cJ2_getChar_3b067, 2, (some (.char)))
theorem qJ2_getChar_3b067 : Cal mJ2_getChar_3b067 2 := ⟨memT (tin_1 _ (List.mem_of_getElem? (i := 16) rfl)) rfl, memT (tin_3 _ (List.mem_of_getElem? (i := 40) rfl)) rfl, ⟨by decide +kernel, by decide +kernel⟩, by decide +kernel⟩
theorem vJ2_getChar_3b067 : Cond.static yJ2_getChar_3b067 ∈ tblG := memT (tin_3 _ (List.mem_of_getElem? (i := 39) rfl)) rfl
abbrev mJ2_length_9d52b : MI := (yJ2_length_9d52b, cJ2_length_9d52b, 1, (some (.int)))
theorem qJ2_length_9d52b : Cal mJ2_length_9d52b 1 := ⟨memT (tin_1 _ (List.mem_of_getElem? (i := 16) rfl)) rfl, memT (tin_3 _ (List.mem_of_getElem? (i := 36) rfl)) rfl, ⟨by decide +kernel, by decide +kernel⟩, by decide +kernel⟩
theorem vJ2_length_9d52b : Cond.static yJ2_length_9d52b ∈ tblG := memT (tin_3 _ (List.mem_of_getElem? (i := 35) rfl)) rfl
abbrev mJ2_indexOf_4cfef : MI := (yJ2_indexOf_4cfef, cJ2_indexOf_4cfef, 4, (some (.int)))
theorem qJ2_indexOf_4cfef : Cal mJ2_indexOf_4cfef 4 := ⟨memT (tin_1 _ (List.mem_of_getElem? (i := 16) rfl)) rfl, memT (tin_3 _ (List.mem_of_getElem? (i := 80) rfl)) rfl, ⟨by decide +kernel, by decide +kernel⟩, by decide +kernel⟩
theorem vJ2_indexOf_4cfef : Cond.static yJ2_indexOf_4cfef ∈ tblG := memT (tin_3 _ (List.mem_of_getElem? (i := 79) rfl)) rfl
abbrev mJ2_indexOfChar_4cfef : MI := (yJ2_indexOfChar_4cfef, cJ2_indexOfChar_4cfef, 4, (some (.int)))
theorem qJ2_indexOfChar_4cfef : Cal mJ2_indexOfChar_4cfef 4 := ⟨memT (tin_1 _ (List.mem_of_getElem? (i := 16) rfl)) rfl, memT (tin_3 _ (List.mem_of_getElem? (i := 86) rfl)) rfl, ⟨by decide +kernel, by decide +kernel⟩, by decide +kernel⟩
theorem vJ2_indexOfChar_4cfef : Cond.static yJ2_indexOfChar_4cfef ∈ tblG := memT (tin_3 _ (List.mem_of_getElem? (i := 85) rfl)) rfl
abbrev mJ2_indexOfCharUnsafe_4cfef : MI := (yJ2_indexOfCharUnsafe_4cfef, cJ2_indexOfCharUnsafe_4cfef, 5, (some (.int)))
theorem qJ2_indexOfCharUnsafe_4cfef : Cal mJ2_indexOfCharUnsafe_4cfef 4 := ⟨memT (tin_1 _ (List.mem_of_getElem? (i := 16) rfl)) rfl, memT (tin_3 _ (List.mem_of_getElem? (i := 98) rfl)) rfl, ⟨by decide +kernel, by decide +kernel⟩, by decide +kernel⟩
theorem vJ2_indexOfCharUnsafe_4cfef : Cond.static yJ2_indexOfCharUnsafe_4cfef ∈ tblG := memT (tin_3 _ (List.mem_of_getElem? (i := 97) rfl)) rfl
abbrev mJ2_indexOfSupplementary_4cfef : MI := (yJ2_indexOfSupplementary_4cfef, cJ2_indexOfSupplementary_4cfef, 7, (some (.int)))
theorem qJ2_indexOfSupplementary_4cfef : Cal mJ2_indexOfSupplementary_4cfef 4 := ⟨memT (tin_1 _ (List.mem_of_getElem? (i := 16) rfl)) rfl, memT (tin_3 _ (List.mem_of_getElem? (i := 101) rfl)) rfl, ⟨by decide +kernel, by decide +kernel⟩, by decide +kernel⟩
theorem vJ2_indexOfSupplementary_4cfef : Cond.static yJ2_indexOfSupplementary_4cfef ∈ tblG := memT (tin_3 _ (List.mem_of_getElem? (i := 100) rfl)) rfl
abbrev mJ2_charAt_3b067 : MI := (yJ2_charAt_3b067, cJ2_charAt_3b067, 2, (some (.char)))
theorem qJ2_charAt_3b067 : Cal mJ2_charAt_3b067 2 := ⟨memT (tin_1 _ (List.mem_of_getElem? (i := 16) rfl)) rfl, memT (tin_3 _ (List.mem_of_getElem? (i := 30) rfl)) rfl, ⟨by decide +kernel, by decide +kernel⟩, by decide +kernel⟩
theorem vJ2_charAt_3b067 : Cond.static yJ2_charAt_3b067 ∈ tblG := memT (tin_3 _ (List.mem_of_getElem? (i := 29) rfl)) rfl
abbrev mJ2_checkIndex_2214a : MI := (yJ2_checkIndex_2214a, cJ2_checkIndex_2214a, 2, none)
theorem qJ2_checkIndex_2214a : Cal mJ2_checkIndex_2214a 2 := ⟨memT (tin_1 _ (List.mem_of_getElem? (i := 16) rfl)) rfl, memT (tin_3 _ (List.mem_of_getElem? (i := 33) rfl)) rfl, ⟨by decide +kernel, by decide +kernel⟩, by decide +kernel⟩
theorem vJ2_checkIndex_2214a : Cond.static yJ2_checkIndex_2214a ∈ tblG := memT (tin_3 _ (List.mem_of_getElem? (i := 32) rfl)) rfl
abbrev mJ2_checkBoundsBeginEnd_d044e : MI := (yJ2_checkBoundsBeginEnd_d044e, cJ2_checkBoundsBeginEnd_d044e, 3, none)
theorem qJ2_checkBoundsBeginEnd_d044e : Cal mJ2_checkBoundsBeginEnd_d044e 3 := ⟨memT (tin_1 _ (List.mem_of_getElem? (i := 16) rfl)) rfl, memT (tin_3 _ (List.mem_of_getElem? (i := 89) rfl)) rfl, ⟨by decide +kernel, by decide +kernel⟩, by decide +kernel⟩
theorem vJ2_checkBoundsBeginEnd_d044e : Cond.static yJ2_checkBoundsBeginEnd_d044e ∈ tblG := memT (tin_3 _ (List.mem_of_getElem? (i := 88) rfl)) rfl
abbrev mJ7_fill_d0a16 : MI := (yJ7_fill_d0a16, cJ7_fill_d0a16, 5, none)
theorem qJ7_fill_d0a16 : Cal mJ7_fill_d0a16 2 := ⟨memT (tin_1 _ (List.mem_of_getElem? (i := 20) rfl)) rfl, memT (tin_4 _ (List.mem_of_getElem? (i := 201) rfl)) rfl, ⟨by decide +kernel, by decide +kernel⟩, by decide +kernel⟩
theorem vJ7_fill_d0a16 : Cond.static yJ7_fill_d0a16 ∈ tblG := memT (tin_4 _ (List.mem_of_getElem? (i := 200) rfl)) rfl
abbrev mJ3_checkIndex_8e157 : MI := (yJ3_checkIndex_8e157, cJ3_checkIndex_8e157, 3, (some (.int)))
theorem qJ3_checkIndex_8e157 : Cal mJ3_checkIndex_8e157 3 := ⟨memT (tin_1 _ (List.mem_of_getElem? (i := 15) rfl)) rfl, memT (tin_3 _ (List.mem_of_getElem? (i := 27) rfl)) rfl, ⟨by decide +kernel, by decide +kernel⟩, by decide +kernel⟩
theorem vJ3_checkIndex_8e157 : Cond.static yJ3_checkIndex_8e157 ∈ tblG := memT (tin_3 _ (List.mem_of_getElem? (i := 26) rfl)) rfl
abbrev mJ3_checkFromToIndex_8c36e : MI := (yJ3_checkFromToIndex_8c36e, cJ3_checkFromToIndex_8c36e, 4, (some (.int)))
theorem qJ3_checkFromToIndex_8c36e : Cal mJ3_checkFromToIndex_8c36e 4 := ⟨memT (tin_1 _ (List.mem_of_getElem? (i := 15) rfl)) rfl, memT (tin_3 _ (List.mem_of_getElem? (i := 95) rfl)) rfl, ⟨by decide +kernel, by decide +kernel⟩, by decide +kernel⟩
theorem vJ3_checkFromToIndex_8c36e : Cond.static yJ3_checkFromToIndex_8c36e ∈ tblG := memT (tin_3 _ (List.mem_of_getElem? (i := 94) rfl)) rfl
theorem inX0 : ∀ w ∈ u_ws RX0 TX0 5, w ∈ tblG := by
  intro w h
  obtain ⟨k, hk, rfl⟩ := List.mem_map.mp h
  have hk := List.mem_range.mp hk
  have key : ∀ k, k < 5 → (u_lay RX0 TX0 k ∈ lw_tbl ∧ goodWord (u_lay RX0 TX0 k) = true) := by
    intro k hk
    match k, hk with
    | 0, _ => exact ⟨tin_1 _ (List.mem_of_getElem? (i := 183) rfl), rfl⟩
    | 1, _ => exact ⟨tin_1 _ (List.mem_of_getElem? (i := 185) rfl), rfl⟩
    | 2, _ => exact ⟨tin_1 _ (List.mem_of_getElem? (i := 187) rfl), rfl⟩
    | 3, _ => exact ⟨tin_1 _ (List.mem_of_getElem? (i := 189) rfl), rfl⟩
    | 4, _ => exact ⟨tin_1 _ (List.mem_of_getElem? (i := 191) rfl), rfl⟩
    | k + 5, h => exact absurd h (by omega)
  exact memT (key k hk).1 (key k hk).2
theorem newX0 : Cond.instantiable RX0 5 ∈ tblG ∧ Cond.initialized RX0 ∈ tblG := ⟨memT (tin_1 _ (List.mem_of_getElem? (i := 172) rfl)) rfl, memT (tin_1 _ (List.mem_of_getElem? (i := 6) rfl)) rfl⟩
theorem inX1 : ∀ w ∈ u_ws RX1 TX1 10, w ∈ tblG := by
  intro w h
  obtain ⟨k, hk, rfl⟩ := List.mem_map.mp h
  have hk := List.mem_range.mp hk
  have key : ∀ k, k < 10 → (u_lay RX1 TX1 k ∈ lw_tbl ∧ goodWord (u_lay RX1 TX1 k) = true) := by
    intro k hk
    match k, hk with
    | 0, _ => exact ⟨tin_2 _ (List.mem_of_getElem? (i := 69) rfl), rfl⟩
    | 1, _ => exact ⟨tin_2 _ (List.mem_of_getElem? (i := 71) rfl), rfl⟩
    | 2, _ => exact ⟨tin_2 _ (List.mem_of_getElem? (i := 73) rfl), rfl⟩
    | 3, _ => exact ⟨tin_2 _ (List.mem_of_getElem? (i := 75) rfl), rfl⟩
    | 4, _ => exact ⟨tin_2 _ (List.mem_of_getElem? (i := 77) rfl), rfl⟩
    | 5, _ => exact ⟨tin_2 _ (List.mem_of_getElem? (i := 79) rfl), rfl⟩
    | 6, _ => exact ⟨tin_2 _ (List.mem_of_getElem? (i := 81) rfl), rfl⟩
    | 7, _ => exact ⟨tin_2 _ (List.mem_of_getElem? (i := 83) rfl), rfl⟩
    | 8, _ => exact ⟨tin_2 _ (List.mem_of_getElem? (i := 85) rfl), rfl⟩
    | 9, _ => exact ⟨tin_2 _ (List.mem_of_getElem? (i := 87) rfl), rfl⟩
    | k + 10, h => exact absurd h (by omega)
  exact memT (key k hk).1 (key k hk).2
theorem newX1 : Cond.instantiable RX1 10 ∈ tblG ∧ Cond.initialized RX1 ∈ tblG := ⟨memT (tin_2 _ (List.mem_of_getElem? (i := 49) rfl)) rfl, memT (tin_1 _ (List.mem_of_getElem? (i := 11) rfl)) rfl⟩
theorem inX2 : ∀ w ∈ u_ws RX2 TX2 4, w ∈ tblG := by
  intro w h
  obtain ⟨k, hk, rfl⟩ := List.mem_map.mp h
  have hk := List.mem_range.mp hk
  have key : ∀ k, k < 4 → (u_lay RX2 TX2 k ∈ lw_tbl ∧ goodWord (u_lay RX2 TX2 k) = true) := by
    intro k hk
    match k, hk with
    | 0, _ => exact ⟨tin_2 _ (List.mem_of_getElem? (i := 95) rfl), rfl⟩
    | 1, _ => exact ⟨tin_2 _ (List.mem_of_getElem? (i := 97) rfl), rfl⟩
    | 2, _ => exact ⟨tin_2 _ (List.mem_of_getElem? (i := 99) rfl), rfl⟩
    | 3, _ => exact ⟨tin_2 _ (List.mem_of_getElem? (i := 101) rfl), rfl⟩
    | k + 4, h => exact absurd h (by omega)
  exact memT (key k hk).1 (key k hk).2
theorem newX2 : Cond.instantiable RX2 4 ∈ tblG ∧ Cond.initialized RX2 ∈ tblG := ⟨memT (tin_2 _ (List.mem_of_getElem? (i := 15) rfl)) rfl, memT (tin_1 _ (List.mem_of_getElem? (i := 9) rfl)) rfl⟩
theorem inX3 : ∀ w ∈ u_ws RX3 TX3 5, w ∈ tblG := by
  intro w h
  obtain ⟨k, hk, rfl⟩ := List.mem_map.mp h
  have hk := List.mem_range.mp hk
  have key : ∀ k, k < 5 → (u_lay RX3 TX3 k ∈ lw_tbl ∧ goodWord (u_lay RX3 TX3 k) = true) := by
    intro k hk
    match k, hk with
    | 0, _ => exact ⟨tin_2 _ (List.mem_of_getElem? (i := 37) rfl), rfl⟩
    | 1, _ => exact ⟨tin_2 _ (List.mem_of_getElem? (i := 39) rfl), rfl⟩
    | 2, _ => exact ⟨tin_2 _ (List.mem_of_getElem? (i := 41) rfl), rfl⟩
    | 3, _ => exact ⟨tin_2 _ (List.mem_of_getElem? (i := 43) rfl), rfl⟩
    | 4, _ => exact ⟨tin_2 _ (List.mem_of_getElem? (i := 45) rfl), rfl⟩
    | k + 5, h => exact absurd h (by omega)
  exact memT (key k hk).1 (key k hk).2
theorem newX3 : Cond.instantiable RX3 5 ∈ tblG ∧ Cond.initialized RX3 ∈ tblG := ⟨memT (tin_2 _ (List.mem_of_getElem? (i := 21) rfl)) rfl, memT (tin_1 _ (List.mem_of_getElem? (i := 10) rfl)) rfl⟩
theorem inX4 : ∀ w ∈ u_ws RX4 TX4 3, w ∈ tblG := by
  intro w h
  obtain ⟨k, hk, rfl⟩ := List.mem_map.mp h
  have hk := List.mem_range.mp hk
  have key : ∀ k, k < 3 → (u_lay RX4 TX4 k ∈ lw_tbl ∧ goodWord (u_lay RX4 TX4 k) = true) := by
    intro k hk
    match k, hk with
    | 0, _ => exact ⟨tin_1 _ (List.mem_of_getElem? (i := 51) rfl), rfl⟩
    | 1, _ => exact ⟨tin_1 _ (List.mem_of_getElem? (i := 53) rfl), rfl⟩
    | 2, _ => exact ⟨tin_1 _ (List.mem_of_getElem? (i := 55) rfl), rfl⟩
    | k + 3, h => exact absurd h (by omega)
  exact memT (key k hk).1 (key k hk).2
theorem newX4 : Cond.instantiable RX4 3 ∈ tblG ∧ Cond.initialized RX4 ∈ tblG := ⟨memT (tin_1 _ (List.mem_of_getElem? (i := 36) rfl)) rfl, memT (tin_1 _ (List.mem_of_getElem? (i := 3) rfl)) rfl⟩
theorem inX5 : ∀ w ∈ u_ws RX5 TX5 14, w ∈ tblG := by
  intro w h
  obtain ⟨k, hk, rfl⟩ := List.mem_map.mp h
  have hk := List.mem_range.mp hk
  have key : ∀ k, k < 14 → (u_lay RX5 TX5 k ∈ lw_tbl ∧ goodWord (u_lay RX5 TX5 k) = true) := by
    intro k hk
    match k, hk with
    | 0, _ => exact ⟨tin_1 _ (List.mem_of_getElem? (i := 109) rfl), rfl⟩
    | 1, _ => exact ⟨tin_1 _ (List.mem_of_getElem? (i := 111) rfl), rfl⟩
    | 2, _ => exact ⟨tin_1 _ (List.mem_of_getElem? (i := 113) rfl), rfl⟩
    | 3, _ => exact ⟨tin_1 _ (List.mem_of_getElem? (i := 115) rfl), rfl⟩
    | 4, _ => exact ⟨tin_1 _ (List.mem_of_getElem? (i := 117) rfl), rfl⟩
    | 5, _ => exact ⟨tin_1 _ (List.mem_of_getElem? (i := 119) rfl), rfl⟩
    | 6, _ => exact ⟨tin_1 _ (List.mem_of_getElem? (i := 121) rfl), rfl⟩
    | 7, _ => exact ⟨tin_1 _ (List.mem_of_getElem? (i := 123) rfl), rfl⟩
    | 8, _ => exact ⟨tin_1 _ (List.mem_of_getElem? (i := 125) rfl), rfl⟩
    | 9, _ => exact ⟨tin_1 _ (List.mem_of_getElem? (i := 127) rfl), rfl⟩
    | 10, _ => exact ⟨tin_1 _ (List.mem_of_getElem? (i := 129) rfl), rfl⟩
    | 11, _ => exact ⟨tin_1 _ (List.mem_of_getElem? (i := 131) rfl), rfl⟩
    | 12, _ => exact ⟨tin_1 _ (List.mem_of_getElem? (i := 133) rfl), rfl⟩
    | 13, _ => exact ⟨tin_1 _ (List.mem_of_getElem? (i := 135) rfl), rfl⟩
    | k + 14, h => exact absurd h (by omega)
  exact memT (key k hk).1 (key k hk).2
theorem newX5 : Cond.instantiable RX5 14 ∈ tblG ∧ Cond.initialized RX5 ∈ tblG := ⟨memT (tin_1 _ (List.mem_of_getElem? (i := 30) rfl)) rfl, memT (tin_1 _ (List.mem_of_getElem? (i := 2) rfl)) rfl⟩
theorem inX6 : ∀ w ∈ u_ws RX6 TX6 3, w ∈ tblG := by
  intro w h
  obtain ⟨k, hk, rfl⟩ := List.mem_map.mp h
  have hk := List.mem_range.mp hk
  have key : ∀ k, k < 3 → (u_lay RX6 TX6 k ∈ lw_tbl ∧ goodWord (u_lay RX6 TX6 k) = true) := by
    intro k hk
    match k, hk with
    | 0, _ => exact ⟨tin_1 _ (List.mem_of_getElem? (i := 208) rfl), rfl⟩
    | 1, _ => exact ⟨tin_1 _ (List.mem_of_getElem? (i := 210) rfl), rfl⟩
    | 2, _ => exact ⟨tin_1 _ (List.mem_of_getElem? (i := 212) rfl), rfl⟩
    | k + 3, h => exact absurd h (by omega)
  exact memT (key k hk).1 (key k hk).2
theorem newX6 : Cond.instantiable RX6 3 ∈ tblG ∧ Cond.initialized RX6 ∈ tblG := ⟨memT (tin_1 _ (List.mem_of_getElem? (i := 195) rfl)) rfl, memT (tin_1 _ (List.mem_of_getElem? (i := 7) rfl)) rfl⟩
theorem inX7 : ∀ w ∈ u_ws RX7 TX7 7, w ∈ tblG := by
  intro w h
  obtain ⟨k, hk, rfl⟩ := List.mem_map.mp h
  have hk := List.mem_range.mp hk
  have key : ∀ k, k < 7 → (u_lay RX7 TX7 k ∈ lw_tbl ∧ goodWord (u_lay RX7 TX7 k) = true) := by
    intro k hk
    match k, hk with
    | 0, _ => exact ⟨tin_1 _ (List.mem_of_getElem? (i := 155) rfl), rfl⟩
    | 1, _ => exact ⟨tin_1 _ (List.mem_of_getElem? (i := 157) rfl), rfl⟩
    | 2, _ => exact ⟨tin_1 _ (List.mem_of_getElem? (i := 159) rfl), rfl⟩
    | 3, _ => exact ⟨tin_1 _ (List.mem_of_getElem? (i := 161) rfl), rfl⟩
    | 4, _ => exact ⟨tin_1 _ (List.mem_of_getElem? (i := 163) rfl), rfl⟩
    | 5, _ => exact ⟨tin_1 _ (List.mem_of_getElem? (i := 165) rfl), rfl⟩
    | 6, _ => exact ⟨tin_1 _ (List.mem_of_getElem? (i := 167) rfl), rfl⟩
    | k + 7, h => exact absurd h (by omega)
  exact memT (key k hk).1 (key k hk).2
theorem newX7 : Cond.instantiable RX7 7 ∈ tblG ∧ Cond.initialized RX7 ∈ tblG := ⟨memT (tin_1 _ (List.mem_of_getElem? (i := 139) rfl)) rfl, memT (tin_1 _ (List.mem_of_getElem? (i := 5) rfl)) rfl⟩
theorem inX9 : ∀ w ∈ u_ws RX9 TX9 7, w ∈ tblG := by
  intro w h
  obtain ⟨k, hk, rfl⟩ := List.mem_map.mp h
  have hk := List.mem_range.mp hk
  have key : ∀ k, k < 7 → (u_lay RX9 TX9 k ∈ lw_tbl ∧ goodWord (u_lay RX9 TX9 k) = true) := by
    intro k hk
    match k, hk with
    | 0, _ => exact ⟨tin_1 _ (List.mem_of_getElem? (i := 239) rfl), rfl⟩
    | 1, _ => exact ⟨tin_2 _ (List.mem_of_getElem? (i := 1) rfl), rfl⟩
    | 2, _ => exact ⟨tin_2 _ (List.mem_of_getElem? (i := 3) rfl), rfl⟩
    | 3, _ => exact ⟨tin_2 _ (List.mem_of_getElem? (i := 5) rfl), rfl⟩
    | 4, _ => exact ⟨tin_2 _ (List.mem_of_getElem? (i := 7) rfl), rfl⟩
    | 5, _ => exact ⟨tin_2 _ (List.mem_of_getElem? (i := 9) rfl), rfl⟩
    | 6, _ => exact ⟨tin_2 _ (List.mem_of_getElem? (i := 11) rfl), rfl⟩
    | k + 7, h => exact absurd h (by omega)
  exact memT (key k hk).1 (key k hk).2
theorem newX9 : Cond.instantiable RX9 7 ∈ tblG ∧ Cond.initialized RX9 ∈ tblG := ⟨memT (tin_1 _ (List.mem_of_getElem? (i := 217) rfl)) rfl, memT (tin_1 _ (List.mem_of_getElem? (i := 8) rfl)) rfl⟩
theorem inX10 : ∀ w ∈ u_ws RX10 TX10 8, w ∈ tblG := by
  intro w h
  obtain ⟨k, hk, rfl⟩ := List.mem_map.mp h
  have hk := List.mem_range.mp hk
  have key : ∀ k, k < 8 → (u_lay RX10 TX10 k ∈ lw_tbl ∧ goodWord (u_lay RX10 TX10 k) = true) := by
    intro k hk
    match k, hk with
    | 0, _ => exact ⟨tin_2 _ (List.mem_of_getElem? (i := 112) rfl), rfl⟩
    | 1, _ => exact ⟨tin_2 _ (List.mem_of_getElem? (i := 114) rfl), rfl⟩
    | 2, _ => exact ⟨tin_2 _ (List.mem_of_getElem? (i := 116) rfl), rfl⟩
    | 3, _ => exact ⟨tin_2 _ (List.mem_of_getElem? (i := 118) rfl), rfl⟩
    | 4, _ => exact ⟨tin_2 _ (List.mem_of_getElem? (i := 120) rfl), rfl⟩
    | 5, _ => exact ⟨tin_2 _ (List.mem_of_getElem? (i := 122) rfl), rfl⟩
    | 6, _ => exact ⟨tin_2 _ (List.mem_of_getElem? (i := 124) rfl), rfl⟩
    | 7, _ => exact ⟨tin_2 _ (List.mem_of_getElem? (i := 126) rfl), rfl⟩
    | k + 8, h => exact absurd h (by omega)
  exact memT (key k hk).1 (key k hk).2
theorem newX10 : Cond.instantiable RX10 8 ∈ tblG ∧ Cond.initialized RX10 ∈ tblG := ⟨memT (tin_1 _ (List.mem_of_getElem? (i := 22) rfl)) rfl, memT (tin_1 _ (List.mem_of_getElem? (i := 1) rfl)) rfl⟩
theorem inX11 : ∀ w ∈ u_ws RX11 TX11 70, w ∈ tblG := by
  intro w h
  obtain ⟨k, hk, rfl⟩ := List.mem_map.mp h
  have hk := List.mem_range.mp hk
  have key : ∀ k, k < 70 → (u_lay RX11 TX11 k ∈ lw_tbl ∧ goodWord (u_lay RX11 TX11 k) = true) := by
    intro k hk
    match k, hk with
    | 0, _ => exact ⟨tin_5 _ (List.mem_of_getElem? (i := 54) rfl), rfl⟩
    | 1, _ => exact ⟨tin_5 _ (List.mem_of_getElem? (i := 56) rfl), rfl⟩
    | 2, _ => exact ⟨tin_5 _ (List.mem_of_getElem? (i := 58) rfl), rfl⟩
    | 3, _ => exact ⟨tin_5 _ (List.mem_of_getElem? (i := 60) rfl), rfl⟩
    | 4, _ => exact ⟨tin_5 _ (List.mem_of_getElem? (i := 62) rfl), rfl⟩
    | 5, _ => exact ⟨tin_5 _ (List.mem_of_getElem? (i := 64) rfl), rfl⟩
    | 6, _ => exact ⟨tin_5 _ (List.mem_of_getElem? (i := 66) rfl), rfl⟩
    | 7, _ => exact ⟨tin_5 _ (List.mem_of_getElem? (i := 68) rfl), rfl⟩
    | 8, _ => exact ⟨tin_5 _ (List.mem_of_getElem? (i := 70) rfl), rfl⟩
    | 9, _ => exact ⟨tin_5 _ (List.mem_of_getElem? (i := 72) rfl), rfl⟩
    | 10, _ => exact ⟨tin_5 _ (List.mem_of_getElem? (i := 74) rfl), rfl⟩
    | 11, _ => exact ⟨tin_5 _ (List.mem_of_getElem? (i := 76) rfl), rfl⟩
    | 12, _ => exact ⟨tin_5 _ (List.mem_of_getElem? (i := 78) rfl), rfl⟩
    | 13, _ => exact ⟨tin_5 _ (List.mem_of_getElem? (i := 80) rfl), rfl⟩
    | 14, _ => exact ⟨tin_5 _ (List.mem_of_getElem? (i := 82) rfl), rfl⟩
    | 15, _ => exact ⟨tin_5 _ (List.mem_of_getElem? (i := 84) rfl), rfl⟩
    | 16, _ => exact ⟨tin_5 _ (List.mem_of_getElem? (i := 86) rfl), rfl⟩
    | 17, _ => exact ⟨tin_5 _ (List.mem_of_getElem? (i := 88) rfl), rfl⟩
    | 18, _ => exact ⟨tin_5 _ (List.mem_of_getElem? (i := 90) rfl), rfl⟩
    | 19, _ => exact ⟨tin_5 _ (List.mem_of_getElem? (i := 92) rfl), rfl⟩
    | 20, _ => exact ⟨tin_5 _ (List.mem_of_getElem? (i := 94) rfl), rfl⟩
    | 21, _ => exact ⟨tin_5 _ (List.mem_of_getElem? (i := 96) rfl), rfl⟩
    | 22, _ => exact ⟨tin_5 _ (List.mem_of_getElem? (i := 98) rfl), rfl⟩
    | 23, _ => exact ⟨tin_5 _ (List.mem_of_getElem? (i := 100) rfl), rfl⟩
    | 24, _ => exact ⟨tin_5 _ (List.mem_of_getElem? (i := 102) rfl), rfl⟩
    | 25, _ => exact ⟨tin_5 _ (List.mem_of_getElem? (i := 104) rfl), rfl⟩
    | 26, _ => exact ⟨tin_5 _ (List.mem_of_getElem? (i := 106) rfl), rfl⟩
    | 27, _ => exact ⟨tin_5 _ (List.mem_of_getElem? (i := 108) rfl), rfl⟩
    | 28, _ => exact ⟨tin_5 _ (List.mem_of_getElem? (i := 110) rfl), rfl⟩
    | 29, _ => exact ⟨tin_5 _ (List.mem_of_getElem? (i := 112) rfl), rfl⟩
    | 30, _ => exact ⟨tin_5 _ (List.mem_of_getElem? (i := 114) rfl), rfl⟩
    | 31, _ => exact ⟨tin_5 _ (List.mem_of_getElem? (i := 116) rfl), rfl⟩
    | 32, _ => exact ⟨tin_5 _ (List.mem_of_getElem? (i := 118) rfl), rfl⟩
    | 33, _ => exact ⟨tin_5 _ (List.mem_of_getElem? (i := 120) rfl), rfl⟩
    | 34, _ => exact ⟨tin_5 _ (List.mem_of_getElem? (i := 122) rfl), rfl⟩
    | 35, _ => exact ⟨tin_5 _ (List.mem_of_getElem? (i := 124) rfl), rfl⟩
    | 36, _ => exact ⟨tin_5 _ (List.mem_of_getElem? (i := 126) rfl), rfl⟩
    | 37, _ => exact ⟨tin_5 _ (List.mem_of_getElem? (i := 128) rfl), rfl⟩
    | 38, _ => exact ⟨tin_5 _ (List.mem_of_getElem? (i := 130) rfl), rfl⟩
    | 39, _ => exact ⟨tin_5 _ (List.mem_of_getElem? (i := 132) rfl), rfl⟩
    | 40, _ => exact ⟨tin_5 _ (List.mem_of_getElem? (i := 134) rfl), rfl⟩
    | 41, _ => exact ⟨tin_5 _ (List.mem_of_getElem? (i := 136) rfl), rfl⟩
    | 42, _ => exact ⟨tin_5 _ (List.mem_of_getElem? (i := 138) rfl), rfl⟩
    | 43, _ => exact ⟨tin_5 _ (List.mem_of_getElem? (i := 140) rfl), rfl⟩
    | 44, _ => exact ⟨tin_5 _ (List.mem_of_getElem? (i := 142) rfl), rfl⟩
    | 45, _ => exact ⟨tin_5 _ (List.mem_of_getElem? (i := 144) rfl), rfl⟩
    | 46, _ => exact ⟨tin_5 _ (List.mem_of_getElem? (i := 146) rfl), rfl⟩
    | 47, _ => exact ⟨tin_5 _ (List.mem_of_getElem? (i := 148) rfl), rfl⟩
    | 48, _ => exact ⟨tin_5 _ (List.mem_of_getElem? (i := 150) rfl), rfl⟩
    | 49, _ => exact ⟨tin_5 _ (List.mem_of_getElem? (i := 152) rfl), rfl⟩
    | 50, _ => exact ⟨tin_5 _ (List.mem_of_getElem? (i := 154) rfl), rfl⟩
    | 51, _ => exact ⟨tin_5 _ (List.mem_of_getElem? (i := 156) rfl), rfl⟩
    | 52, _ => exact ⟨tin_5 _ (List.mem_of_getElem? (i := 158) rfl), rfl⟩
    | 53, _ => exact ⟨tin_5 _ (List.mem_of_getElem? (i := 160) rfl), rfl⟩
    | 54, _ => exact ⟨tin_5 _ (List.mem_of_getElem? (i := 162) rfl), rfl⟩
    | 55, _ => exact ⟨tin_5 _ (List.mem_of_getElem? (i := 164) rfl), rfl⟩
    | 56, _ => exact ⟨tin_5 _ (List.mem_of_getElem? (i := 166) rfl), rfl⟩
    | 57, _ => exact ⟨tin_5 _ (List.mem_of_getElem? (i := 168) rfl), rfl⟩
    | 58, _ => exact ⟨tin_5 _ (List.mem_of_getElem? (i := 170) rfl), rfl⟩
    | 59, _ => exact ⟨tin_5 _ (List.mem_of_getElem? (i := 172) rfl), rfl⟩
    | 60, _ => exact ⟨tin_5 _ (List.mem_of_getElem? (i := 174) rfl), rfl⟩
    | 61, _ => exact ⟨tin_5 _ (List.mem_of_getElem? (i := 176) rfl), rfl⟩
    | 62, _ => exact ⟨tin_5 _ (List.mem_of_getElem? (i := 178) rfl), rfl⟩
    | 63, _ => exact ⟨tin_5 _ (List.mem_of_getElem? (i := 180) rfl), rfl⟩
    | 64, _ => exact ⟨tin_5 _ (List.mem_of_getElem? (i := 182) rfl), rfl⟩
    | 65, _ => exact ⟨tin_5 _ (List.mem_of_getElem? (i := 184) rfl), rfl⟩
    | 66, _ => exact ⟨tin_5 _ (List.mem_of_getElem? (i := 186) rfl), rfl⟩
    | 67, _ => exact ⟨tin_5 _ (List.mem_of_getElem? (i := 188) rfl), rfl⟩
    | 68, _ => exact ⟨tin_5 _ (List.mem_of_getElem? (i := 190) rfl), rfl⟩
    | 69, _ => exact ⟨tin_5 _ (List.mem_of_getElem? (i := 192) rfl), rfl⟩
    | k + 70, h => exact absurd h (by omega)
  exact memT (key k hk).1 (key k hk).2
theorem newX11 : Cond.instantiable RX11 70 ∈ tblG ∧ Cond.initialized RX11 ∈ tblG := ⟨memT (tin_4 _ (List.mem_of_getElem? (i := 219) rfl)) rfl, memT (tin_1 _ (List.mem_of_getElem? (i := 12) rfl)) rfl⟩
theorem arr_int : Cond.arrayClass .int ∈ lw_tbl := tin_1 _ (List.mem_of_getElem? (i := 58) rfl)
theorem arr_long : Cond.arrayClass .long ∈ lw_tbl := tin_1 _ (List.mem_of_getElem? (i := 215) rfl)
theorem arr_boolean : Cond.arrayClass .boolean ∈ lw_tbl := tin_5 _ (List.mem_of_getElem? (i := 195) rfl)
theorem arr_byte : Cond.arrayClass .byte ∈ lw_tbl := tin_1 _ (List.mem_of_getElem? (i := 170) rfl)
theorem over_int : Cond.arrayOver (.array .int) ∈ lw_tbl := tin_1 _ (List.mem_of_getElem? (i := 223) rfl)
theorem over_long : Cond.arrayOver (.array .long) ∈ lw_tbl := tin_1 _ (List.mem_of_getElem? (i := 201) rfl)
def Fld (ci j tag : Nat) (ty : FieldType) (q : String × String × String × Bool) : Prop := ∃ (C : String) (T : u_T) (N : Nat), vwCl[ci]? = some (C, T, N) ∧ j < N ∧ (fk ci)[j]? = some tag ∧ T j = q ∧ parseFieldDescriptor q.2.2.1 = some ty
theorem fX0_0 : Fld 0 0 1 (.array .int) ("AskedIn$Acts", "begun", "[I", true) := ⟨RX0, TX0, 5, rfl, by decide, rfl, rfl, by decide +kernel⟩
theorem fX0_1 : Fld 0 1 0 .int ("AskedIn$Acts", "ran", "I", false) := ⟨RX0, TX0, 5, rfl, by decide, rfl, rfl, by decide +kernel⟩
theorem fX0_2 : Fld 0 2 0 .int ("AskedIn$Acts", "number", "I", false) := ⟨RX0, TX0, 5, rfl, by decide, rfl, rfl, by decide +kernel⟩
theorem fX0_3 : Fld 0 3 0 .int ("AskedIn$Acts", "kind", "I", false) := ⟨RX0, TX0, 5, rfl, by decide, rfl, rfl, by decide +kernel⟩
theorem fX0_4 : Fld 0 4 0 .int ("AskedIn$Acts", "v", "I", false) := ⟨RX0, TX0, 5, rfl, by decide, rfl, rfl, by decide +kernel⟩
theorem fX1_0 : Fld 1 0 1 (.object "AskedIn$Street") ("AskedIn$Night", "street", "LAskedIn$Street;", true) := ⟨RX1, TX1, 10, rfl, by decide, rfl, rfl, by decide +kernel⟩
theorem fX1_1 : Fld 1 1 1 (.object "AskedIn$Towns") ("AskedIn$Night", "towns", "LAskedIn$Towns;", true) := ⟨RX1, TX1, 10, rfl, by decide, rfl, rfl, by decide +kernel⟩
theorem fX1_2 : Fld 1 2 1 (.array .int) ("AskedIn$Night", "fars", "[I", true) := ⟨RX1, TX1, 10, rfl, by decide, rfl, rfl, by decide +kernel⟩
theorem fX1_3 : Fld 1 3 1 (.array .int) ("AskedIn$Night", "countings", "[I", true) := ⟨RX1, TX1, 10, rfl, by decide, rfl, rfl, by decide +kernel⟩
theorem fX1_4 : Fld 1 4 0 .int ("AskedIn$Night", "one", "I", false) := ⟨RX1, TX1, 10, rfl, by decide, rfl, rfl, by decide +kernel⟩
theorem fX1_5 : Fld 1 5 0 .int ("AskedIn$Night", "place", "I", false) := ⟨RX1, TX1, 10, rfl, by decide, rfl, rfl, by decide +kernel⟩
theorem fX1_6 : Fld 1 6 0 .int ("AskedIn$Night", "counted", "I", false) := ⟨RX1, TX1, 10, rfl, by decide, rfl, rfl, by decide +kernel⟩
theorem fX1_7 : Fld 1 7 0 .int ("AskedIn$Night", "minute", "I", false) := ⟨RX1, TX1, 10, rfl, by decide, rfl, rfl, by decide +kernel⟩
theorem fX1_8 : Fld 1 8 0 .int ("AskedIn$Night", "coins", "I", false) := ⟨RX1, TX1, 10, rfl, by decide, rfl, rfl, by decide +kernel⟩
theorem fX1_9 : Fld 1 9 0 .int ("AskedIn$Night", "in", "I", false) := ⟨RX1, TX1, 10, rfl, by decide, rfl, rfl, by decide +kernel⟩
theorem fX2_0 : Fld 2 0 1 (.object "AskedIn$Street") ("AskedIn$Questions", "street", "LAskedIn$Street;", true) := ⟨RX2, TX2, 4, rfl, by decide, rfl, rfl, by decide +kernel⟩
theorem fX2_1 : Fld 2 1 1 (.object "AskedIn$Towns") ("AskedIn$Questions", "towns", "LAskedIn$Towns;", true) := ⟨RX2, TX2, 4, rfl, by decide, rfl, rfl, by decide +kernel⟩
theorem fX2_2 : Fld 2 2 1 (.object "AskedIn$Night") ("AskedIn$Questions", "night", "LAskedIn$Night;", true) := ⟨RX2, TX2, 4, rfl, by decide, rfl, rfl, by decide +kernel⟩
theorem fX2_3 : Fld 2 3 1 (.object "AskedIn$Round") ("AskedIn$Questions", "best", "LAskedIn$Round;", true) := ⟨RX2, TX2, 4, rfl, by decide, rfl, rfl, by decide +kernel⟩
theorem fX3_0 : Fld 3 0 1 (.array .int) ("AskedIn$Round", "row", "[I", true) := ⟨RX3, TX3, 5, rfl, by decide, rfl, rfl, by decide +kernel⟩
theorem fX3_1 : Fld 3 1 1 (.array .int) ("AskedIn$Round", "order", "[I", true) := ⟨RX3, TX3, 5, rfl, by decide, rfl, rfl, by decide +kernel⟩
theorem fX3_2 : Fld 3 2 0 .int ("AskedIn$Round", "size", "I", false) := ⟨RX3, TX3, 5, rfl, by decide, rfl, rfl, by decide +kernel⟩
theorem fX3_3 : Fld 3 3 0 .int ("AskedIn$Round", "ins", "I", false) := ⟨RX3, TX3, 5, rfl, by decide, rfl, rfl, by decide +kernel⟩
theorem fX3_4 : Fld 3 4 0 .int ("AskedIn$Round", "minute", "I", false) := ⟨RX3, TX3, 5, rfl, by decide, rfl, rfl, by decide +kernel⟩
theorem fX4_0 : Fld 4 0 1 (.array .int) ("AskedIn$Rows", "firsts", "[I", true) := ⟨RX4, TX4, 3, rfl, by decide, rfl, rfl, by decide +kernel⟩
theorem fX4_1 : Fld 4 1 1 (.array .int) ("AskedIn$Rows", "seconds", "[I", true) := ⟨RX4, TX4, 3, rfl, by decide, rfl, rfl, by decide +kernel⟩
theorem fX4_2 : Fld 4 2 0 .int ("AskedIn$Rows", "size", "I", false) := ⟨RX4, TX4, 3, rfl, by decide, rfl, rfl, by decide +kernel⟩
theorem fX5_0 : Fld 5 0 0 .int ("AskedIn$Street", "houses", "I", false) := ⟨RX5, TX5, 14, rfl, by decide, rfl, rfl, by decide +kernel⟩
theorem fX5_1 : Fld 5 1 1 (.array .int) ("AskedIn$Street", "kinds", "[I", true) := ⟨RX5, TX5, 14, rfl, by decide, rfl, rfl, by decide +kernel⟩
theorem fX5_2 : Fld 5 2 1 (.array .int) ("AskedIn$Street", "numbers", "[I", true) := ⟨RX5, TX5, 14, rfl, by decide, rfl, rfl, by decide +kernel⟩
theorem fX5_3 : Fld 5 3 1 (.array .int) ("AskedIn$Street", "grains", "[I", true) := ⟨RX5, TX5, 14, rfl, by decide, rfl, rfl, by decide +kernel⟩
theorem fX5_4 : Fld 5 4 1 (.array .int) ("AskedIn$Street", "asked", "[I", true) := ⟨RX5, TX5, 14, rfl, by decide, rfl, rfl, by decide +kernel⟩
theorem fX5_5 : Fld 5 5 1 (.array .int) ("AskedIn$Street", "rows", "[I", true) := ⟨RX5, TX5, 14, rfl, by decide, rfl, rfl, by decide +kernel⟩
theorem fX5_6 : Fld 5 6 0 .int ("AskedIn$Street", "folks", "I", false) := ⟨RX5, TX5, 14, rfl, by decide, rfl, rfl, by decide +kernel⟩
theorem fX5_7 : Fld 5 7 1 (.array .int) ("AskedIn$Street", "sacks", "[I", true) := ⟨RX5, TX5, 14, rfl, by decide, rfl, rfl, by decide +kernel⟩
theorem fX5_8 : Fld 5 8 1 (.array .int) ("AskedIn$Street", "purses", "[I", true) := ⟨RX5, TX5, 14, rfl, by decide, rfl, rfl, by decide +kernel⟩
theorem fX5_9 : Fld 5 9 1 (.array .int) ("AskedIn$Street", "quicknesses", "[I", true) := ⟨RX5, TX5, 14, rfl, by decide, rfl, rfl, by decide +kernel⟩
theorem fX5_10 : Fld 5 10 1 (.object "AskedIn$Rows") ("AskedIn$Street", "plan", "LAskedIn$Rows;", true) := ⟨RX5, TX5, 14, rfl, by decide, rfl, rfl, by decide +kernel⟩
theorem fX5_11 : Fld 5 11 1 (.object "AskedIn$Rows") ("AskedIn$Street", "watched", "LAskedIn$Rows;", true) := ⟨RX5, TX5, 14, rfl, by decide, rfl, rfl, by decide +kernel⟩
theorem fX5_12 : Fld 5 12 1 (.object "AskedIn$Rows") ("AskedIn$Street", "visits", "LAskedIn$Rows;", true) := ⟨RX5, TX5, 14, rfl, by decide, rfl, rfl, by decide +kernel⟩
theorem fX5_13 : Fld 5 13 0 .int ("AskedIn$Street", "held", "I", false) := ⟨RX5, TX5, 14, rfl, by decide, rfl, rfl, by decide +kernel⟩
theorem fX6_0 : Fld 6 0 1 (.array (.array .long)) ("AskedIn$Tapes", "items", "[[J", true) := ⟨RX6, TX6, 3, rfl, by decide, rfl, rfl, by decide +kernel⟩
theorem fX6_1 : Fld 6 1 1 (.array .int) ("AskedIn$Tapes", "sizes", "[I", true) := ⟨RX6, TX6, 3, rfl, by decide, rfl, rfl, by decide +kernel⟩
theorem fX6_2 : Fld 6 2 1 (.array .int) ("AskedIn$Tapes", "sorts", "[I", true) := ⟨RX6, TX6, 3, rfl, by decide, rfl, rfl, by decide +kernel⟩
theorem fX7_0 : Fld 7 0 1 (.array .byte) ("AskedIn$Text", "signs", "[B", true) := ⟨RX7, TX7, 7, rfl, by decide, rfl, rfl, by decide +kernel⟩
theorem fX7_1 : Fld 7 1 0 .int ("AskedIn$Text", "length", "I", false) := ⟨RX7, TX7, 7, rfl, by decide, rfl, rfl, by decide +kernel⟩
theorem fX7_2 : Fld 7 2 0 .int ("AskedIn$Text", "at", "I", false) := ⟨RX7, TX7, 7, rfl, by decide, rfl, rfl, by decide +kernel⟩
theorem fX7_3 : Fld 7 3 0 .int ("AskedIn$Text", "fault", "I", false) := ⟨RX7, TX7, 7, rfl, by decide, rfl, rfl, by decide +kernel⟩
theorem fX7_4 : Fld 7 4 1 (.array .int) ("AskedIn$Text", "tokens", "[I", false) := ⟨RX7, TX7, 7, rfl, by decide, rfl, rfl, by decide +kernel⟩
theorem fX7_5 : Fld 7 5 0 .int ("AskedIn$Text", "noted", "I", false) := ⟨RX7, TX7, 7, rfl, by decide, rfl, rfl, by decide +kernel⟩
theorem fX7_6 : Fld 7 6 0 .int ("AskedIn$Text", "dawn", "I", false) := ⟨RX7, TX7, 7, rfl, by decide, rfl, rfl, by decide +kernel⟩
theorem fX9_0 : Fld 8 0 1 (.array (.array .int)) ("AskedIn$Towns", "tokens", "[[I", true) := ⟨RX9, TX9, 7, rfl, by decide, rfl, rfl, by decide +kernel⟩
theorem fX9_1 : Fld 8 1 1 (.array .int) ("AskedIn$Towns", "lengths", "[I", true) := ⟨RX9, TX9, 7, rfl, by decide, rfl, rfl, by decide +kernel⟩
theorem fX9_2 : Fld 8 2 1 (.array .int) ("AskedIn$Towns", "dawns", "[I", true) := ⟨RX9, TX9, 7, rfl, by decide, rfl, rfl, by decide +kernel⟩
theorem fX9_3 : Fld 8 3 0 .int ("AskedIn$Towns", "size", "I", false) := ⟨RX9, TX9, 7, rfl, by decide, rfl, rfl, by decide +kernel⟩
theorem fX9_4 : Fld 8 4 1 (.array .int) ("AskedIn$Towns", "letters", "[I", true) := ⟨RX9, TX9, 7, rfl, by decide, rfl, rfl, by decide +kernel⟩
theorem fX9_5 : Fld 8 5 0 .int ("AskedIn$Towns", "slow", "I", false) := ⟨RX9, TX9, 7, rfl, by decide, rfl, rfl, by decide +kernel⟩
theorem fX9_6 : Fld 8 6 0 .int ("AskedIn$Towns", "far", "I", false) := ⟨RX9, TX9, 7, rfl, by decide, rfl, rfl, by decide +kernel⟩
theorem fX10_0 : Fld 9 0 1 (.object "AskedIn$Street") ("AskedIn", "now", "LAskedIn$Street;", true) := ⟨RX10, TX10, 8, rfl, by decide, rfl, rfl, by decide +kernel⟩
theorem fX10_1 : Fld 9 1 1 (.object "AskedIn$Street") ("AskedIn", "kept", "LAskedIn$Street;", true) := ⟨RX10, TX10, 8, rfl, by decide, rfl, rfl, by decide +kernel⟩
theorem fX10_2 : Fld 9 2 2 .boolean ("AskedIn", "hasImage", "Z", false) := ⟨RX10, TX10, 8, rfl, by decide, rfl, rfl, by decide +kernel⟩
theorem fX10_3 : Fld 9 3 1 (.object "AskedIn$Text") ("AskedIn", "text", "LAskedIn$Text;", true) := ⟨RX10, TX10, 8, rfl, by decide, rfl, rfl, by decide +kernel⟩
theorem fX10_4 : Fld 9 4 1 (.object "AskedIn$Towns") ("AskedIn", "towns", "LAskedIn$Towns;", true) := ⟨RX10, TX10, 8, rfl, by decide, rfl, rfl, by decide +kernel⟩
theorem fX10_5 : Fld 9 5 1 (.object "AskedIn$Questions") ("AskedIn", "questions", "LAskedIn$Questions;", true) := ⟨RX10, TX10, 8, rfl, by decide, rfl, rfl, by decide +kernel⟩
theorem fX10_6 : Fld 9 6 1 (.object "AskedIn$Acts") ("AskedIn", "acts", "LAskedIn$Acts;", true) := ⟨RX10, TX10, 8, rfl, by decide, rfl, rfl, by decide +kernel⟩
theorem fX10_7 : Fld 9 7 1 (.object "AskedIn$Tapes") ("AskedIn", "tapes", "LAskedIn$Tapes;", true) := ⟨RX10, TX10, 8, rfl, by decide, rfl, rfl, by decide +kernel⟩
theorem fX11_0 : Fld 10 0 0 .int ("AskedInModel", "houses", "I", false) := ⟨RX11, TX11, 70, rfl, by decide, rfl, rfl, by decide +kernel⟩
theorem fX11_1 : Fld 10 1 0 .int ("AskedInModel", "folks", "I", false) := ⟨RX11, TX11, 70, rfl, by decide, rfl, rfl, by decide +kernel⟩
theorem fX11_2 : Fld 10 2 1 (.array .int) ("AskedInModel", "kind", "[I", true) := ⟨RX11, TX11, 70, rfl, by decide, rfl, rfl, by decide +kernel⟩
theorem fX11_3 : Fld 10 3 1 (.array .int) ("AskedInModel", "v", "[I", true) := ⟨RX11, TX11, 70, rfl, by decide, rfl, rfl, by decide +kernel⟩
theorem fX11_4 : Fld 10 4 1 (.array .int) ("AskedInModel", "grain", "[I", true) := ⟨RX11, TX11, 70, rfl, by decide, rfl, rfl, by decide +kernel⟩
theorem fX11_5 : Fld 10 5 1 (.array .int) ("AskedInModel", "asked", "[I", true) := ⟨RX11, TX11, 70, rfl, by decide, rfl, rfl, by decide +kernel⟩
theorem fX11_6 : Fld 10 6 1 (.array .int) ("AskedInModel", "rows", "[I", true) := ⟨RX11, TX11, 70, rfl, by decide, rfl, rfl, by decide +kernel⟩
theorem fX11_7 : Fld 10 7 1 (.array .int) ("AskedInModel", "sack", "[I", true) := ⟨RX11, TX11, 70, rfl, by decide, rfl, rfl, by decide +kernel⟩
theorem fX11_8 : Fld 10 8 1 (.array .int) ("AskedInModel", "coins", "[I", true) := ⟨RX11, TX11, 70, rfl, by decide, rfl, rfl, by decide +kernel⟩
theorem fX11_9 : Fld 10 9 1 (.array .int) ("AskedInModel", "quick", "[I", true) := ⟨RX11, TX11, 70, rfl, by decide, rfl, rfl, by decide +kernel⟩
theorem fX11_10 : Fld 10 10 0 .int ("AskedInModel", "towns", "I", false) := ⟨RX11, TX11, 70, rfl, by decide, rfl, rfl, by decide +kernel⟩
theorem fX11_11 : Fld 10 11 0 .int ("AskedInModel", "the", "I", false) := ⟨RX11, TX11, 70, rfl, by decide, rfl, rfl, by decide +kernel⟩
theorem fX11_12 : Fld 10 12 0 .int ("AskedInModel", "fed", "I", false) := ⟨RX11, TX11, 70, rfl, by decide, rfl, rfl, by decide +kernel⟩
theorem fX11_13 : Fld 10 13 0 .int ("AskedInModel", "at", "I", false) := ⟨RX11, TX11, 70, rfl, by decide, rfl, rfl, by decide +kernel⟩
theorem fX11_14 : Fld 10 14 0 .int ("AskedInModel", "digits", "I", false) := ⟨RX11, TX11, 70, rfl, by decide, rfl, rfl, by decide +kernel⟩
theorem fX11_15 : Fld 10 15 1 (.array .int) ("AskedInModel", "text", "[I", true) := ⟨RX11, TX11, 70, rfl, by decide, rfl, rfl, by decide +kernel⟩
theorem fX11_16 : Fld 10 16 1 (.array .int) ("AskedInModel", "clauses", "[I", true) := ⟨RX11, TX11, 70, rfl, by decide, rfl, rfl, by decide +kernel⟩
theorem fX11_17 : Fld 10 17 1 (.array .int) ("AskedInModel", "word", "[I", true) := ⟨RX11, TX11, 70, rfl, by decide, rfl, rfl, by decide +kernel⟩
theorem fX11_18 : Fld 10 18 1 (.array .int) ("AskedInModel", "number", "[I", true) := ⟨RX11, TX11, 70, rfl, by decide, rfl, rfl, by decide +kernel⟩
theorem fX11_19 : Fld 10 19 1 (.array .int) ("AskedInModel", "from", "[I", true) := ⟨RX11, TX11, 70, rfl, by decide, rfl, rfl, by decide +kernel⟩
theorem fX11_20 : Fld 10 20 1 (.array .int) ("AskedInModel", "to", "[I", true) := ⟨RX11, TX11, 70, rfl, by decide, rfl, rfl, by decide +kernel⟩
theorem fX11_21 : Fld 10 21 1 (.array .int) ("AskedInModel", "sign", "[I", true) := ⟨RX11, TX11, 70, rfl, by decide, rfl, rfl, by decide +kernel⟩
theorem fX11_22 : Fld 10 22 1 (.array .int) ("AskedInModel", "waits", "[I", true) := ⟨RX11, TX11, 70, rfl, by decide, rfl, rfl, by decide +kernel⟩
theorem fX11_23 : Fld 10 23 0 .int ("AskedInModel", "signs", "I", false) := ⟨RX11, TX11, 70, rfl, by decide, rfl, rfl, by decide +kernel⟩
theorem fX11_24 : Fld 10 24 0 .int ("AskedInModel", "waiting", "I", false) := ⟨RX11, TX11, 70, rfl, by decide, rfl, rfl, by decide +kernel⟩
theorem fX11_25 : Fld 10 25 0 .int ("AskedInModel", "open", "I", false) := ⟨RX11, TX11, 70, rfl, by decide, rfl, rfl, by decide +kernel⟩
theorem fX11_26 : Fld 10 26 1 (.array .int) ("AskedInModel", "letters", "[I", true) := ⟨RX11, TX11, 70, rfl, by decide, rfl, rfl, by decide +kernel⟩
theorem fX11_27 : Fld 10 27 1 (.array .boolean) ("AskedInModel", "pile", "[Z", true) := ⟨RX11, TX11, 70, rfl, by decide, rfl, rfl, by decide +kernel⟩
theorem fX11_28 : Fld 10 28 0 .int ("AskedInModel", "whose", "I", false) := ⟨RX11, TX11, 70, rfl, by decide, rfl, rfl, by decide +kernel⟩
theorem fX11_29 : Fld 10 29 0 .int ("AskedInModel", "minute", "I", false) := ⟨RX11, TX11, 70, rfl, by decide, rfl, rfl, by decide +kernel⟩
theorem fX11_30 : Fld 10 30 0 .int ("AskedInModel", "stands", "I", false) := ⟨RX11, TX11, 70, rfl, by decide, rfl, rfl, by decide +kernel⟩
theorem fX11_31 : Fld 10 31 0 .int ("AskedInModel", "purse", "I", false) := ⟨RX11, TX11, 70, rfl, by decide, rfl, rfl, by decide +kernel⟩
theorem fX11_32 : Fld 10 32 0 .int ("AskedInModel", "been", "I", false) := ⟨RX11, TX11, 70, rfl, by decide, rfl, rfl, by decide +kernel⟩
theorem fX11_33 : Fld 10 33 0 .int ("AskedInModel", "inside", "I", false) := ⟨RX11, TX11, 70, rfl, by decide, rfl, rfl, by decide +kernel⟩
theorem fX11_34 : Fld 10 34 0 .int ("AskedInModel", "ways", "I", false) := ⟨RX11, TX11, 70, rfl, by decide, rfl, rfl, by decide +kernel⟩
theorem fX11_35 : Fld 10 35 1 (.array .int) ("AskedInModel", "way", "[I", true) := ⟨RX11, TX11, 70, rfl, by decide, rfl, rfl, by decide +kernel⟩
theorem fX11_36 : Fld 10 36 1 (.array .int) ("AskedInModel", "order", "[I", true) := ⟨RX11, TX11, 70, rfl, by decide, rfl, rfl, by decide +kernel⟩
theorem fX11_37 : Fld 10 37 1 (.array .int) ("AskedInModel", "bestOrder", "[I", true) := ⟨RX11, TX11, 70, rfl, by decide, rfl, rfl, by decide +kernel⟩
theorem fX11_38 : Fld 10 38 0 .int ("AskedInModel", "watched", "I", false) := ⟨RX11, TX11, 70, rfl, by decide, rfl, rfl, by decide +kernel⟩
theorem fX11_39 : Fld 10 39 1 (.array .int) ("AskedInModel", "watchHouse", "[I", true) := ⟨RX11, TX11, 70, rfl, by decide, rfl, rfl, by decide +kernel⟩
theorem fX11_40 : Fld 10 40 1 (.array .boolean) ("AskedInModel", "watchIn", "[Z", true) := ⟨RX11, TX11, 70, rfl, by decide, rfl, rfl, by decide +kernel⟩
theorem fX11_41 : Fld 10 41 0 .int ("AskedInModel", "books", "I", false) := ⟨RX11, TX11, 70, rfl, by decide, rfl, rfl, by decide +kernel⟩
theorem fX11_42 : Fld 10 42 1 (.array .int) ("AskedInModel", "bookFolk", "[I", true) := ⟨RX11, TX11, 70, rfl, by decide, rfl, rfl, by decide +kernel⟩
theorem fX11_43 : Fld 10 43 1 (.array .int) ("AskedInModel", "bookHouse", "[I", true) := ⟨RX11, TX11, 70, rfl, by decide, rfl, rfl, by decide +kernel⟩
theorem fX11_44 : Fld 10 44 2 .boolean ("AskedInModel", "hasImage", "Z", false) := ⟨RX11, TX11, 70, rfl, by decide, rfl, rfl, by decide +kernel⟩
theorem fX11_45 : Fld 10 45 0 .int ("AskedInModel", "imageThe", "I", false) := ⟨RX11, TX11, 70, rfl, by decide, rfl, rfl, by decide +kernel⟩
theorem fX11_46 : Fld 10 46 0 .int ("AskedInModel", "imageHouses", "I", false) := ⟨RX11, TX11, 70, rfl, by decide, rfl, rfl, by decide +kernel⟩
theorem fX11_47 : Fld 10 47 0 .int ("AskedInModel", "imageFolks", "I", false) := ⟨RX11, TX11, 70, rfl, by decide, rfl, rfl, by decide +kernel⟩
theorem fX11_48 : Fld 10 48 0 .int ("AskedInModel", "imageWays", "I", false) := ⟨RX11, TX11, 70, rfl, by decide, rfl, rfl, by decide +kernel⟩
theorem fX11_49 : Fld 10 49 0 .int ("AskedInModel", "imageWatched", "I", false) := ⟨RX11, TX11, 70, rfl, by decide, rfl, rfl, by decide +kernel⟩
theorem fX11_50 : Fld 10 50 0 .int ("AskedInModel", "imageBooks", "I", false) := ⟨RX11, TX11, 70, rfl, by decide, rfl, rfl, by decide +kernel⟩
theorem fX11_51 : Fld 10 51 1 (.array .int) ("AskedInModel", "imageKind", "[I", true) := ⟨RX11, TX11, 70, rfl, by decide, rfl, rfl, by decide +kernel⟩
theorem fX11_52 : Fld 10 52 1 (.array .int) ("AskedInModel", "imageV", "[I", true) := ⟨RX11, TX11, 70, rfl, by decide, rfl, rfl, by decide +kernel⟩
theorem fX11_53 : Fld 10 53 1 (.array .int) ("AskedInModel", "imageGrain", "[I", true) := ⟨RX11, TX11, 70, rfl, by decide, rfl, rfl, by decide +kernel⟩
theorem fX11_54 : Fld 10 54 1 (.array .int) ("AskedInModel", "imageAsked", "[I", true) := ⟨RX11, TX11, 70, rfl, by decide, rfl, rfl, by decide +kernel⟩
theorem fX11_55 : Fld 10 55 1 (.array .int) ("AskedInModel", "imageRows", "[I", true) := ⟨RX11, TX11, 70, rfl, by decide, rfl, rfl, by decide +kernel⟩
theorem fX11_56 : Fld 10 56 1 (.array .int) ("AskedInModel", "imageSack", "[I", true) := ⟨RX11, TX11, 70, rfl, by decide, rfl, rfl, by decide +kernel⟩
theorem fX11_57 : Fld 10 57 1 (.array .int) ("AskedInModel", "imageCoins", "[I", true) := ⟨RX11, TX11, 70, rfl, by decide, rfl, rfl, by decide +kernel⟩
theorem fX11_58 : Fld 10 58 1 (.array .int) ("AskedInModel", "imageQuick", "[I", true) := ⟨RX11, TX11, 70, rfl, by decide, rfl, rfl, by decide +kernel⟩
theorem fX11_59 : Fld 10 59 1 (.array .int) ("AskedInModel", "imageWay", "[I", true) := ⟨RX11, TX11, 70, rfl, by decide, rfl, rfl, by decide +kernel⟩
theorem fX11_60 : Fld 10 60 1 (.array .int) ("AskedInModel", "imageWatch", "[I", true) := ⟨RX11, TX11, 70, rfl, by decide, rfl, rfl, by decide +kernel⟩
theorem fX11_61 : Fld 10 61 1 (.array .int) ("AskedInModel", "imageFolk", "[I", true) := ⟨RX11, TX11, 70, rfl, by decide, rfl, rfl, by decide +kernel⟩
theorem fX11_62 : Fld 10 62 1 (.array .int) ("AskedInModel", "imageHouse", "[I", true) := ⟨RX11, TX11, 70, rfl, by decide, rfl, rfl, by decide +kernel⟩
theorem fX11_63 : Fld 10 63 1 (.array .boolean) ("AskedInModel", "imageIn", "[Z", true) := ⟨RX11, TX11, 70, rfl, by decide, rfl, rfl, by decide +kernel⟩
theorem fX11_64 : Fld 10 64 0 .int ("AskedInModel", "ran", "I", false) := ⟨RX11, TX11, 70, rfl, by decide, rfl, rfl, by decide +kernel⟩
theorem fX11_65 : Fld 10 65 1 (.array .int) ("AskedInModel", "bodies", "[I", true) := ⟨RX11, TX11, 70, rfl, by decide, rfl, rfl, by decide +kernel⟩
theorem fX11_66 : Fld 10 66 1 (.array .int) ("AskedInModel", "sort", "[I", true) := ⟨RX11, TX11, 70, rfl, by decide, rfl, rfl, by decide +kernel⟩
theorem fX11_67 : Fld 10 67 1 (.array .int) ("AskedInModel", "length", "[I", true) := ⟨RX11, TX11, 70, rfl, by decide, rfl, rfl, by decide +kernel⟩
theorem fX11_68 : Fld 10 68 1 (.array .long) ("AskedInModel", "item", "[J", true) := ⟨RX11, TX11, 70, rfl, by decide, rfl, rfl, by decide +kernel⟩
theorem fX11_69 : Fld 10 69 1 (.array .long) ("AskedInModel", "aside", "[J", true) := ⟨RX11, TX11, 70, rfl, by decide, rfl, rfl, by decide +kernel⟩
end
section
def lenJS : List Nat := [5, 4, 5, 10, 1, 1, 6, 3]
def bytJS : List (List Int32) := [[111, 117, 110, 116, 32], [97, 108, 107, 32], [100, 97, 119, 110, 32], [48, 49, 50, 51, 52, 53, 54, 55, 56, 57], [32], [41], [102, 104, 107, 118, 103, 99], [60, 61, 62]]
def strL : List (Nat × String) := [(44, "ount "), (46, "alk "), (48, "dawn "), (81, "0123456789"), (58, " "), (71, ")"), (73, "fhkvgc"), (79, "<=>")]
def adK (Γ : KT) (i : Nat) : Nat := kS Γ (10 + i)
def adV (Γ : KT) (i : Nat) : Nat := kS Γ (20 + i)
/-- what is known of the machine's tables and of old cells, in every state that the system comes to -/
def KS (Γ : KT) (U : State) : Prop :=
  va_K (kD Γ) vwCl [] U ∧ (∀ t, 1 ≤ t → t ≤ 6 → ArrOfT U (kA Γ t) (aty t) ∧ U.vm.findClass ("[" ++ (aty t).toString) = some (kA Γ t)) ∧ (∀ w ∈ nestL, va_Nw w U) ∧
  va_Z "AskedIn" "ABOVE" "[I" (.ref (kS Γ 0)) (stA Γ) U (kH Γ) ∧ va_T .int (kS Γ 0) 7 (fun j => vI (aboveF j)) (stA Γ) U (kH Γ) ∧
  va_Z "AskedIn$Acts" "BODIES" "[I" (.ref (kS Γ 1)) (stA Γ) U (kH Γ) ∧ va_T .int (kS Γ 1) 21 (fun j => vI (bodiesF j)) (stA Γ) U (kH Γ) ∧
  va_Z "java/lang/String" "COMPACT_STRINGS" "Z" (.int 1) (stA Γ) U (kH Γ) ∧ va_Zq "jdk/internal/util/Preconditions" "SIOOBE_FORMATTER" "Ljava/util/function/BiFunction;" (stA Γ) U (kH Γ) ∧
  vk_S 8 lenJS bytJS (adK Γ) (adV Γ) (stA Γ) U (kH Γ) ∧ (∀ i q, strL[i]? = some q → vk_R "AskedIn$Text" q.1 q.2 (adK Γ i) U) ∧ (∀ t, t = .int ∨ t = .long → (Cond.arrayOver (.array t)).before #[] U = true)
theorem nw_warm {s U : State} (hW : s.WarmedH U.vm) (h : ∀ w ∈ nestL, va_Nw w s) : ∀ w ∈ nestL, va_Nw w U := by
  intro w hw
  have h1 := h w hw
  have key : (∃ a i b n d q, w = .fieldLinkNest a i b n d q) ∨ ∃ a i x q, w = .methodLinkNest a i x q := by
    revert w
    unfold nestL
    simp
  rcases key with ⟨a, i, b, n, d, q, rfl⟩ | ⟨a, i, x, q, rfl⟩
  · exact va_Nw.warmF hW h1
  · exact va_Nw.warmM hW h1
theorem ao_moved {t : FieldType} {u U : State} (hvm : u.vm.Alike U.vm) (h : (Cond.arrayOver (.array t)).before #[] u = true) : (Cond.arrayOver (.array t)).before #[] U = true := by
  have fc : ∀ x ld, U.vm.findClass x ld = u.vm.findClass x ld := fun x ld => hvm.findClass x ld
  unfold Cond.before Cond.holds at h ⊢
  simp only [Cond.value, beq_iff_eq, fc] at h ⊢
  rw [Option.bind_eq_some_iff] at h ⊢
  obtain ⟨comp, hc, h⟩ := h
  refine ⟨comp, hc, ?_⟩
  rw [Option.bind_eq_some_iff] at h ⊢
  obtain ⟨c, hi, h⟩ := h
  refine ⟨c, ?_, ?_⟩
  · have e1 := va_idx_bare U.vm comp
    have e2 := va_idx_bare u.vm comp
    rw [hvm.bare_eq] at e1
    exact (e1.symm.trans e2).trans hi
  · rw [Option.map_eq_some_iff] at h ⊢
    obtain ⟨k, hk, hb⟩ := h
    obtain ⟨k', hk', he⟩ := hvm.2.2 _ _ hk
    exact ⟨k', hk', by rw [he]; exact hb⟩
theorem KS.warm {Γ : KT} {s U : State} (h : KS Γ s) (hW : s.WarmedH U.vm) : KS Γ U := by
  obtain ⟨h1, h2, h3, h4, h5, h6, h7, h8, h9, h10, h11, h12⟩ := h
  have a := hW.alike
  exact ⟨h1.moved a, fun t ha hb => ⟨arrOfT_moved a (h2 t ha hb).1, by rw [a.findClass]; exact (h2 t ha hb).2⟩, nw_warm hW h3, h4.moved a, h5.moved a, h6.moved a, h7.moved a, h8.moved a, h9.moved a, h10.moved a, fun i q hq => (h11 i q hq).warm hW, fun t ht => ao_moved a (h12 t ht)⟩
theorem KS.same {Γ : KT} {s U : State} (h : KS Γ s) (hv : U.vm = s.vm) : KS Γ U := h.warm (by rw [hv]; exact State.WarmedH.refl s)
/-! contracts -/
def rmD (d : Nat) (B : Nat × Nat) : Room := { frames := d, cells := B.1, slots := B.2, locals := 64 * d }
def PreG (Γ : KT) (args : List Value) (τ : St) : Array Value → State → Prop := va_Pc args (fun U => KS Γ U ∧ Wd Γ τ U.heap)
def PostG (Γ : KT) (post : Option Value → St → Prop) : Array Value → State → Outcome → State → Prop := fun _ _ o t => ∃ v τ', o = .returned v ∧ post v τ' ∧ Wd Γ τ' t.heap
def Ct (Γ : KT) (M : MI) (d : Nat) (B : Nat × Nat) (args : List Value) (τ : St) (post : Option Value → St → Prop) : Prop :=
  Met (kL Γ) M.1 (.code M.1 M.2.1 M.2.2.1 M.2.2.2 :: tblG) (rmD d B) (PreG Γ args τ) (PostG Γ post) B.1 B.2 (stA Γ)
def RetI (M : MI) (pc : Nat) (v : Option Value) : Prop :=
  (M.2.2.2 = none ∧ v = none ∧ decode M.2.1 pc = .ok (.return_, 1)) ∨
  (∃ (ty : FieldType) (x : Int32), M.2.2.2 = some ty ∧ v = some (.int x) ∧ narrow ty (.int x) = .int x ∧ decode M.2.1 pc = .ok (.ireturn, 1)) ∨
  (∃ x : Int64, M.2.2.2 = some .long ∧ v = some (.long x) ∧ decode M.2.1 pc = .ok (.lreturn, 1)) ∨
  (∃ (rt : FieldType) (a : Nat), M.2.2.2 = some rt ∧ ((∃ n, rt = .object n) ∨ ∃ t, rt = .array t) ∧ v = some (.ref a) ∧ decode M.2.1 pc = .ok (.areturn, 1))
def FinQ (Γ : KT) (M : MI) (B : Nat × Nat) (post : Option Value → St → Prop) (p : Program) (e : Env) (R : Room) (s : State) (m : MethodId) (args : Array Value) (below : List Frame) (meth : Method) (cd : Code) (Q : State → Prop) : Prop :=
  ∀ (pc : Nat) (ls : Array Slot) (v : Option Value) (τ : St) (H : Heap) (locs : List Loc), RetI M pc v → post v τ → Wd Γ τ H → (∀ q ∈ locs, stA Γ q.base) → W p (kL Γ) e R s m args below meth cd H locs B.1 B.2 Q (F0 m pc ls v.toList)
def Cx (Γ : KT) (M : MI) (d : Nat) (B : Nat × Nat) (p : Program) (R : Room) (s : State) (m : MethodId) (args : Array Value) (meth : Method) (cd : Code) : Prop :=
  p.tables.exec = Jvm.exec ∧ cd.code = M.2.1 ∧ cd.maxLocals = M.2.2.1 ∧ s.vm.findClass M.1.cls = some m.cls ∧ (∀ w ∈ tblG, w.before args s = true) ∧ KS Γ s ∧ meth.name = M.1.name ∧ (d ≤ R.frames ∧ 64 * d ≤ R.locals ∧ B.1 ≤ R.cells ∧ B.2 ≤ R.slots)
def lvD (ls : Array Slot) (nL : Nat) (L : List (Option Value)) : Prop := ls.size = nL ∧ lv_wf ls ∧ ∀ (i : Nat) (v : Value), L[i]? = some (some v) → ls[i]? = some (Slot.val v)
def G (Γ : KT) (M : MI) (d : Nat) (B : Nat × Nat) (post : Option Value → St → Prop) (u : Nat × Nat) (pc : Nat) (L : List (Option Value)) (st : List Value) (τ : St) : Prop :=
  ∀ (p : Program) (e : Env) (R : Room) (s : State) (m : MethodId) (args : Array Value) (below : List Frame) (meth : Method) (cd : Code) (Q : State → Prop) (H : Heap) (locs : List Loc) (ls : Array Slot),
    Cx Γ M d B p R s m args meth cd → FinQ Γ M B post p e R s m args below meth cd Q → lvD ls M.2.2.1 L → Wd Γ τ H → (∀ q ∈ locs, stA Γ q.base) → W p (kL Γ) e R s m args below meth cd H locs u.1 u.2 Q (F0 m pc ls st)
theorem fin_of {Γ : KT} {M : MI} {B : Nat × Nat} {post : Option Value → St → Prop} {p : Program} {e : Env} {R : Room} {s : State} {m : MethodId} {args : Array Value} {below : List Frame} {meth : Method} {cd : Code} (hx : p.tables.exec = Jvm.exec) (hb : cd.code = M.2.1) (hr : meth.sig.returnType = M.2.2.2) (hlocks : meth.locks = false) :
    FinQ Γ M B post p e R s m args below meth cd (MQ below (PostG Γ post) args s B.1 B.2 (stA Γ)) := by
  intro pc ls v τ H locs hR hp hW hl
  have hq : ∀ t : State, t.heap = H → s.WarmedH t.vm → PostG Γ post args s (.returned v) t := fun t ht _ => ⟨v, τ, rfl, hp, by rw [ht]; exact hW⟩
  rcases hR with ⟨h1, rfl, h3⟩ | ⟨ty, x, h1, rfl, h2, h3⟩ | ⟨x, h1, rfl, h3⟩ | ⟨rt, a, h1, h2, rfl, h3⟩
  · exact W.vret hx hb (hr.trans h1) hq hl h3 hlocks
  · exact W.zret hx hb (hr.trans h1) h2 hq hl h3 hlocks
  · exact W.lret hx hb (hr.trans h1) hq hl h3 hlocks
  · exact W.aret hx hb (hr.trans h1) h2 (Or.inr ⟨a, rfl⟩) hq hl h3 hlocks
def argL : List Value → List (Option Value)
  | [] => []
  | v :: l => if v.category = 2 then some v :: none :: argL l else some v :: argL l
def padL (n : Nat) (l : List (Option Value)) : List (Option Value) := l ++ List.replicate (n - l.length) none
theorem argL_args : ∀ (l : List Value) (i k : Nat) (v : Value), (argL l)[k]? = some (some v) → (i + k, v) ∈ lv_args i l
  | [], _, _, _, h => by simp [argL] at h
  | a :: l, i, k, v, h => by
    unfold argL at h
    unfold lv_args
    by_cases hc : a.category = 2
    · rw [if_pos hc] at h
      match k, h with
      | 0, h => simp at h; subst h; first | exact List.mem_cons_self | (rw [if_pos hc]; exact List.mem_cons_self)
      | 1, h => simp at h
      | k + 2, h =>
        have := argL_args l (i + 2) k v (by simpa using h)
        have e : i + 2 + k = i + (k + 2) := by omega
        rw [e] at this
        simp [hc]; first | exact this | exact Or.inr this
    · rw [if_neg hc] at h
      match k, h with
      | 0, h => simp at h; subst h; first | exact List.mem_cons_self | (rw [if_neg hc]; exact List.mem_cons_self)
      | k + 1, h =>
        have := argL_args l (i + 1) k v (by simpa using h)
        have e : i + 1 + k = i + (k + 1) := by omega
        rw [e] at this
        simp [hc]; first | exact this | exact Or.inr this
theorem padL_get {n k : Nat} {l : List (Option Value)} {v : Value} (h : (padL n l)[k]? = some (some v)) : l[k]? = some (some v) := by
  unfold padL at h
  rw [List.getElem?_append] at h
  by_cases e : k < l.length
  · rwa [if_pos e] at h
  · rw [if_neg e, List.getElem?_replicate] at h
    by_cases q : k - l.length < n - l.length
    · rw [if_pos q] at h; cases h
    · rw [if_neg q] at h; cases h
theorem lvD_entry (vs : List Value) {n : Nat} (h : (lg_sl vs).length ≤ n) : lvD ((lg_sl vs ++ List.replicate (n - (lg_sl vs).length) Slot.unset).toArray) n (padL n (argL vs)) := by
  obtain ⟨h1, h2, h3⟩ := lv_entry vs h
  refine ⟨h1, h2, fun i v hi => ?_⟩
  have := argL_args vs 0 i v (padL_get hi)
  rw [Nat.zero_add] at this
  exact h3 _ this
/-- a contract out of a walk from the entry -/
theorem Ct.of {Γ : KT} {M : MI} {d n : Nat} {B : Nat × Nat} {args : List Value} {τ : St} {post : Option Value → St → Prop} (hn : plainName M.1.cls = true) (ha : (lg_sl args).length ≤ M.2.2.1)
    (h : G Γ M d B post (0, 0) 0 (padL M.2.2.1 (argL args)) [] τ) : Ct Γ M d B args τ post := by
  refine Met.ofW (cc := M.2.1) (maxL := M.2.2.1) (ret := M.2.2.2) hn rfl ?_
  intro p e s m args' below meth c s₁ BL hml hv
  obtain ⟨rfl, hKS, hW⟩ := hv
  have hts := atoms_spec (ws := .code M.1 M.2.1 M.2.2.1 M.2.2.2 :: tblG) BL.pre
  rw [lg_entry_eq]
  exact h p e _ s m _ below meth c _ s.heap [] _ ⟨BL.exec, BL.bytes, hml, findClass_of_methodNamed BL.named, fun w hw => hts w (List.mem_cons_of_mem _ hw), hKS, (name_of_methodNamed BL.named BL.method).1, Nat.le_refl _, Nat.le_refl _, Nat.le_refl _, Nat.le_refl _⟩
    (fin_of BL.exec BL.bytes BL.returns BL.notSynchronized) (lvD_entry args ha) hW (fun _ h => absurd h List.not_mem_nil)
end
section
/-! numbers -/
theorem z_lt {a b : Int} (ha : R32 a) (hb : R32 b) : Int32.ofInt a < Int32.ofInt b ↔ a < b := by
  rw [Int32.lt_iff_toInt_lt, Int32.toInt_ofInt_of_le (by omega) (by omega), Int32.toInt_ofInt_of_le (by omega) (by omega)]
theorem z_le {a b : Int} (ha : R32 a) (hb : R32 b) : Int32.ofInt a ≤ Int32.ofInt b ↔ a ≤ b := by
  rw [Int32.le_iff_toInt_le, Int32.toInt_ofInt_of_le (by omega) (by omega), Int32.toInt_ofInt_of_le (by omega) (by omega)]
theorem z_eq {a b : Int} (ha : R32 a) (hb : R32 b) : Int32.ofInt a = Int32.ofInt b ↔ a = b := by
  rw [← Int32.toInt_inj, Int32.toInt_ofInt_of_le (by omega) (by omega), Int32.toInt_ofInt_of_le (by omega) (by omega)]
theorem z_eqL {a b : Int} (ha : R64 a) (hb : R64 b) : Int64.ofInt a = Int64.ofInt b ↔ a = b := by
  rw [← Int64.toInt_inj, Int64.toInt_ofInt_of_le (by omega) (by omega), Int64.toInt_ofInt_of_le (by omega) (by omega)]
theorem z_ltL {a b : Int} (ha : R64 a) (hb : R64 b) : Int64.ofInt a < Int64.ofInt b ↔ a < b := by
  rw [Int64.lt_iff_toInt_lt, Int64.toInt_ofInt_of_le (by omega) (by omega), Int64.toInt_ofInt_of_le (by omega) (by omega)]
theorem z_clamp {i : Int} (h0 : 0 ≤ i) (h1 : R32 i) : (Int32.ofInt i).toNatClampNeg = i.toNat := Int32.toNatClampNeg_ofInt_of_le (by omega) (by omega)
theorem z_toInt {i : Int} (h1 : R32 i) : (Int32.ofInt i).toInt = i := Int32.toInt_ofInt_of_le (by omega) (by omega)
theorem z_in {i : Int} {n : Nat} (h0 : 0 ≤ i) (h1 : i < n) (hr : R32 i) : vp_in (Int32.ofInt i) n := by
  unfold vp_in
  rw [z_clamp h0 hr, show (0 : Int32) = Int32.ofInt 0 from rfl, z_lt hr (by omega)]
  omega
theorem z_mx : Int32.maxValue.toInt = 2147483647 := by decide
theorem z_mn : Int32.minValue.toInt = -2147483648 := by decide
theorem z_R (x : Int32) : R32 x.toInt := ⟨by have := x.le_toInt; omega, by have := x.toInt_lt; omega⟩
theorem z_RL (x : Int64) : R64 x.toInt := ⟨by have := x.le_toInt; omega, by have := x.toInt_lt; omega⟩
def b2 (P : Prop) [Decidable P] : Int := if P then 1 else 0
theorem b2_t {P : Prop} [Decidable P] (h : P) : b2 P = 1 := if_pos h
theorem b2_f {P : Prop} [Decidable P] (h : ¬ P) : b2 P = 0 := if_neg h
theorem b2_r {P : Prop} [Decidable P] : 0 ≤ b2 P ∧ b2 P ≤ 1 := by unfold b2; split <;> omega
def zand (a b : Int) : Int := (Int32.ofInt a &&& Int32.ofInt b).toInt
def zor (a b : Int) : Int := (Int32.ofInt a ||| Int32.ofInt b).toInt
def zxor (a b : Int) : Int := (Int32.ofInt a ^^^ Int32.ofInt b).toInt
def zshl (a b : Int) : Int := (Int32.ofInt a <<< (Int32.ofInt b &&& 31)).toInt
def zshr (a b : Int) : Int := (Int32.ofInt a >>> (Int32.ofInt b &&& 31)).toInt
def zushr (a b : Int) : Int := (((Int32.ofInt a).toUInt32 >>> ((Int32.ofInt b).toUInt32 &&& Int32.toUInt32 31)).toInt32).toInt
def zi2b (a : Int) : Int := (Int32.ofInt a).toInt8.toInt32.toInt
def zi2s (a : Int) : Int := (Int32.ofInt a).toInt16.toInt32.toInt
def zi2c (a : Int) : Int := ((Int32.ofInt a).toUInt32 % 65536).toInt32.toInt
def zl2i (a : Int) : Int := (Int64.ofInt a).toInt32.toInt
def zlshl (a b : Int) : Int := (Int64.ofInt a <<< ((Int32.ofInt b).toInt64 &&& 63)).toInt
def zland (a b : Int) : Int := (Int64.ofInt a &&& Int64.ofInt b).toInt
def zlor (a b : Int) : Int := (Int64.ofInt a ||| Int64.ofInt b).toInt
/-! locals -/
def toL (L : List (Option Value)) : List (Nat × Value) := L.zipIdx.filterMap (fun q => q.1.map (fun v => (q.2, v)))
theorem toL_mem {L : List (Option Value)} {i : Nat} {v : Value} : (i, v) ∈ toL L ↔ L[i]? = some (some v) := by
  unfold toL
  rw [List.mem_filterMap]
  constructor
  · rintro ⟨⟨a, j⟩, h1, h2⟩
    cases a with
    | none => simp at h2
    | some w =>
      simp at h2
      obtain ⟨rfl, rfl⟩ := h2
      exact List.mem_zipIdx_iff_getElem?.mp h1
  · intro h
    exact ⟨(some v, i), List.mem_zipIdx_iff_getElem?.mpr h, rfl⟩
theorem toL_has {ls : Array Slot} {nL : Nat} {L : List (Option Value)} (h : lvD ls nL L) : lv_has ls nL (toL L) := ⟨h.1, h.2.1, fun q hq => h.2.2 q.1 q.2 (toL_mem.mp hq)⟩
def okp : Option Value → Bool
  | some v => v.category == 1
  | none => true
def prevOK (L : List (Option Value)) (i : Nat) : Prop := ∀ j, j + 1 = i → ∀ v, L[j]? = some (some v) → v.category = 1
theorem lvD_store {ls : Array Slot} {nL i : Nat} {L : List (Option Value)} {v : Value} (hp : prevOK L i) (h : lv_has ls nL ((i, v) :: (toL L).filter (fun q => !(q.1 == i) && !(q.1 + 1 == i && q.2.category == 2)))) : lvD ls nL (L.set i (some v)) := by
  refine ⟨h.1, h.2.1, fun j w hj => ?_⟩
  rw [List.getElem?_set] at hj
  by_cases e : i = j
  · subst e
    rw [if_pos rfl] at hj
    split at hj
    · simp at hj; subst hj
      exact h.2.2 (i, v) List.mem_cons_self
    · simp at hj
  · rw [if_neg e] at hj
    refine h.2.2 (j, w) (List.mem_cons_of_mem _ (List.mem_filter.mpr ⟨toL_mem.mpr hj, ?_⟩))
    have h1 : ¬ j = i := fun q => e q.symm
    by_cases h2 : j + 1 = i
    · have := hp j h2 w hj
      simp [h1, this]
    · simp [h1, h2]
theorem lvD_storeL {ls : Array Slot} {nL i : Nat} {L : List (Option Value)} {v : Value} (hp : prevOK L i) (h : lv_has ls nL ((i, v) :: (toL L).filter (fun q => !(q.1 == i) && (!(q.1 == i + 1) && !(q.1 + 1 == i && q.2.category == 2))))) : lvD ls nL ((L.set i (some v)).set (i + 1) none) := by
  refine ⟨h.1, h.2.1, fun j w hj => ?_⟩
  rw [List.getElem?_set, List.getElem?_set] at hj
  by_cases e2 : i + 1 = j
  · rw [if_pos e2] at hj
    split at hj <;> simp at hj
  rw [if_neg e2] at hj
  by_cases e : i = j
  · subst e
    rw [if_pos rfl] at hj
    split at hj
    · simp at hj; subst hj
      exact h.2.2 (i, v) List.mem_cons_self
    · simp at hj
  · rw [if_neg e] at hj
    refine h.2.2 (j, w) (List.mem_cons_of_mem _ (List.mem_filter.mpr ⟨toL_mem.mpr hj, ?_⟩))
    have h1 : ¬ j = i := fun q => e q.symm
    have h3 : ¬ j = i + 1 := fun q => e2 q.symm
    by_cases h2 : j + 1 = i
    · have := hp j h2 w hj
      simp [h1, h3, this]
    · simp [h1, h2, h3]
/-- fewer locals -/
def leL : List (Option Value) → List (Option Value) → Prop
  | [], _ => True
  | none :: a, _ :: b => leL a b
  | some v :: a, w :: b => w = some v ∧ leL a b
  | none :: a, [] => leL a []
  | some _ :: _, [] => False
theorem leL_get : ∀ (a b : List (Option Value)), leL a b → ∀ (i : Nat) (v : Value), a[i]? = some (some v) → b[i]? = some (some v)
  | [], _, _, i, v, h => by simp at h
  | none :: a, x :: b, hl, i, v, h => by
    cases i with
    | zero => simp at h
    | succ i => exact leL_get a b hl i v (by simpa using h)
  | some w :: a, x :: b, hl, i, v, h => by
    obtain ⟨rfl, hl⟩ := hl
    cases i with
    | zero => simpa using h
    | succ i => exact leL_get a b hl i v (by simpa using h)
  | none :: a, [], hl, i, v, h => by
    cases i with
    | zero => simp at h
    | succ i =>
      have := leL_get a [] hl i v (by simpa using h)
      simp at this
section GR
variable {Γ : KT} {M : MI} {d : Nat} {B : Nat × Nat} {post : Option Value → St → Prop} {u : Nat × Nat} {pc : Nat} {L : List (Option Value)} {st : List Value} {τ : St} {n : Nat} {ρ : Nat → Nat → Nat} {σ : Nat → Int → Int}
theorem g_less {L' : List (Option Value)} (hL : leL L' L) (k : G Γ M d B post u pc L' st τ) : G Γ M d B post u pc L st τ := by
  intro p e R s m args below meth cd Q H locs ls C F hl hW hS
  exact k p e R s m args below meth cd Q H locs ls C F ⟨hl.1, hl.2.1, fun i v h => hl.2.2 i v (leL_get _ _ hL i v h)⟩ hW hS
theorem g_sub {post' : Option Value → St → Prop} (hp : ∀ v τ', post' v τ' → post v τ') (k : G Γ M d B post' u pc L st τ) : G Γ M d B post u pc L st τ := by
  intro p e R s m args below meth cd Q H locs ls C F hl hW hS
  exact k p e R s m args below meth cd Q H locs ls C (fun pc ls v τ H locs a b c d => F pc ls v τ H locs a (hp _ _ b) c d) hl hW hS
theorem g_nz (k : Nz σ → G Γ M d B post u pc L st (n, ρ, σ)) : G Γ M d B post u pc L st (n, ρ, σ) := by
  intro p e R s m args below meth cd Q H locs ls C F hl hW hS
  exact k hW.2.2.2 p e R s m args below meth cd Q H locs ls C F hl hW hS
theorem g_iconst {a : Int} (hd : decode M.2.1 pc = .ok (.iconst a, 1)) (k : G Γ M d B post u (pc + 1) L (vI a :: st) τ) : G Γ M d B post u pc L st τ := by
  intro p e R s m args below meth cd Q H locs ls C F hl hW hS
  exact lv_iconst C.1 C.2.1 hd rfl (k p e R s m args below meth cd Q H locs ls C F hl hW hS)
theorem g_bipush {a : Int} (hd : decode M.2.1 pc = .ok (.bipush a, 2)) (ha : (Int8.ofInt a).toInt32 = Int32.ofInt a := by decide) (k : G Γ M d B post u (pc + 2) L (vI a :: st) τ) : G Γ M d B post u pc L st τ := by
  intro p e R s m args below meth cd Q H locs ls C F hl hW hS
  exact lv_bipush C.1 C.2.1 hd ha (k p e R s m args below meth cd Q H locs ls C F hl hW hS)
theorem g_sipush {a : Int} (hd : decode M.2.1 pc = .ok (.sipush a, 3)) (ha : (Int16.ofInt a).toInt32 = Int32.ofInt a := by decide) (k : G Γ M d B post u (pc + 3) L (vI a :: st) τ) : G Γ M d B post u pc L st τ := by
  intro p e R s m args below meth cd Q H locs ls C F hl hW hS
  exact lv_sipush C.1 C.2.1 hd ha (k p e R s m args below meth cd Q H locs ls C F hl hW hS)
theorem g_lconst {a : Fin 2} {x : Int} (hd : decode M.2.1 pc = .ok (.lconst a, 1)) (ha : Int64.ofNat (a : Nat) = Int64.ofInt x := by decide) (k : G Γ M d B post u (pc + 1) L (vL x :: st) τ) : G Γ M d B post u pc L st τ := by
  intro p e R s m args below meth cd Q H locs ls C F hl hW hS
  exact lv_lconst C.1 C.2.1 hd ha (k p e R s m args below meth cd Q H locs ls C F hl hW hS)
theorem g_ldc {idx : Nat} {c : Int32} {x : Int} (hc : Cond.constant M.1.cls idx c ∈ tblG) (hd : decode M.2.1 pc = .ok (.ldc idx, 2)) (hx : c = Int32.ofInt x := by decide) (k : G Γ M d B post u (pc + 2) L (vI x :: st) τ) : G Γ M d B post u pc L st τ := by
  intro p e R s m args below meth cd Q H locs ls C F hl hW hS
  subst hx
  exact lv_ldc C.1 C.2.1 C.2.2.2.1 (C.2.2.2.2.1 _ hc) hd (k p e R s m args below meth cd Q H locs ls C F hl hW hS)
theorem g_ldcw {idx : Nat} {c : Int32} {x : Int} (hc : Cond.constant M.1.cls idx c ∈ tblG) (hd : decode M.2.1 pc = .ok (.ldc_w idx, 3)) (hx : c = Int32.ofInt x := by decide) (k : G Γ M d B post u (pc + 3) L (vI x :: st) τ) : G Γ M d B post u pc L st τ := by
  intro p e R s m args below meth cd Q H locs ls C F hl hW hS
  subst hx
  exact lv_ldcw C.1 C.2.1 C.2.2.2.1 (C.2.2.2.2.1 _ hc) hd (k p e R s m args below meth cd Q H locs ls C F hl hW hS)
theorem g_ldc2 {idx : Nat} {c : Int64} {x : Int} (hc : Cond.constantLong M.1.cls idx c ∈ tblG) (hd : decode M.2.1 pc = .ok (.ldc2_w idx, 3)) (hx : c = Int64.ofInt x := by decide) (k : G Γ M d B post u (pc + 3) L (vL x :: st) τ) : G Γ M d B post u pc L st τ := by
  intro p e R s m args below meth cd Q H locs ls C F hl hW hS
  subst hx
  exact lv_ldc2 C.1 C.2.1 C.2.2.2.1 (C.2.2.2.2.1 _ hc) hd (k p e R s m args below meth cd Q H locs ls C F hl hW hS)
theorem g_ldcS {idx i : Nat} {tx : String} (hs : strL[i]? = some (idx, tx)) (ho : M.1.cls = "AskedIn$Text") (hd : decode M.2.1 pc = .ok (.ldc idx, 2)) (k : G Γ M d B post u (pc + 2) L (.ref (adK Γ i) :: st) τ) : G Γ M d B post u pc L st τ := by
  intro p e R s m args below meth cd Q H locs ls C F hl hW hS
  exact va_ldcS C.1 C.2.1 (own := "AskedIn$Text") (by rw [← ho]; exact C.2.2.2.1) (C.2.2.2.2.2.1.2.2.2.2.2.2.2.2.2.2.1 i _ hs) hd (k p e R s m args below meth cd Q H locs ls C F hl hW hS)
theorem g_iload_n {i : Fin 4} {x : Int} (hd : decode M.2.1 pc = .ok (.iload_n i, 1)) (hx : L[(i : Nat)]? = some (some (vI x))) (k : G Γ M d B post u (pc + 1) L (vI x :: st) τ) : G Γ M d B post u pc L st τ := by
  intro p e R s m args below meth cd Q H locs ls C F hl hW hS
  exact lv_iload_n C.1 C.2.1 hd rfl (hl.2.2 _ _ hx) (k p e R s m args below meth cd Q H locs ls C F hl hW hS)
theorem g_iload {i : Nat} {x : Int} (hd : decode M.2.1 pc = .ok (.iload i, 2)) (hx : L[i]? = some (some (vI x))) (k : G Γ M d B post u (pc + 2) L (vI x :: st) τ) : G Γ M d B post u pc L st τ := by
  intro p e R s m args below meth cd Q H locs ls C F hl hW hS
  exact lv_iload C.1 C.2.1 hd (hl.2.2 _ _ hx) (k p e R s m args below meth cd Q H locs ls C F hl hW hS)
theorem g_lload_n {i : Fin 4} {x : Int} (hd : decode M.2.1 pc = .ok (.lload_n i, 1)) (hx : L[(i : Nat)]? = some (some (vL x))) (k : G Γ M d B post u (pc + 1) L (vL x :: st) τ) : G Γ M d B post u pc L st τ := by
  intro p e R s m args below meth cd Q H locs ls C F hl hW hS
  exact lv_lload_n C.1 C.2.1 hd rfl (hl.2.2 _ _ hx) (k p e R s m args below meth cd Q H locs ls C F hl hW hS)
theorem g_lload {i : Nat} {x : Int} (hd : decode M.2.1 pc = .ok (.lload i, 2)) (hx : L[i]? = some (some (vL x))) (k : G Γ M d B post u (pc + 2) L (vL x :: st) τ) : G Γ M d B post u pc L st τ := by
  intro p e R s m args below meth cd Q H locs ls C F hl hW hS
  exact lv_lload C.1 C.2.1 hd (hl.2.2 _ _ hx) (k p e R s m args below meth cd Q H locs ls C F hl hW hS)
theorem g_aload_n {i : Fin 4} {x : Nat} (hd : decode M.2.1 pc = .ok (.aload_n i, 1)) (hx : L[(i : Nat)]? = some (some (.ref x))) (k : G Γ M d B post u (pc + 1) L (.ref x :: st) τ) : G Γ M d B post u pc L st τ := by
  intro p e R s m args below meth cd Q H locs ls C F hl hW hS
  exact lv_aload_n C.1 C.2.1 hd rfl (hl.2.2 _ _ hx) (k p e R s m args below meth cd Q H locs ls C F hl hW hS)
theorem g_aload {i : Nat} {x : Nat} (hd : decode M.2.1 pc = .ok (.aload i, 2)) (hx : L[i]? = some (some (.ref x))) (k : G Γ M d B post u (pc + 2) L (.ref x :: st) τ) : G Γ M d B post u pc L st τ := by
  intro p e R s m args below meth cd Q H locs ls C F hl hW hS
  exact lv_aload C.1 C.2.1 hd (hl.2.2 _ _ hx) (k p e R s m args below meth cd Q H locs ls C F hl hW hS)
theorem g_istore_n0 {i : Fin 4} {x : Int} (hd : decode M.2.1 pc = .ok (.istore_n i, 1)) (hi : (i : Nat) < M.2.2.1) (hp : prevOK L i) (k : G Γ M d B post u (pc + 1) (L.set i (some (vI x))) st τ) : G Γ M d B post u pc L (vI x :: st) τ := by
  intro p e R s m args below meth cd Q H locs ls C F hl hW hS
  exact lv_istore_n C.1 C.2.1 hd rfl (toL_has hl) hi rfl (fun ls' h' => (k p e R s m args below meth cd Q H locs ls' C F (lvD_store hp h') hW hS))
theorem g_istore0 {i : Nat} {x : Int} (hd : decode M.2.1 pc = .ok (.istore i, 2)) (hi : i < M.2.2.1) (hp : prevOK L i) (k : G Γ M d B post u (pc + 2) (L.set i (some (vI x))) st τ) : G Γ M d B post u pc L (vI x :: st) τ := by
  intro p e R s m args below meth cd Q H locs ls C F hl hW hS
  exact lv_istore C.1 C.2.1 hd (toL_has hl) hi rfl (fun ls' h' => (k p e R s m args below meth cd Q H locs ls' C F (lvD_store hp h') hW hS))
theorem g_astore_n0 {i : Fin 4} {x : Nat} (hd : decode M.2.1 pc = .ok (.astore_n i, 1)) (hi : (i : Nat) < M.2.2.1) (hp : prevOK L i) (k : G Γ M d B post u (pc + 1) (L.set i (some (.ref x))) st τ) : G Γ M d B post u pc L (.ref x :: st) τ := by
  intro p e R s m args below meth cd Q H locs ls C F hl hW hS
  exact lv_astore_n C.1 C.2.1 hd rfl (toL_has hl) hi rfl (fun ls' h' => (k p e R s m args below meth cd Q H locs ls' C F (lvD_store hp h') hW hS))
theorem g_astore0 {i : Nat} {x : Nat} (hd : decode M.2.1 pc = .ok (.astore i, 2)) (hi : i < M.2.2.1) (hp : prevOK L i) (k : G Γ M d B post u (pc + 2) (L.set i (some (.ref x))) st τ) : G Γ M d B post u pc L (.ref x :: st) τ := by
  intro p e R s m args below meth cd Q H locs ls C F hl hW hS
  exact lv_astore C.1 C.2.1 hd (toL_has hl) hi rfl (fun ls' h' => (k p e R s m args below meth cd Q H locs ls' C F (lvD_store hp h') hW hS))
theorem g_lstore_n0 {i : Fin 4} {x : Int} (hd : decode M.2.1 pc = .ok (.lstore_n i, 1)) (hi : (i : Nat) + 1 < M.2.2.1) (hp : prevOK L i) (k : G Γ M d B post u (pc + 1) ((L.set i (some (vL x))).set (i + 1) none) st τ) : G Γ M d B post u pc L (vL x :: st) τ := by
  intro p e R s m args below meth cd Q H locs ls C F hl hW hS
  exact lv_lstore_n C.1 C.2.1 hd rfl (toL_has hl) hi rfl (fun ls' h' => (k p e R s m args below meth cd Q H locs ls' C F (lvD_storeL hp h') hW hS))
theorem g_lstore0 {i : Nat} {x : Int} (hd : decode M.2.1 pc = .ok (.lstore i, 2)) (hi : i + 1 < M.2.2.1) (hp : prevOK L i) (k : G Γ M d B post u (pc + 2) ((L.set i (some (vL x))).set (i + 1) none) st τ) : G Γ M d B post u pc L (vL x :: st) τ := by
  intro p e R s m args below meth cd Q H locs ls C F hl hW hS
  exact lv_lstore C.1 C.2.1 hd (toL_has hl) hi rfl (fun ls' h' => (k p e R s m args below meth cd Q H locs ls' C F (lvD_storeL hp h') hW hS))
theorem g_iinc0 {i : Nat} {a x : Int} (hd : decode M.2.1 pc = .ok (.iinc i a, 3)) (hi : i < M.2.2.1) (hx : L[i]? = some (some (vI x))) (hp : prevOK L i) (k : G Γ M d B post u (pc + 3) (L.set i (some (vI (x + a)))) st τ) : G Γ M d B post u pc L st τ := by
  intro p e R s m args below meth cd Q H locs ls C F hl hW hS
  obtain ⟨q, hq⟩ := List.getElem?_of_mem (toL_mem.mpr hx)
  exact lv_iinc C.1 C.2.1 hd (toL_has hl) hq (v := Int32.ofInt (x + a)) (by rw [Int32.ofInt_add]) hi rfl (fun ls' h' => k p e R s m args below meth cd Q H locs ls' C F (lvD_store hp h') hW hS)
theorem prev0 {L : List (Option Value)} : prevOK L 0 := fun j h => by omega
theorem okp_cat {w : Option Value} (h : okp w = true) : ∀ v, w = some v → v.category = 1 := by
  intro v e; subst e; simpa [okp] using h
theorem prevS {L : List (Option Value)} {i : Nat} {w : Option Value} (hw : L[i]? = some w) (h : okp w = true) : prevOK L (i + 1) := by
  intro j hj v hv
  have : j = i := by omega
  subst this
  rw [hw] at hv
  exact okp_cat h v (Option.some.inj hv)
theorem g_istore_0 {a0 : Option Value} {x : Int} (hd : decode M.2.1 pc = .ok (.istore_n 0, 1)) (hi : 0 < M.2.2.1 := by decide) (k : G Γ M d B post u (pc + 1) (some (vI x) :: L) st τ) : G Γ M d B post u pc (a0 :: L) (vI x :: st) τ := g_istore_n0 (i := 0) hd hi prev0 k
theorem g_istore_1 {a0 a1 : Option Value} {x : Int} (hd : decode M.2.1 pc = .ok (.istore_n 1, 1)) (hp : okp a0 = true := by rfl) (hi : 1 < M.2.2.1 := by decide) (k : G Γ M d B post u (pc + 1) (a0 :: some (vI x) :: L) st τ) : G Γ M d B post u pc (a0 :: a1 :: L) (vI x :: st) τ := g_istore_n0 (i := 1) hd hi (prevS (i := 0) rfl hp) k
theorem g_istore_2 {a0 a1 a2 : Option Value} {x : Int} (hd : decode M.2.1 pc = .ok (.istore_n 2, 1)) (hp : okp a1 = true := by rfl) (hi : 2 < M.2.2.1 := by decide) (k : G Γ M d B post u (pc + 1) (a0 :: a1 :: some (vI x) :: L) st τ) : G Γ M d B post u pc (a0 :: a1 :: a2 :: L) (vI x :: st) τ := g_istore_n0 (i := 2) hd hi (prevS (i := 1) rfl hp) k
theorem g_istore_3 {a0 a1 a2 a3 : Option Value} {x : Int} (hd : decode M.2.1 pc = .ok (.istore_n 3, 1)) (hp : okp a2 = true := by rfl) (hi : 3 < M.2.2.1 := by decide) (k : G Γ M d B post u (pc + 1) (a0 :: a1 :: a2 :: some (vI x) :: L) st τ) : G Γ M d B post u pc (a0 :: a1 :: a2 :: a3 :: L) (vI x :: st) τ := g_istore_n0 (i := 3) hd hi (prevS (i := 2) rfl hp) k
theorem g_istore_4 {a0 a1 a2 a3 a4 : Option Value} {x : Int} (hd : decode M.2.1 pc = .ok (.istore 4, 2)) (hp : okp a3 = true := by rfl) (hi : 4 < M.2.2.1 := by decide) (k : G Γ M d B post u (pc + 2) (a0 :: a1 :: a2 :: a3 :: some (vI x) :: L) st τ) : G Γ M d B post u pc (a0 :: a1 :: a2 :: a3 :: a4 :: L) (vI x :: st) τ := g_istore0 hd hi (prevS (i := 3) rfl hp) k
theorem g_istore_5 {a0 a1 a2 a3 a4 a5 : Option Value} {x : Int} (hd : decode M.2.1 pc = .ok (.istore 5, 2)) (hp : okp a4 = true := by rfl) (hi : 5 < M.2.2.1 := by decide) (k : G Γ M d B post u (pc + 2) (a0 :: a1 :: a2 :: a3 :: a4 :: some (vI x) :: L) st τ) : G Γ M d B post u pc (a0 :: a1 :: a2 :: a3 :: a4 :: a5 :: L) (vI x :: st) τ := g_istore0 hd hi (prevS (i := 4) rfl hp) k
theorem g_istore_6 {a0 a1 a2 a3 a4 a5 a6 : Option Value} {x : Int} (hd : decode M.2.1 pc = .ok (.istore 6, 2)) (hp : okp a5 = true := by rfl) (hi : 6 < M.2.2.1 := by decide) (k : G Γ M d B post u (pc + 2) (a0 :: a1 :: a2 :: a3 :: a4 :: a5 :: some (vI x) :: L) st τ) : G Γ M d B post u pc (a0 :: a1 :: a2 :: a3 :: a4 :: a5 :: a6 :: L) (vI x :: st) τ := g_istore0 hd hi (prevS (i := 5) rfl hp) k
theorem g_istore_7 {a0 a1 a2 a3 a4 a5 a6 a7 : Option Value} {x : Int} (hd : decode M.2.1 pc = .ok (.istore 7, 2)) (hp : okp a6 = true := by rfl) (hi : 7 < M.2.2.1 := by decide) (k : G Γ M d B post u (pc + 2) (a0 :: a1 :: a2 :: a3 :: a4 :: a5 :: a6 :: some (vI x) :: L) st τ) : G Γ M d B post u pc (a0 :: a1 :: a2 :: a3 :: a4 :: a5 :: a6 :: a7 :: L) (vI x :: st) τ := g_istore0 hd hi (prevS (i := 6) rfl hp) k
theorem g_istore_8 {a0 a1 a2 a3 a4 a5 a6 a7 a8 : Option Value} {x : Int} (hd : decode M.2.1 pc = .ok (.istore 8, 2)) (hp : okp a7 = true := by rfl) (hi : 8 < M.2.2.1 := by decide) (k : G Γ M d B post u (pc + 2) (a0 :: a1 :: a2 :: a3 :: a4 :: a5 :: a6 :: a7 :: some (vI x) :: L) st τ) : G Γ M d B post u pc (a0 :: a1 :: a2 :: a3 :: a4 :: a5 :: a6 :: a7 :: a8 :: L) (vI x :: st) τ := g_istore0 hd hi (prevS (i := 7) rfl hp) k
theorem g_istore_9 {a0 a1 a2 a3 a4 a5 a6 a7 a8 a9 : Option Value} {x : Int} (hd : decode M.2.1 pc = .ok (.istore 9, 2)) (hp : okp a8 = true := by rfl) (hi : 9 < M.2.2.1 := by decide) (k : G Γ M d B post u (pc + 2) (a0 :: a1 :: a2 :: a3 :: a4 :: a5 :: a6 :: a7 :: a8 :: some (vI x) :: L) st τ) : G Γ M d B post u pc (a0 :: a1 :: a2 :: a3 :: a4 :: a5 :: a6 :: a7 :: a8 :: a9 :: L) (vI x :: st) τ := g_istore0 hd hi (prevS (i := 8) rfl hp) k
theorem g_istore_10 {a0 a1 a2 a3 a4 a5 a6 a7 a8 a9 a10 : Option Value} {x : Int} (hd : decode M.2.1 pc = .ok (.istore 10, 2)) (hp : okp a9 = true := by rfl) (hi : 10 < M.2.2.1 := by decide) (k : G Γ M d B post u (pc + 2) (a0 :: a1 :: a2 :: a3 :: a4 :: a5 :: a6 :: a7 :: a8 :: a9 :: some (vI x) :: L) st τ) : G Γ M d B post u pc (a0 :: a1 :: a2 :: a3 :: a4 :: a5 :: a6 :: a7 :: a8 :: a9 :: a10 :: L) (vI x :: st) τ := g_istore0 hd hi (prevS (i := 9) rfl hp) k
theorem g_istore_11 {a0 a1 a2 a3 a4 a5 a6 a7 a8 a9 a10 a11 : Option Value} {x : Int} (hd : decode M.2.1 pc = .ok (.istore 11, 2)) (hp : okp a10 = true := by rfl) (hi : 11 < M.2.2.1 := by decide) (k : G Γ M d B post u (pc + 2) (a0 :: a1 :: a2 :: a3 :: a4 :: a5 :: a6 :: a7 :: a8 :: a9 :: a10 :: some (vI x) :: L) st τ) : G Γ M d B post u pc (a0 :: a1 :: a2 :: a3 :: a4 :: a5 :: a6 :: a7 :: a8 :: a9 :: a10 :: a11 :: L) (vI x :: st) τ := g_istore0 hd hi (prevS (i := 10) rfl hp) k
theorem g_istore_12 {a0 a1 a2 a3 a4 a5 a6 a7 a8 a9 a10 a11 a12 : Option Value} {x : Int} (hd : decode M.2.1 pc = .ok (.istore 12, 2)) (hp : okp a11 = true := by rfl) (hi : 12 < M.2.2.1 := by decide) (k : G Γ M d B post u (pc + 2) (a0 :: a1 :: a2 :: a3 :: a4 :: a5 :: a6 :: a7 :: a8 :: a9 :: a10 :: a11 :: some (vI x) :: L) st τ) : G Γ M d B post u pc (a0 :: a1 :: a2 :: a3 :: a4 :: a5 :: a6 :: a7 :: a8 :: a9 :: a10 :: a11 :: a12 :: L) (vI x :: st) τ := g_istore0 hd hi (prevS (i := 11) rfl hp) k
theorem g_astore_0 {a0 : Option Value} {x : Nat} (hd : decode M.2.1 pc = .ok (.astore_n 0, 1)) (hi : 0 < M.2.2.1 := by decide) (k : G Γ M d B post u (pc + 1) (some (.ref x) :: L) st τ) : G Γ M d B post u pc (a0 :: L) (.ref x :: st) τ := g_astore_n0 (i := 0) hd hi prev0 k
theorem g_astore_1 {a0 a1 : Option Value} {x : Nat} (hd : decode M.2.1 pc = .ok (.astore_n 1, 1)) (hp : okp a0 = true := by rfl) (hi : 1 < M.2.2.1 := by decide) (k : G Γ M d B post u (pc + 1) (a0 :: some (.ref x) :: L) st τ) : G Γ M d B post u pc (a0 :: a1 :: L) (.ref x :: st) τ := g_astore_n0 (i := 1) hd hi (prevS (i := 0) rfl hp) k
theorem g_astore_2 {a0 a1 a2 : Option Value} {x : Nat} (hd : decode M.2.1 pc = .ok (.astore_n 2, 1)) (hp : okp a1 = true := by rfl) (hi : 2 < M.2.2.1 := by decide) (k : G Γ M d B post u (pc + 1) (a0 :: a1 :: some (.ref x) :: L) st τ) : G Γ M d B post u pc (a0 :: a1 :: a2 :: L) (.ref x :: st) τ := g_astore_n0 (i := 2) hd hi (prevS (i := 1) rfl hp) k
theorem g_astore_3 {a0 a1 a2 a3 : Option Value} {x : Nat} (hd : decode M.2.1 pc = .ok (.astore_n 3, 1)) (hp : okp a2 = true := by rfl) (hi : 3 < M.2.2.1 := by decide) (k : G Γ M d B post u (pc + 1) (a0 :: a1 :: a2 :: some (.ref x) :: L) st τ) : G Γ M d B post u pc (a0 :: a1 :: a2 :: a3 :: L) (.ref x :: st) τ := g_astore_n0 (i := 3) hd hi (prevS (i := 2) rfl hp) k
theorem g_astore_4 {a0 a1 a2 a3 a4 : Option Value} {x : Nat} (hd : decode M.2.1 pc = .ok (.astore 4, 2)) (hp : okp a3 = true := by rfl) (hi : 4 < M.2.2.1 := by decide) (k : G Γ M d B post u (pc + 2) (a0 :: a1 :: a2 :: a3 :: some (.ref x) :: L) st τ) : G Γ M d B post u pc (a0 :: a1 :: a2 :: a3 :: a4 :: L) (.ref x :: st) τ := g_astore0 hd hi (prevS (i := 3) rfl hp) k
theorem g_astore_5 {a0 a1 a2 a3 a4 a5 : Option Value} {x : Nat} (hd : decode M.2.1 pc = .ok (.astore 5, 2)) (hp : okp a4 = true := by rfl) (hi : 5 < M.2.2.1 := by decide) (k : G Γ M d B post u (pc + 2) (a0 :: a1 :: a2 :: a3 :: a4 :: some (.ref x) :: L) st τ) : G Γ M d B post u pc (a0 :: a1 :: a2 :: a3 :: a4 :: a5 :: L) (.ref x :: st) τ := g_astore0 hd hi (prevS (i := 4) rfl hp) k
theorem g_astore_6 {a0 a1 a2 a3 a4 a5 a6 : Option Value} {x : Nat} (hd : decode M.2.1 pc = .ok (.astore 6, 2)) (hp : okp a5 = true := by rfl) (hi : 6 < M.2.2.1 := by decide) (k : G Γ M d B post u (pc + 2) (a0 :: a1 :: a2 :: a3 :: a4 :: a5 :: some (.ref x) :: L) st τ) : G Γ M d B post u pc (a0 :: a1 :: a2 :: a3 :: a4 :: a5 :: a6 :: L) (.ref x :: st) τ := g_astore0 hd hi (prevS (i := 5) rfl hp) k
theorem g_astore_7 {a0 a1 a2 a3 a4 a5 a6 a7 : Option Value} {x : Nat} (hd : decode M.2.1 pc = .ok (.astore 7, 2)) (hp : okp a6 = true := by rfl) (hi : 7 < M.2.2.1 := by decide) (k : G Γ M d B post u (pc + 2) (a0 :: a1 :: a2 :: a3 :: a4 :: a5 :: a6 :: some (.ref x) :: L) st τ) : G Γ M d B post u pc (a0 :: a1 :: a2 :: a3 :: a4 :: a5 :: a6 :: a7 :: L) (.ref x :: st) τ := g_astore0 hd hi (prevS (i := 6) rfl hp) k
theorem g_astore_8 {a0 a1 a2 a3 a4 a5 a6 a7 a8 : Option Value} {x : Nat} (hd : decode M.2.1 pc = .ok (.astore 8, 2)) (hp : okp a7 = true := by rfl) (hi : 8 < M.2.2.1 := by decide) (k : G Γ M d B post u (pc + 2) (a0 :: a1 :: a2 :: a3 :: a4 :: a5 :: a6 :: a7 :: some (.ref x) :: L) st τ) : G Γ M d B post u pc (a0 :: a1 :: a2 :: a3 :: a4 :: a5 :: a6 :: a7 :: a8 :: L) (.ref x :: st) τ := g_astore0 hd hi (prevS (i := 7) rfl hp) k
theorem g_astore_9 {a0 a1 a2 a3 a4 a5 a6 a7 a8 a9 : Option Value} {x : Nat} (hd : decode M.2.1 pc = .ok (.astore 9, 2)) (hp : okp a8 = true := by rfl) (hi : 9 < M.2.2.1 := by decide) (k : G Γ M d B post u (pc + 2) (a0 :: a1 :: a2 :: a3 :: a4 :: a5 :: a6 :: a7 :: a8 :: some (.ref x) :: L) st τ) : G Γ M d B post u pc (a0 :: a1 :: a2 :: a3 :: a4 :: a5 :: a6 :: a7 :: a8 :: a9 :: L) (.ref x :: st) τ := g_astore0 hd hi (prevS (i := 8) rfl hp) k
theorem g_astore_10 {a0 a1 a2 a3 a4 a5 a6 a7 a8 a9 a10 : Option Value} {x : Nat} (hd : decode M.2.1 pc = .ok (.astore 10, 2)) (hp : okp a9 = true := by rfl) (hi : 10 < M.2.2.1 := by decide) (k : G Γ M d B post u (pc + 2) (a0 :: a1 :: a2 :: a3 :: a4 :: a5 :: a6 :: a7 :: a8 :: a9 :: some (.ref x) :: L) st τ) : G Γ M d B post u pc (a0 :: a1 :: a2 :: a3 :: a4 :: a5 :: a6 :: a7 :: a8 :: a9 :: a10 :: L) (.ref x :: st) τ := g_astore0 hd hi (prevS (i := 9) rfl hp) k
theorem g_astore_11 {a0 a1 a2 a3 a4 a5 a6 a7 a8 a9 a10 a11 : Option Value} {x : Nat} (hd : decode M.2.1 pc = .ok (.astore 11, 2)) (hp : okp a10 = true := by rfl) (hi : 11 < M.2.2.1 := by decide) (k : G Γ M d B post u (pc + 2) (a0 :: a1 :: a2 :: a3 :: a4 :: a5 :: a6 :: a7 :: a8 :: a9 :: a10 :: some (.ref x) :: L) st τ) : G Γ M d B post u pc (a0 :: a1 :: a2 :: a3 :: a4 :: a5 :: a6 :: a7 :: a8 :: a9 :: a10 :: a11 :: L) (.ref x :: st) τ := g_astore0 hd hi (prevS (i := 10) rfl hp) k
theorem g_astore_12 {a0 a1 a2 a3 a4 a5 a6 a7 a8 a9 a10 a11 a12 : Option Value} {x : Nat} (hd : decode M.2.1 pc = .ok (.astore 12, 2)) (hp : okp a11 = true := by rfl) (hi : 12 < M.2.2.1 := by decide) (k : G Γ M d B post u (pc + 2) (a0 :: a1 :: a2 :: a3 :: a4 :: a5 :: a6 :: a7 :: a8 :: a9 :: a10 :: a11 :: some (.ref x) :: L) st τ) : G Γ M d B post u pc (a0 :: a1 :: a2 :: a3 :: a4 :: a5 :: a6 :: a7 :: a8 :: a9 :: a10 :: a11 :: a12 :: L) (.ref x :: st) τ := g_astore0 hd hi (prevS (i := 11) rfl hp) k
theorem g_iinc_0 {a x : Int} (hd : decode M.2.1 pc = .ok (.iinc 0 a, 3)) (hi : 0 < M.2.2.1 := by decide) (k : G Γ M d B post u (pc + 3) (some (vI (x + a)) :: L) st τ) : G Γ M d B post u pc (some (vI x) :: L) st τ := g_iinc0 hd hi rfl prev0 k
theorem g_iinc_1 {a0 : Option Value} {a x : Int} (hd : decode M.2.1 pc = .ok (.iinc 1 a, 3)) (hp : okp a0 = true := by rfl) (hi : 1 < M.2.2.1 := by decide) (k : G Γ M d B post u (pc + 3) (a0 :: some (vI (x + a)) :: L) st τ) : G Γ M d B post u pc (a0 :: some (vI x) :: L) st τ := g_iinc0 hd hi rfl (prevS (i := 0) rfl hp) k
theorem g_iinc_2 {a0 a1 : Option Value} {a x : Int} (hd : decode M.2.1 pc = .ok (.iinc 2 a, 3)) (hp : okp a1 = true := by rfl) (hi : 2 < M.2.2.1 := by decide) (k : G Γ M d B post u (pc + 3) (a0 :: a1 :: some (vI (x + a)) :: L) st τ) : G Γ M d B post u pc (a0 :: a1 :: some (vI x) :: L) st τ := g_iinc0 hd hi rfl (prevS (i := 1) rfl hp) k
theorem g_iinc_3 {a0 a1 a2 : Option Value} {a x : Int} (hd : decode M.2.1 pc = .ok (.iinc 3 a, 3)) (hp : okp a2 = true := by rfl) (hi : 3 < M.2.2.1 := by decide) (k : G Γ M d B post u (pc + 3) (a0 :: a1 :: a2 :: some (vI (x + a)) :: L) st τ) : G Γ M d B post u pc (a0 :: a1 :: a2 :: some (vI x) :: L) st τ := g_iinc0 hd hi rfl (prevS (i := 2) rfl hp) k
theorem g_iinc_4 {a0 a1 a2 a3 : Option Value} {a x : Int} (hd : decode M.2.1 pc = .ok (.iinc 4 a, 3)) (hp : okp a3 = true := by rfl) (hi : 4 < M.2.2.1 := by decide) (k : G Γ M d B post u (pc + 3) (a0 :: a1 :: a2 :: a3 :: some (vI (x + a)) :: L) st τ) : G Γ M d B post u pc (a0 :: a1 :: a2 :: a3 :: some (vI x) :: L) st τ := g_iinc0 hd hi rfl (prevS (i := 3) rfl hp) k
theorem g_iinc_5 {a0 a1 a2 a3 a4 : Option Value} {a x : Int} (hd : decode M.2.1 pc = .ok (.iinc 5 a, 3)) (hp : okp a4 = true := by rfl) (hi : 5 < M.2.2.1 := by decide) (k : G Γ M d B post u (pc + 3) (a0 :: a1 :: a2 :: a3 :: a4 :: some (vI (x + a)) :: L) st τ) : G Γ M d B post u pc (a0 :: a1 :: a2 :: a3 :: a4 :: some (vI x) :: L) st τ := g_iinc0 hd hi rfl (prevS (i := 4) rfl hp) k
theorem g_iinc_6 {a0 a1 a2 a3 a4 a5 : Option Value} {a x : Int} (hd : decode M.2.1 pc = .ok (.iinc 6 a, 3)) (hp : okp a5 = true := by rfl) (hi : 6 < M.2.2.1 := by decide) (k : G Γ M d B post u (pc + 3) (a0 :: a1 :: a2 :: a3 :: a4 :: a5 :: some (vI (x + a)) :: L) st τ) : G Γ M d B post u pc (a0 :: a1 :: a2 :: a3 :: a4 :: a5 :: some (vI x) :: L) st τ := g_iinc0 hd hi rfl (prevS (i := 5) rfl hp) k
theorem g_iinc_7 {a0 a1 a2 a3 a4 a5 a6 : Option Value} {a x : Int} (hd : decode M.2.1 pc = .ok (.iinc 7 a, 3)) (hp : okp a6 = true := by rfl) (hi : 7 < M.2.2.1 := by decide) (k : G Γ M d B post u (pc + 3) (a0 :: a1 :: a2 :: a3 :: a4 :: a5 :: a6 :: some (vI (x + a)) :: L) st τ) : G Γ M d B post u pc (a0 :: a1 :: a2 :: a3 :: a4 :: a5 :: a6 :: some (vI x) :: L) st τ := g_iinc0 hd hi rfl (prevS (i := 6) rfl hp) k
theorem g_iinc_8 {a0 a1 a2 a3 a4 a5 a6 a7 : Option Value} {a x : Int} (hd : decode M.2.1 pc = .ok (.iinc 8 a, 3)) (hp : okp a7 = true := by rfl) (hi : 8 < M.2.2.1 := by decide) (k : G Γ M d B post u (pc + 3) (a0 :: a1 :: a2 :: a3 :: a4 :: a5 :: a6 :: a7 :: some (vI (x + a)) :: L) st τ) : G Γ M d B post u pc (a0 :: a1 :: a2 :: a3 :: a4 :: a5 :: a6 :: a7 :: some (vI x) :: L) st τ := g_iinc0 hd hi rfl (prevS (i := 7) rfl hp) k
theorem g_iinc_9 {a0 a1 a2 a3 a4 a5 a6 a7 a8 : Option Value} {a x : Int} (hd : decode M.2.1 pc = .ok (.iinc 9 a, 3)) (hp : okp a8 = true := by rfl) (hi : 9 < M.2.2.1 := by decide) (k : G Γ M d B post u (pc + 3) (a0 :: a1 :: a2 :: a3 :: a4 :: a5 :: a6 :: a7 :: a8 :: some (vI (x + a)) :: L) st τ) : G Γ M d B post u pc (a0 :: a1 :: a2 :: a3 :: a4 :: a5 :: a6 :: a7 :: a8 :: some (vI x) :: L) st τ := g_iinc0 hd hi rfl (prevS (i := 8) rfl hp) k
theorem g_iinc_10 {a0 a1 a2 a3 a4 a5 a6 a7 a8 a9 : Option Value} {a x : Int} (hd : decode M.2.1 pc = .ok (.iinc 10 a, 3)) (hp : okp a9 = true := by rfl) (hi : 10 < M.2.2.1 := by decide) (k : G Γ M d B post u (pc + 3) (a0 :: a1 :: a2 :: a3 :: a4 :: a5 :: a6 :: a7 :: a8 :: a9 :: some (vI (x + a)) :: L) st τ) : G Γ M d B post u pc (a0 :: a1 :: a2 :: a3 :: a4 :: a5 :: a6 :: a7 :: a8 :: a9 :: some (vI x) :: L) st τ := g_iinc0 hd hi rfl (prevS (i := 9) rfl hp) k
theorem g_iinc_11 {a0 a1 a2 a3 a4 a5 a6 a7 a8 a9 a10 : Option Value} {a x : Int} (hd : decode M.2.1 pc = .ok (.iinc 11 a, 3)) (hp : okp a10 = true := by rfl) (hi : 11 < M.2.2.1 := by decide) (k : G Γ M d B post u (pc + 3) (a0 :: a1 :: a2 :: a3 :: a4 :: a5 :: a6 :: a7 :: a8 :: a9 :: a10 :: some (vI (x + a)) :: L) st τ) : G Γ M d B post u pc (a0 :: a1 :: a2 :: a3 :: a4 :: a5 :: a6 :: a7 :: a8 :: a9 :: a10 :: some (vI x) :: L) st τ := g_iinc0 hd hi rfl (prevS (i := 10) rfl hp) k
theorem g_iinc_12 {a0 a1 a2 a3 a4 a5 a6 a7 a8 a9 a10 a11 : Option Value} {a x : Int} (hd : decode M.2.1 pc = .ok (.iinc 12 a, 3)) (hp : okp a11 = true := by rfl) (hi : 12 < M.2.2.1 := by decide) (k : G Γ M d B post u (pc + 3) (a0 :: a1 :: a2 :: a3 :: a4 :: a5 :: a6 :: a7 :: a8 :: a9 :: a10 :: a11 :: some (vI (x + a)) :: L) st τ) : G Γ M d B post u pc (a0 :: a1 :: a2 :: a3 :: a4 :: a5 :: a6 :: a7 :: a8 :: a9 :: a10 :: a11 :: some (vI x) :: L) st τ := g_iinc0 hd hi rfl (prevS (i := 11) rfl hp) k
theorem g_lstore_0 {a0 b : Option Value} {x : Int} (hd : decode M.2.1 pc = .ok (.lstore_n 0, 1)) (hi : 0 + 1 < M.2.2.1 := by decide) (k : G Γ M d B post u (pc + 1) (some (vL x) :: none :: L) st τ) : G Γ M d B post u pc (a0 :: b :: L) (vL x :: st) τ := g_lstore_n0 (i := 0) hd hi prev0 k
theorem g_lstore_1 {a0 a1 b : Option Value} {x : Int} (hd : decode M.2.1 pc = .ok (.lstore_n 1, 1)) (hp : okp a0 = true := by rfl) (hi : 1 + 1 < M.2.2.1 := by decide) (k : G Γ M d B post u (pc + 1) (a0 :: some (vL x) :: none :: L) st τ) : G Γ M d B post u pc (a0 :: a1 :: b :: L) (vL x :: st) τ := g_lstore_n0 (i := 1) hd hi (prevS (i := 0) rfl hp) k
theorem g_lstore_2 {a0 a1 a2 b : Option Value} {x : Int} (hd : decode M.2.1 pc = .ok (.lstore_n 2, 1)) (hp : okp a1 = true := by rfl) (hi : 2 + 1 < M.2.2.1 := by decide) (k : G Γ M d B post u (pc + 1) (a0 :: a1 :: some (vL x) :: none :: L) st τ) : G Γ M d B post u pc (a0 :: a1 :: a2 :: b :: L) (vL x :: st) τ := g_lstore_n0 (i := 2) hd hi (prevS (i := 1) rfl hp) k
theorem g_lstore_3 {a0 a1 a2 a3 b : Option Value} {x : Int} (hd : decode M.2.1 pc = .ok (.lstore_n 3, 1)) (hp : okp a2 = true := by rfl) (hi : 3 + 1 < M.2.2.1 := by decide) (k : G Γ M d B post u (pc + 1) (a0 :: a1 :: a2 :: some (vL x) :: none :: L) st τ) : G Γ M d B post u pc (a0 :: a1 :: a2 :: a3 :: b :: L) (vL x :: st) τ := g_lstore_n0 (i := 3) hd hi (prevS (i := 2) rfl hp) k
theorem g_lstore_4 {a0 a1 a2 a3 a4 b : Option Value} {x : Int} (hd : decode M.2.1 pc = .ok (.lstore 4, 2)) (hp : okp a3 = true := by rfl) (hi : 4 + 1 < M.2.2.1 := by decide) (k : G Γ M d B post u (pc + 2) (a0 :: a1 :: a2 :: a3 :: some (vL x) :: none :: L) st τ) : G Γ M d B post u pc (a0 :: a1 :: a2 :: a3 :: a4 :: b :: L) (vL x :: st) τ := g_lstore0 hd hi (prevS (i := 3) rfl hp) k
theorem g_lstore_5 {a0 a1 a2 a3 a4 a5 b : Option Value} {x : Int} (hd : decode M.2.1 pc = .ok (.lstore 5, 2)) (hp : okp a4 = true := by rfl) (hi : 5 + 1 < M.2.2.1 := by decide) (k : G Γ M d B post u (pc + 2) (a0 :: a1 :: a2 :: a3 :: a4 :: some (vL x) :: none :: L) st τ) : G Γ M d B post u pc (a0 :: a1 :: a2 :: a3 :: a4 :: a5 :: b :: L) (vL x :: st) τ := g_lstore0 hd hi (prevS (i := 4) rfl hp) k
theorem g_lstore_6 {a0 a1 a2 a3 a4 a5 a6 b : Option Value} {x : Int} (hd : decode M.2.1 pc = .ok (.lstore 6, 2)) (hp : okp a5 = true := by rfl) (hi : 6 + 1 < M.2.2.1 := by decide) (k : G Γ M d B post u (pc + 2) (a0 :: a1 :: a2 :: a3 :: a4 :: a5 :: some (vL x) :: none :: L) st τ) : G Γ M d B post u pc (a0 :: a1 :: a2 :: a3 :: a4 :: a5 :: a6 :: b :: L) (vL x :: st) τ := g_lstore0 hd hi (prevS (i := 5) rfl hp) k
theorem g_lstore_7 {a0 a1 a2 a3 a4 a5 a6 a7 b : Option Value} {x : Int} (hd : decode M.2.1 pc = .ok (.lstore 7, 2)) (hp : okp a6 = true := by rfl) (hi : 7 + 1 < M.2.2.1 := by decide) (k : G Γ M d B post u (pc + 2) (a0 :: a1 :: a2 :: a3 :: a4 :: a5 :: a6 :: some (vL x) :: none :: L) st τ) : G Γ M d B post u pc (a0 :: a1 :: a2 :: a3 :: a4 :: a5 :: a6 :: a7 :: b :: L) (vL x :: st) τ := g_lstore0 hd hi (prevS (i := 6) rfl hp) k
theorem g_lstore_8 {a0 a1 a2 a3 a4 a5 a6 a7 a8 b : Option Value} {x : Int} (hd : decode M.2.1 pc = .ok (.lstore 8, 2)) (hp : okp a7 = true := by rfl) (hi : 8 + 1 < M.2.2.1 := by decide) (k : G Γ M d B post u (pc + 2) (a0 :: a1 :: a2 :: a3 :: a4 :: a5 :: a6 :: a7 :: some (vL x) :: none :: L) st τ) : G Γ M d B post u pc (a0 :: a1 :: a2 :: a3 :: a4 :: a5 :: a6 :: a7 :: a8 :: b :: L) (vL x :: st) τ := g_lstore0 hd hi (prevS (i := 7) rfl hp) k
theorem g_lstore_9 {a0 a1 a2 a3 a4 a5 a6 a7 a8 a9 b : Option Value} {x : Int} (hd : decode M.2.1 pc = .ok (.lstore 9, 2)) (hp : okp a8 = true := by rfl) (hi : 9 + 1 < M.2.2.1 := by decide) (k : G Γ M d B post u (pc + 2) (a0 :: a1 :: a2 :: a3 :: a4 :: a5 :: a6 :: a7 :: a8 :: some (vL x) :: none :: L) st τ) : G Γ M d B post u pc (a0 :: a1 :: a2 :: a3 :: a4 :: a5 :: a6 :: a7 :: a8 :: a9 :: b :: L) (vL x :: st) τ := g_lstore0 hd hi (prevS (i := 8) rfl hp) k
theorem g_lstore_10 {a0 a1 a2 a3 a4 a5 a6 a7 a8 a9 a10 b : Option Value} {x : Int} (hd : decode M.2.1 pc = .ok (.lstore 10, 2)) (hp : okp a9 = true := by rfl) (hi : 10 + 1 < M.2.2.1 := by decide) (k : G Γ M d B post u (pc + 2) (a0 :: a1 :: a2 :: a3 :: a4 :: a5 :: a6 :: a7 :: a8 :: a9 :: some (vL x) :: none :: L) st τ) : G Γ M d B post u pc (a0 :: a1 :: a2 :: a3 :: a4 :: a5 :: a6 :: a7 :: a8 :: a9 :: a10 :: b :: L) (vL x :: st) τ := g_lstore0 hd hi (prevS (i := 9) rfl hp) k
theorem g_lstore_11 {a0 a1 a2 a3 a4 a5 a6 a7 a8 a9 a10 a11 b : Option Value} {x : Int} (hd : decode M.2.1 pc = .ok (.lstore 11, 2)) (hp : okp a10 = true := by rfl) (hi : 11 + 1 < M.2.2.1 := by decide) (k : G Γ M d B post u (pc + 2) (a0 :: a1 :: a2 :: a3 :: a4 :: a5 :: a6 :: a7 :: a8 :: a9 :: a10 :: some (vL x) :: none :: L) st τ) : G Γ M d B post u pc (a0 :: a1 :: a2 :: a3 :: a4 :: a5 :: a6 :: a7 :: a8 :: a9 :: a10 :: a11 :: b :: L) (vL x :: st) τ := g_lstore0 hd hi (prevS (i := 10) rfl hp) k
theorem g_iadd {a b : Int} (hd : decode M.2.1 pc = .ok (.iadd, 1)) (k : G Γ M d B post u (pc + 1) L (vI (a + b) :: st) τ) : G Γ M d B post u pc L (vI b :: vI a :: st) τ := by
  intro p e R s m args below meth cd Q H locs ls C F hl hW hS
  refine lv_iadd C.1 C.2.1 hd ?_
  rw [← Int32.ofInt_add]
  exact k p e R s m args below meth cd Q H locs ls C F hl hW hS
theorem g_isub {a b : Int} (hd : decode M.2.1 pc = .ok (.isub, 1)) (k : G Γ M d B post u (pc + 1) L (vI (a - b) :: st) τ) : G Γ M d B post u pc L (vI b :: vI a :: st) τ := by
  intro p e R s m args below meth cd Q H locs ls C F hl hW hS
  refine lv_isub C.1 C.2.1 hd ?_
  rw [← Int32.ofInt_sub]
  exact k p e R s m args below meth cd Q H locs ls C F hl hW hS
theorem g_imul {a b : Int} (hd : decode M.2.1 pc = .ok (.imul, 1)) (k : G Γ M d B post u (pc + 1) L (vI (a * b) :: st) τ) : G Γ M d B post u pc L (vI b :: vI a :: st) τ := by
  intro p e R s m args below meth cd Q H locs ls C F hl hW hS
  refine lv_imul C.1 C.2.1 hd ?_
  rw [← Int32.ofInt_mul]
  exact k p e R s m args below meth cd Q H locs ls C F hl hW hS
theorem g_ineg {a : Int} (hd : decode M.2.1 pc = .ok (.ineg, 1)) (k : G Γ M d B post u (pc + 1) L (vI (-a) :: st) τ) : G Γ M d B post u pc L (vI a :: st) τ := by
  intro p e R s m args below meth cd Q H locs ls C F hl hW hS
  refine lv_ineg C.1 C.2.1 hd ?_
  rw [← Int32.ofInt_neg]
  exact k p e R s m args below meth cd Q H locs ls C F hl hW hS
theorem g_iand {a b : Int} (hd : decode M.2.1 pc = .ok (.iand, 1)) (k : G Γ M d B post u (pc + 1) L (vI (zand a b) :: st) τ) : G Γ M d B post u pc L (vI b :: vI a :: st) τ := by
  intro p e R s m args below meth cd Q H locs ls C F hl hW hS
  refine lv_iand C.1 C.2.1 hd ?_
  have h := (k p e R s m args below meth cd Q H locs ls C F hl hW hS)
  unfold vI zand at h
  rwa [Int32.ofInt_toInt] at h
theorem g_ior {a b : Int} (hd : decode M.2.1 pc = .ok (.ior, 1)) (k : G Γ M d B post u (pc + 1) L (vI (zor a b) :: st) τ) : G Γ M d B post u pc L (vI b :: vI a :: st) τ := by
  intro p e R s m args below meth cd Q H locs ls C F hl hW hS
  refine lv_ior C.1 C.2.1 hd ?_
  have h := (k p e R s m args below meth cd Q H locs ls C F hl hW hS)
  unfold vI zor at h
  rwa [Int32.ofInt_toInt] at h
theorem g_ixor {a b : Int} (hd : decode M.2.1 pc = .ok (.ixor, 1)) (k : G Γ M d B post u (pc + 1) L (vI (zxor a b) :: st) τ) : G Γ M d B post u pc L (vI b :: vI a :: st) τ := by
  intro p e R s m args below meth cd Q H locs ls C F hl hW hS
  refine lv_ixor C.1 C.2.1 hd ?_
  have h := (k p e R s m args below meth cd Q H locs ls C F hl hW hS)
  unfold vI zxor at h
  rwa [Int32.ofInt_toInt] at h
theorem g_ishl {a b : Int} (hd : decode M.2.1 pc = .ok (.ishl, 1)) (k : G Γ M d B post u (pc + 1) L (vI (zshl a b) :: st) τ) : G Γ M d B post u pc L (vI b :: vI a :: st) τ := by
  intro p e R s m args below meth cd Q H locs ls C F hl hW hS
  refine lv_ishl C.1 C.2.1 hd ?_
  have h := (k p e R s m args below meth cd Q H locs ls C F hl hW hS)
  unfold vI zshl at h
  rwa [Int32.ofInt_toInt] at h
theorem g_ishr {a b : Int} (hd : decode M.2.1 pc = .ok (.ishr, 1)) (k : G Γ M d B post u (pc + 1) L (vI (zshr a b) :: st) τ) : G Γ M d B post u pc L (vI b :: vI a :: st) τ := by
  intro p e R s m args below meth cd Q H locs ls C F hl hW hS
  refine lv_ishr C.1 C.2.1 hd ?_
  have h := (k p e R s m args below meth cd Q H locs ls C F hl hW hS)
  unfold vI zshr at h
  rwa [Int32.ofInt_toInt] at h
theorem g_iushr {a b : Int} (hd : decode M.2.1 pc = .ok (.iushr, 1)) (k : G Γ M d B post u (pc + 1) L (vI (zushr a b) :: st) τ) : G Γ M d B post u pc L (vI b :: vI a :: st) τ := by
  intro p e R s m args below meth cd Q H locs ls C F hl hW hS
  refine lv_iushr C.1 C.2.1 hd rfl ?_
  have h := (k p e R s m args below meth cd Q H locs ls C F hl hW hS)
  unfold vI zushr at h
  rwa [Int32.ofInt_toInt] at h
theorem g_i2b {a : Int} (hd : decode M.2.1 pc = .ok (.i2b, 1)) (k : G Γ M d B post u (pc + 1) L (vI (zi2b a) :: st) τ) : G Γ M d B post u pc L (vI a :: st) τ := by
  intro p e R s m args below meth cd Q H locs ls C F hl hW hS
  refine lv_i2b C.1 C.2.1 hd rfl ?_
  have h := (k p e R s m args below meth cd Q H locs ls C F hl hW hS)
  unfold vI zi2b at h
  rwa [Int32.ofInt_toInt] at h
theorem g_i2s {a : Int} (hd : decode M.2.1 pc = .ok (.i2s, 1)) (k : G Γ M d B post u (pc + 1) L (vI (zi2s a) :: st) τ) : G Γ M d B post u pc L (vI a :: st) τ := by
  intro p e R s m args below meth cd Q H locs ls C F hl hW hS
  refine lv_i2s C.1 C.2.1 hd rfl ?_
  have h := (k p e R s m args below meth cd Q H locs ls C F hl hW hS)
  unfold vI zi2s at h
  rwa [Int32.ofInt_toInt] at h
theorem g_i2c {a : Int} (hd : decode M.2.1 pc = .ok (.i2c, 1)) (k : G Γ M d B post u (pc + 1) L (vI (zi2c a) :: st) τ) : G Γ M d B post u pc L (vI a :: st) τ := by
  intro p e R s m args below meth cd Q H locs ls C F hl hW hS
  refine lv_i2c C.1 C.2.1 hd rfl ?_
  have h := (k p e R s m args below meth cd Q H locs ls C F hl hW hS)
  unfold vI zi2c at h
  rwa [Int32.ofInt_toInt] at h
theorem g_l2i {a : Int} (hd : decode M.2.1 pc = .ok (.l2i, 1)) (k : G Γ M d B post u (pc + 1) L (vI (zl2i a) :: st) τ) : G Γ M d B post u pc L (vL a :: st) τ := by
  intro p e R s m args below meth cd Q H locs ls C F hl hW hS
  refine lv_l2i C.1 C.2.1 hd rfl ?_
  have h := (k p e R s m args below meth cd Q H locs ls C F hl hW hS)
  unfold vI zl2i at h
  rwa [Int32.ofInt_toInt] at h
theorem g_i2l {a : Int} (ha : R32 a) (hd : decode M.2.1 pc = .ok (.i2l, 1)) (k : G Γ M d B post u (pc + 1) L (vL a :: st) τ) : G Γ M d B post u pc L (vI a :: st) τ := by
  intro p e R s m args below meth cd Q H locs ls C F hl hW hS
  refine lv_i2l C.1 C.2.1 hd (v := Int64.ofInt a) (Int32.toInt64_ofInt (by rw [z_mn]; omega) (by rw [z_mx]; omega)) ?_
  exact (k p e R s m args below meth cd Q H locs ls C F hl hW hS)
theorem g_lshl {a b : Int} (hd : decode M.2.1 pc = .ok (.lshl, 1)) (k : G Γ M d B post u (pc + 1) L (vL (zlshl a b) :: st) τ) : G Γ M d B post u pc L (vI b :: vL a :: st) τ := by
  intro p e R s m args below meth cd Q H locs ls C F hl hW hS
  refine lv_lshl C.1 C.2.1 hd rfl ?_
  have h := (k p e R s m args below meth cd Q H locs ls C F hl hW hS)
  unfold vL zlshl at h
  rwa [Int64.ofInt_toInt] at h
theorem g_land {a b : Int} (hd : decode M.2.1 pc = .ok (.land, 1)) (k : G Γ M d B post u (pc + 1) L (vL (zland a b) :: st) τ) : G Γ M d B post u pc L (vL b :: vL a :: st) τ := by
  intro p e R s m args below meth cd Q H locs ls C F hl hW hS
  refine lv_land C.1 C.2.1 hd ?_
  have h := (k p e R s m args below meth cd Q H locs ls C F hl hW hS)
  unfold vL zland at h
  rwa [Int64.ofInt_toInt] at h
theorem g_lor {a b : Int} (hd : decode M.2.1 pc = .ok (.lor, 1)) (k : G Γ M d B post u (pc + 1) L (vL (zlor a b) :: st) τ) : G Γ M d B post u pc L (vL b :: vL a :: st) τ := by
  intro p e R s m args below meth cd Q H locs ls C F hl hW hS
  refine lv_lor C.1 C.2.1 hd ?_
  have h := (k p e R s m args below meth cd Q H locs ls C F hl hW hS)
  unfold vL zlor at h
  rwa [Int64.ofInt_toInt] at h
theorem g_idiv {a b : Int} (ha : R32 a) (hb : R32 b) (hn : b ≠ 0) (hd : decode M.2.1 pc = .ok (.idiv, 1)) (k : G Γ M d B post u (pc + 1) L (vI (a.tdiv b) :: st) τ) : G Γ M d B post u pc L (vI b :: vI a :: st) τ := by
  intro p e R s m args below meth cd Q H locs ls C F hl hW hS
  refine lv_idiv C.1 C.2.1 hd (fun q => hn ((z_eq hb (by omega)).mp q)) ?_
  have h := (k p e R s m args below meth cd Q H locs ls C F hl hW hS)
  unfold vI at h
  rwa [Int32.ofInt_tdiv (by rw [z_mn]; omega) (by rw [z_mx]; omega) (by rw [z_mn]; omega) (by rw [z_mx]; omega)] at h
theorem g_irem {a b : Int} (ha : R32 a) (hb : R32 b) (hn : b ≠ 0) (hd : decode M.2.1 pc = .ok (.irem, 1)) (k : G Γ M d B post u (pc + 1) L (vI (a.tmod b) :: st) τ) : G Γ M d B post u pc L (vI b :: vI a :: st) τ := by
  intro p e R s m args below meth cd Q H locs ls C F hl hW hS
  refine lv_irem C.1 C.2.1 hd (fun q => hn ((z_eq hb (by omega)).mp q)) ?_
  have h := (k p e R s m args below meth cd Q H locs ls C F hl hW hS)
  unfold vI at h
  rwa [Int.tmod_def, Int32.ofInt_sub, Int32.ofInt_mul, Int32.ofInt_tdiv (by rw [z_mn]; omega) (by rw [z_mx]; omega) (by rw [z_mn]; omega) (by rw [z_mx]; omega), Int32.mul_comm] at h
theorem g_ldiv {a b : Int} (ha : R64 a) (hb : R64 b) (hn : b ≠ 0) (hd : decode M.2.1 pc = .ok (.ldiv, 1)) (k : G Γ M d B post u (pc + 1) L (vL (a.tdiv b) :: st) τ) : G Γ M d B post u pc L (vL b :: vL a :: st) τ := by
  intro p e R s m args below meth cd Q H locs ls C F hl hW hS
  refine lv_ldiv C.1 C.2.1 hd (fun q => hn ((z_eqL hb (by omega)).mp q)) ?_
  have h := (k p e R s m args below meth cd Q H locs ls C F hl hW hS)
  unfold vL at h
  have e1 : Int64.maxValue.toInt = 9223372036854775807 := by decide
  have e2 : Int64.minValue.toInt = -9223372036854775808 := by decide
  rwa [Int64.ofInt_tdiv (by omega) (by omega) (by omega) (by omega)] at h
theorem g_lrem {a b : Int} (ha : R64 a) (hb : R64 b) (hn : b ≠ 0) (hd : decode M.2.1 pc = .ok (.lrem, 1)) (k : G Γ M d B post u (pc + 1) L (vL (a.tmod b) :: st) τ) : G Γ M d B post u pc L (vL b :: vL a :: st) τ := by
  intro p e R s m args below meth cd Q H locs ls C F hl hW hS
  refine lv_lrem C.1 C.2.1 hd (fun q => hn ((z_eqL hb (by omega)).mp q)) ?_
  have h := (k p e R s m args below meth cd Q H locs ls C F hl hW hS)
  unfold vL at h
  have e1 : Int64.maxValue.toInt = 9223372036854775807 := by decide
  have e2 : Int64.minValue.toInt = -9223372036854775808 := by decide
  rwa [Int.tmod_def, Int64.ofInt_sub, Int64.ofInt_mul, Int64.ofInt_tdiv (by omega) (by omega) (by omega) (by omega), Int64.mul_comm] at h
theorem g_lcmp {a b : Int} (ha : R64 a) (hb : R64 b) (hd : decode M.2.1 pc = .ok (.lcmp, 1)) (k : G Γ M d B post u (pc + 1) L (vI (if b < a then 1 else if a = b then 0 else -1) :: st) τ) : G Γ M d B post u pc L (vL b :: vL a :: st) τ := by
  intro p e R s m args below meth cd Q H locs ls C F hl hW hS
  refine W.lcmp C.1 C.2.1 hd ?_
  have h := (k p e R s m args below meth cd Q H locs ls C F hl hW hS)
  have e : Int32.ofInt (if b < a then 1 else if a = b then 0 else -1) = lg_cmp (Int64.ofInt a) (Int64.ofInt b) := by
    unfold lg_cmp
    simp only [gt_iff_lt, z_ltL hb ha, z_eqL ha hb]
    split
    · rfl
    · split <;> rfl
  unfold vI at h
  rwa [e] at h
theorem g_dupI {a : Int} (hd : decode M.2.1 pc = .ok (.dup, 1)) (k : G Γ M d B post u (pc + 1) L (vI a :: vI a :: st) τ) : G Γ M d B post u pc L (vI a :: st) τ := by
  intro p e R s m args below meth cd Q H locs ls C F hl hW hS
  exact lv_dup C.1 C.2.1 hd rfl (k p e R s m args below meth cd Q H locs ls C F hl hW hS)
theorem g_dupR {a : Nat} (hd : decode M.2.1 pc = .ok (.dup, 1)) (k : G Γ M d B post u (pc + 1) L (.ref a :: .ref a :: st) τ) : G Γ M d B post u pc L (.ref a :: st) τ := by
  intro p e R s m args below meth cd Q H locs ls C F hl hW hS
  exact lv_dup C.1 C.2.1 hd rfl (k p e R s m args below meth cd Q H locs ls C F hl hW hS)
theorem g_popI {a : Int} (hd : decode M.2.1 pc = .ok (.pop, 1)) (k : G Γ M d B post u (pc + 1) L st τ) : G Γ M d B post u pc L (vI a :: st) τ := by
  intro p e R s m args below meth cd Q H locs ls C F hl hW hS
  exact lv_pop C.1 C.2.1 hd rfl (k p e R s m args below meth cd Q H locs ls C F hl hW hS)
theorem g_pop2L {a : Int} (hd : decode M.2.1 pc = .ok (.pop2, 1)) (k : G Γ M d B post u (pc + 1) L st τ) : G Γ M d B post u pc L (vL a :: st) τ := by
  intro p e R s m args below meth cd Q H locs ls C F hl hW hS
  exact lv_pop2_2 C.1 C.2.1 hd rfl (k p e R s m args below meth cd Q H locs ls C F hl hW hS)
theorem g_goto {off : Int} {tgt : Nat} (hd : decode M.2.1 pc = .ok (.goto off, 3)) (ht : (pc : Int) + off = (tgt : Int) := by decide) (k : G Γ M d B post u tgt L st τ) : G Γ M d B post u pc L st τ := by
  intro p e R s m args below meth cd Q H locs ls C F hl hW hS
  exact lv_goto C.1 C.2.1 hd ht (k p e R s m args below meth cd Q H locs ls C F hl hW hS)
theorem g_icmp_eq {a b off : Int} {tgt : Nat} (ha : R32 a) (hb : R32 b) (hd : decode M.2.1 pc = .ok (.if_icmp .eq off, 3)) (ht : (pc : Int) + off = (tgt : Int) := by decide) (k1 : a = b → G Γ M d B post u tgt L st τ) (k2 : a ≠ b → G Γ M d B post u (pc + 3) L st τ) : G Γ M d B post u pc L (vI b :: vI a :: st) τ := by
  intro p e R s m args below meth cd Q H locs ls C F hl hW hS
  exact lv_icmp_eq C.1 C.2.1 hd ht (fun q => k1 ((z_eq ha hb).mp q) p e R s m args below meth cd Q H locs ls C F hl hW hS) (fun q => k2 (fun z => q ((z_eq ha hb).mpr z)) p e R s m args below meth cd Q H locs ls C F hl hW hS)
theorem g_if_eq {a off : Int} {tgt : Nat} (ha : R32 a) (hd : decode M.2.1 pc = .ok (.ifCond .eq off, 3)) (ht : (pc : Int) + off = (tgt : Int) := by decide) (k1 : a = 0 → G Γ M d B post u tgt L st τ) (k2 : a ≠ 0 → G Γ M d B post u (pc + 3) L st τ) : G Γ M d B post u pc L (vI a :: st) τ := by
  intro p e R s m args below meth cd Q H locs ls C F hl hW hS
  have hb : R32 0 := by omega
  exact lv_if_eq C.1 C.2.1 hd ht (fun q => k1 ((z_eq ha hb).mp q) p e R s m args below meth cd Q H locs ls C F hl hW hS) (fun q => k2 (fun z => q ((z_eq ha hb).mpr z)) p e R s m args below meth cd Q H locs ls C F hl hW hS)
theorem g_icmp_ne {a b off : Int} {tgt : Nat} (ha : R32 a) (hb : R32 b) (hd : decode M.2.1 pc = .ok (.if_icmp .ne off, 3)) (ht : (pc : Int) + off = (tgt : Int) := by decide) (k1 : a ≠ b → G Γ M d B post u tgt L st τ) (k2 : a = b → G Γ M d B post u (pc + 3) L st τ) : G Γ M d B post u pc L (vI b :: vI a :: st) τ := by
  intro p e R s m args below meth cd Q H locs ls C F hl hW hS
  exact lv_icmp_ne C.1 C.2.1 hd ht (fun q => k1 (fun z => q ((z_eq ha hb).mpr z)) p e R s m args below meth cd Q H locs ls C F hl hW hS) (fun q => k2 ((z_eq ha hb).mp q) p e R s m args below meth cd Q H locs ls C F hl hW hS)
theorem g_if_ne {a off : Int} {tgt : Nat} (ha : R32 a) (hd : decode M.2.1 pc = .ok (.ifCond .ne off, 3)) (ht : (pc : Int) + off = (tgt : Int) := by decide) (k1 : a ≠ 0 → G Γ M d B post u tgt L st τ) (k2 : a = 0 → G Γ M d B post u (pc + 3) L st τ) : G Γ M d B post u pc L (vI a :: st) τ := by
  intro p e R s m args below meth cd Q H locs ls C F hl hW hS
  have hb : R32 0 := by omega
  exact lv_if_ne C.1 C.2.1 hd ht (fun q => k1 (fun z => q ((z_eq ha hb).mpr z)) p e R s m args below meth cd Q H locs ls C F hl hW hS) (fun q => k2 ((z_eq ha hb).mp q) p e R s m args below meth cd Q H locs ls C F hl hW hS)
theorem g_icmp_lt {a b off : Int} {tgt : Nat} (ha : R32 a) (hb : R32 b) (hd : decode M.2.1 pc = .ok (.if_icmp .lt off, 3)) (ht : (pc : Int) + off = (tgt : Int) := by decide) (k1 : a < b → G Γ M d B post u tgt L st τ) (k2 : b ≤ a → G Γ M d B post u (pc + 3) L st τ) : G Γ M d B post u pc L (vI b :: vI a :: st) τ := by
  intro p e R s m args below meth cd Q H locs ls C F hl hW hS
  exact lv_icmp_lt C.1 C.2.1 hd ht (fun q => k1 ((z_lt ha hb).mp q) p e R s m args below meth cd Q H locs ls C F hl hW hS) (fun q => k2 (Int.not_lt.mp (fun z => q ((z_lt ha hb).mpr z))) p e R s m args below meth cd Q H locs ls C F hl hW hS)
theorem g_if_lt {a off : Int} {tgt : Nat} (ha : R32 a) (hd : decode M.2.1 pc = .ok (.ifCond .lt off, 3)) (ht : (pc : Int) + off = (tgt : Int) := by decide) (k1 : a < 0 → G Γ M d B post u tgt L st τ) (k2 : 0 ≤ a → G Γ M d B post u (pc + 3) L st τ) : G Γ M d B post u pc L (vI a :: st) τ := by
  intro p e R s m args below meth cd Q H locs ls C F hl hW hS
  have hb : R32 0 := by omega
  exact lv_if_lt C.1 C.2.1 hd ht (fun q => k1 ((z_lt ha hb).mp q) p e R s m args below meth cd Q H locs ls C F hl hW hS) (fun q => k2 (Int.not_lt.mp (fun z => q ((z_lt ha hb).mpr z))) p e R s m args below meth cd Q H locs ls C F hl hW hS)
theorem g_icmp_ge {a b off : Int} {tgt : Nat} (ha : R32 a) (hb : R32 b) (hd : decode M.2.1 pc = .ok (.if_icmp .ge off, 3)) (ht : (pc : Int) + off = (tgt : Int) := by decide) (k1 : b ≤ a → G Γ M d B post u tgt L st τ) (k2 : a < b → G Γ M d B post u (pc + 3) L st τ) : G Γ M d B post u pc L (vI b :: vI a :: st) τ := by
  intro p e R s m args below meth cd Q H locs ls C F hl hW hS
  exact lv_icmp_ge C.1 C.2.1 hd ht (fun q => k1 ((z_le hb ha).mp q) p e R s m args below meth cd Q H locs ls C F hl hW hS) (fun q => k2 (Int.not_le.mp (fun z => q ((z_le hb ha).mpr z))) p e R s m args below meth cd Q H locs ls C F hl hW hS)
theorem g_if_ge {a off : Int} {tgt : Nat} (ha : R32 a) (hd : decode M.2.1 pc = .ok (.ifCond .ge off, 3)) (ht : (pc : Int) + off = (tgt : Int) := by decide) (k1 : 0 ≤ a → G Γ M d B post u tgt L st τ) (k2 : a < 0 → G Γ M d B post u (pc + 3) L st τ) : G Γ M d B post u pc L (vI a :: st) τ := by
  intro p e R s m args below meth cd Q H locs ls C F hl hW hS
  have hb : R32 0 := by omega
  exact lv_if_ge C.1 C.2.1 hd ht (fun q => k1 ((z_le hb ha).mp q) p e R s m args below meth cd Q H locs ls C F hl hW hS) (fun q => k2 (Int.not_le.mp (fun z => q ((z_le hb ha).mpr z))) p e R s m args below meth cd Q H locs ls C F hl hW hS)
theorem g_icmp_gt {a b off : Int} {tgt : Nat} (ha : R32 a) (hb : R32 b) (hd : decode M.2.1 pc = .ok (.if_icmp .gt off, 3)) (ht : (pc : Int) + off = (tgt : Int) := by decide) (k1 : b < a → G Γ M d B post u tgt L st τ) (k2 : a ≤ b → G Γ M d B post u (pc + 3) L st τ) : G Γ M d B post u pc L (vI b :: vI a :: st) τ := by
  intro p e R s m args below meth cd Q H locs ls C F hl hW hS
  exact lv_icmp_gt C.1 C.2.1 hd ht (fun q => k1 ((z_lt hb ha).mp q) p e R s m args below meth cd Q H locs ls C F hl hW hS) (fun q => k2 (Int.not_lt.mp (fun z => q ((z_lt hb ha).mpr z))) p e R s m args below meth cd Q H locs ls C F hl hW hS)
theorem g_if_gt {a off : Int} {tgt : Nat} (ha : R32 a) (hd : decode M.2.1 pc = .ok (.ifCond .gt off, 3)) (ht : (pc : Int) + off = (tgt : Int) := by decide) (k1 : 0 < a → G Γ M d B post u tgt L st τ) (k2 : a ≤ 0 → G Γ M d B post u (pc + 3) L st τ) : G Γ M d B post u pc L (vI a :: st) τ := by
  intro p e R s m args below meth cd Q H locs ls C F hl hW hS
  have hb : R32 0 := by omega
  exact lv_if_gt C.1 C.2.1 hd ht (fun q => k1 ((z_lt hb ha).mp q) p e R s m args below meth cd Q H locs ls C F hl hW hS) (fun q => k2 (Int.not_lt.mp (fun z => q ((z_lt hb ha).mpr z))) p e R s m args below meth cd Q H locs ls C F hl hW hS)
theorem g_icmp_le {a b off : Int} {tgt : Nat} (ha : R32 a) (hb : R32 b) (hd : decode M.2.1 pc = .ok (.if_icmp .le off, 3)) (ht : (pc : Int) + off = (tgt : Int) := by decide) (k1 : a ≤ b → G Γ M d B post u tgt L st τ) (k2 : b < a → G Γ M d B post u (pc + 3) L st τ) : G Γ M d B post u pc L (vI b :: vI a :: st) τ := by
  intro p e R s m args below meth cd Q H locs ls C F hl hW hS
  exact lv_icmp_le C.1 C.2.1 hd ht (fun q => k1 ((z_le ha hb).mp q) p e R s m args below meth cd Q H locs ls C F hl hW hS) (fun q => k2 (Int.not_le.mp (fun z => q ((z_le ha hb).mpr z))) p e R s m args below meth cd Q H locs ls C F hl hW hS)
theorem g_if_le {a off : Int} {tgt : Nat} (ha : R32 a) (hd : decode M.2.1 pc = .ok (.ifCond .le off, 3)) (ht : (pc : Int) + off = (tgt : Int) := by decide) (k1 : a ≤ 0 → G Γ M d B post u tgt L st τ) (k2 : 0 < a → G Γ M d B post u (pc + 3) L st τ) : G Γ M d B post u pc L (vI a :: st) τ := by
  intro p e R s m args below meth cd Q H locs ls C F hl hW hS
  have hb : R32 0 := by omega
  exact lv_if_le C.1 C.2.1 hd ht (fun q => k1 ((z_le ha hb).mp q) p e R s m args below meth cd Q H locs ls C F hl hW hS) (fun q => k2 (Int.not_le.mp (fun z => q ((z_le ha hb).mpr z))) p e R s m args below meth cd Q H locs ls C F hl hW hS)
theorem g_if_eqB {P : Prop} [Decidable P] {off : Int} {tgt : Nat} (hd : decode M.2.1 pc = .ok (.ifCond .eq off, 3)) (ht : (pc : Int) + off = (tgt : Int) := by decide) (k1 : ¬ P → G Γ M d B post u tgt L st τ) (k2 : P → G Γ M d B post u (pc + 3) L st τ) : G Γ M d B post u pc L (vI (b2 P) :: st) τ :=
  g_if_eq (by have := b2_r (P := P); omega) hd ht (fun h => k1 (fun q => by rw [b2_t q] at h; omega)) (fun h => k2 (Classical.byContradiction fun q => h (b2_f q)))
theorem g_if_neB {P : Prop} [Decidable P] {off : Int} {tgt : Nat} (hd : decode M.2.1 pc = .ok (.ifCond .ne off, 3)) (ht : (pc : Int) + off = (tgt : Int) := by decide) (k1 : P → G Γ M d B post u tgt L st τ) (k2 : ¬ P → G Γ M d B post u (pc + 3) L st τ) : G Γ M d B post u pc L (vI (b2 P) :: st) τ :=
  g_if_ne (by have := b2_r (P := P); omega) hd ht (fun h => k1 (Classical.byContradiction fun q => h (b2_f q))) (fun h => k2 (fun q => by rw [b2_t q] at h; omega))
theorem g_ifnull {a : Nat} {off : Int} (hd : decode M.2.1 pc = .ok (.ifnull off, 3)) (k : G Γ M d B post u (pc + 3) L st τ) : G Γ M d B post u pc L (.ref a :: st) τ := by
  intro p e R s m args below meth cd Q H locs ls C F hl hW hS
  exact lv_ifnull C.1 C.2.1 hd (k p e R s m args below meth cd Q H locs ls C F hl hW hS)
theorem g_tableOut {dflt lo hi a : Int} {offs : Array Int} {len tgt : Nat} (ha : R32 a) (hd : decode M.2.1 pc = .ok (.tableswitch dflt lo hi offs, len)) (h : a < lo ∨ hi < a) (ht : (pc : Int) + dflt = (tgt : Int) := by decide) (k : G Γ M d B post u tgt L st τ) : G Γ M d B post u pc L (vI a :: st) τ := by
  intro p e R s m args below meth cd Q H locs ls C F hl hW hS
  exact lv_tableOut C.1 C.2.1 hd (by rw [z_toInt ha]; exact h) ht (k p e R s m args below meth cd Q H locs ls C F hl hW hS)
theorem g_tableIn {dflt lo hi a off : Int} {offs : Array Int} {len tgt : Nat} (ha : R32 a) (hd : decode M.2.1 pc = .ok (.tableswitch dflt lo hi offs, len)) (v : Int) (hv : a = v) (h1 : ¬ v < lo := by decide) (h2 : ¬ hi < v := by decide) (ho : offs[(v - lo).toNat]? = some off := by rfl) (ht : (pc : Int) + off = (tgt : Int) := by decide) (k : G Γ M d B post u tgt L st τ) : G Γ M d B post u pc L (vI a :: st) τ := by
  intro p e R s m args below meth cd Q H locs ls C F hl hW hS
  subst hv
  exact lv_tableIn C.1 C.2.1 hd (by rw [z_toInt ha]; exact h1) (by rw [z_toInt ha]; exact h2) (by rw [z_toInt ha]; exact ho) ht (k p e R s m args below meth cd Q H locs ls C F hl hW hS)
theorem g_lookup {dflt a off : Int} {ps : Array (Int × Int)} {len tgt : Nat} (ha : R32 a) (hd : decode M.2.1 pc = .ok (.lookupswitch dflt ps, len)) (hp : (ps.toList.zip (ps.toList.drop 1)).all (fun (a, next) => a.1 < next.1) = true) (ho : Op.lookupswitch.offset ps.toList dflt a = off) (ht : (pc : Int) + off = (tgt : Int) := by decide) (k : G Γ M d B post u tgt L st τ) : G Γ M d B post u pc L (vI a :: st) τ := by
  intro p e R s m args below meth cd Q H locs ls C F hl hW hS
  exact lv_lookup C.1 C.2.1 hd hp (by rw [z_toInt ha]; exact ho) ht (k p e R s m args below meth cd Q H locs ls C F hl hW hS)
/-! returns -/
theorem g_iret {a : Int} (hr : M.2.2.2 = some .int) (hd : decode M.2.1 pc = .ok (.ireturn, 1)) (hu : u = B) (h : post (some (vI a)) τ) : G Γ M d B post u pc L [vI a] τ := by
  intro p e R s m args below meth cd Q H locs ls C F hl hW hS
  subst hu
  exact F pc ls (some (vI a)) τ H locs (Or.inr (Or.inl ⟨_, _, hr, rfl, rfl, hd⟩)) h hW hS
theorem z_narB {a : Int} (h : a = 0 ∨ a = 1) : narrow .boolean (.int (Int32.ofInt a)) = .int (Int32.ofInt a) := by rcases h with rfl | rfl <;> decide
theorem g_zret {a : Int} (ha : a = 0 ∨ a = 1) (hr : M.2.2.2 = some .boolean) (hd : decode M.2.1 pc = .ok (.ireturn, 1)) (hu : u = B) (h : post (some (vI a)) τ) : G Γ M d B post u pc L [vI a] τ := by
  intro p e R s m args below meth cd Q H locs ls C F hl hW hS
  subst hu
  exact F pc ls (some (vI a)) τ H locs (Or.inr (Or.inl ⟨_, _, hr, rfl, z_narB ha, hd⟩)) h hW hS
theorem g_nret {a : Int} {ty : FieldType} (hn : narrow ty (.int (Int32.ofInt a)) = .int (Int32.ofInt a)) (hr : M.2.2.2 = some ty) (hd : decode M.2.1 pc = .ok (.ireturn, 1)) (hu : u = B) (h : post (some (vI a)) τ) : G Γ M d B post u pc L [vI a] τ := by
  intro p e R s m args below meth cd Q H locs ls C F hl hW hS
  subst hu
  exact F pc ls (some (vI a)) τ H locs (Or.inr (Or.inl ⟨_, _, hr, rfl, hn, hd⟩)) h hW hS
theorem g_lret {a : Int} (hr : M.2.2.2 = some .long) (hd : decode M.2.1 pc = .ok (.lreturn, 1)) (hu : u = B) (h : post (some (vL a)) τ) : G Γ M d B post u pc L [vL a] τ := by
  intro p e R s m args below meth cd Q H locs ls C F hl hW hS
  subst hu
  exact F pc ls (some (vL a)) τ H locs (Or.inr (Or.inr (Or.inl ⟨_, hr, rfl, hd⟩))) h hW hS
theorem g_vret (hr : M.2.2.2 = none) (hd : decode M.2.1 pc = .ok (.return_, 1)) (hu : u = B) (h : post none τ) : G Γ M d B post u pc L [] τ := by
  intro p e R s m args below meth cd Q H locs ls C F hl hW hS
  subst hu
  exact F pc ls none τ H locs (Or.inl ⟨hr, rfl, hd⟩) h hW hS
theorem g_aret {a : Nat} {nm : String} (hr : M.2.2.2 = some (.object nm)) (hd : decode M.2.1 pc = .ok (.areturn, 1)) (hu : u = B) (h : post (some (.ref a)) τ) : G Γ M d B post u pc L [.ref a] τ := by
  intro p e R s m args below meth cd Q H locs ls C F hl hW hS
  subst hu
  exact F pc ls (some (.ref a)) τ H locs (Or.inr (Or.inr (Or.inr ⟨_, _, hr, Or.inl ⟨_, rfl⟩, rfl, hd⟩))) h hW hS
end GR
end
section
theorem cls_ok : ∀ (ci : Nat) (C : String) (T : u_T) (N : Nat), vwCl[ci]? = some (C, T, N) → (∀ w ∈ u_ws C T N, w ∈ tblG) ∧ (∃ ty : Nat → FieldType, ∀ k, k < N → parseFieldDescriptor (T k).2.2.1 = some (ty k)) ∧ (∀ a, a < N → ∀ b, b < N → a ≠ b → (T a).2.1 ≠ (T b).2.1) := by
  intro ci C T N h
  match ci, h with
  | 0, h => cases h; exact ⟨inX0, ⟨_, tyX0_ok⟩, nmX0⟩
  | 1, h => cases h; exact ⟨inX1, ⟨_, tyX1_ok⟩, nmX1⟩
  | 2, h => cases h; exact ⟨inX2, ⟨_, tyX2_ok⟩, nmX2⟩
  | 3, h => cases h; exact ⟨inX3, ⟨_, tyX3_ok⟩, nmX3⟩
  | 4, h => cases h; exact ⟨inX4, ⟨_, tyX4_ok⟩, nmX4⟩
  | 5, h => cases h; exact ⟨inX5, ⟨_, tyX5_ok⟩, nmX5⟩
  | 6, h => cases h; exact ⟨inX6, ⟨_, tyX6_ok⟩, nmX6⟩
  | 7, h => cases h; exact ⟨inX7, ⟨_, tyX7_ok⟩, nmX7⟩
  | 8, h => cases h; exact ⟨inX9, ⟨_, tyX9_ok⟩, nmX9⟩
  | 9, h => cases h; exact ⟨inX10, ⟨_, tyX10_ok⟩, nmX10⟩
  | 10, h => cases h; exact ⟨inX11, ⟨_, tyX11_ok⟩, nmX11⟩
  | k + 11, h => simp [vwCl] at h
theorem vp_V_fs {Γ : KT} {τ : St} {k j t : Nat} {l : List Nat} (h : l[j]? = some t) : vp_V (fsOf Γ τ k l) j = fval Γ τ k j t := by
  unfold vp_V
  rw [List.getD_eq_getElem?_getD, fsOf_get h]
  rfl
theorem wE_obj {Γ : KT} {τ : St} {k ci : Nat} (h : shp k = (0, ci)) : wE Γ τ k = .inr (ci, fsOf Γ τ k (fk ci)) := by
  unfold wE; rw [h]; rfl
theorem wE_int {Γ : KT} {τ : St} {k t N : Nat} (h : shp k = (t, N)) (ht : t = 1 ∨ t = 3 ∨ t = 4) : wE Γ τ k = .inl (kA Γ t, N, .inl (fun j => Int32.ofInt (τ.2.2 k j))) := by
  unfold wE; rw [h]; rcases ht with rfl | rfl | rfl <;> rfl
theorem wE_long {Γ : KT} {τ : St} {k N : Nat} (h : shp k = (2, N)) : wE Γ τ k = .inl (kA Γ 2, N, .inr (.inl (fun j => Int64.ofInt (τ.2.2 k j)))) := by
  unfold wE; rw [h]; rfl
theorem wE_grid {Γ : KT} {τ : St} {k t N : Nat} (h : shp k = (t, N)) (ht : t = 5 ∨ t = 6) : wE Γ τ k = .inl (kA Γ t, N, .inr (.inr (.inr (.inr (fun j => rfv Γ (τ.2.1 k j)))))) := by
  unfold wE; rw [h]; rcases ht with rfl | rfl <;> rfl
section GH
variable {Γ : KT} {M : MI} {d : Nat} {B : Nat × Nat} {post : Option Value → St → Prop} {u : Nat × Nat} {pc : Nat} {L : List (Option Value)} {st : List Value} {n : Nat} {ρ : Nat → Nat → Nat} {σ : Nat → Int → Int}
variable {p : Program} {e : Env} {R : Room} {s : State} {m : MethodId} {args : Array Value} {below : List Frame} {meth : Method} {cd : Code} {Q : State → Prop} {H : Heap} {locs : List Loc} {ls : Array Slot} {τ : St} {cells slots : Nat}
theorem link_nest {own : String} {idx : Nat} {ref nm ds host : String} (hK : KS Γ s) (h : Cond.fieldLinkNest own idx ref nm ds host ∈ nestL) : (Cond.fieldLinkNest own idx ref nm ds host).before args s = true := va_Nw.use rfl (hK.2.2.1 _ h)
/-- any field's value -/
theorem w_get {l : Launch} {k ci j tag idx : Nat} {ty : FieldType} {q : String × String × String × Bool} (C : Cx Γ M d B p R s m args meth cd) (hW : Wd Γ τ H) (hs : shp k = (0, ci)) (hk : k < τ.1) (hf : Fld ci j tag ty q) (hl : LinkF M.1.cls idx q.1 q.2.1 q.2.2.1) (hd : decode M.2.1 pc = .ok (.getfield idx, 3))
    (kk : W p l e R s m args below meth cd H locs cells slots Q (F0 m (pc + 3) ls (fval Γ τ k j tag :: st))) : W p l e R s m args below meth cd H locs cells slots Q (F0 m pc ls (vR Γ k :: st)) := by
  obtain ⟨hx, hb, hml, hown, hts, hKS, -⟩ := C
  obtain ⟨Cn, T, N, hc, hj, ht, rfl, hp⟩ := hf
  have hP := hW.2.1 k hk
  rw [wE_obj hs] at hP
  have hP1 : va_P (kD Γ) vwCl [(kB Γ + k, .inr (ci, fsOf Γ τ k (fk ci)))] H := by
    intro i q hi
    match i, hi with
    | 0, hi => cases hi; exact hP
    | i + 1, hi => simp at hi
  have hin := (cls_ok ci Cn T N hc).1
  rcases hl with hl | ⟨host, hl⟩
  · exact va_get hx hb hts hin hown hKS.1 hP1 0 rfl hc j hj (hts _ hl) (fun _ h => h) (fsOf_get ht) hd kk
  · exact va_getN hx hb hts hin hown hKS.1 hP1 0 rfl hc j hj (link_nest hKS hl) (fun _ h => h) (fsOf_get ht) hd kk
theorem g_get {k ci j idx : Nat} {ji : Int} {q : String × String × String × Bool} (hs : shp k = (0, ci)) (hf : Fld ci j 0 .int q) (hl : LinkF M.1.cls idx q.1 q.2.1 q.2.2.1) (hd : decode M.2.1 pc = .ok (.getfield idx, 3)) (hji : ((j : Nat) : Int) = ji := by rfl) (hk : k < n := by decide)
    (kk : R32 (σ k ji) → G Γ M d B post u (pc + 3) L (vI (σ k ji) :: st) (n, ρ, σ)) : G Γ M d B post u pc L (vR Γ k :: st) (n, ρ, σ) := by
  intro p e R s m args below meth cd Q H locs ls C F hl' hW hS
  subst hji
  exact w_get C hW hs hk hf hl hd (kk (hW.2.2.2.i _ (by rw [hs]; simp)) p e R s m args below meth cd Q H locs ls C F hl' hW hS)
theorem g_getz {k ci j idx : Nat} {ji : Int} {q : String × String × String × Bool} (hs : shp k = (0, ci)) (hf : Fld ci j 2 .boolean q) (hl : LinkF M.1.cls idx q.1 q.2.1 q.2.2.1) (hd : decode M.2.1 pc = .ok (.getfield idx, 3)) (hji : ((j : Nat) : Int) = ji := by rfl) (hk : k < n := by decide)
    (kk : R32 (σ k ji) → G Γ M d B post u (pc + 3) L (vI (σ k ji) :: st) (n, ρ, σ)) : G Γ M d B post u pc L (vR Γ k :: st) (n, ρ, σ) := by
  intro p e R s m args below meth cd Q H locs ls C F hl' hW hS
  subst hji
  exact w_get C hW hs hk hf hl hd (kk (hW.2.2.2.i _ (by rw [hs]; simp)) p e R s m args below meth cd Q H locs ls C F hl' hW hS)
theorem fval_ref {k j v : Nat} (h : ρ k j = v + 1) : fval Γ (n, ρ, σ) k j 1 = vR Γ v := by
  unfold fval rfv vR
  simp [h, va_rf]
theorem g_getr {k ci j idx v : Nat} {ty : FieldType} {q : String × String × String × Bool} (hs : shp k = (0, ci)) (hf : Fld ci j 1 ty q) (hl : LinkF M.1.cls idx q.1 q.2.1 q.2.2.1) (hd : decode M.2.1 pc = .ok (.getfield idx, 3)) (hv : ρ k j = v + 1) (hk : k < n := by decide)
    (kk : G Γ M d B post u (pc + 3) L (vR Γ v :: st) (n, ρ, σ)) : G Γ M d B post u pc L (vR Γ k :: st) (n, ρ, σ) := by
  intro p e R s m args below meth cd Q H locs ls C F hl' hW hS
  refine w_get C hW hs hk hf hl hd ?_
  rw [fval_ref hv]
  exact kk p e R s m args below meth cd Q H locs ls C F hl' hW hS
/-- any field written -/
theorem w_put {l : Launch} {k ci j tag idx : Nat} {ty : FieldType} {q : String × String × String × Bool} {v : Value} {τ' : St} (C : Cx Γ M d B p R s m args meth cd) (hW : Wd Γ τ H) (hS : ∀ q ∈ locs, stA Γ q.base) (hs : shp k = (0, ci)) (hk : k < τ.1) (hf : Fld ci j tag ty q) (hl : LinkF M.1.cls idx q.1 q.2.1 q.2.2.1) (hfin : q.2.2.2 = false ∨ (M.1.name = "<init>" ∧ q.1 = M.1.cls ∧ Cond.fieldLink M.1.cls idx q.1 q.2.1 q.2.2.1 ∈ tblG))
    (hn : narrow ty v = v) (hfit : fits ty v = true) (hd : decode M.2.1 pc = .ok (.putfield idx, 3)) (h1 : τ'.1 = τ.1) (h2 : fval Γ τ' k j tag = v) (h3 : ∀ i u, i ≠ j → fval Γ τ' k i u = fval Γ τ k i u) (h4 : ∀ k', k' ≠ k → wE Γ τ' k' = wE Γ τ k') (h5 : Nz τ'.2.2)
    (kk : ∀ (H' : Heap) (locs' : List Loc), Wd Γ τ' H' → (∀ q ∈ locs', stA Γ q.base) → W p l e R s m args below meth cd H' locs' cells slots Q (F0 m (pc + 3) ls st)) : W p l e R s m args below meth cd H locs cells slots Q (F0 m pc ls (v :: vR Γ k :: st)) := by
  obtain ⟨hx, hb, hml, hown, hts, hKS, hname, -⟩ := C
  obtain ⟨Cn, T, N, hc, hj, ht, rfl, hp⟩ := hf
  obtain ⟨hin, ⟨ty0, hty⟩, hnm⟩ := cls_ok ci Cn T N hc
  have hP := hW.2.1 k hk
  rw [wE_obj hs] at hP
  have hap := va_apart (own := M.1.cls) hts hin ty0 hty hnm hKS.1 hc
  obtain ⟨r, r1, cell, q1, q2, q3, q4⟩ := hP
  have hr : r = (Cn, T, N) := Option.some.inj (r1.symm.trans hc)
  subst hr
  obtain ⟨hSl, hfc, kC, hkC, hkind⟩ := hKS.1.1 ci _ hc
  obtain ⟨cf, kf, fi, f, hi, hsl⟩ := hSl j hj
  have hlay := hts _ (hin _ (u_in_lay hj))
  have hst := (u_facts hfc hkC (u_lays hts hin hj) hi).1
  have done : ∀ H' : Heap, H'[kB Γ + k]? = some (cell.setSlot f.slot v) → H'.size = H.size → (∀ q, q ≠ kB Γ + k → H'[q]? = H[q]?) → W p l e R s m args below meth cd H' (locs ++ [⟨kB Γ + k, f.slot⟩]) cells slots Q (F0 m (pc + 3) ls st) := by
    intro H' e1 e2 e3
    rw [hsl] at e1
    refine kk H' _ (wd_put hW ?_ e3 e2 h1 h4 h5) (fun q hq => ?_)
    · rw [wE_obj hs]
      have hset : (fsOf Γ τ k (fk ci)).set j v = fsOf Γ τ' k (fk ci) := fsOf_set ht h2 h3
      rw [← hset]
      have hlen : j < (fsOf Γ τ k (fk ci)).length := (List.getElem?_eq_some_iff.mp (fsOf_get (Γ := Γ) (τ := τ) (k := k) ht)).1
      exact ⟨_, hc, t_OB.to (V := updV (vp_V (fsOf Γ τ k (fk ci))) j v) ⟨_, e1, q2, q3, t_set q4 hap hj v⟩ (fun i _ => vp_updV_set hlen v i)⟩
    · rcases List.mem_append.mp hq with h | h
      · exact hS q h
      · rw [List.mem_singleton.mp h]; exact Nat.le_add_right _ _
  have hslot : f.slot < cell.slots.size := by rw [hsl]; exact k2_hasslot (q4 j hj)
  unfold u_lay at hlay
  by_cases hq : (T j).2.2.2 = true
  · rw [if_pos hq] at hlay
    rcases hfin with hfin | ⟨hini, hdecl, hfl⟩
    · rw [hq] at hfin; cases hfin
    have hcf : m.cls = cf := by
      obtain ⟨_, _, c', _, _, _, -, -, hf', -, -, -, hown2, -⟩ := Cond.laysFinal_spec hlay
      have e1 : c' = cf := by have := hi.symm.trans hf'; simp at this; exact this.1.symm
      rw [hdecl] at hown2
      rw [← e1]; exact Option.some.inj (hown.symm.trans hown2)
    have h6 := u_fits hfc hkC hkind (Or.inr hlay) hi hp hn hfit
    exact W.putFinK hx hb hown (hts _ hfl) hi hst hcf (hname.trans hini) (by rw [q2]; exact h6) q1 q3 hslot rfl rfl hd done
  · rw [if_neg hq] at hlay
    have h6 := u_store hfc hkC hkind hlay hi hp hn hfit
    rcases hl with hl | ⟨host, hl⟩
    · exact W.putK hx hb (f := f) ⟨hown, hts _ hl, ⟨_, _, _, hi⟩, hst⟩ (by rw [q2]; exact h6) q1 q3 hslot rfl rfl hd done
    · exact va_WputK hx hb (f := f) hown (link_nest hKS hl) hi hst (by rw [q2]; exact h6) q1 q3 hslot rfl rfl hd done
theorem fval_up_self {k j tag : Nat} {x : Int} (ht : tag ≠ 1) : fval Γ (n, ρ, up σ k j x) k j tag = vI x := by
  unfold fval; simp [ht, up]
theorem fval_up_slot {k j : Nat} {x : Int} (i t : Nat) (h : i ≠ j) : fval Γ (n, ρ, up σ k j x) k i t = fval Γ (n, ρ, σ) k i t := by
  have h2 : ¬ ((i : Int) = (j : Int)) := by omega
  unfold fval; simp [up, h2]
theorem g_put {k ci j idx : Nat} {ji x : Int} {q : String × String × String × Bool} (hs : shp k = (0, ci)) (hf : Fld ci j 0 .int q) (hl : LinkF M.1.cls idx q.1 q.2.1 q.2.2.1) (hd : decode M.2.1 pc = .ok (.putfield idx, 3)) (hr : R32 x) (hfin : q.2.2.2 = false := by rfl) (hji : ((j : Nat) : Int) = ji := by rfl) (hk : k < n := by decide)
    (kk : G Γ M d B post u (pc + 3) L st (n, ρ, up σ k ji x)) : G Γ M d B post u pc L (vI x :: vR Γ k :: st) (n, ρ, σ) := by
  intro p e R s m args below meth cd Q H locs ls C F hl' hW hS
  subst hji
  exact w_put C hW hS hs hk hf hl (Or.inl hfin) rfl rfl hd (τ' := (n, ρ, up σ k j x)) rfl (fval_up_self (by decide)) (fun i u h => fval_up_slot i u h) (fun k' h => wE_up_ne k' h) (nz_up hW.2.2.2 (by rw [hs]; simpa using hr)) (fun H' locs' hW' hS' => kk p e R s m args below meth cd Q H' locs' ls C F hl' hW' hS')
theorem g_putz {k ci j idx : Nat} {ji x : Int} {q : String × String × String × Bool} (hs : shp k = (0, ci)) (hf : Fld ci j 2 .boolean q) (hl : LinkF M.1.cls idx q.1 q.2.1 q.2.2.1) (hd : decode M.2.1 pc = .ok (.putfield idx, 3)) (hr : x = 0 ∨ x = 1) (hfin : q.2.2.2 = false := by rfl) (hji : ((j : Nat) : Int) = ji := by rfl) (hk : k < n := by decide)
    (kk : G Γ M d B post u (pc + 3) L st (n, ρ, up σ k ji x)) : G Γ M d B post u pc L (vI x :: vR Γ k :: st) (n, ρ, σ) := by
  intro p e R s m args below meth cd Q H locs ls C F hl' hW hS
  subst hji
  have hr2 : R32 x := by omega
  exact w_put C hW hS hs hk hf hl (Or.inl hfin) (z_narB hr) (by rcases hr with rfl | rfl <;> decide) hd (τ' := (n, ρ, up σ k j x)) rfl (fval_up_self (by decide)) (fun i u h => fval_up_slot i u h) (fun k' h => wE_up_ne k' h) (nz_up hW.2.2.2 (by rw [hs]; simpa using hr2)) (fun H' locs' hW' hS' => kk p e R s m args below meth cd Q H' locs' ls C F hl' hW' hS')
theorem fval_upr_self {k j v : Nat} : fval Γ (n, upr ρ k j (v + 1), σ) k j 1 = vR Γ v := by
  unfold fval rfv vR; simp [upr, va_rf]
theorem fval_upr_slot {k j v : Nat} (i t : Nat) (h : i ≠ j) : fval Γ (n, upr ρ k j v, σ) k i t = fval Γ (n, ρ, σ) k i t := by
  unfold fval; simp [upr, h]
theorem ref_fit {ty : FieldType} (h : (∃ c, ty = .object c) ∨ ∃ c, ty = .array c) (a : Nat) : narrow ty (.ref a) = .ref a ∧ fits ty (.ref a) = true := by
  rcases h with ⟨c, rfl⟩ | ⟨c, rfl⟩ <;> exact ⟨rfl, rfl⟩
theorem g_putr {k ci j idx v : Nat} {ty : FieldType} {q : String × String × String × Bool} (hs : shp k = (0, ci)) (hf : Fld ci j 1 ty q) (hl : LinkF M.1.cls idx q.1 q.2.1 q.2.2.1) (hd : decode M.2.1 pc = .ok (.putfield idx, 3)) (hty : (∃ c, ty = .object c) ∨ ∃ c, ty = .array c) (hfin : q.2.2.2 = false ∨ (M.1.name = "<init>" ∧ q.1 = M.1.cls ∧ Cond.fieldLink M.1.cls idx q.1 q.2.1 q.2.2.1 ∈ tblG)) (hk : k < n := by decide)
    (kk : G Γ M d B post u (pc + 3) L st (n, upr ρ k j (v + 1), σ)) : G Γ M d B post u pc L (vR Γ v :: vR Γ k :: st) (n, ρ, σ) := by
  intro p e R s m args below meth cd Q H locs ls C F hl' hW hS
  exact w_put C hW hS hs hk hf hl hfin (ref_fit hty _).1 (ref_fit hty _).2 hd (τ' := (n, upr ρ k j (v + 1), σ)) rfl fval_upr_self (fun i u h => fval_upr_slot i u h) (fun k' h => wE_upr_ne k' h) hW.2.2.2 (fun H' locs' hW' hS' => kk p e R s m args below meth cd Q H' locs' ls C F hl' hW' hS')
/-! arrays -/
theorem arr_of (hKS : KS Γ s) {t : Nat} (h1 : 1 ≤ t) (h2 : t ≤ 6) (N : Nat) (z : Nat → Value) : s.isArrayOf (arrV (kA Γ t) N z) (aty t) := (hKS.2.1 t h1 h2).1 N z
theorem w_cell (hW : Wd Γ τ H) {k : Nat} (hk : k < τ.1) {c : ClassId × vp_A} (he : wE Γ τ k = .inl c) : H[kB Γ + k]? = some (vp_cell c.1 c.2) := by
  have := hW.2.1 k hk
  rw [he] at this
  exact this
theorem w_in {i : Int} {N : Nat} {cA : ClassId} {f : Nat → Value} (h0 : 0 ≤ i) (h1 : i < N) (hr : R32 i) : ¬ (Int32.ofInt i < 0 ∨ (arrV cA N f).slots.size ≤ (Int32.ofInt i).toNatClampNeg) := by
  rw [arrV_size]; exact z_in h0 h1 hr
theorem w_rd {i : Int} {N : Nat} {cA : ClassId} {f : Int → Value} (h0 : 0 ≤ i) (h1 : i < N) (hr : R32 i) : (arrV cA N (fun j => f (j : Int))).slots[(Int32.ofInt i).toNatClampNeg]? = some (f i) := by
  rw [arrV_read _ _ (by rw [z_clamp h0 hr]; omega), z_clamp h0 hr, Int.toNat_of_nonneg h0]
theorem shp_small {k t N : Nat} (h : shp k = (t, N)) : N < 1000 := by
  have key : ∀ q ∈ shL, q.2 < 1000 := by decide
  unfold shp at h
  rw [List.getD_eq_getElem?_getD] at h
  cases hq : shL[k]? with
  | none => rw [hq] at h; cases h; decide
  | some q =>
    rw [hq] at h
    have := key q (List.mem_of_getElem? hq)
    simp at h; rw [h] at this; exact this
theorem g_iald {k N : Nat} {i : Int} (hs : shp k = (1, N)) (h0 : 0 ≤ i) (h1 : i < N) (hd : decode M.2.1 pc = .ok (.iaload, 1)) (hk : k < n := by decide)
    (kk : R32 (σ k i) → G Γ M d B post u (pc + 1) L (vI (σ k i) :: st) (n, ρ, σ)) : G Γ M d B post u pc L (vI i :: vR Γ k :: st) (n, ρ, σ) := by
  intro p e R s m args below meth cd Q H locs ls C F hl hW hS
  have hN := shp_small hs
  have hr : R32 i := by omega
  exact W.iald (v := vI (σ k i)) C.1 C.2.1 (w_cell hW hk (wE_int hs (Or.inl rfl))) (arr_of C.2.2.2.2.2.1 (t := 1) (by decide) (by decide) N _) (fun q => by cases q) (w_in h0 h1 hr) (w_rd (f := fun j => vI (σ k j)) h0 h1 hr) rfl rfl hd (kk (hW.2.2.2.i _ (by rw [hs]; simp)) p e R s m args below meth cd Q H locs ls C F hl hW hS)
theorem g_bald {k N : Nat} {i : Int} (hs : shp k = (4, N)) (h0 : 0 ≤ i) (h1 : i < N) (hd : decode M.2.1 pc = .ok (.baload, 1)) (hk : k < n := by decide)
    (kk : R32 (σ k i) → G Γ M d B post u (pc + 1) L (vI (σ k i) :: st) (n, ρ, σ)) : G Γ M d B post u pc L (vI i :: vR Γ k :: st) (n, ρ, σ) := by
  intro p e R s m args below meth cd Q H locs ls C F hl hW hS
  have hN := shp_small hs
  have hr : R32 i := by omega
  exact W.bald (v := vI (σ k i)) C.1 C.2.1 (w_cell hW hk (wE_int hs (by simp))) (arr_of C.2.2.2.2.2.1 (t := 4) (by decide) (by decide) N _) (fun q => by cases q) (w_in h0 h1 hr) (w_rd (f := fun j => vI (σ k j)) h0 h1 hr) rfl rfl hd (kk (hW.2.2.2.i _ (by rw [hs]; simp)) p e R s m args below meth cd Q H locs ls C F hl hW hS)
theorem g_zald {k N : Nat} {i : Int} (hs : shp k = (3, N)) (h0 : 0 ≤ i) (h1 : i < N) (hd : decode M.2.1 pc = .ok (.baload, 1)) (hk : k < n := by decide)
    (kk : R32 (σ k i) → G Γ M d B post u (pc + 1) L (vI (σ k i) :: st) (n, ρ, σ)) : G Γ M d B post u pc L (vI i :: vR Γ k :: st) (n, ρ, σ) := by
  intro p e R s m args below meth cd Q H locs ls C F hl hW hS
  have hN := shp_small hs
  have hr : R32 i := by omega
  exact W.zald (v := vI (σ k i)) C.1 C.2.1 (w_cell hW hk (wE_int hs (by simp))) (arr_of C.2.2.2.2.2.1 (t := 3) (by decide) (by decide) N _) (fun q => by cases q) (w_in h0 h1 hr) (w_rd (f := fun j => vI (σ k j)) h0 h1 hr) rfl rfl hd (kk (hW.2.2.2.i _ (by rw [hs]; simp)) p e R s m args below meth cd Q H locs ls C F hl hW hS)
theorem g_lald {k N : Nat} {i : Int} (hs : shp k = (2, N)) (h0 : 0 ≤ i) (h1 : i < N) (hd : decode M.2.1 pc = .ok (.laload, 1)) (hk : k < n := by decide)
    (kk : R64 (σ k i) → G Γ M d B post u (pc + 1) L (vL (σ k i) :: st) (n, ρ, σ)) : G Γ M d B post u pc L (vI i :: vR Γ k :: st) (n, ρ, σ) := by
  intro p e R s m args below meth cd Q H locs ls C F hl hW hS
  have hN := shp_small hs
  have hr : R32 i := by omega
  exact W.lald (v := vL (σ k i)) C.1 C.2.1 (w_cell hW hk (wE_long hs)) (arr_of C.2.2.2.2.2.1 (t := 2) (by decide) (by decide) N _) (fun q => by cases q) (w_in h0 h1 hr) (w_rd (f := fun j => vL (σ k j)) h0 h1 hr) rfl rfl hd (kk (hW.2.2.2.l _ (by rw [hs])) p e R s m args below meth cd Q H locs ls C F hl hW hS)
theorem g_aald {k t N v : Nat} {i : Int} (hs : shp k = (t, N)) (ht : t = 5 ∨ t = 6) (h0 : 0 ≤ i) (h1 : i < N) (hv : ρ k i.toNat = v + 1) (hd : decode M.2.1 pc = .ok (.aaload, 1)) (hk : k < n := by decide)
    (kk : G Γ M d B post u (pc + 1) L (vR Γ v :: st) (n, ρ, σ)) : G Γ M d B post u pc L (vI i :: vR Γ k :: st) (n, ρ, σ) := by
  intro p e R s m args below meth cd Q H locs ls C F hl hW hS
  have hN := shp_small hs
  have hr : R32 i := by omega
  have hrd : (arrV (kA Γ t) N (fun j => va_rf (rfv Γ (ρ k j)))).slots[(Int32.ofInt i).toNatClampNeg]? = some (vR Γ v) := by
    rw [arrV_read _ _ (by rw [z_clamp h0 hr]; omega), z_clamp h0 hr, hv]
    simp [rfv, va_rf, vR]
  exact W.aald (v := vR Γ v) (ty := aty t) C.1 C.2.1 (w_cell hW hk (wE_grid hs ht)) (arr_of C.2.2.2.2.2.1 (t := t) (by omega) (by omega) N _) (by rcases ht with rfl | rfl <;> rfl) (fun q => by cases q) (w_in h0 h1 hr) hrd rfl rfl hd (kk p e R s m args below meth cd Q H locs ls C F hl hW hS)
theorem g_alen {k t N : Nat} (hs : shp k = (t, N)) (ht : 1 ≤ t ∧ t ≤ 6) (hd : decode M.2.1 pc = .ok (.arraylength, 1)) (hk : k < n := by decide)
    (kk : G Γ M d B post u (pc + 1) L (vI N :: st) (n, ρ, σ)) : G Γ M d B post u pc L (vR Γ k :: st) (n, ρ, σ) := by
  intro p e R s m args below meth cd Q H locs ls C F hl hW hS
  have K := kk p e R s m args below meth cd Q H locs ls C F hl hW hS
  have hKS := C.2.2.2.2.2.1
  have hc : ∃ f : Nat → Value, H[kB Γ + k]? = some (arrV (kA Γ t) N f) := by
    rcases (show t = 1 ∨ t = 2 ∨ t = 3 ∨ t = 4 ∨ t = 5 ∨ t = 6 by omega) with rfl | rfl | rfl | rfl | rfl | rfl
    · exact ⟨fun j => .int (Int32.ofInt (σ k (j : Int))), w_cell hW hk (wE_int hs (by simp))⟩
    · exact ⟨fun j => .long (Int64.ofInt (σ k (j : Int))), w_cell hW hk (wE_long hs)⟩
    · exact ⟨fun j => .int (Int32.ofInt (σ k (j : Int))), w_cell hW hk (wE_int hs (by simp))⟩
    · exact ⟨fun j => .int (Int32.ofInt (σ k (j : Int))), w_cell hW hk (wE_int hs (by simp))⟩
    · exact ⟨fun j => va_rf (rfv Γ (ρ k j)), w_cell hW hk (wE_grid hs (by simp))⟩
    · exact ⟨fun j => va_rf (rfv Γ (ρ k j)), w_cell hW hk (wE_grid hs (by simp))⟩
  obtain ⟨f, hc⟩ := hc
  exact W.alen (n := Int32.ofInt (N : Int)) C.1 C.2.1 hc (arr_of hKS ht.1 ht.2 N f) (by rw [arrV_size]; rfl) rfl rfl hd K
theorem w_upd {i x : Int} {k : Nat} (h0 : 0 ≤ i) (hr : R32 i) : (fun j : Nat => Int32.ofInt (up σ k i x k (j : Int))) = upd (fun j : Nat => Int32.ofInt (σ k j)) (Int32.ofInt i).toNatClampNeg (Int32.ofInt x) := by
  funext j
  unfold upd up
  rw [z_clamp h0 hr]
  by_cases e : j = i.toNat
  · have : (j : Int) = i := by omega
    simp [e, Int.toNat_of_nonneg h0]
  · have : ¬ (j : Int) = i := by omega
    simp [e, this]
theorem st_arr {cA : ClassId} {N k : Nat} {i x : Int} (h0 : 0 ≤ i) (hr : R32 i) : (arrV cA N (fun j : Nat => .int (Int32.ofInt (σ k j)))).setSlot (Int32.ofInt i).toNatClampNeg (.int (Int32.ofInt x)) = arrV cA N (fun j : Nat => .int (Int32.ofInt (up σ k i x k (j : Int)))) := by
  rw [arrV_store]
  refine congrArg (arrV cA N) ?_
  have h := w_upd (σ := σ) (x := x) (k := k) h0 hr
  funext j
  have hj := congrFun h j
  rw [hj]
  unfold updV upd
  by_cases e : j = (Int32.ofInt i).toNatClampNeg <;> simp [e]
theorem put_locs {k : Nat} {b : Nat} (hS : ∀ q ∈ locs, stA Γ q.base) : ∀ q ∈ locs ++ [(⟨kB Γ + k, b⟩ : Loc)], stA Γ q.base := by
  intro q hq
  rcases List.mem_append.mp hq with h | h
  · exact hS q h
  · rw [List.mem_singleton.mp h]; exact Nat.le_add_right _ _
theorem wd_arr {k t N : Nat} {i x : Int} {H' : Heap} (hW : Wd Γ (n, ρ, σ) H) (hk : k < n) (hs : shp k = (t, N)) (ht : t = 1 ∨ t = 3 ∨ t = 4) (h0 : 0 ≤ i) (hr : R32 i) (hx : R32 x) (e1 : H'[kB Γ + k]? = some ((arrV (kA Γ t) N (fun j : Nat => .int (Int32.ofInt (σ k j)))).setSlot (Int32.ofInt i).toNatClampNeg (.int (Int32.ofInt x)))) (z : H'.size = H.size) (oq : ∀ q, q ≠ kB Γ + k → H'[q]? = H[q]?) : Wd Γ (n, ρ, up σ k i x) H' := by
  refine wd_put hW ?_ oq z rfl (fun k' h => wE_up_ne k' h) (nz_up hW.2.2.2 ?_)
  · rw [wE_int hs ht]
    show H'[_]? = some (vp_cell _ _)
    rw [vp_cell_i, e1, st_arr h0 hr]
  · rw [hs]
    rcases ht with rfl | rfl | rfl <;> simpa using hx
theorem g_iast {k N : Nat} {i x : Int} (hs : shp k = (1, N)) (h0 : 0 ≤ i) (h1 : i < N) (hx : R32 x) (hd : decode M.2.1 pc = .ok (.iastore, 1)) (hk : k < n := by decide)
    (kk : G Γ M d B post u (pc + 1) L st (n, ρ, up σ k i x)) : G Γ M d B post u pc L (vI x :: vI i :: vR Γ k :: st) (n, ρ, σ) := by
  intro p e R s m args below meth cd Q H locs ls C F hl hW hS
  have hN := shp_small hs
  have hr : R32 i := by omega
  exact W.iast C.1 C.2.1 (w_cell hW hk (wE_int hs (Or.inl rfl))) (arr_of C.2.2.2.2.2.1 (t := 1) (by decide) (by decide) N _) (fun q => by cases q) (w_in h0 h1 hr) rfl rfl hd (fun H' e1 z oq => kk p e R s m args below meth cd Q H' _ ls C F hl (wd_arr hW hk hs (Or.inl rfl) h0 hr hx e1 z oq) (put_locs hS))
theorem nar_b {x : Int} (h : -128 ≤ x ∧ x < 128) : narrow .byte (.int (Int32.ofInt x)) = .int (Int32.ofInt x) := by
  have key : ∀ k : Fin 256, narrow .byte (.int (Int32.ofInt ((k : Nat) - 128 : Int))) = .int (Int32.ofInt ((k : Nat) - 128 : Int)) := by decide +kernel
  have := key ⟨(x + 128).toNat, by omega⟩
  have e : (((x + 128).toNat : Nat) : Int) - 128 = x := by omega
  dsimp only at this
  rw [e] at this
  exact this
theorem g_bast {k N : Nat} {i x : Int} (hs : shp k = (4, N)) (h0 : 0 ≤ i) (h1 : i < N) (hx : -128 ≤ x ∧ x < 128) (hd : decode M.2.1 pc = .ok (.bastore, 1)) (hk : k < n := by decide)
    (kk : G Γ M d B post u (pc + 1) L st (n, ρ, up σ k i x)) : G Γ M d B post u pc L (vI x :: vI i :: vR Γ k :: st) (n, ρ, σ) := by
  intro p e R s m args below meth cd Q H locs ls C F hl hW hS
  have hN := shp_small hs
  have hr : R32 i := by omega
  exact W.bast C.1 C.2.1 (w_cell hW hk (wE_int hs (by simp))) (arr_of C.2.2.2.2.2.1 (t := 4) (by decide) (by decide) N _) (fun q => by cases q) (w_in h0 h1 hr) rfl rfl hd (fun H' e1 z oq => kk p e R s m args below meth cd Q H' _ ls C F hl (wd_arr hW hk hs (by simp) h0 hr (by omega) (by rw [e1, nar_b hx]; rfl) z oq) (put_locs hS))
theorem g_zast {k N : Nat} {i x : Int} (hs : shp k = (3, N)) (h0 : 0 ≤ i) (h1 : i < N) (hx : x = 0 ∨ x = 1) (hd : decode M.2.1 pc = .ok (.bastore, 1)) (hk : k < n := by decide)
    (kk : G Γ M d B post u (pc + 1) L st (n, ρ, up σ k i x)) : G Γ M d B post u pc L (vI x :: vI i :: vR Γ k :: st) (n, ρ, σ) := by
  intro p e R s m args below meth cd Q H locs ls C F hl hW hS
  have hN := shp_small hs
  have hr : R32 i := by omega
  exact W.zast C.1 C.2.1 (w_cell hW hk (wE_int hs (by simp))) (arr_of C.2.2.2.2.2.1 (t := 3) (by decide) (by decide) N _) (fun q => by cases q) (w_in h0 h1 hr) rfl rfl hd (fun H' e1 z oq => kk p e R s m args below meth cd Q H' _ ls C F hl (wd_arr hW hk hs (by simp) h0 hr (by omega) (by rw [e1, z_narB hx]; rfl) z oq) (put_locs hS))
theorem st_arrL {cA : ClassId} {N k : Nat} {i x : Int} (h0 : 0 ≤ i) (hr : R32 i) : (arrV cA N (fun j : Nat => .long (Int64.ofInt (σ k j)))).setSlot (Int32.ofInt i).toNatClampNeg (.long (Int64.ofInt x)) = arrV cA N (fun j : Nat => .long (Int64.ofInt (up σ k i x k (j : Int)))) := by
  rw [arrV_store]
  refine congrArg (arrV cA N) ?_
  funext j
  unfold updV up
  rw [z_clamp h0 hr]
  by_cases e : j = i.toNat
  · have : (j : Int) = i := by omega
    simp [e, Int.toNat_of_nonneg h0]
  · have : ¬ (j : Int) = i := by omega
    simp [e, this]
theorem g_last {k N : Nat} {i x : Int} (hs : shp k = (2, N)) (h0 : 0 ≤ i) (h1 : i < N) (hx : R64 x) (hd : decode M.2.1 pc = .ok (.lastore, 1)) (hk : k < n := by decide)
    (kk : G Γ M d B post u (pc + 1) L st (n, ρ, up σ k i x)) : G Γ M d B post u pc L (vL x :: vI i :: vR Γ k :: st) (n, ρ, σ) := by
  intro p e R s m args below meth cd Q H locs ls C F hl hW hS
  have hN := shp_small hs
  have hr : R32 i := by omega
  refine W.last C.1 C.2.1 (w_cell hW hk (wE_long hs)) (arr_of C.2.2.2.2.2.1 (t := 2) (by decide) (by decide) N _) (fun q => by cases q) (w_in h0 h1 hr) rfl rfl hd (fun H' e1 z oq => kk p e R s m args below meth cd Q H' _ ls C F hl (wd_put hW ?_ oq z rfl (fun k' h => wE_up_ne k' h) (nz_up hW.2.2.2 (by rw [hs]; simpa using hx))) (put_locs hS))
  rw [wE_long hs]
  show H'[_]? = some (vp_cell _ _)
  rw [vp_cell_l, e1]
  exact congrArg some (st_arrL h0 hr)
/-! statics -/
theorem kept_cell (hW : Wd Γ τ H) {a : Nat} {cell : Cell} (h : (kH Γ)[a]? = some cell) : H[a]? = some cell := by
  have hl := (Array.getElem?_eq_some_iff.mp h).1
  rw [hW.2.2.1 a hl]; exact h
theorem w_gets {l : Launch} {Cn nm ds : String} {v : Value} {idx : Nat} (C : Cx Γ M d B p R s m args meth cd) (hW : Wd Γ τ H) (hZ : va_Z Cn nm ds v (stA Γ) s (kH Γ)) (hl : LinkF M.1.cls idx Cn nm ds) (hd : decode M.2.1 pc = .ok (.getstatic idx, 3))
    (kk : W p l e R s m args below meth cd H locs cells slots Q (F0 m (pc + 3) ls (v :: st))) : W p l e R s m args below meth cd H locs cells slots Q (F0 m pc ls st) := by
  obtain ⟨hx, hb, hml, hown, hts, hKS, -⟩ := C
  rcases hl with hl | ⟨host, hl⟩
  · obtain ⟨cf, kf, fi, f, a, cell, h1, h2, h3, h4, h5, h6, h7, h8⟩ := hZ
    exact W.gets hx hb hown (hts _ hl) h1 h2 h3 h4 (kept_cell hW h5) (fun e => by rw [e] at h6; cases h6) h7 rfl hd kk
  · obtain ⟨cf, kf, fi, f, a, cell, h1, h2, h3, h4, h5, h6, h7, h8⟩ := hZ
    exact va_WgetsN hx hb hown (link_nest hKS hl) h1 h2 h3 h4 (kept_cell hW h5) (fun e => by rw [e] at h6; cases h6) h7 rfl hd kk
theorem g_above {idx : Nat} (hl : LinkF M.1.cls idx "AskedIn" "ABOVE" "[I") (hd : decode M.2.1 pc = .ok (.getstatic idx, 3)) (k : G Γ M d B post u (pc + 3) L (.ref (kS Γ 0) :: st) τ) : G Γ M d B post u pc L st τ := by
  intro p e R s m args below meth cd Q H locs ls C F hl' hW hS
  exact w_gets C hW C.2.2.2.2.2.1.2.2.2.1 hl hd (k p e R s m args below meth cd Q H locs ls C F hl' hW hS)
theorem g_bodies {idx : Nat} (hl : LinkF M.1.cls idx "AskedIn$Acts" "BODIES" "[I") (hd : decode M.2.1 pc = .ok (.getstatic idx, 3)) (k : G Γ M d B post u (pc + 3) L (.ref (kS Γ 1) :: st) τ) : G Γ M d B post u pc L st τ := by
  intro p e R s m args below meth cd Q H locs ls C F hl' hW hS
  exact w_gets C hW C.2.2.2.2.2.1.2.2.2.2.2.1 hl hd (k p e R s m args below meth cd Q H locs ls C F hl' hW hS)
theorem w_ti {l : Launch} {t N : Nat} {f : Nat → Value} {i : Int} {v : Value} (C : Cx Γ M d B p R s m args meth cd) (hW : Wd Γ τ H) (hT : va_T .int t N f (stA Γ) s (kH Γ)) (h0 : 0 ≤ i) (h1 : i < N) (hr : R32 i) (hv : f i.toNat = v) (hd : decode M.2.1 pc = .ok (.iaload, 1))
    (kk : W p l e R s m args below meth cd H locs cells slots Q (F0 m (pc + 1) ls (v :: st))) : W p l e R s m args below meth cd H locs cells slots Q (F0 m pc ls (vI i :: .ref t :: st)) := by
  obtain ⟨cell, h2, h3, h4, h5, h6, h7, h8⟩ := hT
  have hz := z_in h0 h1 hr
  refine W.iald (v := v) C.1 C.2.1 (kept_cell hW h2) h3 h4 (fun q => ?_) (by rw [z_clamp h0 hr, h7 _ (by omega), hv]) rfl rfl hd kk
  rcases q with q | q
  · exact hz (Or.inl q)
  · exact hz (Or.inr (by omega))
theorem g_aboveAt {i : Int} (h0 : 0 ≤ i) (h1 : i < 7) (hd : decode M.2.1 pc = .ok (.iaload, 1)) (k : G Γ M d B post u (pc + 1) L (vI (aboveF i.toNat) :: st) τ) : G Γ M d B post u pc L (vI i :: .ref (kS Γ 0) :: st) τ := by
  intro p e R s m args below meth cd Q H locs ls C F hl' hW hS
  exact w_ti C hW C.2.2.2.2.2.1.2.2.2.2.1 h0 h1 (by omega) rfl hd (k p e R s m args below meth cd Q H locs ls C F hl' hW hS)
theorem g_bodiesAt {i : Int} (h0 : 0 ≤ i) (h1 : i < 21) (hd : decode M.2.1 pc = .ok (.iaload, 1)) (k : G Γ M d B post u (pc + 1) L (vI (bodiesF i.toNat) :: st) τ) : G Γ M d B post u pc L (vI i :: .ref (kS Γ 1) :: st) τ := by
  intro p e R s m args below meth cd Q H locs ls C F hl' hW hS
  exact w_ti C hW C.2.2.2.2.2.1.2.2.2.2.2.2.1 h0 h1 (by omega) rfl hd (k p e R s m args below meth cd Q H locs ls C F hl' hW hS)
end GH
end
section
def pI (n : Nat) (ρ : Nat → Nat → Nat) (P : Int → (Nat → Int → Int) → Prop) : Option Value → St → Prop := fun v τ => ∃ r σ', v = some (vI r) ∧ τ = (n, ρ, σ') ∧ P r σ'
def pL (n : Nat) (ρ : Nat → Nat → Nat) (P : Int → (Nat → Int → Int) → Prop) : Option Value → St → Prop := fun v τ => ∃ r σ', v = some (vL r) ∧ τ = (n, ρ, σ') ∧ P r σ'
def pV (n : Nat) (ρ : Nat → Nat → Nat) (P : (Nat → Int → Int) → Prop) : Option Value → St → Prop := fun v τ => ∃ σ', v = none ∧ τ = (n, ρ, σ') ∧ P σ'
def pA (Γ : KT) (n : Nat) (ρ : Nat → Nat → Nat) (P : Nat → (Nat → Int → Int) → Prop) : Option Value → St → Prop := fun v τ => ∃ r σ', v = some (vR Γ r) ∧ τ = (n, ρ, σ') ∧ P r σ'
/-- any end: another row of references (the text's row of tokens) -/
def pVR (n : Nat) (P : (Nat → Nat → Nat) → (Nat → Int → Int) → Prop) : Option Value → St → Prop := fun v τ => ∃ ρ' σ', v = none ∧ τ = (n, ρ', σ') ∧ P ρ' σ'
theorem tblG_goods {l : List Cond} (h : ∀ w ∈ l, w ∈ tblG) : GoodIn tblG l := fun w hw => ⟨h w hw, good_of_word (List.mem_filter.mp (h w hw)).2⟩
theorem pre_blind {Γ : KT} {args : List Value} {τ : St} : FrameBlind (PreG Γ args τ) := fun _ _ _ _ q => ⟨q.1, q.2.1.same rfl, q.2.2⟩
section GC
variable {Γ : KT} {M : MI} {d : Nat} {B : Nat × Nat} {post : Option Value → St → Prop} {u : Nat × Nat} {pc : Nat} {L : List (Option Value)} {st : List Value} {n : Nat} {ρ : Nat → Nat → Nat} {σ : Nat → Int → Int}
variable {p : Program} {e : Env} {R : Room} {s : State} {m : MethodId} {args : Array Value} {below : List Frame} {meth : Method} {cd : Code} {Q : State → Prop} {H : Heap} {locs : List Loc} {ls : Array Slot} {τ : St} {cells slots : Nat}
theorem w_run {l : Launch} {mc ms : Nat} {st0 rest : List Value} {post' : Option Value → St → Prop} {a : Array Value} (hr : va_Run p l e R s m args below meth cd H locs cells slots mc ms (F0 m pc ls st0) rest (PostG Γ post' a) (stA Γ)) (hS : ∀ q ∈ locs, stA Γ q.base)
    (kk : ∀ (v : Option Value) (τ' : St) (H' : Heap) (locs' : List Loc), post' v τ' → Wd Γ τ' H' → (∀ q ∈ locs', stA Γ q.base) → W p l e R s m args below meth cd H' locs' (cells + mc) (slots + ms) Q (F0 m (pc + 3) ls (v.toList ++ rest))) : W p l e R s m args below meth cd H locs cells slots Q (F0 m pc ls st0) := by
  intro T hT X
  obtain ⟨v, st₀, t, T', L, h0, X', hL, e1, e2, ⟨v', τ', hv, hp, hW⟩, st⟩ := hr T hT X
  cases hv
  obtain ⟨t2, a1, b1⟩ := kk v τ' T'.heap (locs ++ L) hp (by rw [e1]; exact hW) (fun q hq => (List.mem_append.mp hq).elim (hS q) (hL q)) T' rfl X'
  exact ⟨t2, st t2 a1, b1⟩
/-- the room of a callee fits -/
theorem room_fit {d' : Nat} {B' : Nat × Nat} {mL : Nat} (C : Cx Γ M d B p R s m args meth cd) (hd : d' + 1 ≤ d) (hm : mL ≤ 45) : (rmD d' B').frames + 1 ≤ R.frames ∧ 8 + (mL + 11) + (rmD d' B').locals ≤ R.locals := by
  obtain ⟨-, -, -, -, -, -, -, h1, h2, -⟩ := C
  show d' + 1 ≤ R.frames ∧ 8 + (mL + 11) + 64 * d' ≤ R.locals
  omega
abbrev stW (l : List Value) : Nat := (l.map fun v => v.category).sum
theorem g_callV {M' : MI} {d' : Nat} {B' : Nat × Nat} {as rest : List Value} {post' : Option Value → St → Prop} {np k ci idx : Nat} {T : u_T} {N : Nat} (hc : Ct Γ M' d' B' (vR Γ k :: as) τ post') (hq : Cal M' np) (hv : Cond.instanceMethod M'.1 ∈ tblG) (hsl : Cond.selects M'.1.cls M'.1 M'.1 ∈ tblG) (hk : k < τ.1) (hs : shp k = (0, ci)) (hcl : vwCl[ci]? = some (M'.1.cls, T, N)) (hl : LinkM M.1.cls idx M'.1)
    (hn : as.length = np) (hd' : d' + 1 ≤ d) (hm : M'.2.2.1 ≤ 45) (hB : u.1 + B'.1 ≤ B.1 ∧ u.2 + B'.2 ≤ B.2) (hst : stW rest ≤ 8) (hd : decode M.2.1 pc = .ok (.invokevirtual idx, 3)) (hstk : st = as.reverse ++ vR Γ k :: rest)
    (kk : ∀ v τ', post' v τ' → G Γ M d B post (u.1 + B'.1, u.2 + B'.2) (pc + 3) L (v.toList ++ rest) τ') : G Γ M d B post u pc L st τ := by
  intro p e R s m args below meth cd Q H locs ls C F hl' hW hS
  subst hstk
  obtain ⟨hx, hb, hml, hown, hts, hKS, hname, hR⟩ := id C
  obtain ⟨q1, q2, q3, q4⟩ := hq
  have hP := hW.2.1 k hk
  rw [wE_obj hs] at hP
  have hP1 : va_P (kD Γ) vwCl [(kB Γ + k, .inr (ci, fsOf Γ τ k (fk ci)))] H := by
    intro i q hi
    match i, hi with
    | 0, hi => cases hi; exact hP
    | i + 1, hi => simp at hi
  have hrecv := va_recv hKS.1 hP1 (q0 := 0) hcl rfl
  have hrm := room_fit (mL := M'.2.2.1) (B' := B') C hd' hm
  have hpre : PreV s H M'.1.cls (kB Γ + k) (PreG Γ (vR Γ k :: as) τ) as := ⟨pre_blind, hrecv, fun U hU hWm => ⟨rfl, hKS.warm hWm, by rw [hU]; exact hW⟩⟩
  have hF : u.1 + B'.1 ≤ R.cells ∧ u.2 + B'.2 ≤ R.slots := by omega
  have fin := fun (v : Option Value) (τ' : St) (H' : Heap) (locs' : List Loc) (a : post' v τ') (b : Wd Γ τ' H') (c : ∀ q ∈ locs', stA Γ q.base) => kk v τ' a p e R s m args below meth cd Q H' locs' ls C F hl' b c
  rcases hl with hl | ⟨host, hl⟩
  · refine w_run (va_runV (As := as) (rest := rest) ⟨hx, hb, hml, hown, hts⟩ hc (cwV (ws' := tblG) np hts (tblG_goods ?_) rfl rfl rfl ⟨rfl, q3.1, q3.2, q4⟩ hrm) hpre rfl hn hl'.1 rfl (lv_room hst) hd hF) hS fin
    intro w hw
    rcases List.mem_append.mp hw with h | h
    · simp only [List.mem_cons, List.not_mem_nil, or_false] at h
      rcases h with rfl | rfl | rfl | rfl
      · exact hl
      · exact hv
      · exact hsl
      · exact q1
    · exact (tblG_good q2 w h).1
  · exact w_run (va_runVN (As := as) (rest := rest) ⟨hx, hb, hml, hown, hts⟩ hc ⟨va_cnB (ws' := tblG) np hts (tblG_good q2) rfl rfl rfl (hKS.2.2.1 _ hl) (hts _ q1) ⟨q3.1, q3.2, q4⟩ hrm, hts _ hv, hts _ hsl⟩ hpre rfl hn hl'.1 rfl (lv_room hst) hd hF) hS fin
theorem g_callS {M' : MI} {d' : Nat} {B' : Nat × Nat} {as rest : List Value} {post' : Option Value → St → Prop} {np idx : Nat} (hc : Ct Γ M' d' B' as τ post') (hq : Cal M' np) (hv : Cond.static M'.1 ∈ tblG) (hl : LinkM M.1.cls idx M'.1)
    (hn : as.length = np) (hd' : d' + 1 ≤ d) (hm : M'.2.2.1 ≤ 45) (hB : u.1 + B'.1 ≤ B.1 ∧ u.2 + B'.2 ≤ B.2) (hst : stW rest ≤ 8) (hd : decode M.2.1 pc = .ok (.invokestatic idx, 3)) (hstk : st = as.reverse ++ rest)
    (kk : ∀ v τ', post' v τ' → G Γ M d B post (u.1 + B'.1, u.2 + B'.2) (pc + 3) L (v.toList ++ rest) τ') : G Γ M d B post u pc L st τ := by
  intro p e R s m args below meth cd Q H locs ls C F hl' hW hS
  subst hstk
  obtain ⟨hx, hb, hml, hown, hts, hKS, hname, hR⟩ := id C
  obtain ⟨q1, q2, q3, q4⟩ := hq
  have hrm := room_fit (mL := M'.2.2.1) (B' := B') C hd' hm
  have hpre : PreS s H (PreG Γ as τ) as := ⟨pre_blind, fun U hU hWm => ⟨rfl, hKS.warm hWm, by rw [hU]; exact hW⟩⟩
  have hF : u.1 + B'.1 ≤ R.cells ∧ u.2 + B'.2 ≤ R.slots := by omega
  have fin := fun (v : Option Value) (τ' : St) (H' : Heap) (locs' : List Loc) (a : post' v τ') (b : Wd Γ τ' H') (c : ∀ q ∈ locs', stA Γ q.base) => kk v τ' a p e R s m args below meth cd Q H' locs' ls C F hl' b c
  rcases hl with hl | ⟨host, hl⟩
  · refine w_run (va_runS (As := as) (rest := rest) ⟨hx, hb, hml, hown, hts⟩ hc (va_cwS (ws' := tblG) np hts (tblG_goods ?_) rfl rfl rfl ⟨q3.1, q3.2, q4⟩ hrm) hpre rfl hn hl'.1 rfl (lv_room hst) hd hF) hS fin
    intro w hw
    rcases List.mem_append.mp hw with h | h
    · simp only [List.mem_cons, List.not_mem_nil, or_false] at h
      rcases h with rfl | rfl | rfl
      · exact hl
      · exact hv
      · exact q1
    · exact (tblG_good q2 w h).1
  · exact w_run (va_runSN (As := as) (rest := rest) ⟨hx, hb, hml, hown, hts⟩ hc ⟨va_cnB (ws' := tblG) np hts (tblG_good q2) rfl rfl rfl (hKS.2.2.1 _ hl) (hts _ q1) ⟨q3.1, q3.2, q4⟩ hrm, hts _ hv, trivial⟩ hpre rfl hn hl'.1 rfl (lv_room hst) hd hF) hS fin
theorem g_callI {y : MethodName} {bt : ByteArray} {mL : Nat} {d' : Nat} {B' : Nat × Nat} {as rest : List Value} {post' : Option Value → St → Prop} {np k idx : Nat} (hc : Ct Γ (y, bt, mL, none) d' B' (vR Γ k :: as) τ post') (hq : Cal (y, bt, mL, none) np) (hv : Cond.instanceMethod y ∈ tblG) (hy : y.name = "<init>") (hl : LinkM M.1.cls idx y)
    (hn : as.length = np) (hd' : d' + 1 ≤ d) (hm : mL ≤ 45) (hB : u.1 + B'.1 ≤ B.1 ∧ u.2 + B'.2 ≤ B.2) (hst : stW rest ≤ 8) (hd : decode M.2.1 pc = .ok (.invokespecial idx, 3)) (hstk : st = as.reverse ++ vR Γ k :: rest)
    (kk : ∀ v τ', post' v τ' → G Γ M d B post (u.1 + B'.1, u.2 + B'.2) (pc + 3) L (v.toList ++ rest) τ') : G Γ M d B post u pc L st τ := by
  intro p e R s m args below meth cd Q H locs ls C F hl' hW hS
  subst hstk
  obtain ⟨hx, hb, hml, hown, hts, hKS, hname, hR⟩ := id C
  obtain ⟨q1, q2, q3, q4⟩ := hq
  have hrm := room_fit (mL := mL) (B' := B') C hd' hm
  have hpre : PreS s H (PreG Γ (vR Γ k :: as) τ) (.ref (kB Γ + k) :: as) := ⟨pre_blind, fun U hU hWm => ⟨rfl, hKS.warm hWm, by rw [hU]; exact hW⟩⟩
  have hF : u.1 + B'.1 ≤ R.cells ∧ u.2 + B'.2 ≤ R.slots := by omega
  have fin := fun (v : Option Value) (τ' : St) (H' : Heap) (locs' : List Loc) (a : post' v τ') (b : Wd Γ τ' H') (c : ∀ q ∈ locs', stA Γ q.base) => kk v τ' a p e R s m args below meth cd Q H' locs' ls C F hl' b c
  rcases hl with hl | ⟨host, hl⟩
  · exact w_run (va_runI (As := as) (rest := rest) ⟨hx, hb, hml, hown, hts⟩ hc (cwI (ws' := tblG) np hts (tblG_good q2) rfl rfl rfl (hts _ q1) (hts _ hl) (hts _ hv) hy ⟨q3.1, q3.2, q4⟩ hrm) hpre rfl hn hl'.1 rfl (lv_room hst) hd hF) hS fin
  · exact w_run (va_runIN (As := as) (rest := rest) ⟨hx, hb, hml, hown, hts⟩ hc ⟨va_cnB (ws' := tblG) np hts (tblG_good q2) rfl rfl rfl (hKS.2.2.1 _ hl) (hts _ q1) ⟨q3.1, q3.2, q4⟩ hrm, hy, hts _ hv⟩ hpre rfl hn hl'.1 rfl (lv_room hst) hd hF) hS fin
theorem g_cV0I {M' : MI} {d' : Nat} {rest : List Value} {P : Int → (Nat → Int → Int) → Prop} {k ci idx : Nat} {T : u_T} {N : Nat} (hc : Ct Γ M' d' (0, 0) (vR Γ k :: []) (n, ρ, σ) (pI n ρ P)) (hq : Cal M' 0) (hv : Cond.instanceMethod M'.1 ∈ tblG) (hsl : Cond.selects M'.1.cls M'.1 M'.1 ∈ tblG) (hl : LinkM M.1.cls idx M'.1) (hd : decode M.2.1 pc = .ok (.invokevirtual idx, 3)) (hs : shp k = (0, ci) := by rfl) (hcl : vwCl[ci]? = some (M'.1.cls, T, N) := by rfl) (hu : u = B := by rfl) (hk : k < n := by decide) (hd' : d' + 1 ≤ d := by omega) (hm : M'.2.2.1 ≤ 45 := by decide) (hst : stW rest ≤ 8 := by decide)
    (kk : ∀ r σ', P r σ' → G Γ M d B post u (pc + 3) L (vI r :: rest) (n, ρ, σ')) : G Γ M d B post u pc L (vR Γ k :: rest) (n, ρ, σ) :=
  g_callV hc hq hv hsl hk hs hcl hl rfl hd' hm (by subst hu; exact ⟨Nat.le_refl _, Nat.le_refl _⟩) hst hd rfl (fun v τ' h => by obtain ⟨r, σ', rfl, rfl, hP⟩ := h; exact kk r σ' hP)
theorem g_cS0I {M' : MI} {d' : Nat} {rest : List Value} {P : Int → (Nat → Int → Int) → Prop} {idx : Nat} (hc : Ct Γ M' d' (0, 0) [] (n, ρ, σ) (pI n ρ P)) (hq : Cal M' 0) (hv : Cond.static M'.1 ∈ tblG) (hl : LinkM M.1.cls idx M'.1) (hd : decode M.2.1 pc = .ok (.invokestatic idx, 3)) (hu : u = B := by rfl) (hd' : d' + 1 ≤ d := by omega) (hm : M'.2.2.1 ≤ 45 := by decide) (hst : stW rest ≤ 8 := by decide)
    (kk : ∀ r σ', P r σ' → G Γ M d B post u (pc + 3) L (vI r :: rest) (n, ρ, σ')) : G Γ M d B post u pc L (rest) (n, ρ, σ) :=
  g_callS hc hq hv hl rfl hd' hm (by subst hu; exact ⟨Nat.le_refl _, Nat.le_refl _⟩) hst hd rfl (fun v τ' h => by obtain ⟨r, σ', rfl, rfl, hP⟩ := h; exact kk r σ' hP)
theorem g_cV0L {M' : MI} {d' : Nat} {rest : List Value} {P : Int → (Nat → Int → Int) → Prop} {k ci idx : Nat} {T : u_T} {N : Nat} (hc : Ct Γ M' d' (0, 0) (vR Γ k :: []) (n, ρ, σ) (pL n ρ P)) (hq : Cal M' 0) (hv : Cond.instanceMethod M'.1 ∈ tblG) (hsl : Cond.selects M'.1.cls M'.1 M'.1 ∈ tblG) (hl : LinkM M.1.cls idx M'.1) (hd : decode M.2.1 pc = .ok (.invokevirtual idx, 3)) (hs : shp k = (0, ci) := by rfl) (hcl : vwCl[ci]? = some (M'.1.cls, T, N) := by rfl) (hu : u = B := by rfl) (hk : k < n := by decide) (hd' : d' + 1 ≤ d := by omega) (hm : M'.2.2.1 ≤ 45 := by decide) (hst : stW rest ≤ 8 := by decide)
    (kk : ∀ r σ', P r σ' → G Γ M d B post u (pc + 3) L (vL r :: rest) (n, ρ, σ')) : G Γ M d B post u pc L (vR Γ k :: rest) (n, ρ, σ) :=
  g_callV hc hq hv hsl hk hs hcl hl rfl hd' hm (by subst hu; exact ⟨Nat.le_refl _, Nat.le_refl _⟩) hst hd rfl (fun v τ' h => by obtain ⟨r, σ', rfl, rfl, hP⟩ := h; exact kk r σ' hP)
theorem g_cS0L {M' : MI} {d' : Nat} {rest : List Value} {P : Int → (Nat → Int → Int) → Prop} {idx : Nat} (hc : Ct Γ M' d' (0, 0) [] (n, ρ, σ) (pL n ρ P)) (hq : Cal M' 0) (hv : Cond.static M'.1 ∈ tblG) (hl : LinkM M.1.cls idx M'.1) (hd : decode M.2.1 pc = .ok (.invokestatic idx, 3)) (hu : u = B := by rfl) (hd' : d' + 1 ≤ d := by omega) (hm : M'.2.2.1 ≤ 45 := by decide) (hst : stW rest ≤ 8 := by decide)
    (kk : ∀ r σ', P r σ' → G Γ M d B post u (pc + 3) L (vL r :: rest) (n, ρ, σ')) : G Γ M d B post u pc L (rest) (n, ρ, σ) :=
  g_callS hc hq hv hl rfl hd' hm (by subst hu; exact ⟨Nat.le_refl _, Nat.le_refl _⟩) hst hd rfl (fun v τ' h => by obtain ⟨r, σ', rfl, rfl, hP⟩ := h; exact kk r σ' hP)
theorem g_cV0V {M' : MI} {d' : Nat} {rest : List Value} {P : (Nat → Int → Int) → Prop} {k ci idx : Nat} {T : u_T} {N : Nat} (hc : Ct Γ M' d' (0, 0) (vR Γ k :: []) (n, ρ, σ) (pV n ρ P)) (hq : Cal M' 0) (hv : Cond.instanceMethod M'.1 ∈ tblG) (hsl : Cond.selects M'.1.cls M'.1 M'.1 ∈ tblG) (hl : LinkM M.1.cls idx M'.1) (hd : decode M.2.1 pc = .ok (.invokevirtual idx, 3)) (hs : shp k = (0, ci) := by rfl) (hcl : vwCl[ci]? = some (M'.1.cls, T, N) := by rfl) (hu : u = B := by rfl) (hk : k < n := by decide) (hd' : d' + 1 ≤ d := by omega) (hm : M'.2.2.1 ≤ 45 := by decide) (hst : stW rest ≤ 8 := by decide)
    (kk : ∀ σ', P σ' → G Γ M d B post u (pc + 3) L rest (n, ρ, σ')) : G Γ M d B post u pc L (vR Γ k :: rest) (n, ρ, σ) :=
  g_callV hc hq hv hsl hk hs hcl hl rfl hd' hm (by subst hu; exact ⟨Nat.le_refl _, Nat.le_refl _⟩) hst hd rfl (fun v τ' h => by obtain ⟨σ', rfl, rfl, hP⟩ := h; exact kk σ' hP)
theorem g_cS0V {M' : MI} {d' : Nat} {rest : List Value} {P : (Nat → Int → Int) → Prop} {idx : Nat} (hc : Ct Γ M' d' (0, 0) [] (n, ρ, σ) (pV n ρ P)) (hq : Cal M' 0) (hv : Cond.static M'.1 ∈ tblG) (hl : LinkM M.1.cls idx M'.1) (hd : decode M.2.1 pc = .ok (.invokestatic idx, 3)) (hu : u = B := by rfl) (hd' : d' + 1 ≤ d := by omega) (hm : M'.2.2.1 ≤ 45 := by decide) (hst : stW rest ≤ 8 := by decide)
    (kk : ∀ σ', P σ' → G Γ M d B post u (pc + 3) L rest (n, ρ, σ')) : G Γ M d B post u pc L (rest) (n, ρ, σ) :=
  g_callS hc hq hv hl rfl hd' hm (by subst hu; exact ⟨Nat.le_refl _, Nat.le_refl _⟩) hst hd rfl (fun v τ' h => by obtain ⟨σ', rfl, rfl, hP⟩ := h; exact kk σ' hP)
theorem g_cV0R {M' : MI} {d' : Nat} {rest : List Value} {P : (Nat → Nat → Nat) → (Nat → Int → Int) → Prop} {k ci idx : Nat} {T : u_T} {N : Nat} (hc : Ct Γ M' d' (0, 0) (vR Γ k :: []) (n, ρ, σ) (pVR n P)) (hq : Cal M' 0) (hv : Cond.instanceMethod M'.1 ∈ tblG) (hsl : Cond.selects M'.1.cls M'.1 M'.1 ∈ tblG) (hl : LinkM M.1.cls idx M'.1) (hd : decode M.2.1 pc = .ok (.invokevirtual idx, 3)) (hs : shp k = (0, ci) := by rfl) (hcl : vwCl[ci]? = some (M'.1.cls, T, N) := by rfl) (hu : u = B := by rfl) (hk : k < n := by decide) (hd' : d' + 1 ≤ d := by omega) (hm : M'.2.2.1 ≤ 45 := by decide) (hst : stW rest ≤ 8 := by decide)
    (kk : ∀ ρ' σ', P ρ' σ' → G Γ M d B post u (pc + 3) L rest (n, ρ', σ')) : G Γ M d B post u pc L (vR Γ k :: rest) (n, ρ, σ) :=
  g_callV hc hq hv hsl hk hs hcl hl rfl hd' hm (by subst hu; exact ⟨Nat.le_refl _, Nat.le_refl _⟩) hst hd rfl (fun v τ' h => by obtain ⟨ρ', σ', rfl, rfl, hP⟩ := h; exact kk ρ' σ' hP)
theorem g_cV1I {M' : MI} {d' : Nat} {w1 : Value} {rest : List Value} {P : Int → (Nat → Int → Int) → Prop} {k ci idx : Nat} {T : u_T} {N : Nat} (hc : Ct Γ M' d' (0, 0) (vR Γ k :: [w1]) (n, ρ, σ) (pI n ρ P)) (hq : Cal M' 1) (hv : Cond.instanceMethod M'.1 ∈ tblG) (hsl : Cond.selects M'.1.cls M'.1 M'.1 ∈ tblG) (hl : LinkM M.1.cls idx M'.1) (hd : decode M.2.1 pc = .ok (.invokevirtual idx, 3)) (hs : shp k = (0, ci) := by rfl) (hcl : vwCl[ci]? = some (M'.1.cls, T, N) := by rfl) (hu : u = B := by rfl) (hk : k < n := by decide) (hd' : d' + 1 ≤ d := by omega) (hm : M'.2.2.1 ≤ 45 := by decide) (hst : stW rest ≤ 8 := by decide)
    (kk : ∀ r σ', P r σ' → G Γ M d B post u (pc + 3) L (vI r :: rest) (n, ρ, σ')) : G Γ M d B post u pc L (w1 :: vR Γ k :: rest) (n, ρ, σ) :=
  g_callV hc hq hv hsl hk hs hcl hl rfl hd' hm (by subst hu; exact ⟨Nat.le_refl _, Nat.le_refl _⟩) hst hd rfl (fun v τ' h => by obtain ⟨r, σ', rfl, rfl, hP⟩ := h; exact kk r σ' hP)
theorem g_cS1I {M' : MI} {d' : Nat} {w1 : Value} {rest : List Value} {P : Int → (Nat → Int → Int) → Prop} {idx : Nat} (hc : Ct Γ M' d' (0, 0) [w1] (n, ρ, σ) (pI n ρ P)) (hq : Cal M' 1) (hv : Cond.static M'.1 ∈ tblG) (hl : LinkM M.1.cls idx M'.1) (hd : decode M.2.1 pc = .ok (.invokestatic idx, 3)) (hu : u = B := by rfl) (hd' : d' + 1 ≤ d := by omega) (hm : M'.2.2.1 ≤ 45 := by decide) (hst : stW rest ≤ 8 := by decide)
    (kk : ∀ r σ', P r σ' → G Γ M d B post u (pc + 3) L (vI r :: rest) (n, ρ, σ')) : G Γ M d B post u pc L (w1 :: rest) (n, ρ, σ) :=
  g_callS hc hq hv hl rfl hd' hm (by subst hu; exact ⟨Nat.le_refl _, Nat.le_refl _⟩) hst hd rfl (fun v τ' h => by obtain ⟨r, σ', rfl, rfl, hP⟩ := h; exact kk r σ' hP)
theorem g_cV1L {M' : MI} {d' : Nat} {w1 : Value} {rest : List Value} {P : Int → (Nat → Int → Int) → Prop} {k ci idx : Nat} {T : u_T} {N : Nat} (hc : Ct Γ M' d' (0, 0) (vR Γ k :: [w1]) (n, ρ, σ) (pL n ρ P)) (hq : Cal M' 1) (hv : Cond.instanceMethod M'.1 ∈ tblG) (hsl : Cond.selects M'.1.cls M'.1 M'.1 ∈ tblG) (hl : LinkM M.1.cls idx M'.1) (hd : decode M.2.1 pc = .ok (.invokevirtual idx, 3)) (hs : shp k = (0, ci) := by rfl) (hcl : vwCl[ci]? = some (M'.1.cls, T, N) := by rfl) (hu : u = B := by rfl) (hk : k < n := by decide) (hd' : d' + 1 ≤ d := by omega) (hm : M'.2.2.1 ≤ 45 := by decide) (hst : stW rest ≤ 8 := by decide)
    (kk : ∀ r σ', P r σ' → G Γ M d B post u (pc + 3) L (vL r :: rest) (n, ρ, σ')) : G Γ M d B post u pc L (w1 :: vR Γ k :: rest) (n, ρ, σ) :=
  g_callV hc hq hv hsl hk hs hcl hl rfl hd' hm (by subst hu; exact ⟨Nat.le_refl _, Nat.le_refl _⟩) hst hd rfl (fun v τ' h => by obtain ⟨r, σ', rfl, rfl, hP⟩ := h; exact kk r σ' hP)
theorem g_cS1L {M' : MI} {d' : Nat} {w1 : Value} {rest : List Value} {P : Int → (Nat → Int → Int) → Prop} {idx : Nat} (hc : Ct Γ M' d' (0, 0) [w1] (n, ρ, σ) (pL n ρ P)) (hq : Cal M' 1) (hv : Cond.static M'.1 ∈ tblG) (hl : LinkM M.1.cls idx M'.1) (hd : decode M.2.1 pc = .ok (.invokestatic idx, 3)) (hu : u = B := by rfl) (hd' : d' + 1 ≤ d := by omega) (hm : M'.2.2.1 ≤ 45 := by decide) (hst : stW rest ≤ 8 := by decide)
    (kk : ∀ r σ', P r σ' → G Γ M d B post u (pc + 3) L (vL r :: rest) (n, ρ, σ')) : G Γ M d B post u pc L (w1 :: rest) (n, ρ, σ) :=
  g_callS hc hq hv hl rfl hd' hm (by subst hu; exact ⟨Nat.le_refl _, Nat.le_refl _⟩) hst hd rfl (fun v τ' h => by obtain ⟨r, σ', rfl, rfl, hP⟩ := h; exact kk r σ' hP)
theorem g_cV1V {M' : MI} {d' : Nat} {w1 : Value} {rest : List Value} {P : (Nat → Int → Int) → Prop} {k ci idx : Nat} {T : u_T} {N : Nat} (hc : Ct Γ M' d' (0, 0) (vR Γ k :: [w1]) (n, ρ, σ) (pV n ρ P)) (hq : Cal M' 1) (hv : Cond.instanceMethod M'.1 ∈ tblG) (hsl : Cond.selects M'.1.cls M'.1 M'.1 ∈ tblG) (hl : LinkM M.1.cls idx M'.1) (hd : decode M.2.1 pc = .ok (.invokevirtual idx, 3)) (hs : shp k = (0, ci) := by rfl) (hcl : vwCl[ci]? = some (M'.1.cls, T, N) := by rfl) (hu : u = B := by rfl) (hk : k < n := by decide) (hd' : d' + 1 ≤ d := by omega) (hm : M'.2.2.1 ≤ 45 := by decide) (hst : stW rest ≤ 8 := by decide)
    (kk : ∀ σ', P σ' → G Γ M d B post u (pc + 3) L rest (n, ρ, σ')) : G Γ M d B post u pc L (w1 :: vR Γ k :: rest) (n, ρ, σ) :=
  g_callV hc hq hv hsl hk hs hcl hl rfl hd' hm (by subst hu; exact ⟨Nat.le_refl _, Nat.le_refl _⟩) hst hd rfl (fun v τ' h => by obtain ⟨σ', rfl, rfl, hP⟩ := h; exact kk σ' hP)
theorem g_cS1V {M' : MI} {d' : Nat} {w1 : Value} {rest : List Value} {P : (Nat → Int → Int) → Prop} {idx : Nat} (hc : Ct Γ M' d' (0, 0) [w1] (n, ρ, σ) (pV n ρ P)) (hq : Cal M' 1) (hv : Cond.static M'.1 ∈ tblG) (hl : LinkM M.1.cls idx M'.1) (hd : decode M.2.1 pc = .ok (.invokestatic idx, 3)) (hu : u = B := by rfl) (hd' : d' + 1 ≤ d := by omega) (hm : M'.2.2.1 ≤ 45 := by decide) (hst : stW rest ≤ 8 := by decide)
    (kk : ∀ σ', P σ' → G Γ M d B post u (pc + 3) L rest (n, ρ, σ')) : G Γ M d B post u pc L (w1 :: rest) (n, ρ, σ) :=
  g_callS hc hq hv hl rfl hd' hm (by subst hu; exact ⟨Nat.le_refl _, Nat.le_refl _⟩) hst hd rfl (fun v τ' h => by obtain ⟨σ', rfl, rfl, hP⟩ := h; exact kk σ' hP)
theorem g_cV1R {M' : MI} {d' : Nat} {w1 : Value} {rest : List Value} {P : (Nat → Nat → Nat) → (Nat → Int → Int) → Prop} {k ci idx : Nat} {T : u_T} {N : Nat} (hc : Ct Γ M' d' (0, 0) (vR Γ k :: [w1]) (n, ρ, σ) (pVR n P)) (hq : Cal M' 1) (hv : Cond.instanceMethod M'.1 ∈ tblG) (hsl : Cond.selects M'.1.cls M'.1 M'.1 ∈ tblG) (hl : LinkM M.1.cls idx M'.1) (hd : decode M.2.1 pc = .ok (.invokevirtual idx, 3)) (hs : shp k = (0, ci) := by rfl) (hcl : vwCl[ci]? = some (M'.1.cls, T, N) := by rfl) (hu : u = B := by rfl) (hk : k < n := by decide) (hd' : d' + 1 ≤ d := by omega) (hm : M'.2.2.1 ≤ 45 := by decide) (hst : stW rest ≤ 8 := by decide)
    (kk : ∀ ρ' σ', P ρ' σ' → G Γ M d B post u (pc + 3) L rest (n, ρ', σ')) : G Γ M d B post u pc L (w1 :: vR Γ k :: rest) (n, ρ, σ) :=
  g_callV hc hq hv hsl hk hs hcl hl rfl hd' hm (by subst hu; exact ⟨Nat.le_refl _, Nat.le_refl _⟩) hst hd rfl (fun v τ' h => by obtain ⟨ρ', σ', rfl, rfl, hP⟩ := h; exact kk ρ' σ' hP)
theorem g_cV2I {M' : MI} {d' : Nat} {w1 w2 : Value} {rest : List Value} {P : Int → (Nat → Int → Int) → Prop} {k ci idx : Nat} {T : u_T} {N : Nat} (hc : Ct Γ M' d' (0, 0) (vR Γ k :: [w1, w2]) (n, ρ, σ) (pI n ρ P)) (hq : Cal M' 2) (hv : Cond.instanceMethod M'.1 ∈ tblG) (hsl : Cond.selects M'.1.cls M'.1 M'.1 ∈ tblG) (hl : LinkM M.1.cls idx M'.1) (hd : decode M.2.1 pc = .ok (.invokevirtual idx, 3)) (hs : shp k = (0, ci) := by rfl) (hcl : vwCl[ci]? = some (M'.1.cls, T, N) := by rfl) (hu : u = B := by rfl) (hk : k < n := by decide) (hd' : d' + 1 ≤ d := by omega) (hm : M'.2.2.1 ≤ 45 := by decide) (hst : stW rest ≤ 8 := by decide)
    (kk : ∀ r σ', P r σ' → G Γ M d B post u (pc + 3) L (vI r :: rest) (n, ρ, σ')) : G Γ M d B post u pc L (w2 :: w1 :: vR Γ k :: rest) (n, ρ, σ) :=
  g_callV hc hq hv hsl hk hs hcl hl rfl hd' hm (by subst hu; exact ⟨Nat.le_refl _, Nat.le_refl _⟩) hst hd rfl (fun v τ' h => by obtain ⟨r, σ', rfl, rfl, hP⟩ := h; exact kk r σ' hP)
theorem g_cS2I {M' : MI} {d' : Nat} {w1 w2 : Value} {rest : List Value} {P : Int → (Nat → Int → Int) → Prop} {idx : Nat} (hc : Ct Γ M' d' (0, 0) [w1, w2] (n, ρ, σ) (pI n ρ P)) (hq : Cal M' 2) (hv : Cond.static M'.1 ∈ tblG) (hl : LinkM M.1.cls idx M'.1) (hd : decode M.2.1 pc = .ok (.invokestatic idx, 3)) (hu : u = B := by rfl) (hd' : d' + 1 ≤ d := by omega) (hm : M'.2.2.1 ≤ 45 := by decide) (hst : stW rest ≤ 8 := by decide)
    (kk : ∀ r σ', P r σ' → G Γ M d B post u (pc + 3) L (vI r :: rest) (n, ρ, σ')) : G Γ M d B post u pc L (w2 :: w1 :: rest) (n, ρ, σ) :=
  g_callS hc hq hv hl rfl hd' hm (by subst hu; exact ⟨Nat.le_refl _, Nat.le_refl _⟩) hst hd rfl (fun v τ' h => by obtain ⟨r, σ', rfl, rfl, hP⟩ := h; exact kk r σ' hP)
theorem g_cV2L {M' : MI} {d' : Nat} {w1 w2 : Value} {rest : List Value} {P : Int → (Nat → Int → Int) → Prop} {k ci idx : Nat} {T : u_T} {N : Nat} (hc : Ct Γ M' d' (0, 0) (vR Γ k :: [w1, w2]) (n, ρ, σ) (pL n ρ P)) (hq : Cal M' 2) (hv : Cond.instanceMethod M'.1 ∈ tblG) (hsl : Cond.selects M'.1.cls M'.1 M'.1 ∈ tblG) (hl : LinkM M.1.cls idx M'.1) (hd : decode M.2.1 pc = .ok (.invokevirtual idx, 3)) (hs : shp k = (0, ci) := by rfl) (hcl : vwCl[ci]? = some (M'.1.cls, T, N) := by rfl) (hu : u = B := by rfl) (hk : k < n := by decide) (hd' : d' + 1 ≤ d := by omega) (hm : M'.2.2.1 ≤ 45 := by decide) (hst : stW rest ≤ 8 := by decide)
    (kk : ∀ r σ', P r σ' → G Γ M d B post u (pc + 3) L (vL r :: rest) (n, ρ, σ')) : G Γ M d B post u pc L (w2 :: w1 :: vR Γ k :: rest) (n, ρ, σ) :=
  g_callV hc hq hv hsl hk hs hcl hl rfl hd' hm (by subst hu; exact ⟨Nat.le_refl _, Nat.le_refl _⟩) hst hd rfl (fun v τ' h => by obtain ⟨r, σ', rfl, rfl, hP⟩ := h; exact kk r σ' hP)
theorem g_cS2L {M' : MI} {d' : Nat} {w1 w2 : Value} {rest : List Value} {P : Int → (Nat → Int → Int) → Prop} {idx : Nat} (hc : Ct Γ M' d' (0, 0) [w1, w2] (n, ρ, σ) (pL n ρ P)) (hq : Cal M' 2) (hv : Cond.static M'.1 ∈ tblG) (hl : LinkM M.1.cls idx M'.1) (hd : decode M.2.1 pc = .ok (.invokestatic idx, 3)) (hu : u = B := by rfl) (hd' : d' + 1 ≤ d := by omega) (hm : M'.2.2.1 ≤ 45 := by decide) (hst : stW rest ≤ 8 := by decide)
    (kk : ∀ r σ', P r σ' → G Γ M d B post u (pc + 3) L (vL r :: rest) (n, ρ, σ')) : G Γ M d B post u pc L (w2 :: w1 :: rest) (n, ρ, σ) :=
  g_callS hc hq hv hl rfl hd' hm (by subst hu; exact ⟨Nat.le_refl _, Nat.le_refl _⟩) hst hd rfl (fun v τ' h => by obtain ⟨r, σ', rfl, rfl, hP⟩ := h; exact kk r σ' hP)
theorem g_cV2A {M' : MI} {d' : Nat} {w1 w2 : Value} {rest : List Value} {P : Nat → (Nat → Int → Int) → Prop} {k ci idx : Nat} {T : u_T} {N : Nat} (hc : Ct Γ M' d' (0, 0) (vR Γ k :: [w1, w2]) (n, ρ, σ) (pA Γ n ρ P)) (hq : Cal M' 2) (hv : Cond.instanceMethod M'.1 ∈ tblG) (hsl : Cond.selects M'.1.cls M'.1 M'.1 ∈ tblG) (hl : LinkM M.1.cls idx M'.1) (hd : decode M.2.1 pc = .ok (.invokevirtual idx, 3)) (hs : shp k = (0, ci) := by rfl) (hcl : vwCl[ci]? = some (M'.1.cls, T, N) := by rfl) (hu : u = B := by rfl) (hk : k < n := by decide) (hd' : d' + 1 ≤ d := by omega) (hm : M'.2.2.1 ≤ 45 := by decide) (hst : stW rest ≤ 8 := by decide)
    (kk : ∀ r σ', P r σ' → G Γ M d B post u (pc + 3) L (vR Γ r :: rest) (n, ρ, σ')) : G Γ M d B post u pc L (w2 :: w1 :: vR Γ k :: rest) (n, ρ, σ) :=
  g_callV hc hq hv hsl hk hs hcl hl rfl hd' hm (by subst hu; exact ⟨Nat.le_refl _, Nat.le_refl _⟩) hst hd rfl (fun v τ' h => by obtain ⟨r, σ', rfl, rfl, hP⟩ := h; exact kk r σ' hP)
theorem g_cV2V {M' : MI} {d' : Nat} {w1 w2 : Value} {rest : List Value} {P : (Nat → Int → Int) → Prop} {k ci idx : Nat} {T : u_T} {N : Nat} (hc : Ct Γ M' d' (0, 0) (vR Γ k :: [w1, w2]) (n, ρ, σ) (pV n ρ P)) (hq : Cal M' 2) (hv : Cond.instanceMethod M'.1 ∈ tblG) (hsl : Cond.selects M'.1.cls M'.1 M'.1 ∈ tblG) (hl : LinkM M.1.cls idx M'.1) (hd : decode M.2.1 pc = .ok (.invokevirtual idx, 3)) (hs : shp k = (0, ci) := by rfl) (hcl : vwCl[ci]? = some (M'.1.cls, T, N) := by rfl) (hu : u = B := by rfl) (hk : k < n := by decide) (hd' : d' + 1 ≤ d := by omega) (hm : M'.2.2.1 ≤ 45 := by decide) (hst : stW rest ≤ 8 := by decide)
    (kk : ∀ σ', P σ' → G Γ M d B post u (pc + 3) L rest (n, ρ, σ')) : G Γ M d B post u pc L (w2 :: w1 :: vR Γ k :: rest) (n, ρ, σ) :=
  g_callV hc hq hv hsl hk hs hcl hl rfl hd' hm (by subst hu; exact ⟨Nat.le_refl _, Nat.le_refl _⟩) hst hd rfl (fun v τ' h => by obtain ⟨σ', rfl, rfl, hP⟩ := h; exact kk σ' hP)
theorem g_cS2V {M' : MI} {d' : Nat} {w1 w2 : Value} {rest : List Value} {P : (Nat → Int → Int) → Prop} {idx : Nat} (hc : Ct Γ M' d' (0, 0) [w1, w2] (n, ρ, σ) (pV n ρ P)) (hq : Cal M' 2) (hv : Cond.static M'.1 ∈ tblG) (hl : LinkM M.1.cls idx M'.1) (hd : decode M.2.1 pc = .ok (.invokestatic idx, 3)) (hu : u = B := by rfl) (hd' : d' + 1 ≤ d := by omega) (hm : M'.2.2.1 ≤ 45 := by decide) (hst : stW rest ≤ 8 := by decide)
    (kk : ∀ σ', P σ' → G Γ M d B post u (pc + 3) L rest (n, ρ, σ')) : G Γ M d B post u pc L (w2 :: w1 :: rest) (n, ρ, σ) :=
  g_callS hc hq hv hl rfl hd' hm (by subst hu; exact ⟨Nat.le_refl _, Nat.le_refl _⟩) hst hd rfl (fun v τ' h => by obtain ⟨σ', rfl, rfl, hP⟩ := h; exact kk σ' hP)
theorem g_cV3I {M' : MI} {d' : Nat} {w1 w2 w3 : Value} {rest : List Value} {P : Int → (Nat → Int → Int) → Prop} {k ci idx : Nat} {T : u_T} {N : Nat} (hc : Ct Γ M' d' (0, 0) (vR Γ k :: [w1, w2, w3]) (n, ρ, σ) (pI n ρ P)) (hq : Cal M' 3) (hv : Cond.instanceMethod M'.1 ∈ tblG) (hsl : Cond.selects M'.1.cls M'.1 M'.1 ∈ tblG) (hl : LinkM M.1.cls idx M'.1) (hd : decode M.2.1 pc = .ok (.invokevirtual idx, 3)) (hs : shp k = (0, ci) := by rfl) (hcl : vwCl[ci]? = some (M'.1.cls, T, N) := by rfl) (hu : u = B := by rfl) (hk : k < n := by decide) (hd' : d' + 1 ≤ d := by omega) (hm : M'.2.2.1 ≤ 45 := by decide) (hst : stW rest ≤ 8 := by decide)
    (kk : ∀ r σ', P r σ' → G Γ M d B post u (pc + 3) L (vI r :: rest) (n, ρ, σ')) : G Γ M d B post u pc L (w3 :: w2 :: w1 :: vR Γ k :: rest) (n, ρ, σ) :=
  g_callV hc hq hv hsl hk hs hcl hl rfl hd' hm (by subst hu; exact ⟨Nat.le_refl _, Nat.le_refl _⟩) hst hd rfl (fun v τ' h => by obtain ⟨r, σ', rfl, rfl, hP⟩ := h; exact kk r σ' hP)
theorem g_cS3I {M' : MI} {d' : Nat} {w1 w2 w3 : Value} {rest : List Value} {P : Int → (Nat → Int → Int) → Prop} {idx : Nat} (hc : Ct Γ M' d' (0, 0) [w1, w2, w3] (n, ρ, σ) (pI n ρ P)) (hq : Cal M' 3) (hv : Cond.static M'.1 ∈ tblG) (hl : LinkM M.1.cls idx M'.1) (hd : decode M.2.1 pc = .ok (.invokestatic idx, 3)) (hu : u = B := by rfl) (hd' : d' + 1 ≤ d := by omega) (hm : M'.2.2.1 ≤ 45 := by decide) (hst : stW rest ≤ 8 := by decide)
    (kk : ∀ r σ', P r σ' → G Γ M d B post u (pc + 3) L (vI r :: rest) (n, ρ, σ')) : G Γ M d B post u pc L (w3 :: w2 :: w1 :: rest) (n, ρ, σ) :=
  g_callS hc hq hv hl rfl hd' hm (by subst hu; exact ⟨Nat.le_refl _, Nat.le_refl _⟩) hst hd rfl (fun v τ' h => by obtain ⟨r, σ', rfl, rfl, hP⟩ := h; exact kk r σ' hP)
theorem g_cV3L {M' : MI} {d' : Nat} {w1 w2 w3 : Value} {rest : List Value} {P : Int → (Nat → Int → Int) → Prop} {k ci idx : Nat} {T : u_T} {N : Nat} (hc : Ct Γ M' d' (0, 0) (vR Γ k :: [w1, w2, w3]) (n, ρ, σ) (pL n ρ P)) (hq : Cal M' 3) (hv : Cond.instanceMethod M'.1 ∈ tblG) (hsl : Cond.selects M'.1.cls M'.1 M'.1 ∈ tblG) (hl : LinkM M.1.cls idx M'.1) (hd : decode M.2.1 pc = .ok (.invokevirtual idx, 3)) (hs : shp k = (0, ci) := by rfl) (hcl : vwCl[ci]? = some (M'.1.cls, T, N) := by rfl) (hu : u = B := by rfl) (hk : k < n := by decide) (hd' : d' + 1 ≤ d := by omega) (hm : M'.2.2.1 ≤ 45 := by decide) (hst : stW rest ≤ 8 := by decide)
    (kk : ∀ r σ', P r σ' → G Γ M d B post u (pc + 3) L (vL r :: rest) (n, ρ, σ')) : G Γ M d B post u pc L (w3 :: w2 :: w1 :: vR Γ k :: rest) (n, ρ, σ) :=
  g_callV hc hq hv hsl hk hs hcl hl rfl hd' hm (by subst hu; exact ⟨Nat.le_refl _, Nat.le_refl _⟩) hst hd rfl (fun v τ' h => by obtain ⟨r, σ', rfl, rfl, hP⟩ := h; exact kk r σ' hP)
theorem g_cS3L {M' : MI} {d' : Nat} {w1 w2 w3 : Value} {rest : List Value} {P : Int → (Nat → Int → Int) → Prop} {idx : Nat} (hc : Ct Γ M' d' (0, 0) [w1, w2, w3] (n, ρ, σ) (pL n ρ P)) (hq : Cal M' 3) (hv : Cond.static M'.1 ∈ tblG) (hl : LinkM M.1.cls idx M'.1) (hd : decode M.2.1 pc = .ok (.invokestatic idx, 3)) (hu : u = B := by rfl) (hd' : d' + 1 ≤ d := by omega) (hm : M'.2.2.1 ≤ 45 := by decide) (hst : stW rest ≤ 8 := by decide)
    (kk : ∀ r σ', P r σ' → G Γ M d B post u (pc + 3) L (vL r :: rest) (n, ρ, σ')) : G Γ M d B post u pc L (w3 :: w2 :: w1 :: rest) (n, ρ, σ) :=
  g_callS hc hq hv hl rfl hd' hm (by subst hu; exact ⟨Nat.le_refl _, Nat.le_refl _⟩) hst hd rfl (fun v τ' h => by obtain ⟨r, σ', rfl, rfl, hP⟩ := h; exact kk r σ' hP)
theorem g_cV3V {M' : MI} {d' : Nat} {w1 w2 w3 : Value} {rest : List Value} {P : (Nat → Int → Int) → Prop} {k ci idx : Nat} {T : u_T} {N : Nat} (hc : Ct Γ M' d' (0, 0) (vR Γ k :: [w1, w2, w3]) (n, ρ, σ) (pV n ρ P)) (hq : Cal M' 3) (hv : Cond.instanceMethod M'.1 ∈ tblG) (hsl : Cond.selects M'.1.cls M'.1 M'.1 ∈ tblG) (hl : LinkM M.1.cls idx M'.1) (hd : decode M.2.1 pc = .ok (.invokevirtual idx, 3)) (hs : shp k = (0, ci) := by rfl) (hcl : vwCl[ci]? = some (M'.1.cls, T, N) := by rfl) (hu : u = B := by rfl) (hk : k < n := by decide) (hd' : d' + 1 ≤ d := by omega) (hm : M'.2.2.1 ≤ 45 := by decide) (hst : stW rest ≤ 8 := by decide)
    (kk : ∀ σ', P σ' → G Γ M d B post u (pc + 3) L rest (n, ρ, σ')) : G Γ M d B post u pc L (w3 :: w2 :: w1 :: vR Γ k :: rest) (n, ρ, σ) :=
  g_callV hc hq hv hsl hk hs hcl hl rfl hd' hm (by subst hu; exact ⟨Nat.le_refl _, Nat.le_refl _⟩) hst hd rfl (fun v τ' h => by obtain ⟨σ', rfl, rfl, hP⟩ := h; exact kk σ' hP)
theorem g_cS3V {M' : MI} {d' : Nat} {w1 w2 w3 : Value} {rest : List Value} {P : (Nat → Int → Int) → Prop} {idx : Nat} (hc : Ct Γ M' d' (0, 0) [w1, w2, w3] (n, ρ, σ) (pV n ρ P)) (hq : Cal M' 3) (hv : Cond.static M'.1 ∈ tblG) (hl : LinkM M.1.cls idx M'.1) (hd : decode M.2.1 pc = .ok (.invokestatic idx, 3)) (hu : u = B := by rfl) (hd' : d' + 1 ≤ d := by omega) (hm : M'.2.2.1 ≤ 45 := by decide) (hst : stW rest ≤ 8 := by decide)
    (kk : ∀ σ', P σ' → G Γ M d B post u (pc + 3) L rest (n, ρ, σ')) : G Γ M d B post u pc L (w3 :: w2 :: w1 :: rest) (n, ρ, σ) :=
  g_callS hc hq hv hl rfl hd' hm (by subst hu; exact ⟨Nat.le_refl _, Nat.le_refl _⟩) hst hd rfl (fun v τ' h => by obtain ⟨σ', rfl, rfl, hP⟩ := h; exact kk σ' hP)
theorem g_cV4I {M' : MI} {d' : Nat} {w1 w2 w3 w4 : Value} {rest : List Value} {P : Int → (Nat → Int → Int) → Prop} {k ci idx : Nat} {T : u_T} {N : Nat} (hc : Ct Γ M' d' (0, 0) (vR Γ k :: [w1, w2, w3, w4]) (n, ρ, σ) (pI n ρ P)) (hq : Cal M' 4) (hv : Cond.instanceMethod M'.1 ∈ tblG) (hsl : Cond.selects M'.1.cls M'.1 M'.1 ∈ tblG) (hl : LinkM M.1.cls idx M'.1) (hd : decode M.2.1 pc = .ok (.invokevirtual idx, 3)) (hs : shp k = (0, ci) := by rfl) (hcl : vwCl[ci]? = some (M'.1.cls, T, N) := by rfl) (hu : u = B := by rfl) (hk : k < n := by decide) (hd' : d' + 1 ≤ d := by omega) (hm : M'.2.2.1 ≤ 45 := by decide) (hst : stW rest ≤ 8 := by decide)
    (kk : ∀ r σ', P r σ' → G Γ M d B post u (pc + 3) L (vI r :: rest) (n, ρ, σ')) : G Γ M d B post u pc L (w4 :: w3 :: w2 :: w1 :: vR Γ k :: rest) (n, ρ, σ) :=
  g_callV hc hq hv hsl hk hs hcl hl rfl hd' hm (by subst hu; exact ⟨Nat.le_refl _, Nat.le_refl _⟩) hst hd rfl (fun v τ' h => by obtain ⟨r, σ', rfl, rfl, hP⟩ := h; exact kk r σ' hP)
theorem g_cS4I {M' : MI} {d' : Nat} {w1 w2 w3 w4 : Value} {rest : List Value} {P : Int → (Nat → Int → Int) → Prop} {idx : Nat} (hc : Ct Γ M' d' (0, 0) [w1, w2, w3, w4] (n, ρ, σ) (pI n ρ P)) (hq : Cal M' 4) (hv : Cond.static M'.1 ∈ tblG) (hl : LinkM M.1.cls idx M'.1) (hd : decode M.2.1 pc = .ok (.invokestatic idx, 3)) (hu : u = B := by rfl) (hd' : d' + 1 ≤ d := by omega) (hm : M'.2.2.1 ≤ 45 := by decide) (hst : stW rest ≤ 8 := by decide)
    (kk : ∀ r σ', P r σ' → G Γ M d B post u (pc + 3) L (vI r :: rest) (n, ρ, σ')) : G Γ M d B post u pc L (w4 :: w3 :: w2 :: w1 :: rest) (n, ρ, σ) :=
  g_callS hc hq hv hl rfl hd' hm (by subst hu; exact ⟨Nat.le_refl _, Nat.le_refl _⟩) hst hd rfl (fun v τ' h => by obtain ⟨r, σ', rfl, rfl, hP⟩ := h; exact kk r σ' hP)
theorem g_cV4L {M' : MI} {d' : Nat} {w1 w2 w3 w4 : Value} {rest : List Value} {P : Int → (Nat → Int → Int) → Prop} {k ci idx : Nat} {T : u_T} {N : Nat} (hc : Ct Γ M' d' (0, 0) (vR Γ k :: [w1, w2, w3, w4]) (n, ρ, σ) (pL n ρ P)) (hq : Cal M' 4) (hv : Cond.instanceMethod M'.1 ∈ tblG) (hsl : Cond.selects M'.1.cls M'.1 M'.1 ∈ tblG) (hl : LinkM M.1.cls idx M'.1) (hd : decode M.2.1 pc = .ok (.invokevirtual idx, 3)) (hs : shp k = (0, ci) := by rfl) (hcl : vwCl[ci]? = some (M'.1.cls, T, N) := by rfl) (hu : u = B := by rfl) (hk : k < n := by decide) (hd' : d' + 1 ≤ d := by omega) (hm : M'.2.2.1 ≤ 45 := by decide) (hst : stW rest ≤ 8 := by decide)
    (kk : ∀ r σ', P r σ' → G Γ M d B post u (pc + 3) L (vL r :: rest) (n, ρ, σ')) : G Γ M d B post u pc L (w4 :: w3 :: w2 :: w1 :: vR Γ k :: rest) (n, ρ, σ) :=
  g_callV hc hq hv hsl hk hs hcl hl rfl hd' hm (by subst hu; exact ⟨Nat.le_refl _, Nat.le_refl _⟩) hst hd rfl (fun v τ' h => by obtain ⟨r, σ', rfl, rfl, hP⟩ := h; exact kk r σ' hP)
theorem g_cS4L {M' : MI} {d' : Nat} {w1 w2 w3 w4 : Value} {rest : List Value} {P : Int → (Nat → Int → Int) → Prop} {idx : Nat} (hc : Ct Γ M' d' (0, 0) [w1, w2, w3, w4] (n, ρ, σ) (pL n ρ P)) (hq : Cal M' 4) (hv : Cond.static M'.1 ∈ tblG) (hl : LinkM M.1.cls idx M'.1) (hd : decode M.2.1 pc = .ok (.invokestatic idx, 3)) (hu : u = B := by rfl) (hd' : d' + 1 ≤ d := by omega) (hm : M'.2.2.1 ≤ 45 := by decide) (hst : stW rest ≤ 8 := by decide)
    (kk : ∀ r σ', P r σ' → G Γ M d B post u (pc + 3) L (vL r :: rest) (n, ρ, σ')) : G Γ M d B post u pc L (w4 :: w3 :: w2 :: w1 :: rest) (n, ρ, σ) :=
  g_callS hc hq hv hl rfl hd' hm (by subst hu; exact ⟨Nat.le_refl _, Nat.le_refl _⟩) hst hd rfl (fun v τ' h => by obtain ⟨r, σ', rfl, rfl, hP⟩ := h; exact kk r σ' hP)
theorem g_cV4V {M' : MI} {d' : Nat} {w1 w2 w3 w4 : Value} {rest : List Value} {P : (Nat → Int → Int) → Prop} {k ci idx : Nat} {T : u_T} {N : Nat} (hc : Ct Γ M' d' (0, 0) (vR Γ k :: [w1, w2, w3, w4]) (n, ρ, σ) (pV n ρ P)) (hq : Cal M' 4) (hv : Cond.instanceMethod M'.1 ∈ tblG) (hsl : Cond.selects M'.1.cls M'.1 M'.1 ∈ tblG) (hl : LinkM M.1.cls idx M'.1) (hd : decode M.2.1 pc = .ok (.invokevirtual idx, 3)) (hs : shp k = (0, ci) := by rfl) (hcl : vwCl[ci]? = some (M'.1.cls, T, N) := by rfl) (hu : u = B := by rfl) (hk : k < n := by decide) (hd' : d' + 1 ≤ d := by omega) (hm : M'.2.2.1 ≤ 45 := by decide) (hst : stW rest ≤ 8 := by decide)
    (kk : ∀ σ', P σ' → G Γ M d B post u (pc + 3) L rest (n, ρ, σ')) : G Γ M d B post u pc L (w4 :: w3 :: w2 :: w1 :: vR Γ k :: rest) (n, ρ, σ) :=
  g_callV hc hq hv hsl hk hs hcl hl rfl hd' hm (by subst hu; exact ⟨Nat.le_refl _, Nat.le_refl _⟩) hst hd rfl (fun v τ' h => by obtain ⟨σ', rfl, rfl, hP⟩ := h; exact kk σ' hP)
theorem g_cS4V {M' : MI} {d' : Nat} {w1 w2 w3 w4 : Value} {rest : List Value} {P : (Nat → Int → Int) → Prop} {idx : Nat} (hc : Ct Γ M' d' (0, 0) [w1, w2, w3, w4] (n, ρ, σ) (pV n ρ P)) (hq : Cal M' 4) (hv : Cond.static M'.1 ∈ tblG) (hl : LinkM M.1.cls idx M'.1) (hd : decode M.2.1 pc = .ok (.invokestatic idx, 3)) (hu : u = B := by rfl) (hd' : d' + 1 ≤ d := by omega) (hm : M'.2.2.1 ≤ 45 := by decide) (hst : stW rest ≤ 8 := by decide)
    (kk : ∀ σ', P σ' → G Γ M d B post u (pc + 3) L rest (n, ρ, σ')) : G Γ M d B post u pc L (w4 :: w3 :: w2 :: w1 :: rest) (n, ρ, σ) :=
  g_callS hc hq hv hl rfl hd' hm (by subst hu; exact ⟨Nat.le_refl _, Nat.le_refl _⟩) hst hd rfl (fun v τ' h => by obtain ⟨σ', rfl, rfl, hP⟩ := h; exact kk σ' hP)
theorem g_cV5I {M' : MI} {d' : Nat} {w1 w2 w3 w4 w5 : Value} {rest : List Value} {P : Int → (Nat → Int → Int) → Prop} {k ci idx : Nat} {T : u_T} {N : Nat} (hc : Ct Γ M' d' (0, 0) (vR Γ k :: [w1, w2, w3, w4, w5]) (n, ρ, σ) (pI n ρ P)) (hq : Cal M' 5) (hv : Cond.instanceMethod M'.1 ∈ tblG) (hsl : Cond.selects M'.1.cls M'.1 M'.1 ∈ tblG) (hl : LinkM M.1.cls idx M'.1) (hd : decode M.2.1 pc = .ok (.invokevirtual idx, 3)) (hs : shp k = (0, ci) := by rfl) (hcl : vwCl[ci]? = some (M'.1.cls, T, N) := by rfl) (hu : u = B := by rfl) (hk : k < n := by decide) (hd' : d' + 1 ≤ d := by omega) (hm : M'.2.2.1 ≤ 45 := by decide) (hst : stW rest ≤ 8 := by decide)
    (kk : ∀ r σ', P r σ' → G Γ M d B post u (pc + 3) L (vI r :: rest) (n, ρ, σ')) : G Γ M d B post u pc L (w5 :: w4 :: w3 :: w2 :: w1 :: vR Γ k :: rest) (n, ρ, σ) :=
  g_callV hc hq hv hsl hk hs hcl hl rfl hd' hm (by subst hu; exact ⟨Nat.le_refl _, Nat.le_refl _⟩) hst hd rfl (fun v τ' h => by obtain ⟨r, σ', rfl, rfl, hP⟩ := h; exact kk r σ' hP)
theorem g_cS5I {M' : MI} {d' : Nat} {w1 w2 w3 w4 w5 : Value} {rest : List Value} {P : Int → (Nat → Int → Int) → Prop} {idx : Nat} (hc : Ct Γ M' d' (0, 0) [w1, w2, w3, w4, w5] (n, ρ, σ) (pI n ρ P)) (hq : Cal M' 5) (hv : Cond.static M'.1 ∈ tblG) (hl : LinkM M.1.cls idx M'.1) (hd : decode M.2.1 pc = .ok (.invokestatic idx, 3)) (hu : u = B := by rfl) (hd' : d' + 1 ≤ d := by omega) (hm : M'.2.2.1 ≤ 45 := by decide) (hst : stW rest ≤ 8 := by decide)
    (kk : ∀ r σ', P r σ' → G Γ M d B post u (pc + 3) L (vI r :: rest) (n, ρ, σ')) : G Γ M d B post u pc L (w5 :: w4 :: w3 :: w2 :: w1 :: rest) (n, ρ, σ) :=
  g_callS hc hq hv hl rfl hd' hm (by subst hu; exact ⟨Nat.le_refl _, Nat.le_refl _⟩) hst hd rfl (fun v τ' h => by obtain ⟨r, σ', rfl, rfl, hP⟩ := h; exact kk r σ' hP)
theorem g_cV5L {M' : MI} {d' : Nat} {w1 w2 w3 w4 w5 : Value} {rest : List Value} {P : Int → (Nat → Int → Int) → Prop} {k ci idx : Nat} {T : u_T} {N : Nat} (hc : Ct Γ M' d' (0, 0) (vR Γ k :: [w1, w2, w3, w4, w5]) (n, ρ, σ) (pL n ρ P)) (hq : Cal M' 5) (hv : Cond.instanceMethod M'.1 ∈ tblG) (hsl : Cond.selects M'.1.cls M'.1 M'.1 ∈ tblG) (hl : LinkM M.1.cls idx M'.1) (hd : decode M.2.1 pc = .ok (.invokevirtual idx, 3)) (hs : shp k = (0, ci) := by rfl) (hcl : vwCl[ci]? = some (M'.1.cls, T, N) := by rfl) (hu : u = B := by rfl) (hk : k < n := by decide) (hd' : d' + 1 ≤ d := by omega) (hm : M'.2.2.1 ≤ 45 := by decide) (hst : stW rest ≤ 8 := by decide)
    (kk : ∀ r σ', P r σ' → G Γ M d B post u (pc + 3) L (vL r :: rest) (n, ρ, σ')) : G Γ M d B post u pc L (w5 :: w4 :: w3 :: w2 :: w1 :: vR Γ k :: rest) (n, ρ, σ) :=
  g_callV hc hq hv hsl hk hs hcl hl rfl hd' hm (by subst hu; exact ⟨Nat.le_refl _, Nat.le_refl _⟩) hst hd rfl (fun v τ' h => by obtain ⟨r, σ', rfl, rfl, hP⟩ := h; exact kk r σ' hP)
theorem g_cS5L {M' : MI} {d' : Nat} {w1 w2 w3 w4 w5 : Value} {rest : List Value} {P : Int → (Nat → Int → Int) → Prop} {idx : Nat} (hc : Ct Γ M' d' (0, 0) [w1, w2, w3, w4, w5] (n, ρ, σ) (pL n ρ P)) (hq : Cal M' 5) (hv : Cond.static M'.1 ∈ tblG) (hl : LinkM M.1.cls idx M'.1) (hd : decode M.2.1 pc = .ok (.invokestatic idx, 3)) (hu : u = B := by rfl) (hd' : d' + 1 ≤ d := by omega) (hm : M'.2.2.1 ≤ 45 := by decide) (hst : stW rest ≤ 8 := by decide)
    (kk : ∀ r σ', P r σ' → G Γ M d B post u (pc + 3) L (vL r :: rest) (n, ρ, σ')) : G Γ M d B post u pc L (w5 :: w4 :: w3 :: w2 :: w1 :: rest) (n, ρ, σ) :=
  g_callS hc hq hv hl rfl hd' hm (by subst hu; exact ⟨Nat.le_refl _, Nat.le_refl _⟩) hst hd rfl (fun v τ' h => by obtain ⟨r, σ', rfl, rfl, hP⟩ := h; exact kk r σ' hP)
theorem g_cV5V {M' : MI} {d' : Nat} {w1 w2 w3 w4 w5 : Value} {rest : List Value} {P : (Nat → Int → Int) → Prop} {k ci idx : Nat} {T : u_T} {N : Nat} (hc : Ct Γ M' d' (0, 0) (vR Γ k :: [w1, w2, w3, w4, w5]) (n, ρ, σ) (pV n ρ P)) (hq : Cal M' 5) (hv : Cond.instanceMethod M'.1 ∈ tblG) (hsl : Cond.selects M'.1.cls M'.1 M'.1 ∈ tblG) (hl : LinkM M.1.cls idx M'.1) (hd : decode M.2.1 pc = .ok (.invokevirtual idx, 3)) (hs : shp k = (0, ci) := by rfl) (hcl : vwCl[ci]? = some (M'.1.cls, T, N) := by rfl) (hu : u = B := by rfl) (hk : k < n := by decide) (hd' : d' + 1 ≤ d := by omega) (hm : M'.2.2.1 ≤ 45 := by decide) (hst : stW rest ≤ 8 := by decide)
    (kk : ∀ σ', P σ' → G Γ M d B post u (pc + 3) L rest (n, ρ, σ')) : G Γ M d B post u pc L (w5 :: w4 :: w3 :: w2 :: w1 :: vR Γ k :: rest) (n, ρ, σ) :=
  g_callV hc hq hv hsl hk hs hcl hl rfl hd' hm (by subst hu; exact ⟨Nat.le_refl _, Nat.le_refl _⟩) hst hd rfl (fun v τ' h => by obtain ⟨σ', rfl, rfl, hP⟩ := h; exact kk σ' hP)
theorem g_cS5V {M' : MI} {d' : Nat} {w1 w2 w3 w4 w5 : Value} {rest : List Value} {P : (Nat → Int → Int) → Prop} {idx : Nat} (hc : Ct Γ M' d' (0, 0) [w1, w2, w3, w4, w5] (n, ρ, σ) (pV n ρ P)) (hq : Cal M' 5) (hv : Cond.static M'.1 ∈ tblG) (hl : LinkM M.1.cls idx M'.1) (hd : decode M.2.1 pc = .ok (.invokestatic idx, 3)) (hu : u = B := by rfl) (hd' : d' + 1 ≤ d := by omega) (hm : M'.2.2.1 ≤ 45 := by decide) (hst : stW rest ≤ 8 := by decide)
    (kk : ∀ σ', P σ' → G Γ M d B post u (pc + 3) L rest (n, ρ, σ')) : G Γ M d B post u pc L (w5 :: w4 :: w3 :: w2 :: w1 :: rest) (n, ρ, σ) :=
  g_callS hc hq hv hl rfl hd' hm (by subst hu; exact ⟨Nat.le_refl _, Nat.le_refl _⟩) hst hd rfl (fun v τ' h => by obtain ⟨σ', rfl, rfl, hP⟩ := h; exact kk σ' hP)
/-! the JDK's own -/
theorem g_objInit {idx a : Nat} (hl : Cond.methodLink M.1.cls idx objectInit ∈ tblG) (h1 : Cond.instanceMethod objectInit ∈ tblG) (h2 : Cond.code objectInit ⟨#[0xb1]⟩ 1 none ∈ tblG) (hd : decode M.2.1 pc = .ok (.invokespecial idx, 3)) (hdp : 1 ≤ d) (k : G Γ M d B post u (pc + 3) L [] τ) : G Γ M d B post u pc L [.ref a] τ := by
  intro p e R s m args below meth cd Q H locs ls C F hl' hW hS
  obtain ⟨hx, hb, hml, hown, hts, hKS, hname, hR⟩ := id C
  refine W.objInit hx hb hown (hts _ hl) (hts _ h1) (hts _ h2) rfl (by rw [hml]; exact hl'.1) rfl hd (by omega) ?_ ?_
  · show 2 * 0 + 0 + 12 ≤ R.locals
    omega
  · exact k p e R s m args below meth cd Q H locs ls C F hl' hW hS
def NM (w : MethodName) (bt : ByteArray) (k : Nat) : Prop := Cond.static w ∈ tblG ∧ Cond.initialized "java/lang/Math" ∈ tblG ∧ Cond.code w bt k (some .int) ∈ tblG
theorem g_max {idx : Nat} {a b : Int} (ha : R32 a) (hb : R32 b) (hl : Cond.methodLink M.1.cls idx Lib.Math.max.name ∈ tblG) (h1 : NM Lib.Math.max.name Lib.Math.max.code 2) (hd : decode M.2.1 pc = .ok (.invokestatic idx, 3)) (hdp : 1 ≤ d) (hu : u = B) (hst : stW st ≤ 8 := by decide) (k : G Γ M d B post u (pc + 3) L (vI (if a < b then b else a) :: st) τ) : G Γ M d B post u pc L (vI b :: vI a :: st) τ := by
  intro p e R s m args below meth cd Q H locs ls C F hl' hW hS
  obtain ⟨hx, hb', hml, hown, hts, hKS, hname, hR⟩ := id C
  subst hu
  have hroom : stW st + 13 ≤ R.locals := by omega
  refine va_mmax hx hb' (hml.trans hl'.1.symm) hown (hts _ hl) (hts _ h1.1) (hts _ h1.2.1) (hts _ h1.2.2) (by omega) hroom (by omega) (by omega) hd ?_
  have K := k p e R s m args below meth cd Q H locs ls C F hl' hW hS
  have e : Int32.ofInt (if a < b then b else a) = (if Int32.ofInt a < Int32.ofInt b then Int32.ofInt b else Int32.ofInt a) := by
    simp only [z_lt ha hb]; split <;> rfl
  unfold vI at K
  rwa [e] at K
theorem g_min {idx : Nat} {a b : Int} (ha : R32 a) (hb : R32 b) (hl : Cond.methodLink M.1.cls idx Lib.Math.min.name ∈ tblG) (h1 : NM Lib.Math.min.name Lib.Math.min.code 2) (hd : decode M.2.1 pc = .ok (.invokestatic idx, 3)) (hdp : 1 ≤ d) (hu : u = B) (hst : stW st ≤ 8 := by decide) (k : G Γ M d B post u (pc + 3) L (vI (if b < a then b else a) :: st) τ) : G Γ M d B post u pc L (vI b :: vI a :: st) τ := by
  intro p e R s m args below meth cd Q H locs ls C F hl' hW hS
  obtain ⟨hx, hb', hml, hown, hts, hKS, hname, hR⟩ := id C
  subst hu
  have hroom : stW st + 13 ≤ R.locals := by omega
  refine va_mmin hx hb' (hml.trans hl'.1.symm) hown (hts _ hl) (hts _ h1.1) (hts _ h1.2.1) (hts _ h1.2.2) (by omega) hroom (by omega) (by omega) hd ?_
  have K := k p e R s m args below meth cd Q H locs ls C F hl' hW hS
  have e : Int32.ofInt (if b < a then b else a) = (if Int32.ofInt b < Int32.ofInt a then Int32.ofInt b else Int32.ofInt a) := by
    simp only [z_lt hb ha]; split <;> rfl
  unfold vI at K
  rwa [e] at K
theorem g_abs {idx : Nat} {a : Int} (ha : R32 a) (hl : Cond.methodLink M.1.cls idx Lib.Math.abs.name ∈ tblG) (h1 : NM Lib.Math.abs.name Lib.Math.abs.code 1) (hd : decode M.2.1 pc = .ok (.invokestatic idx, 3)) (hdp : 1 ≤ d) (hu : u = B) (hst : stW st ≤ 8 := by decide) (k : G Γ M d B post u (pc + 3) L (vI (if 0 ≤ a then a else -a) :: st) τ) : G Γ M d B post u pc L (vI a :: st) τ := by
  intro p e R s m args below meth cd Q H locs ls C F hl' hW hS
  obtain ⟨hx, hb', hml, hown, hts, hKS, hname, hR⟩ := id C
  subst hu
  have hroom : stW st + 13 ≤ R.locals := by omega
  refine va_mabs hx hb' (hml.trans hl'.1.symm) hown (hts _ hl) (hts _ h1.1) (hts _ h1.2.1) (hts _ h1.2.2) (by omega) hroom (by omega) (by omega) hd ?_
  have K := k p e R s m args below meth cd Q H locs ls C F hl' hW hS
  have h0 : R32 0 := by omega
  have e : Int32.ofInt (if 0 ≤ a then a else -a) = (if 0 ≤ Int32.ofInt a then Int32.ofInt a else 0 - Int32.ofInt a) := by
    rw [show (0 : Int32) = Int32.ofInt 0 from rfl]
    simp only [z_le h0 ha]
    split
    · rfl
    · rw [← Int32.ofInt_sub]; congr 1; omega
  unfold vI at K
  rwa [e] at K
/-! making -/
theorem vp_V_len {fs : List Value} {j : Nat} {v : Value} (h : fs[j]? = some v) : vp_V fs j = v := by
  unfold vp_V; rw [List.getD_eq_getElem?_getD, h]; rfl
def zeroAt (n : Nat) (ρ : Nat → Nat → Nat) (σ : Nat → Int → Int) : Prop := (∀ j, ρ n j = 0) ∧ ∀ j, σ n j = 0
theorem fval_zero (hz : zeroAt n ρ σ) (x : Nat) (j t : Nat) : fval Γ (x, ρ, σ) n j t = if t = 1 then .null else .int 0 := by
  unfold fval rfv
  split
  · show va_rf (if ρ n j = 0 then none else some (kB Γ + (ρ n j - 1))) = _
    rw [hz.1 j]; simp [va_rf]
  · show vI (σ n j) = _
    rw [hz.2 j]; rfl
theorem wE_n (x y : Nat) (k : Nat) : wE Γ (x, ρ, σ) k = wE Γ (y, ρ, σ) k := rfl
theorem wd_push {H' : Heap} (hW : Wd Γ (n, ρ, σ) H) (h1 : va_at (kD Γ) vwCl (kB Γ + n, wE Γ (n + 1, ρ, σ) n) H') (z : H'.size = H.size + 1) (oq : ∀ q, q < H.size → H'[q]? = H[q]?) : Wd Γ (n + 1, ρ, σ) H' := by
  have hz : H.size = kB Γ + n := hW.1
  refine ⟨?_, fun k hk => ?_, fun q hq => ?_, hW.2.2.2⟩
  · show H'.size = kB Γ + (n + 1); omega
  · have hk : k < n + 1 := hk
    by_cases e : k = n
    · subst e; exact h1
    · exact (hW.2.1 k (show k < n by omega)).kept (oq _ (show kB Γ + k < H.size by omega))
  · rw [oq q (by omega)]; exact hW.2.2.1 q hq
theorem g_new {ci idx N : Nat} {C : String} {T : u_T} (hs : shp n = (0, ci)) (hc : vwCl[ci]? = some (C, T, N)) (hnew : Cond.instantiable C N ∈ tblG ∧ Cond.initialized C ∈ tblG) (hcl : Cond.classLink M.1.cls idx C ∈ tblG) (hf : ∀ j, j < N → ∃ t, (fk ci)[j]? = some t ∧ ∀ ty, parseFieldDescriptor (T j).2.2.1 = some ty → defaultValue ty = if t = 1 then .null else .int 0) (hz : zeroAt n ρ σ) (hd : decode M.2.1 pc = .ok (.new idx, 3)) (hu1 : u.1 + 1 ≤ B.1) (hu2 : u.2 + N ≤ B.2)
    (kk : G Γ M d B post (u.1 + 1, u.2 + N) (pc + 3) L (vR Γ n :: st) (n + 1, ρ, σ)) : G Γ M d B post u pc L st (n, ρ, σ) := by
  intro p e R s m args below meth cd Q H locs ls Cc F hl' hW hS
  obtain ⟨hx, hb, hml, hown, hts, hKS, hname, hR⟩ := id Cc
  obtain ⟨hin, ⟨ty0, hty⟩, hnm⟩ := cls_ok ci C T N hc
  have hKn := hKS.1.1 ci _ hc
  have hz' : H.size = kB Γ + n := hW.1
  refine W.newcK hx hb hown (hts _ hcl) (hts _ hnew.1) (hts _ hnew.2) rfl hd (by omega) (by omega) hKn.2.1 rfl fun H1 kC hkC e1 z1 o1 => ?_
  rw [hz'] at e1 ⊢
  refine kk p e R s m args below meth cd Q H1 locs ls Cc F hl' (wd_push hW ?_ z1 o1) hS
  rw [wE_obj hs]
  exact ⟨_, hc, (u_born ty0 hts hin hKn hkC e1 hty).to (fun j hj => by
    obtain ⟨t, ht, hdv⟩ := hf j hj
    rw [vp_V_fs ht, fval_zero hz, hdv _ (hty j hj)])⟩
theorem g_newa {t N : Nat} {atype : ArrayType} {a : Int} (hs : shp n = (t, N)) (ht : t = 1 ∧ atype = .int ∨ t = 2 ∧ atype = .long ∨ t = 3 ∧ atype = .boolean ∨ t = 4 ∧ atype = .byte) (ha : a = N) (hz : zeroAt n ρ σ) (hd : decode M.2.1 pc = .ok (.newarray atype, 2)) (hu1 : u.1 + 1 ≤ B.1) (hu2 : u.2 + N ≤ B.2)
    (kk : G Γ M d B post (u.1 + 1, u.2 + N) (pc + 2) L (vR Γ n :: st) (n + 1, ρ, σ)) : G Γ M d B post u pc L (vI a :: st) (n, ρ, σ) := by
  intro p e R s m args below meth cd Q H locs ls Cc F hl' hW hS
  obtain ⟨hx, hb, hml, hown, hts, hKS, hname, hR⟩ := id Cc
  have hN := shp_small hs
  subst ha
  have hz' : H.size = kB Γ + n := hW.1
  have hr : R32 (N : Int) := by omega
  have hcl : (Int32.ofInt (N : Int)).toNatClampNeg = N := by rw [z_clamp (by omega) hr]; omega
  have hneg : ¬ Int32.ofInt (N : Int) < 0 := fun q => by
    have := (z_lt (a := (N : Int)) (b := 0) hr (by omega)).mp q
    omega
  have word : ∀ ty, Cond.arrayClass ty ∈ lw_tbl → (Cond.arrayClass ty).before args s = true := fun ty h => hts _ (memT h rfl)
  have main : ∀ (ty : FieldType) (hty : newarray.typeOf atype = ty) (hw : Cond.arrayClass ty ∈ lw_tbl) (hay : aty t = ty) (h1 : 1 ≤ t) (h2 : t ≤ 6) (hb4 : componentBytes ty ≤ 8) (hcell : ∀ cA, vp_cell cA ((match wE Γ (n + 1, ρ, σ) n with | .inl c => c.2 | .inr _ => (0, .inl fun _ => 0)) : vp_A) = arrV cA N (fun _ => defaultValue ty)) (hwe : ∃ c : vp_A, wE Γ (n + 1, ρ, σ) n = .inl (kA Γ t, c)), W p (kL Γ) e R s m args below meth cd H locs u.1 u.2 Q (F0 m pc ls (vI (N : Int) :: st)) := by
    intro ty hty hw hay h1 h2 hb4 hcell hwe
    subst hty
    refine va_newaK hx hb (word _ hw) rfl hd rfl hneg hcl ?_ (by omega) (by omega) hz' fun H1 cA e1 z1 o1 hAr hNm => ?_
    · have : N * componentBytes (newarray.typeOf atype) ≤ 1000 * 8 := Nat.mul_le_mul (by omega) hb4
      omega
    · have hcA : cA = kA Γ t := by
        have := (hKS.2.1 t h1 h2).2
        rw [hay] at this
        exact Option.some.inj (hNm.symm.trans this)
      subst hcA
      obtain ⟨c, hc⟩ := hwe
      have hcell := hcell (kA Γ t)
      rw [hc] at hcell
      refine kk p e R s m args below meth cd Q H1 locs ls Cc F hl' (wd_push hW ?_ (by rw [z1, hz']) (fun q hq => o1 q (by omega))) hS
      rw [hc]
      show H1[kB Γ + n]? = some (vp_cell _ _)
      rw [e1]
      exact congrArg some hcell.symm
  rcases ht with ⟨rfl, rfl⟩ | ⟨rfl, rfl⟩ | ⟨rfl, rfl⟩ | ⟨rfl, rfl⟩
  · refine main .int rfl arr_int rfl (by decide) (by decide) (by decide) (fun cA => ?_) ⟨_, wE_int hs (by simp)⟩
    rw [wE_int hs (by simp)]
    show vp_cell cA (N, .inl _) = _
    rw [vp_cell_i]
    refine congrArg (arrV cA N) (funext fun j => ?_)
    show Value.int (Int32.ofInt (σ n j)) = _
    rw [hz.2]; rfl
  · refine main .long rfl arr_long rfl (by decide) (by decide) (by decide) (fun cA => ?_) ⟨_, wE_long hs⟩
    rw [wE_long hs]
    show vp_cell cA (N, .inr (.inl _)) = _
    rw [vp_cell_l]
    refine congrArg (arrV cA N) (funext fun j => ?_)
    show Value.long (Int64.ofInt (σ n j)) = _
    rw [hz.2]; rfl
  · refine main .boolean rfl arr_boolean rfl (by decide) (by decide) (by decide) (fun cA => ?_) ⟨_, wE_int hs (by simp)⟩
    rw [wE_int hs (by simp)]
    show vp_cell cA (N, .inl _) = _
    rw [vp_cell_i]
    refine congrArg (arrV cA N) (funext fun j => ?_)
    show Value.int (Int32.ofInt (σ n j)) = _
    rw [hz.2]; rfl
  · refine main .byte rfl arr_byte rfl (by decide) (by decide) (by decide) (fun cA => ?_) ⟨_, wE_int hs (by simp)⟩
    rw [wE_int hs (by simp)]
    show vp_cell cA (N, .inl _) = _
    rw [vp_cell_i]
    refine congrArg (arrV cA N) (funext fun j => ?_)
    show Value.int (Int32.ofInt (σ n j)) = _
    rw [hz.2]; rfl
end GC
end
section
section GM
variable {Γ : KT} {M : MI} {d : Nat} {B : Nat × Nat} {post : Option Value → St → Prop} {u : Nat × Nat} {pc : Nat} {L : List (Option Value)} {st : List Value} {n : Nat} {ρ : Nat → Nat → Nat} {σ : Nat → Int → Int}
variable {p : Program} {e : Env} {R : Room} {s : State} {m : MethodId} {args : Array Value} {below : List Frame} {meth : Method} {cd : Code} {Q : State → Prop} {H : Heap} {locs : List Loc} {ls : Array Slot} {τ : St} {cells slots : Nat}
/-- a stretch of row k0 copied into row k1 -/
def cpy (σ : Nat → Int → Int) (k0 k1 : Nat) (sp dp len : Int) : Nat → Int → Int := fun a b => if a = k1 ∧ dp ≤ b ∧ b < dp + len then σ k0 (sp + (b - dp)) else σ a b
theorem nz_cpy {k0 k1 t N0 N1 : Nat} {sp dp len : Int} (h : Nz σ) (h0 : shp k0 = (t, N0)) (h1 : shp k1 = (t, N1)) : Nz (cpy σ k0 k1 sp dp len) := by
  intro a b
  by_cases q : a = k1 ∧ dp ≤ b ∧ b < dp + len
  · rw [show cpy σ k0 k1 sp dp len a b = σ k0 (sp + (b - dp)) from if_pos q]
    have := h k0 (sp + (b - dp))
    rw [h0] at this
    rw [q.1, h1]; exact this
  · rw [show cpy σ k0 k1 sp dp len a b = σ a b from if_neg q]
    exact h a b
theorem fval_cpy_ne {k0 k1 k' : Nat} {sp dp len : Int} (h : k' ≠ k1) (i t : Nat) : fval Γ (n, ρ, cpy σ k0 k1 sp dp len) k' i t = fval Γ (n, ρ, σ) k' i t := by
  unfold fval cpy; simp [h]
theorem wE_cpy_ne {k0 k1 : Nat} {sp dp len : Int} (k' : Nat) (h : k' ≠ k1) : wE Γ (n, ρ, cpy σ k0 k1 sp dp len) k' = wE Γ (n, ρ, σ) k' := by
  unfold wE fsOf
  simp only [fval_cpy_ne h, cpy, h, false_and, if_false]
theorem cpy_fun {α : Type} (f : Int → α) {k0 k1 : Nat} {sp dp len : Int} (h1 : 0 ≤ sp) (h2 : 0 ≤ dp) (h3 : 0 ≤ len) : va_cpy (fun j : Nat => f (σ k0 (j : Int))) (fun j : Nat => f (σ k1 (j : Int))) sp.toNat dp.toNat len.toNat = fun j : Nat => f (cpy σ k0 k1 sp dp len k1 (j : Int)) := by
  funext j
  unfold va_cpy cpy
  by_cases q : dp.toNat ≤ j ∧ j < dp.toNat + len.toNat
  · have e : ((sp.toNat + (j - dp.toNat) : Nat) : Int) = sp + ((j : Int) - dp) := by omega
    rw [if_pos q, if_pos ⟨rfl, by omega, by omega⟩]
    show f (σ k0 ((sp.toNat + (j - dp.toNat) : Nat) : Int)) = _
    rw [e]
  · rw [if_neg q, if_neg (fun z => q ⟨by omega, by omega⟩)]
/-- what System.arraycopy is called by -/
def CPw (M : MI) (idx : Nat) : Prop := Cond.methodLink M.1.cls idx arraycopyName ∈ tblG ∧ (Cond.native arraycopyName) ∈ tblG ∧ Cond.static arraycopyName ∈ tblG ∧ Cond.initialized "java/lang/System" ∈ tblG
theorem g_copy {idx k0 k1 t N0 N1 : Nat} {sp dp len : Int} (hw : CPw M idx) (h0 : shp k0 = (t, N0)) (h1 : shp k1 = (t, N1)) (ht : t = 1 ∨ t = 2) (hsp : 0 ≤ sp) (hdp : 0 ≤ dp) (hln : 0 ≤ len) (hb0 : sp + len ≤ N0) (hb1 : dp + len ≤ N1) (hd : decode M.2.1 pc = .ok (.invokestatic idx, 3)) (hdp1 : 1 ≤ d) (hk0 : k0 < n := by decide) (hk1 : k1 < n := by decide) (hst : stW st ≤ 8 := by decide)
    (kk : G Γ M d B post u (pc + 3) L st (n, ρ, cpy σ k0 k1 sp dp len)) : G Γ M d B post u pc L (vI len :: vI dp :: vR Γ k1 :: vI sp :: vR Γ k0 :: st) (n, ρ, σ) := by
  intro p e R s m args below meth cd Q H locs ls C F hl hW hS
  obtain ⟨hx, hb, hml, hown, hts, hKS, hname, hR⟩ := id C
  have s0 := shp_small h0
  have s1 := shp_small h1
  have r1 : R32 sp := by omega
  have r2 : R32 dp := by omega
  have r3 : R32 len := by omega
  have hz : R32 0 := by omega
  have n1 : ¬ Int32.ofInt sp < 0 := fun q => by have := (z_lt r1 hz).mp q; omega
  have n2 : ¬ Int32.ofInt dp < 0 := fun q => by have := (z_lt r2 hz).mp q; omega
  have n3 : ¬ Int32.ofInt len < 0 := fun q => by have := (z_lt r3 hz).mp q; omega
  have c1 := z_clamp hsp r1
  have c2 := z_clamp hdp r2
  have c3 := z_clamp hln r3
  have hroom : (st.map fun v => v.category).sum + (nativeFrameWords "java/lang/System" "arraycopy" 5 + 11) ≤ R.locals := by
    have : nativeFrameWords "java/lang/System" "arraycopy" 5 ≤ 30 := by decide
    have : stW st + 41 ≤ R.locals := by omega
    show stW st + _ ≤ _
    omega
  have done : ∀ (H' : Heap) (locs' : List Loc), H'[kB Γ + k1]? = some (match wE Γ (n, ρ, cpy σ k0 k1 sp dp len) k1 with | .inl c => vp_cell c.1 c.2 | .inr _ => arrV 0 0 (fun _ => .null)) → H'.size = H.size → (∀ q, q ≠ kB Γ + k1 → H'[q]? = H[q]?) → (∀ q ∈ locs', stA Γ q.base) → W p (kL Γ) e R s m args below meth cd H' locs' u.1 u.2 Q (F0 m (pc + 3) ls st) := by
    intro H' locs' e1 z oq hS'
    refine kk p e R s m args below meth cd Q H' locs' ls C F hl (wd_put hW ?_ oq z rfl (fun k' h => wE_cpy_ne k' h) (nz_cpy hW.2.2.2 h0 h1)) hS'
    rcases ht with rfl | rfl
    · rw [wE_int h1 (by simp)] at e1 ⊢; exact e1
    · rw [wE_long h1] at e1 ⊢; exact e1
  have hprim : ∀ a : Int, fits .int (vI a) = true := fun a => rfl
  rcases ht with rfl | rfl
  · have hc0 := w_cell hW hk0 (wE_int h0 (by simp))
    have hc1 := w_cell hW hk1 (wE_int h1 (by simp))
    obtain ⟨-, ka, hka, cm0, hkk0⟩ := (hKS.2.1 1 (by decide) (by decide)).1 N0 (fun j => .int (Int32.ofInt (σ k0 (j : Int))))
    obtain ⟨-, kb, hkb, cm1, hkk1⟩ := (hKS.2.1 1 (by decide) (by decide)).1 N1 (fun j => .int (Int32.ofInt (σ k1 (j : Int))))
    intro T hT X
    obtain ⟨vm', X', step⟩ := X.arraycopy hx hown (hts _ hw.1) (hts _ hw.2.1) (hts _ hw.2.2.1) (hts _ hw.2.2.2) (src := kB Γ + k0) (dst := kB Γ + k1) (cs := arrV (kA Γ 1) N0 (fun j => .int (Int32.ofInt (σ k0 (j : Int))))) (cd := arrV (kA Γ 1) N1 (fun j => .int (Int32.ofInt (σ k1 (j : Int))))) (srcPos := Int32.ofInt sp) (destPos := Int32.ofInt dp) (n := Int32.ofInt len) (by rw [hT]; exact hc0) (by rw [hT]; exact hc1)
      (fun _ h => by cases h) (fun _ h => by cases h) (fun h => by cases h) (fun h => by cases h) hka hkb hkk0 hkk1 (by simp [aty, refKind]) n1 n2 n3
      (by rw [z_toInt r1, z_toInt r3, arrV_size]; omega)
      (by rw [z_toInt r2, z_toInt r3, arrV_size]; omega)
      (fun vm₁ _ i hi => by
        have e : (arrV (kA Γ 1) N0 (fun j => .int (Int32.ofInt (σ k0 (j : Int))))).slots.getD ((Int32.ofInt sp).toNatClampNeg + i) .null = .int (Int32.ofInt (σ k0 (((Int32.ofInt sp).toNatClampNeg + i : Nat) : Int))) := by
          rw [Array.getD_eq_getD_getElem?, arrV_read _ _ (by rw [c1]; rw [c3] at hi; omega)]
          rfl
        exact ⟨by rw [e]; rfl, by rw [e]; trivial⟩)
      (g := F0 m pc ls (vI len :: vI dp :: vR Γ k1 :: vI sp :: vR Γ k0 :: st)) rfl (by rw [hml]; exact hl.1) (rest := st) rfl (by rw [hb]; exact hd) (by omega) (by show 2 * 0 + _ + _ ≤ _; omega)
    have e1 := va_copied (fun z => Value.int z) (kA Γ 1) (kA Γ 1) (n0 := N0) (n1 := N1) (sp := sp.toNat) (dp := dp.toNat) (n := len.toNat) (fun j => Int32.ofInt (σ k0 (j : Int))) (fun j => Int32.ofInt (σ k1 (j : Int))) (by omega)
    have e2 : copied (arrV (kA Γ 1) N0 (fun j => .int (Int32.ofInt (σ k0 (j : Int))))) (arrV (kA Γ 1) N1 (fun j => .int (Int32.ofInt (σ k1 (j : Int))))) (Int32.ofInt sp) (Int32.ofInt dp) (Int32.ofInt len) = arrV (kA Γ 1) N1 (fun j => .int (Int32.ofInt (cpy σ k0 k1 sp dp len k1 (j : Int)))) := by
      unfold copied
      rw [c1, c2, c3, e1, cpy_fun (f := Int32.ofInt) hsp hdp hln]
    rw [e2] at X' step
    have hlt : kB Γ + k1 < T.heap.size := by rw [hT]; exact (Array.getElem?_eq_some_iff.mp hc1).1
    obtain ⟨t, a1, b1⟩ := done _ _ (by rw [wE_int h1 (by simp)]; exact heapAt_setCell_self _ hlt) (by rw [size_setCell]; exact congrArg Array.size hT) (fun q hq => by rw [heapAt_setCell_ne _ (Ne.symm hq)]; exact congrArg (fun h : Heap => h[q]?) hT) (fun q hq => by
        rcases List.mem_append.mp hq with h | h
        · exact hS q h
        · obtain ⟨z, -, hz⟩ := List.mem_map.mp h
          rw [← hz]; exact Nat.le_add_right _ _) _ rfl X'
    exact ⟨t, step t a1, b1⟩
  · have hc0 := w_cell hW hk0 (wE_long h0)
    have hc1 := w_cell hW hk1 (wE_long h1)
    obtain ⟨-, ka, hka, cm0, hkk0⟩ := (hKS.2.1 2 (by decide) (by decide)).1 N0 (fun j => .long (Int64.ofInt (σ k0 (j : Int))))
    obtain ⟨-, kb, hkb, cm1, hkk1⟩ := (hKS.2.1 2 (by decide) (by decide)).1 N1 (fun j => .long (Int64.ofInt (σ k1 (j : Int))))
    intro T hT X
    obtain ⟨vm', X', step⟩ := X.arraycopy hx hown (hts _ hw.1) (hts _ hw.2.1) (hts _ hw.2.2.1) (hts _ hw.2.2.2) (src := kB Γ + k0) (dst := kB Γ + k1) (cs := arrV (kA Γ 2) N0 (fun j => .long (Int64.ofInt (σ k0 (j : Int))))) (cd := arrV (kA Γ 2) N1 (fun j => .long (Int64.ofInt (σ k1 (j : Int))))) (srcPos := Int32.ofInt sp) (destPos := Int32.ofInt dp) (n := Int32.ofInt len) (by rw [hT]; exact hc0) (by rw [hT]; exact hc1)
      (fun _ h => by cases h) (fun _ h => by cases h) (fun h => by cases h) (fun h => by cases h) hka hkb hkk0 hkk1 (by simp [aty, refKind]) n1 n2 n3
      (by rw [z_toInt r1, z_toInt r3, arrV_size]; omega)
      (by rw [z_toInt r2, z_toInt r3, arrV_size]; omega)
      (fun vm₁ _ i hi => by
        have e : (arrV (kA Γ 2) N0 (fun j => .long (Int64.ofInt (σ k0 (j : Int))))).slots.getD ((Int32.ofInt sp).toNatClampNeg + i) .null = .long (Int64.ofInt (σ k0 (((Int32.ofInt sp).toNatClampNeg + i : Nat) : Int))) := by
          rw [Array.getD_eq_getD_getElem?, arrV_read _ _ (by rw [c1]; rw [c3] at hi; omega)]
          rfl
        exact ⟨by rw [e]; rfl, by rw [e]; trivial⟩)
      (g := F0 m pc ls (vI len :: vI dp :: vR Γ k1 :: vI sp :: vR Γ k0 :: st)) rfl (by rw [hml]; exact hl.1) (rest := st) rfl (by rw [hb]; exact hd) (by omega) (by show 2 * 0 + _ + _ ≤ _; omega)
    have e1 := va_copied (fun z => Value.long z) (kA Γ 2) (kA Γ 2) (n0 := N0) (n1 := N1) (sp := sp.toNat) (dp := dp.toNat) (n := len.toNat) (fun j => Int64.ofInt (σ k0 (j : Int))) (fun j => Int64.ofInt (σ k1 (j : Int))) (by omega)
    have e2 : copied (arrV (kA Γ 2) N0 (fun j => .long (Int64.ofInt (σ k0 (j : Int))))) (arrV (kA Γ 2) N1 (fun j => .long (Int64.ofInt (σ k1 (j : Int))))) (Int32.ofInt sp) (Int32.ofInt dp) (Int32.ofInt len) = arrV (kA Γ 2) N1 (fun j => .long (Int64.ofInt (cpy σ k0 k1 sp dp len k1 (j : Int)))) := by
      unfold copied
      rw [c1, c2, c3, e1, cpy_fun (f := Int64.ofInt) hsp hdp hln]
    rw [e2] at X' step
    have hlt : kB Γ + k1 < T.heap.size := by rw [hT]; exact (Array.getElem?_eq_some_iff.mp hc1).1
    obtain ⟨t, a1, b1⟩ := done _ _ (by rw [wE_long h1]; exact heapAt_setCell_self _ hlt) (by rw [size_setCell]; exact congrArg Array.size hT) (fun q hq => by rw [heapAt_setCell_ne _ (Ne.symm hq)]; exact congrArg (fun h : Heap => h[q]?) hT) (fun q hq => by
        rcases List.mem_append.mp hq with h | h
        · exact hS q h
        · obtain ⟨z, -, hz⟩ := List.mem_map.mp h
          rw [← hz]; exact Nat.le_add_right _ _) _ rfl X'
    exact ⟨t, step t a1, b1⟩
end GM
end
section
section GG
variable {Γ : KT} {M : MI} {d : Nat} {B : Nat × Nat} {post : Option Value → St → Prop} {u : Nat × Nat} {pc : Nat} {L : List (Option Value)} {st : List Value} {n : Nat} {ρ : Nat → Nat → Nat} {σ : Nat → Int → Int}
/-- the outer row's references to the rows behind it -/
def grd (ρ : Nat → Nat → Nat) (n N : Nat) : Nat → Nat → Nat := fun a b => if a = n ∧ b < N then n + 1 + b + 1 else ρ a b
theorem grd_outer (c : ClassId) (N h0 : Nat) : ∀ i : Nat, Jvm.Free.Multi.outerC c N h0 i = arrV c N (fun j => va_rf (if j < i then some (h0 + 1 + j) else none))
  | 0 => by
    show ({ cls := c, slots := Array.replicate N .null, vm := .none } : Cell) = _
    rw [arrV_new]
    refine congrArg (arrV c N) (funext fun j => ?_)
    simp [va_rf]
  | i + 1 => by
    show (Jvm.Free.Multi.outerC c N h0 i).setSlot i (.ref (h0 + 1 + i)) = _
    rw [grd_outer c N h0 i, arrV_store]
    refine congrArg (arrV c N) (funext fun j => ?_)
    by_cases e : j = i
    · subst e
      simp [updV, va_rf]
    · by_cases h : j < i
      · simp [updV, e, h, Nat.lt_succ_of_lt h]
      · simp [updV, e, h, show ¬ j < i + 1 by omega]
theorem g_grid {idx t t' N K : Nat} {ty : FieldType} (ht : t = 5 ∧ t' = 1 ∧ ty = .int ∨ t = 6 ∧ t' = 2 ∧ ty = .long) (hs : shp n = (t, N)) (hrow : ∀ i, i < N → shp (n + 1 + i) = (t', K)) (hcl : Cond.classLink M.1.cls idx ("[" ++ (FieldType.array ty).toString) ∈ tblG) (hzr : ∀ k j, n ≤ k → ρ k j = 0) (hzs : ∀ k j, n ≤ k → σ k j = 0) (hN : N < 1000) (hK : K < 1000) (hd : decode M.2.1 pc = .ok (.multianewarray idx 2, 4)) (hu1 : u.1 + 1 + N ≤ B.1) (hu2 : u.2 + N + N * K ≤ B.2)
    (kk : G Γ M d B post (u.1 + 1 + N, u.2 + N + N * K) (pc + 4) L (vR Γ n :: st) (n + 1 + N, grd ρ n N, σ)) : G Γ M d B post u pc L (vI K :: vI N :: st) (n, ρ, σ) := by
  intro p e R s m args below meth cd Q H locs ls Cc F hl' hW hS
  obtain ⟨hx, hb, hml, hown, hts, hKS, hname, hR⟩ := id Cc
  have hz' : H.size = kB Γ + n := hW.1
  have rN : R32 (N : Int) := by omega
  have rK : R32 (K : Int) := by omega
  have cN : (Int32.ofInt (N : Int)).toNatClampNeg = N := by rw [z_clamp (by omega) rN]; omega
  have cK : (Int32.ofInt (K : Int)).toNatClampNeg = K := by rw [z_clamp (by omega) rK]; omega
  have hz0 : R32 0 := by omega
  have nN : ¬ Int32.ofInt (N : Int) < 0 := fun q => by have := (z_lt rN hz0).mp q; omega
  have nK : ¬ Int32.ofInt (K : Int) < 0 := fun q => by have := (z_lt rK hz0).mp q; omega
  have hover : (Cond.arrayOver (.array ty)).before args s = true := by
    rcases ht with ⟨-, -, rfl⟩ | ⟨-, -, rfl⟩
    · exact hKS.2.2.2.2.2.2.2.2.2.2.2 _ (Or.inl rfl)
    · exact hKS.2.2.2.2.2.2.2.2.2.2.2 _ (Or.inr rfl)
  have harr : (Cond.arrayClass ty).before args s = true := by
    rcases ht with ⟨-, -, rfl⟩ | ⟨-, -, rfl⟩
    · exact hts _ (memT arr_int rfl)
    · exact hts _ (memT arr_long rfl)
  have hnm : ("[" ++ (aty t).toString) = ("[" ++ (FieldType.array ty).toString) ∧ ("[" ++ (aty t').toString) = (FieldType.array ty).toString ∧ 1 ≤ t ∧ t ≤ 6 ∧ 1 ≤ t' ∧ t' ≤ 6 ∧ componentBytes ty ≤ 8 ∧ fits ty (defaultValue ty) = true ∧ (defaultValue ty).isDefault = true := by
    rcases ht with ⟨rfl, rfl, rfl⟩ | ⟨rfl, rfl, rfl⟩
    · exact ⟨rfl, rfl, by decide, by decide, by decide, by decide, by decide, rfl, rfl⟩
    · exact ⟨rfl, rfl, by decide, by decide, by decide, by decide, by decide, rfl, rfl⟩
  obtain ⟨e1, e2, a1, a2, a3, a4, hcb, hdf, hdd⟩ := hnm
  intro T hT Xs
  obtain ⟨vm₁, cA, comp, -, fA, fC, -, -, X', step⟩ := Xs.multianewarray2F hx hown (hts _ hcl) hover harr (g := F0 m pc ls (vI K :: vI N :: st)) rfl (by rw [hb]; exact hd) (n := Int32.ofInt N) (k := Int32.ofInt K) (rest := st) rfl nN nK (by rw [cN]; omega) (by rw [cK]; exact Nat.le_trans (Nat.mul_le_mul (Nat.le_of_lt hK) hcb) (by decide)) (by rw [cK]; omega) hdf hdd (by rw [cN]; omega) (by rw [cN, cK]; omega)
  rw [cN, cK] at X' step
  have kA1 : cA = kA Γ t := by
    have := (hKS.2.1 t a1 a2).2
    rw [e1] at this
    exact Option.some.inj (fA.symm.trans this)
  have kA2 : comp = kA Γ t' := by
    have := (hKS.2.1 t' a3 a4).2
    rw [e2] at this
    exact Option.some.inj (fC.symm.trans this)
  subst kA1; subst kA2
  generalize hF : Jvm.Free.Multi.fill (T.setVm vm₁) (kA Γ t) (kA Γ t') N K (defaultValue ty) N = Fs at X' step
  have hTh : (T.setVm vm₁).heap = H := hT
  obtain ⟨f1, f2, -, -⟩ := Jvm.Free.Multi.fill_facts (T.setVm vm₁) (kA Γ t) (kA Γ t') N K (defaultValue ty) N
  rw [hF, hTh] at f1 f2
  have hold : ∀ x : Nat, x < H.size → Fs.heap[x]? = H[x]? := fun x hx => by
    have := Jvm.Free.Multi.fill_old (T.setVm vm₁) (kA Γ t) (kA Γ t') N K (defaultValue ty) (a := x) (by rw [hTh]; exact hx) N
    rw [hF, hTh] at this
    exact this
  have hin : ∀ j : Nat, j < N → Fs.heap[H.size + 1 + j]? = some (Jvm.Free.Multi.innerC (kA Γ t') K (defaultValue ty)) := fun j hj => by
    have := Jvm.Free.Multi.fill_inner (T.setVm vm₁) (kA Γ t) (kA Γ t') N K (defaultValue ty) N j hj
    rw [hF, hTh] at this
    exact this
  rw [grd_outer] at f2
  have hinner : Jvm.Free.Multi.innerC (kA Γ t') K (defaultValue ty) = arrV (kA Γ t') K (fun _ => defaultValue ty) := arrV_new _ _ _
  rw [hinner] at hin
  rw [hT, hz'] at step
  have hWF : Wd Γ (n + 1 + N, grd ρ n N, σ) Fs.heap := by
    refine ⟨?_, fun k hk => ?_, fun q hq => ?_, hW.2.2.2⟩
    · show Fs.heap.size = kB Γ + (n + 1 + N)
      omega
    · have hk : k < n + 1 + N := hk
      by_cases h1 : k < n
      · have e : wE Γ (n + 1 + N, grd ρ n N, σ) k = wE Γ (n, ρ, σ) k := by
          have h2 : ∀ j, grd ρ n N k j = ρ k j := fun j => if_neg (fun q => by omega)
          unfold wE fsOf
          simp only [fval, h2]
        rw [e]
        exact (hW.2.1 k h1).kept (hold _ (show kB Γ + k < H.size by omega))
      · by_cases h2 : k = n
        · subst h2
          rw [wE_grid hs (by omega)]
          show Fs.heap[kB Γ + k]? = some (vp_cell _ _)
          rw [vp_cell_q, ← hz', f2]
          refine congrArg some ?_
          show arrV _ _ _ = arrV _ _ _
          unfold arrV
          congr 1
          refine congrArg Array.ofFn (funext fun j => ?_)
          show va_rf (if j.1 < N then some (H.size + 1 + j.1) else none) = va_rf (rfv Γ (grd ρ k N k j.1))
          have hj := j.2
          unfold rfv grd
          have hg : (if k = k ∧ j.1 < N then k + 1 + j.1 + 1 else ρ k j.1) = k + 1 + j.1 + 1 := if_pos ⟨rfl, hj⟩
          rw [if_pos hj, hg, if_neg (by omega)]
          refine congrArg va_rf (congrArg some ?_)
          omega
        · obtain ⟨i, hi, rfl⟩ : ∃ i, i < N ∧ k = n + 1 + i := ⟨k - n - 1, by omega, by omega⟩
          have hr := hin i hi
          have hr2 : Fs.heap[kB Γ + (n + 1 + i)]? = some (arrV (kA Γ t') K (fun _ => defaultValue ty)) := by
            rw [← hr]; congr 1; omega
          rcases ht with ⟨-, rfl, rfl⟩ | ⟨-, rfl, rfl⟩
          · rw [wE_int (hrow i hi) (by simp)]
            show Fs.heap[_]? = some (vp_cell _ _)
            rw [vp_cell_i, hr2]
            refine congrArg some (congrArg (arrV _ _) (funext fun j => ?_))
            show Value.int 0 = Value.int (Int32.ofInt (σ (n + 1 + i) j))
            rw [hzs _ _ (by omega)]; rfl
          · rw [wE_long (hrow i hi)]
            show Fs.heap[_]? = some (vp_cell _ _)
            rw [vp_cell_l, hr2]
            refine congrArg some (congrArg (arrV _ _) (funext fun j => ?_))
            show Value.long 0 = Value.long (Int64.ofInt (σ (n + 1 + i) j))
            rw [hzs _ _ (by omega)]; rfl
    · rw [hold q (by omega)]; exact hW.2.2.1 q hq
  have K2 := kk p e R s m args below meth cd Q Fs.heap locs ls Cc F hl' hWF hS
  obtain ⟨t2, b1, b2⟩ := K2 Fs rfl X'
  exact ⟨t2, step t2 b1, b2⟩
end GG
end
