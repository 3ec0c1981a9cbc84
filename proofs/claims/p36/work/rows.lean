section
-- ===== PART A: goes FIRST, ahead of the names: the tables' words, and 'selects' of the private methods out of them =====
/-- a private method of a class that the tables say can be made, by its rows of tables_1 -/
def lw_okq (q : MethodName × Nat) : Prop := (q.1.cls ≠ "java/lang/invoke/MethodHandle" ∧ q.1.cls ≠ "java/lang/invoke/VarHandle") ∧ Cond.instantiable q.1.cls q.2 ∈ tables_1 ∧ Cond.privateMethod q.1 ∈ tables_1 ∧ Cond.instanceMethod q.1 ∈ tables_1
theorem lw_p0 : lw_okq (⟨"AskedIn", "paceAt", "(II)I"⟩, 8) := ⟨⟨by decide +kernel, by decide +kernel⟩, List.mem_of_getElem? (i := 22) (by decide +kernel), List.mem_of_getElem? (i := 401) (by decide +kernel), List.mem_of_getElem? (i := 402) (by decide +kernel)⟩
theorem lw_p1 : lw_okq (⟨"AskedIn$Towns", "holds", "(II)Z"⟩, 7) := ⟨⟨by decide +kernel, by decide +kernel⟩, List.mem_of_getElem? (i := 217) (by decide +kernel), List.mem_of_getElem? (i := 414) (by decide +kernel), List.mem_of_getElem? (i := 415) (by decide +kernel)⟩
theorem lw_p2 : lw_okq (⟨"AskedIn$Text", "clause", "()V"⟩, 7) := ⟨⟨by decide +kernel, by decide +kernel⟩, List.mem_of_getElem? (i := 139) (by decide +kernel), List.mem_of_getElem? (i := 465) (by decide +kernel), List.mem_of_getElem? (i := 466) (by decide +kernel)⟩
theorem lw_p3 : lw_okq (⟨"AskedIn$Text", "take", "(C)Z"⟩, 7) := ⟨⟨by decide +kernel, by decide +kernel⟩, List.mem_of_getElem? (i := 139) (by decide +kernel), List.mem_of_getElem? (i := 469) (by decide +kernel), List.mem_of_getElem? (i := 470) (by decide +kernel)⟩
theorem lw_p4 : lw_okq (⟨"AskedIn$Text", "word", "(Ljava/lang/String;)V"⟩, 7) := ⟨⟨by decide +kernel, by decide +kernel⟩, List.mem_of_getElem? (i := 139) (by decide +kernel), List.mem_of_getElem? (i := 476) (by decide +kernel), List.mem_of_getElem? (i := 477) (by decide +kernel)⟩
theorem lw_p5 : lw_okq (⟨"AskedIn$Text", "number", "()I"⟩, 7) := ⟨⟨by decide +kernel, by decide +kernel⟩, List.mem_of_getElem? (i := 139) (by decide +kernel), List.mem_of_getElem? (i := 528) (by decide +kernel), List.mem_of_getElem? (i := 529) (by decide +kernel)⟩
theorem lw_p6 : lw_okq (⟨"AskedIn$Text", "choice", "(Ljava/lang/String;)I"⟩, 7) := ⟨⟨by decide +kernel, by decide +kernel⟩, List.mem_of_getElem? (i := 139) (by decide +kernel), List.mem_of_getElem? (i := 533) (by decide +kernel), List.mem_of_getElem? (i := 534) (by decide +kernel)⟩
theorem lw_p7 : lw_okq (⟨"AskedIn$Text", "either", "(I)V"⟩, 7) := ⟨⟨by decide +kernel, by decide +kernel⟩, List.mem_of_getElem? (i := 139) (by decide +kernel), List.mem_of_getElem? (i := 595) (by decide +kernel), List.mem_of_getElem? (i := 596) (by decide +kernel)⟩
theorem lw_p8 : lw_okq (⟨"AskedIn$Text", "part", "(I)V"⟩, 7) := ⟨⟨by decide +kernel, by decide +kernel⟩, List.mem_of_getElem? (i := 139) (by decide +kernel), List.mem_of_getElem? (i := 599) (by decide +kernel), List.mem_of_getElem? (i := 600) (by decide +kernel)⟩
theorem lw_p9 : lw_okq (⟨"AskedIn$Text", "note", "(II)V"⟩, 7) := ⟨⟨by decide +kernel, by decide +kernel⟩, List.mem_of_getElem? (i := 139) (by decide +kernel), List.mem_of_getElem? (i := 603) (by decide +kernel), List.mem_of_getElem? (i := 604) (by decide +kernel)⟩
theorem lw_p10 : lw_okq (⟨"AskedIn$Night", "isLet", "(I)Z"⟩, 10) := ⟨⟨by decide +kernel, by decide +kernel⟩, List.mem_of_getElem? (i := 289) (by decide +kernel), List.mem_of_getElem? (i := 652) (by decide +kernel), List.mem_of_getElem? (i := 653) (by decide +kernel)⟩
theorem lw_p11 : lw_okq (⟨"AskedIn$Night", "isLate", "(I)Z"⟩, 10) := ⟨⟨by decide +kernel, by decide +kernel⟩, List.mem_of_getElem? (i := 289) (by decide +kernel), List.mem_of_getElem? (i := 656) (by decide +kernel), List.mem_of_getElem? (i := 657) (by decide +kernel)⟩
theorem lw_p12 : lw_okq (⟨"AskedIn$Night", "isKnown", "(II)Z"⟩, 10) := ⟨⟨by decide +kernel, by decide +kernel⟩, List.mem_of_getElem? (i := 289) (by decide +kernel), List.mem_of_getElem? (i := 660) (by decide +kernel), List.mem_of_getElem? (i := 661) (by decide +kernel)⟩
theorem lw_p13 : lw_okq (⟨"AskedIn$Night", "pays", "(I)Z"⟩, 10) := ⟨⟨by decide +kernel, by decide +kernel⟩, List.mem_of_getElem? (i := 289) (by decide +kernel), List.mem_of_getElem? (i := 670) (by decide +kernel), List.mem_of_getElem? (i := 671) (by decide +kernel)⟩
theorem lw_p14 : lw_okq (⟨"AskedIn$Round", "swap", "(II)V"⟩, 5) := ⟨⟨by decide +kernel, by decide +kernel⟩, List.mem_of_getElem? (i := 261) (by decide +kernel), List.mem_of_getElem? (i := 720) (by decide +kernel), List.mem_of_getElem? (i := 721) (by decide +kernel)⟩
theorem lw_p15 : lw_okq (⟨"AskedIn$Questions", "insAt", "(II)I"⟩, 4) := ⟨⟨by decide +kernel, by decide +kernel⟩, List.mem_of_getElem? (i := 255) (by decide +kernel), List.mem_of_getElem? (i := 741) (by decide +kernel), List.mem_of_getElem? (i := 742) (by decide +kernel)⟩
def lw_privs_1 : List (MethodName × Nat) := [(⟨"AskedIn", "paceAt", "(II)I"⟩, 8), (⟨"AskedIn$Towns", "holds", "(II)Z"⟩, 7), (⟨"AskedIn$Text", "clause", "()V"⟩, 7), (⟨"AskedIn$Text", "take", "(C)Z"⟩, 7), (⟨"AskedIn$Text", "word", "(Ljava/lang/String;)V"⟩, 7), (⟨"AskedIn$Text", "number", "()I"⟩, 7), (⟨"AskedIn$Text", "choice", "(Ljava/lang/String;)I"⟩, 7), (⟨"AskedIn$Text", "either", "(I)V"⟩, 7), (⟨"AskedIn$Text", "part", "(I)V"⟩, 7), (⟨"AskedIn$Text", "note", "(II)V"⟩, 7), (⟨"AskedIn$Night", "isLet", "(I)Z"⟩, 10), (⟨"AskedIn$Night", "isLate", "(I)Z"⟩, 10), (⟨"AskedIn$Night", "isKnown", "(II)Z"⟩, 10), (⟨"AskedIn$Night", "pays", "(I)Z"⟩, 10), (⟨"AskedIn$Round", "swap", "(II)V"⟩, 5), (⟨"AskedIn$Questions", "insAt", "(II)I"⟩, 4)]
theorem lw_r1 : ∀ q ∈ lw_privs_1, lw_okq q := List.forall_mem_cons.mpr ⟨lw_p0, List.forall_mem_cons.mpr ⟨lw_p1, List.forall_mem_cons.mpr ⟨lw_p2, List.forall_mem_cons.mpr ⟨lw_p3, List.forall_mem_cons.mpr ⟨lw_p4, List.forall_mem_cons.mpr ⟨lw_p5, List.forall_mem_cons.mpr ⟨lw_p6, List.forall_mem_cons.mpr ⟨lw_p7, List.forall_mem_cons.mpr ⟨lw_p8, List.forall_mem_cons.mpr ⟨lw_p9, List.forall_mem_cons.mpr ⟨lw_p10, List.forall_mem_cons.mpr ⟨lw_p11, List.forall_mem_cons.mpr ⟨lw_p12, List.forall_mem_cons.mpr ⟨lw_p13, List.forall_mem_cons.mpr ⟨lw_p14, List.forall_mem_cons.mpr ⟨lw_p15, fun _ h => absurd h List.not_mem_nil⟩⟩⟩⟩⟩⟩⟩⟩⟩⟩⟩⟩⟩⟩⟩⟩
theorem lw_p16 : lw_okq (⟨"AskedIn$Questions", "walk", "(II)I"⟩, 4) := ⟨⟨by decide +kernel, by decide +kernel⟩, List.mem_of_getElem? (i := 255) (by decide +kernel), List.mem_of_getElem? (i := 758) (by decide +kernel), List.mem_of_getElem? (i := 759) (by decide +kernel)⟩
theorem lw_p17 : lw_okq (⟨"AskedIn$Questions", "apartAt", "(II)I"⟩, 4) := ⟨⟨by decide +kernel, by decide +kernel⟩, List.mem_of_getElem? (i := 255) (by decide +kernel), List.mem_of_getElem? (i := 793) (by decide +kernel), List.mem_of_getElem? (i := 794) (by decide +kernel)⟩
theorem lw_p18 : lw_okq (⟨"AskedIn$Acts", "call", "(IIII)I"⟩, 5) := ⟨⟨by decide +kernel, by decide +kernel⟩, List.mem_of_getElem? (i := 172) (by decide +kernel), List.mem_of_getElem? (i := 874) (by decide +kernel), List.mem_of_getElem? (i := 875) (by decide +kernel)⟩
theorem lw_p19 : lw_okq (⟨"AskedIn$Acts", "run", "(IIII)I"⟩, 5) := ⟨⟨by decide +kernel, by decide +kernel⟩, List.mem_of_getElem? (i := 172) (by decide +kernel), List.mem_of_getElem? (i := 883) (by decide +kernel), List.mem_of_getElem? (i := 884) (by decide +kernel)⟩
theorem lw_p20 : lw_okq (⟨"AskedIn$Acts", "note", "(I)V"⟩, 5) := ⟨⟨by decide +kernel, by decide +kernel⟩, List.mem_of_getElem? (i := 172) (by decide +kernel), List.mem_of_getElem? (i := 887) (by decide +kernel), List.mem_of_getElem? (i := 888) (by decide +kernel)⟩
theorem lw_p21 : lw_okq (⟨"AskedInModel", "in", "(III)Z"⟩, 70) := ⟨⟨by decide +kernel, by decide +kernel⟩, List.mem_of_getElem? (i := 939) (by decide +kernel), List.mem_of_getElem? (i := 1161) (by decide +kernel), List.mem_of_getElem? (i := 1162) (by decide +kernel)⟩
theorem lw_p22 : lw_okq (⟨"AskedInModel", "becomes", "(III)V"⟩, 70) := ⟨⟨by decide +kernel, by decide +kernel⟩, List.mem_of_getElem? (i := 939) (by decide +kernel), List.mem_of_getElem? (i := 1165) (by decide +kernel), List.mem_of_getElem? (i := 1166) (by decide +kernel)⟩
theorem lw_p23 : lw_okq (⟨"AskedInModel", "isHouse", "(I)Z"⟩, 70) := ⟨⟨by decide +kernel, by decide +kernel⟩, List.mem_of_getElem? (i := 939) (by decide +kernel), List.mem_of_getElem? (i := 1173) (by decide +kernel), List.mem_of_getElem? (i := 1174) (by decide +kernel)⟩
theorem lw_p24 : lw_okq (⟨"AskedInModel", "isFolk", "(I)Z"⟩, 70) := ⟨⟨by decide +kernel, by decide +kernel⟩, List.mem_of_getElem? (i := 939) (by decide +kernel), List.mem_of_getElem? (i := 1181) (by decide +kernel), List.mem_of_getElem? (i := 1182) (by decide +kernel)⟩
theorem lw_p25 : lw_okq (⟨"AskedInModel", "goesText", "(I)Z"⟩, 70) := ⟨⟨by decide +kernel, by decide +kernel⟩, List.mem_of_getElem? (i := 939) (by decide +kernel), List.mem_of_getElem? (i := 1213) (by decide +kernel), List.mem_of_getElem? (i := 1214) (by decide +kernel)⟩
theorem lw_p26 : lw_okq (⟨"AskedInModel", "takesClause", "(I)Z"⟩, 70) := ⟨⟨by decide +kernel, by decide +kernel⟩, List.mem_of_getElem? (i := 939) (by decide +kernel), List.mem_of_getElem? (i := 1217) (by decide +kernel), List.mem_of_getElem? (i := 1218) (by decide +kernel)⟩
theorem lw_p27 : lw_okq (⟨"AskedInModel", "takesHead", "(I)Z"⟩, 70) := ⟨⟨by decide +kernel, by decide +kernel⟩, List.mem_of_getElem? (i := 939) (by decide +kernel), List.mem_of_getElem? (i := 1221) (by decide +kernel), List.mem_of_getElem? (i := 1222) (by decide +kernel)⟩
theorem lw_p28 : lw_okq (⟨"AskedInModel", "peek", "()I"⟩, 70) := ⟨⟨by decide +kernel, by decide +kernel⟩, List.mem_of_getElem? (i := 939) (by decide +kernel), List.mem_of_getElem? (i := 1225) (by decide +kernel), List.mem_of_getElem? (i := 1226) (by decide +kernel)⟩
theorem lw_p29 : lw_okq (⟨"AskedInModel", "takesWord", "(II)Z"⟩, 70) := ⟨⟨by decide +kernel, by decide +kernel⟩, List.mem_of_getElem? (i := 939) (by decide +kernel), List.mem_of_getElem? (i := 1229) (by decide +kernel), List.mem_of_getElem? (i := 1230) (by decide +kernel)⟩
theorem lw_p30 : lw_okq (⟨"AskedInModel", "takes", "(I)Z"⟩, 70) := ⟨⟨by decide +kernel, by decide +kernel⟩, List.mem_of_getElem? (i := 939) (by decide +kernel), List.mem_of_getElem? (i := 1233) (by decide +kernel), List.mem_of_getElem? (i := 1234) (by decide +kernel)⟩
theorem lw_p31 : lw_okq (⟨"AskedInModel", "takesNumber", "()Z"⟩, 70) := ⟨⟨by decide +kernel, by decide +kernel⟩, List.mem_of_getElem? (i := 939) (by decide +kernel), List.mem_of_getElem? (i := 1237) (by decide +kernel), List.mem_of_getElem? (i := 1238) (by decide +kernel)⟩
def lw_privs_2 : List (MethodName × Nat) := [(⟨"AskedIn$Questions", "walk", "(II)I"⟩, 4), (⟨"AskedIn$Questions", "apartAt", "(II)I"⟩, 4), (⟨"AskedIn$Acts", "call", "(IIII)I"⟩, 5), (⟨"AskedIn$Acts", "run", "(IIII)I"⟩, 5), (⟨"AskedIn$Acts", "note", "(I)V"⟩, 5), (⟨"AskedInModel", "in", "(III)Z"⟩, 70), (⟨"AskedInModel", "becomes", "(III)V"⟩, 70), (⟨"AskedInModel", "isHouse", "(I)Z"⟩, 70), (⟨"AskedInModel", "isFolk", "(I)Z"⟩, 70), (⟨"AskedInModel", "goesText", "(I)Z"⟩, 70), (⟨"AskedInModel", "takesClause", "(I)Z"⟩, 70), (⟨"AskedInModel", "takesHead", "(I)Z"⟩, 70), (⟨"AskedInModel", "peek", "()I"⟩, 70), (⟨"AskedInModel", "takesWord", "(II)Z"⟩, 70), (⟨"AskedInModel", "takes", "(I)Z"⟩, 70), (⟨"AskedInModel", "takesNumber", "()Z"⟩, 70)]
theorem lw_r2 : ∀ q ∈ lw_privs_2, lw_okq q := List.forall_mem_cons.mpr ⟨lw_p16, List.forall_mem_cons.mpr ⟨lw_p17, List.forall_mem_cons.mpr ⟨lw_p18, List.forall_mem_cons.mpr ⟨lw_p19, List.forall_mem_cons.mpr ⟨lw_p20, List.forall_mem_cons.mpr ⟨lw_p21, List.forall_mem_cons.mpr ⟨lw_p22, List.forall_mem_cons.mpr ⟨lw_p23, List.forall_mem_cons.mpr ⟨lw_p24, List.forall_mem_cons.mpr ⟨lw_p25, List.forall_mem_cons.mpr ⟨lw_p26, List.forall_mem_cons.mpr ⟨lw_p27, List.forall_mem_cons.mpr ⟨lw_p28, List.forall_mem_cons.mpr ⟨lw_p29, List.forall_mem_cons.mpr ⟨lw_p30, List.forall_mem_cons.mpr ⟨lw_p31, fun _ h => absurd h List.not_mem_nil⟩⟩⟩⟩⟩⟩⟩⟩⟩⟩⟩⟩⟩⟩⟩⟩
theorem lw_p32 : lw_okq (⟨"AskedInModel", "isDigit", "()Z"⟩, 70) := ⟨⟨by decide +kernel, by decide +kernel⟩, List.mem_of_getElem? (i := 939) (by decide +kernel), List.mem_of_getElem? (i := 1241) (by decide +kernel), List.mem_of_getElem? (i := 1242) (by decide +kernel)⟩
theorem lw_p33 : lw_okq (⟨"AskedInModel", "takesE", "(I)Z"⟩, 70) := ⟨⟨by decide +kernel, by decide +kernel⟩, List.mem_of_getElem? (i := 939) (by decide +kernel), List.mem_of_getElem? (i := 1245) (by decide +kernel), List.mem_of_getElem? (i := 1246) (by decide +kernel)⟩
theorem lw_p34 : lw_okq (⟨"AskedInModel", "takesTest", "()Z"⟩, 70) := ⟨⟨by decide +kernel, by decide +kernel⟩, List.mem_of_getElem? (i := 939) (by decide +kernel), List.mem_of_getElem? (i := 1249) (by decide +kernel), List.mem_of_getElem? (i := 1250) (by decide +kernel)⟩
theorem lw_p35 : lw_okq (⟨"AskedInModel", "place", "(I)I"⟩, 70) := ⟨⟨by decide +kernel, by decide +kernel⟩, List.mem_of_getElem? (i := 939) (by decide +kernel), List.mem_of_getElem? (i := 1253) (by decide +kernel), List.mem_of_getElem? (i := 1254) (by decide +kernel)⟩
theorem lw_p36 : lw_okq (⟨"AskedInModel", "emits", "(I)V"⟩, 70) := ⟨⟨by decide +kernel, by decide +kernel⟩, List.mem_of_getElem? (i := 939) (by decide +kernel), List.mem_of_getElem? (i := 1257) (by decide +kernel), List.mem_of_getElem? (i := 1258) (by decide +kernel)⟩
theorem lw_p37 : lw_okq (⟨"AskedInModel", "whole", "()V"⟩, 70) := ⟨⟨by decide +kernel, by decide +kernel⟩, List.mem_of_getElem? (i := 939) (by decide +kernel), List.mem_of_getElem? (i := 1261) (by decide +kernel), List.mem_of_getElem? (i := 1262) (by decide +kernel)⟩
theorem lw_p38 : lw_okq (⟨"AskedInModel", "settle", "(I)V"⟩, 70) := ⟨⟨by decide +kernel, by decide +kernel⟩, List.mem_of_getElem? (i := 939) (by decide +kernel), List.mem_of_getElem? (i := 1265) (by decide +kernel), List.mem_of_getElem? (i := 1266) (by decide +kernel)⟩
theorem lw_p39 : lw_okq (⟨"AskedInModel", "begin", "()I"⟩, 70) := ⟨⟨by decide +kernel, by decide +kernel⟩, List.mem_of_getElem? (i := 939) (by decide +kernel), List.mem_of_getElem? (i := 1273) (by decide +kernel), List.mem_of_getElem? (i := 1274) (by decide +kernel)⟩
theorem lw_p40 : lw_okq (⟨"AskedInModel", "behind", "()I"⟩, 70) := ⟨⟨by decide +kernel, by decide +kernel⟩, List.mem_of_getElem? (i := 939) (by decide +kernel), List.mem_of_getElem? (i := 1277) (by decide +kernel), List.mem_of_getElem? (i := 1278) (by decide +kernel)⟩
theorem lw_p41 : lw_okq (⟨"AskedInModel", "slowOf", "(III)I"⟩, 70) := ⟨⟨by decide +kernel, by decide +kernel⟩, List.mem_of_getElem? (i := 939) (by decide +kernel), List.mem_of_getElem? (i := 1285) (by decide +kernel), List.mem_of_getElem? (i := 1286) (by decide +kernel)⟩
theorem lw_p42 : lw_okq (⟨"AskedInModel", "sumOf", "(IIIII)I"⟩, 70) := ⟨⟨by decide +kernel, by decide +kernel⟩, List.mem_of_getElem? (i := 939) (by decide +kernel), List.mem_of_getElem? (i := 1289) (by decide +kernel), List.mem_of_getElem? (i := 1290) (by decide +kernel)⟩
theorem lw_p43 : lw_okq (⟨"AskedInModel", "holds", "(IIII)Z"⟩, 70) := ⟨⟨by decide +kernel, by decide +kernel⟩, List.mem_of_getElem? (i := 939) (by decide +kernel), List.mem_of_getElem? (i := 1293) (by decide +kernel), List.mem_of_getElem? (i := 1294) (by decide +kernel)⟩
theorem lw_p44 : lw_okq (⟨"AskedInModel", "factOf", "(IIII)I"⟩, 70) := ⟨⟨by decide +kernel, by decide +kernel⟩, List.mem_of_getElem? (i := 939) (by decide +kernel), List.mem_of_getElem? (i := 1297) (by decide +kernel), List.mem_of_getElem? (i := 1298) (by decide +kernel)⟩
theorem lw_p45 : lw_okq (⟨"AskedInModel", "farOf", "(III)I"⟩, 70) := ⟨⟨by decide +kernel, by decide +kernel⟩, List.mem_of_getElem? (i := 939) (by decide +kernel), List.mem_of_getElem? (i := 1301) (by decide +kernel), List.mem_of_getElem? (i := 1302) (by decide +kernel)⟩
theorem lw_p46 : lw_okq (⟨"AskedInModel", "comesIn", "(III)Z"⟩, 70) := ⟨⟨by decide +kernel, by decide +kernel⟩, List.mem_of_getElem? (i := 939) (by decide +kernel), List.mem_of_getElem? (i := 1309) (by decide +kernel), List.mem_of_getElem? (i := 1310) (by decide +kernel)⟩
theorem lw_p47 : lw_okq (⟨"AskedInModel", "beginNight", "(II)V"⟩, 70) := ⟨⟨by decide +kernel, by decide +kernel⟩, List.mem_of_getElem? (i := 939) (by decide +kernel), List.mem_of_getElem? (i := 1313) (by decide +kernel), List.mem_of_getElem? (i := 1314) (by decide +kernel)⟩
def lw_privs_3 : List (MethodName × Nat) := [(⟨"AskedInModel", "isDigit", "()Z"⟩, 70), (⟨"AskedInModel", "takesE", "(I)Z"⟩, 70), (⟨"AskedInModel", "takesTest", "()Z"⟩, 70), (⟨"AskedInModel", "place", "(I)I"⟩, 70), (⟨"AskedInModel", "emits", "(I)V"⟩, 70), (⟨"AskedInModel", "whole", "()V"⟩, 70), (⟨"AskedInModel", "settle", "(I)V"⟩, 70), (⟨"AskedInModel", "begin", "()I"⟩, 70), (⟨"AskedInModel", "behind", "()I"⟩, 70), (⟨"AskedInModel", "slowOf", "(III)I"⟩, 70), (⟨"AskedInModel", "sumOf", "(IIIII)I"⟩, 70), (⟨"AskedInModel", "holds", "(IIII)Z"⟩, 70), (⟨"AskedInModel", "factOf", "(IIII)I"⟩, 70), (⟨"AskedInModel", "farOf", "(III)I"⟩, 70), (⟨"AskedInModel", "comesIn", "(III)Z"⟩, 70), (⟨"AskedInModel", "beginNight", "(II)V"⟩, 70)]
theorem lw_r3 : ∀ q ∈ lw_privs_3, lw_okq q := List.forall_mem_cons.mpr ⟨lw_p32, List.forall_mem_cons.mpr ⟨lw_p33, List.forall_mem_cons.mpr ⟨lw_p34, List.forall_mem_cons.mpr ⟨lw_p35, List.forall_mem_cons.mpr ⟨lw_p36, List.forall_mem_cons.mpr ⟨lw_p37, List.forall_mem_cons.mpr ⟨lw_p38, List.forall_mem_cons.mpr ⟨lw_p39, List.forall_mem_cons.mpr ⟨lw_p40, List.forall_mem_cons.mpr ⟨lw_p41, List.forall_mem_cons.mpr ⟨lw_p42, List.forall_mem_cons.mpr ⟨lw_p43, List.forall_mem_cons.mpr ⟨lw_p44, List.forall_mem_cons.mpr ⟨lw_p45, List.forall_mem_cons.mpr ⟨lw_p46, List.forall_mem_cons.mpr ⟨lw_p47, fun _ h => absurd h List.not_mem_nil⟩⟩⟩⟩⟩⟩⟩⟩⟩⟩⟩⟩⟩⟩⟩⟩
theorem lw_p48 : lw_okq (⟨"AskedInModel", "visits", "(I)Z"⟩, 70) := ⟨⟨by decide +kernel, by decide +kernel⟩, List.mem_of_getElem? (i := 939) (by decide +kernel), List.mem_of_getElem? (i := 1317) (by decide +kernel), List.mem_of_getElem? (i := 1318) (by decide +kernel)⟩
theorem lw_p49 : lw_okq (⟨"AskedInModel", "apart", "(II)I"⟩, 70) := ⟨⟨by decide +kernel, by decide +kernel⟩, List.mem_of_getElem? (i := 939) (by decide +kernel), List.mem_of_getElem? (i := 1321) (by decide +kernel), List.mem_of_getElem? (i := 1322) (by decide +kernel)⟩
theorem lw_p50 : lw_okq (⟨"AskedInModel", "has", "(II)Z"⟩, 70) := ⟨⟨by decide +kernel, by decide +kernel⟩, List.mem_of_getElem? (i := 939) (by decide +kernel), List.mem_of_getElem? (i := 1325) (by decide +kernel), List.mem_of_getElem? (i := 1326) (by decide +kernel)⟩
theorem lw_p51 : lw_okq (⟨"AskedInModel", "upBy", "(II)I"⟩, 70) := ⟨⟨by decide +kernel, by decide +kernel⟩, List.mem_of_getElem? (i := 939) (by decide +kernel), List.mem_of_getElem? (i := 1329) (by decide +kernel), List.mem_of_getElem? (i := 1330) (by decide +kernel)⟩
theorem lw_p52 : lw_okq (⟨"AskedInModel", "letsIn", "(I)Z"⟩, 70) := ⟨⟨by decide +kernel, by decide +kernel⟩, List.mem_of_getElem? (i := 939) (by decide +kernel), List.mem_of_getElem? (i := 1334) (by decide +kernel), List.mem_of_getElem? (i := 1335) (by decide +kernel)⟩
theorem lw_p53 : lw_okq (⟨"AskedInModel", "isProudly", "(I)Z"⟩, 70) := ⟨⟨by decide +kernel, by decide +kernel⟩, List.mem_of_getElem? (i := 939) (by decide +kernel), List.mem_of_getElem? (i := 1338) (by decide +kernel), List.mem_of_getElem? (i := 1339) (by decide +kernel)⟩
theorem lw_p54 : lw_okq (⟨"AskedInModel", "ones", "(I)I"⟩, 70) := ⟨⟨by decide +kernel, by decide +kernel⟩, List.mem_of_getElem? (i := 939) (by decide +kernel), List.mem_of_getElem? (i := 1342) (by decide +kernel), List.mem_of_getElem? (i := 1343) (by decide +kernel)⟩
theorem lw_p55 : lw_okq (⟨"AskedInModel", "pays", "(I)Z"⟩, 70) := ⟨⟨by decide +kernel, by decide +kernel⟩, List.mem_of_getElem? (i := 939) (by decide +kernel), List.mem_of_getElem? (i := 1346) (by decide +kernel), List.mem_of_getElem? (i := 1347) (by decide +kernel)⟩
theorem lw_p56 : lw_okq (⟨"AskedInModel", "layOrder", "(II)Z"⟩, 70) := ⟨⟨by decide +kernel, by decide +kernel⟩, List.mem_of_getElem? (i := 939) (by decide +kernel), List.mem_of_getElem? (i := 1362) (by decide +kernel), List.mem_of_getElem? (i := 1363) (by decide +kernel)⟩
theorem lw_p57 : lw_okq (⟨"AskedInModel", "pairsIn", "()I"⟩, 70) := ⟨⟨by decide +kernel, by decide +kernel⟩, List.mem_of_getElem? (i := 939) (by decide +kernel), List.mem_of_getElem? (i := 1374) (by decide +kernel), List.mem_of_getElem? (i := 1375) (by decide +kernel)⟩
theorem lw_p58 : lw_okq (⟨"AskedInModel", "walksTo", "(II)I"⟩, 70) := ⟨⟨by decide +kernel, by decide +kernel⟩, List.mem_of_getElem? (i := 939) (by decide +kernel), List.mem_of_getElem? (i := 1382) (by decide +kernel), List.mem_of_getElem? (i := 1383) (by decide +kernel)⟩
theorem lw_p59 : lw_okq (⟨"AskedInModel", "isLetIn", "(III)Z"⟩, 70) := ⟨⟨by decide +kernel, by decide +kernel⟩, List.mem_of_getElem? (i := 939) (by decide +kernel), List.mem_of_getElem? (i := 1386) (by decide +kernel), List.mem_of_getElem? (i := 1387) (by decide +kernel)⟩
theorem lw_p60 : lw_okq (⟨"AskedInModel", "lowest", "(III)J"⟩, 70) := ⟨⟨by decide +kernel, by decide +kernel⟩, List.mem_of_getElem? (i := 939) (by decide +kernel), List.mem_of_getElem? (i := 1412) (by decide +kernel), List.mem_of_getElem? (i := 1413) (by decide +kernel)⟩
theorem lw_p61 : lw_okq (⟨"AskedInModel", "divisor", "(II)I"⟩, 70) := ⟨⟨by decide +kernel, by decide +kernel⟩, List.mem_of_getElem? (i := 939) (by decide +kernel), List.mem_of_getElem? (i := 1416) (by decide +kernel), List.mem_of_getElem? (i := 1417) (by decide +kernel)⟩
theorem lw_p62 : lw_okq (⟨"AskedInModel", "isTape", "(I)Z"⟩, 70) := ⟨⟨by decide +kernel, by decide +kernel⟩, List.mem_of_getElem? (i := 939) (by decide +kernel), List.mem_of_getElem? (i := 1436) (by decide +kernel), List.mem_of_getElem? (i := 1437) (by decide +kernel)⟩
theorem lw_p63 : lw_okq (⟨"AskedInModel", "asksAct", "(II)I"⟩, 70) := ⟨⟨by decide +kernel, by decide +kernel⟩, List.mem_of_getElem? (i := 939) (by decide +kernel), List.mem_of_getElem? (i := 1452) (by decide +kernel), List.mem_of_getElem? (i := 1453) (by decide +kernel)⟩
def lw_privs_4 : List (MethodName × Nat) := [(⟨"AskedInModel", "visits", "(I)Z"⟩, 70), (⟨"AskedInModel", "apart", "(II)I"⟩, 70), (⟨"AskedInModel", "has", "(II)Z"⟩, 70), (⟨"AskedInModel", "upBy", "(II)I"⟩, 70), (⟨"AskedInModel", "letsIn", "(I)Z"⟩, 70), (⟨"AskedInModel", "isProudly", "(I)Z"⟩, 70), (⟨"AskedInModel", "ones", "(I)I"⟩, 70), (⟨"AskedInModel", "pays", "(I)Z"⟩, 70), (⟨"AskedInModel", "layOrder", "(II)Z"⟩, 70), (⟨"AskedInModel", "pairsIn", "()I"⟩, 70), (⟨"AskedInModel", "walksTo", "(II)I"⟩, 70), (⟨"AskedInModel", "isLetIn", "(III)Z"⟩, 70), (⟨"AskedInModel", "lowest", "(III)J"⟩, 70), (⟨"AskedInModel", "divisor", "(II)I"⟩, 70), (⟨"AskedInModel", "isTape", "(I)Z"⟩, 70), (⟨"AskedInModel", "asksAct", "(II)I"⟩, 70)]
theorem lw_r4 : ∀ q ∈ lw_privs_4, lw_okq q := List.forall_mem_cons.mpr ⟨lw_p48, List.forall_mem_cons.mpr ⟨lw_p49, List.forall_mem_cons.mpr ⟨lw_p50, List.forall_mem_cons.mpr ⟨lw_p51, List.forall_mem_cons.mpr ⟨lw_p52, List.forall_mem_cons.mpr ⟨lw_p53, List.forall_mem_cons.mpr ⟨lw_p54, List.forall_mem_cons.mpr ⟨lw_p55, List.forall_mem_cons.mpr ⟨lw_p56, List.forall_mem_cons.mpr ⟨lw_p57, List.forall_mem_cons.mpr ⟨lw_p58, List.forall_mem_cons.mpr ⟨lw_p59, List.forall_mem_cons.mpr ⟨lw_p60, List.forall_mem_cons.mpr ⟨lw_p61, List.forall_mem_cons.mpr ⟨lw_p62, List.forall_mem_cons.mpr ⟨lw_p63, fun _ h => absurd h List.not_mem_nil⟩⟩⟩⟩⟩⟩⟩⟩⟩⟩⟩⟩⟩⟩⟩⟩
theorem lw_p64 : lw_okq (⟨"AskedInModel", "body", "(I)V"⟩, 70) := ⟨⟨by decide +kernel, by decide +kernel⟩, List.mem_of_getElem? (i := 939) (by decide +kernel), List.mem_of_getElem? (i := 1456) (by decide +kernel), List.mem_of_getElem? (i := 1457) (by decide +kernel)⟩
theorem lw_p65 : lw_okq (⟨"AskedInModel", "houseAsks", "(II)I"⟩, 70) := ⟨⟨by decide +kernel, by decide +kernel⟩, List.mem_of_getElem? (i := 939) (by decide +kernel), List.mem_of_getElem? (i := 1460) (by decide +kernel), List.mem_of_getElem? (i := 1461) (by decide +kernel)⟩
theorem lw_p66 : lw_okq (⟨"AskedInModel", "opensAct", "(II)I"⟩, 70) := ⟨⟨by decide +kernel, by decide +kernel⟩, List.mem_of_getElem? (i := 939) (by decide +kernel), List.mem_of_getElem? (i := 1464) (by decide +kernel), List.mem_of_getElem? (i := 1465) (by decide +kernel)⟩
theorem lw_p67 : lw_okq (⟨"AskedInModel", "lonelyOpens", "(II)I"⟩, 70) := ⟨⟨by decide +kernel, by decide +kernel⟩, List.mem_of_getElem? (i := 939) (by decide +kernel), List.mem_of_getElem? (i := 1468) (by decide +kernel), List.mem_of_getElem? (i := 1469) (by decide +kernel)⟩
theorem lw_p68 : lw_okq (⟨"AskedInModel", "houseOpens", "(II)I"⟩, 70) := ⟨⟨by decide +kernel, by decide +kernel⟩, List.mem_of_getElem? (i := 939) (by decide +kernel), List.mem_of_getElem? (i := 1472) (by decide +kernel), List.mem_of_getElem? (i := 1473) (by decide +kernel)⟩
theorem lw_p69 : lw_okq (⟨"AskedInModel", "tellsAct", "(II)I"⟩, 70) := ⟨⟨by decide +kernel, by decide +kernel⟩, List.mem_of_getElem? (i := 939) (by decide +kernel), List.mem_of_getElem? (i := 1476) (by decide +kernel), List.mem_of_getElem? (i := 1477) (by decide +kernel)⟩
theorem lw_p70 : lw_okq (⟨"AskedInModel", "houseTells", "(II)I"⟩, 70) := ⟨⟨by decide +kernel, by decide +kernel⟩, List.mem_of_getElem? (i := 939) (by decide +kernel), List.mem_of_getElem? (i := 1480) (by decide +kernel), List.mem_of_getElem? (i := 1481) (by decide +kernel)⟩
theorem lw_p71 : lw_okq (⟨"AskedInModel", "narrow", "(IJ)J"⟩, 70) := ⟨⟨by decide +kernel, by decide +kernel⟩, List.mem_of_getElem? (i := 939) (by decide +kernel), List.mem_of_getElem? (i := 1504) (by decide +kernel), List.mem_of_getElem? (i := 1505) (by decide +kernel)⟩
def lw_privs_5 : List (MethodName × Nat) := [(⟨"AskedInModel", "body", "(I)V"⟩, 70), (⟨"AskedInModel", "houseAsks", "(II)I"⟩, 70), (⟨"AskedInModel", "opensAct", "(II)I"⟩, 70), (⟨"AskedInModel", "lonelyOpens", "(II)I"⟩, 70), (⟨"AskedInModel", "houseOpens", "(II)I"⟩, 70), (⟨"AskedInModel", "tellsAct", "(II)I"⟩, 70), (⟨"AskedInModel", "houseTells", "(II)I"⟩, 70), (⟨"AskedInModel", "narrow", "(IJ)J"⟩, 70)]
theorem lw_r5 : ∀ q ∈ lw_privs_5, lw_okq q := List.forall_mem_cons.mpr ⟨lw_p64, List.forall_mem_cons.mpr ⟨lw_p65, List.forall_mem_cons.mpr ⟨lw_p66, List.forall_mem_cons.mpr ⟨lw_p67, List.forall_mem_cons.mpr ⟨lw_p68, List.forall_mem_cons.mpr ⟨lw_p69, List.forall_mem_cons.mpr ⟨lw_p70, List.forall_mem_cons.mpr ⟨lw_p71, fun _ h => absurd h List.not_mem_nil⟩⟩⟩⟩⟩⟩⟩⟩
def lw_privs : List (MethodName × Nat) := lw_privs_1 ++ (lw_privs_2 ++ (lw_privs_3 ++ (lw_privs_4 ++ (lw_privs_5))))
def lw_tbl : List Cond := k2_sels lw_privs ++ tables_1
theorem lw_privs_ok : ∀ q ∈ lw_privs, lw_okq q := by
  show ∀ q ∈ lw_privs_1 ++ (lw_privs_2 ++ (lw_privs_3 ++ (lw_privs_4 ++ (lw_privs_5)))), lw_okq q
  exact List.forall_mem_append.mpr ⟨lw_r1, List.forall_mem_append.mpr ⟨lw_r2, List.forall_mem_append.mpr ⟨lw_r3, List.forall_mem_append.mpr ⟨lw_r4, lw_r5⟩⟩⟩⟩
-- ===== end of PART A; then your names; then what follows =====
end
section
def RX0 : String := "AskedIn$Acts"
def TX0 : u_T := fun k => match k with
  | 0 => ("AskedIn$Acts", "begun", "[I", true)
  | 1 => ("AskedIn$Acts", "ran", "I", false)
  | 2 => ("AskedIn$Acts", "number", "I", false)
  | 3 => ("AskedIn$Acts", "kind", "I", false)
  | _ => ("AskedIn$Acts", "v", "I", false)
def tyX0 : Nat → FieldType := fun k => match k with
  | 0 => .array .int
  | 1 => .int
  | 2 => .int
  | 3 => .int
  | _ => .int
abbrev wsX00 : List Cond := u_ws RX0 TX0 5
theorem nmX0 : ∀ a, a < 5 → ∀ b, b < 5 → a ≠ b → (TX0 a).2.1 ≠ (TX0 b).2.1 := by decide +kernel
theorem tyX0_ok : ∀ k, k < 5 → parseFieldDescriptor (TX0 k).2.2.1 = some (tyX0 k) := by decide +kernel
abbrev cX0_init : ByteArray := prog_2_method_1_code
def yX0_init : MethodName := ⟨RX0, "<init>", "()V"⟩
abbrev cX0_forget : ByteArray := prog_2_method_2_code
def yX0_forget : MethodName := ⟨RX0, "forget", "()V"⟩
abbrev cX0_begun : ByteArray := prog_2_method_3_code
def yX0_begun : MethodName := ⟨RX0, "begun", "(I)I"⟩
abbrev cX0_start : ByteArray := prog_2_method_4_code
def yX0_start : MethodName := ⟨RX0, "start", "(LAskedIn$Street;III)I"⟩
abbrev cX0_call : ByteArray := prog_2_method_5_code
def yX0_call : MethodName := ⟨RX0, "call", "(IIII)I"⟩
abbrev cX0_run : ByteArray := prog_2_method_6_code
def yX0_run : MethodName := ⟨RX0, "run", "(IIII)I"⟩
abbrev cX0_note : ByteArray := prog_2_method_7_code
def yX0_note : MethodName := ⟨RX0, "note", "(I)V"⟩
def RX1 : String := "AskedIn$Night"
def TX1 : u_T := fun k => match k with
  | 0 => ("AskedIn$Night", "street", "LAskedIn$Street;", true)
  | 1 => ("AskedIn$Night", "towns", "LAskedIn$Towns;", true)
  | 2 => ("AskedIn$Night", "fars", "[I", true)
  | 3 => ("AskedIn$Night", "countings", "[I", true)
  | 4 => ("AskedIn$Night", "one", "I", false)
  | 5 => ("AskedIn$Night", "place", "I", false)
  | 6 => ("AskedIn$Night", "counted", "I", false)
  | 7 => ("AskedIn$Night", "minute", "I", false)
  | 8 => ("AskedIn$Night", "coins", "I", false)
  | _ => ("AskedIn$Night", "in", "I", false)
def tyX1 : Nat → FieldType := fun k => match k with
  | 0 => .object "AskedIn$Street"
  | 1 => .object "AskedIn$Towns"
  | 2 => .array .int
  | 3 => .array .int
  | 4 => .int
  | 5 => .int
  | 6 => .int
  | 7 => .int
  | 8 => .int
  | _ => .int
abbrev wsX10 : List Cond := u_ws RX1 TX1 10
theorem nmX1 : ∀ a, a < 10 → ∀ b, b < 10 → a ≠ b → (TX1 a).2.1 ≠ (TX1 b).2.1 := by decide +kernel
theorem tyX1_ok : ∀ k, k < 10 → parseFieldDescriptor (TX1 k).2.2.1 = some (tyX1 k) := by decide +kernel
abbrev cX1_init : ByteArray := prog_3_method_1_code
def yX1_init : MethodName := ⟨RX1, "<init>", "(LAskedIn$Street;LAskedIn$Towns;)V"⟩
abbrev cX1_measure : ByteArray := prog_3_method_2_code
def yX1_measure : MethodName := ⟨RX1, "measure", "(III)V"⟩
abbrev cX1_begin : ByteArray := prog_3_method_3_code
def yX1_begin : MethodName := ⟨RX1, "begin", "(II)V"⟩
abbrev cX1_reach : ByteArray := prog_3_method_4_code
def yX1_reach : MethodName := ⟨RX1, "reach", "(I)Z"⟩
abbrev cX1_isLetIn : ByteArray := prog_3_method_5_code
def yX1_isLetIn : MethodName := ⟨RX1, "isLetIn", "(III)Z"⟩
abbrev cX1_isLet : ByteArray := prog_3_method_6_code
def yX1_isLet : MethodName := ⟨RX1, "isLet", "(I)Z"⟩
abbrev cX1_isLate : ByteArray := prog_3_method_7_code
def yX1_isLate : MethodName := ⟨RX1, "isLate", "(I)Z"⟩
abbrev cX1_isKnown : ByteArray := prog_3_method_8_code
def yX1_isKnown : MethodName := ⟨RX1, "isKnown", "(II)Z"⟩
abbrev cX1_pays : ByteArray := prog_3_method_9_code
def yX1_pays : MethodName := ⟨RX1, "pays", "(I)Z"⟩
def RX2 : String := "AskedIn$Questions"
def TX2 : u_T := fun k => match k with
  | 0 => ("AskedIn$Questions", "street", "LAskedIn$Street;", true)
  | 1 => ("AskedIn$Questions", "towns", "LAskedIn$Towns;", true)
  | 2 => ("AskedIn$Questions", "night", "LAskedIn$Night;", true)
  | _ => ("AskedIn$Questions", "best", "LAskedIn$Round;", true)
def tyX2 : Nat → FieldType := fun k => match k with
  | 0 => .object "AskedIn$Street"
  | 1 => .object "AskedIn$Towns"
  | 2 => .object "AskedIn$Night"
  | _ => .object "AskedIn$Round"
abbrev wsX20 : List Cond := u_ws RX2 TX2 4
theorem nmX2 : ∀ a, a < 4 → ∀ b, b < 4 → a ≠ b → (TX2 a).2.1 ≠ (TX2 b).2.1 := by decide +kernel
theorem tyX2_ok : ∀ k, k < 4 → parseFieldDescriptor (TX2 k).2.2.1 = some (tyX2 k) := by decide +kernel
abbrev cX2_init : ByteArray := prog_4_method_1_code
def yX2_init : MethodName := ⟨RX2, "<init>", "(LAskedIn$Street;LAskedIn$Towns;)V"⟩
abbrev cX2_comesIn : ByteArray := prog_4_method_2_code
def yX2_comesIn : MethodName := ⟨RX2, "comesIn", "(III)Z"⟩
abbrev cX2_followPlan : ByteArray := prog_4_method_3_code
def yX2_followPlan : MethodName := ⟨RX2, "followPlan", "(I)I"⟩
abbrev cX2_bestRound : ByteArray := prog_4_method_4_code
def yX2_bestRound : MethodName := ⟨RX2, "bestRound", "(II)LAskedIn$Round;"⟩
abbrev cX2_leastGrain : ByteArray := prog_4_method_5_code
def yX2_leastGrain : MethodName := ⟨RX2, "leastGrain", "(II)I"⟩
abbrev cX2_houseToStrew : ByteArray := prog_4_method_6_code
def yX2_houseToStrew : MethodName := ⟨RX2, "houseToStrew", "(I)I"⟩
abbrev cX2_pairsAfter : ByteArray := prog_4_method_7_code
def yX2_pairsAfter : MethodName := ⟨RX2, "pairsAfter", "(II)I"⟩
abbrev cX2_insAt : ByteArray := prog_4_method_8_code
def yX2_insAt : MethodName := ⟨RX2, "insAt", "(II)I"⟩
abbrev cX2_doneTogether : ByteArray := prog_4_method_9_code
def yX2_doneTogether : MethodName := ⟨RX2, "doneTogether", "(III)I"⟩
abbrev cX2_walk : ByteArray := prog_4_method_10_code
def yX2_walk : MethodName := ⟨RX2, "walk", "(II)I"⟩
abbrev cX2_whoBits : ByteArray := prog_4_method_11_code
def yX2_whoBits : MethodName := ⟨RX2, "whoBits", "()I"⟩
abbrev cX2_houseToWatch : ByteArray := prog_4_method_12_code
def yX2_houseToWatch : MethodName := ⟨RX2, "houseToWatch", "()I"⟩
abbrev cX2_apartAt : ByteArray := prog_4_method_13_code
def yX2_apartAt : MethodName := ⟨RX2, "apartAt", "(II)I"⟩
abbrev cX2_leastStart : ByteArray := prog_4_method_14_code
def yX2_leastStart : MethodName := ⟨RX2, "leastStart", "(II)I"⟩
abbrev cX2_goodStarts : ByteArray := prog_4_method_15_code
def yX2_goodStarts : MethodName := ⟨RX2, "goodStarts", "(II)I"⟩
abbrev cX2_minutesOfAll : ByteArray := prog_4_method_16_code
def yX2_minutesOfAll : MethodName := ⟨RX2, "minutesOfAll", "(I)I"⟩
abbrev cX2_firstKeptOut : ByteArray := prog_4_method_17_code
def yX2_firstKeptOut : MethodName := ⟨RX2, "firstKeptOut", "()I"⟩
def RX3 : String := "AskedIn$Round"
def TX3 : u_T := fun k => match k with
  | 0 => ("AskedIn$Round", "row", "[I", true)
  | 1 => ("AskedIn$Round", "order", "[I", true)
  | 2 => ("AskedIn$Round", "size", "I", false)
  | 3 => ("AskedIn$Round", "ins", "I", false)
  | _ => ("AskedIn$Round", "minute", "I", false)
def tyX3 : Nat → FieldType := fun k => match k with
  | 0 => .array .int
  | 1 => .array .int
  | 2 => .int
  | 3 => .int
  | _ => .int
abbrev wsX30 : List Cond := u_ws RX3 TX3 5
theorem nmX3 : ∀ a, a < 5 → ∀ b, b < 5 → a ≠ b → (TX3 a).2.1 ≠ (TX3 b).2.1 := by decide +kernel
theorem tyX3_ok : ∀ k, k < 5 → parseFieldDescriptor (TX3 k).2.2.1 = some (tyX3 k) := by decide +kernel
abbrev cX3_init : ByteArray := prog_5_method_1_code
def yX3_init : MethodName := ⟨RX3, "<init>", "()V"⟩
abbrev cX3_start : ByteArray := prog_5_method_2_code
def yX3_start : MethodName := ⟨RX3, "start", "(I)V"⟩
abbrev cX3_weigh : ByteArray := prog_5_method_3_code
def yX3_weigh : MethodName := ⟨RX3, "weigh", "(II)V"⟩
abbrev cX3_advance : ByteArray := prog_5_method_4_code
def yX3_advance : MethodName := ⟨RX3, "advance", "()Z"⟩
abbrev cX3_swap : ByteArray := prog_5_method_5_code
def yX3_swap : MethodName := ⟨RX3, "swap", "(II)V"⟩
def RX4 : String := "AskedIn$Rows"
def TX4 : u_T := fun k => match k with
  | 0 => ("AskedIn$Rows", "firsts", "[I", true)
  | 1 => ("AskedIn$Rows", "seconds", "[I", true)
  | _ => ("AskedIn$Rows", "size", "I", false)
def tyX4 : Nat → FieldType := fun k => match k with
  | 0 => .array .int
  | 1 => .array .int
  | _ => .int
abbrev wsX40 : List Cond := u_ws RX4 TX4 3
theorem nmX4 : ∀ a, a < 3 → ∀ b, b < 3 → a ≠ b → (TX4 a).2.1 ≠ (TX4 b).2.1 := by decide +kernel
theorem tyX4_ok : ∀ k, k < 3 → parseFieldDescriptor (TX4 k).2.2.1 = some (tyX4 k) := by decide +kernel
abbrev cX4_init : ByteArray := prog_6_method_1_code
def yX4_init : MethodName := ⟨RX4, "<init>", "(I)V"⟩
abbrev cX4_add : ByteArray := prog_6_method_2_code
def yX4_add : MethodName := ⟨RX4, "add", "(II)I"⟩
abbrev cX4_empty : ByteArray := prog_6_method_3_code
def yX4_empty : MethodName := ⟨RX4, "empty", "()I"⟩
abbrev cX4_copy : ByteArray := prog_6_method_4_code
def yX4_copy : MethodName := ⟨RX4, "copy", "(LAskedIn$Rows;)V"⟩
def RX5 : String := "AskedIn$Street"
def TX5 : u_T := fun k => match k with
  | 0 => ("AskedIn$Street", "houses", "I", false)
  | 1 => ("AskedIn$Street", "kinds", "[I", true)
  | 2 => ("AskedIn$Street", "numbers", "[I", true)
  | 3 => ("AskedIn$Street", "grains", "[I", true)
  | 4 => ("AskedIn$Street", "asked", "[I", true)
  | 5 => ("AskedIn$Street", "rows", "[I", true)
  | 6 => ("AskedIn$Street", "folks", "I", false)
  | 7 => ("AskedIn$Street", "sacks", "[I", true)
  | 8 => ("AskedIn$Street", "purses", "[I", true)
  | 9 => ("AskedIn$Street", "quicknesses", "[I", true)
  | 10 => ("AskedIn$Street", "plan", "LAskedIn$Rows;", true)
  | 11 => ("AskedIn$Street", "watched", "LAskedIn$Rows;", true)
  | 12 => ("AskedIn$Street", "visits", "LAskedIn$Rows;", true)
  | _ => ("AskedIn$Street", "held", "I", false)
def tyX5 : Nat → FieldType := fun k => match k with
  | 0 => .int
  | 1 => .array .int
  | 2 => .array .int
  | 3 => .array .int
  | 4 => .array .int
  | 5 => .array .int
  | 6 => .int
  | 7 => .array .int
  | 8 => .array .int
  | 9 => .array .int
  | 10 => .object "AskedIn$Rows"
  | 11 => .object "AskedIn$Rows"
  | 12 => .object "AskedIn$Rows"
  | _ => .int
abbrev wsX50 : List Cond := u_ws RX5 TX5 14
theorem nmX5 : ∀ a, a < 14 → ∀ b, b < 14 → a ≠ b → (TX5 a).2.1 ≠ (TX5 b).2.1 := by decide +kernel
theorem tyX5_ok : ∀ k, k < 14 → parseFieldDescriptor (TX5 k).2.2.1 = some (tyX5 k) := by decide +kernel
abbrev cX5_init : ByteArray := prog_7_method_1_code
def yX5_init : MethodName := ⟨RX5, "<init>", "()V"⟩
abbrev cX5_hasHouse : ByteArray := prog_7_method_2_code
def yX5_hasHouse : MethodName := ⟨RX5, "hasHouse", "(I)Z"⟩
abbrev cX5_hasFolk : ByteArray := prog_7_method_3_code
def yX5_hasFolk : MethodName := ⟨RX5, "hasFolk", "(I)Z"⟩
abbrev cX5_build : ByteArray := prog_7_method_4_code
def yX5_build : MethodName := ⟨RX5, "build", "(III)I"⟩
abbrev cX5_settle : ByteArray := prog_7_method_5_code
def yX5_settle : MethodName := ⟨RX5, "settle", "(III)V"⟩
abbrev cX5_wake : ByteArray := prog_7_method_6_code
def yX5_wake : MethodName := ⟨RX5, "wake", "(III)I"⟩
abbrev cX5_copy : ByteArray := prog_7_method_7_code
def yX5_copy : MethodName := ⟨RX5, "copy", "(LAskedIn$Street;)V"⟩
def RX6 : String := "AskedIn$Tapes"
def TX6 : u_T := fun k => match k with
  | 0 => ("AskedIn$Tapes", "items", "[[J", true)
  | 1 => ("AskedIn$Tapes", "sizes", "[I", true)
  | _ => ("AskedIn$Tapes", "sorts", "[I", true)
def tyX6 : Nat → FieldType := fun k => match k with
  | 0 => .array (.array .long)
  | 1 => .array .int
  | _ => .array .int
abbrev wsX60 : List Cond := u_ws RX6 TX6 3
theorem nmX6 : ∀ a, a < 3 → ∀ b, b < 3 → a ≠ b → (TX6 a).2.1 ≠ (TX6 b).2.1 := by decide +kernel
theorem tyX6_ok : ∀ k, k < 3 → parseFieldDescriptor (TX6 k).2.2.1 = some (tyX6 k) := by decide +kernel
abbrev cX6_init : ByteArray := prog_8_method_1_code
def yX6_init : MethodName := ⟨RX6, "<init>", "()V"⟩
abbrev cX6_become : ByteArray := prog_8_method_2_code
def yX6_become : MethodName := ⟨RX6, "become", "(III)I"⟩
abbrev cX6_cut : ByteArray := prog_8_method_3_code
def yX6_cut : MethodName := ⟨RX6, "cut", "(IJ)J"⟩
def RX7 : String := "AskedIn$Text"
def TX7 : u_T := fun k => match k with
  | 0 => ("AskedIn$Text", "signs", "[B", true)
  | 1 => ("AskedIn$Text", "length", "I", false)
  | 2 => ("AskedIn$Text", "at", "I", false)
  | 3 => ("AskedIn$Text", "fault", "I", false)
  | 4 => ("AskedIn$Text", "tokens", "[I", false)
  | 5 => ("AskedIn$Text", "noted", "I", false)
  | _ => ("AskedIn$Text", "dawn", "I", false)
def tyX7 : Nat → FieldType := fun k => match k with
  | 0 => .array .byte
  | 1 => .int
  | 2 => .int
  | 3 => .int
  | 4 => .array .int
  | 5 => .int
  | _ => .int
abbrev wsX70 : List Cond := u_ws RX7 TX7 7
theorem nmX7 : ∀ a, a < 7 → ∀ b, b < 7 → a ≠ b → (TX7 a).2.1 ≠ (TX7 b).2.1 := by decide +kernel
theorem tyX7_ok : ∀ k, k < 7 → parseFieldDescriptor (TX7 k).2.2.1 = some (tyX7 k) := by decide +kernel
abbrev cX7_init : ByteArray := prog_9_method_1_code
def yX7_init : MethodName := ⟨RX7, "<init>", "()V"⟩
abbrev cX7_add : ByteArray := prog_9_method_2_code
def yX7_add : MethodName := ⟨RX7, "add", "(I)I"⟩
abbrev cX7_compile : ByteArray := prog_9_method_3_code
def yX7_compile : MethodName := ⟨RX7, "compile", "([I)V"⟩
abbrev cX7_clause : ByteArray := prog_9_method_4_code
def yX7_clause : MethodName := ⟨RX7, "clause", "()V"⟩
abbrev cX7_either : ByteArray := prog_9_method_5_code
def yX7_either : MethodName := ⟨RX7, "either", "(I)V"⟩
abbrev cX7_part : ByteArray := prog_9_method_6_code
def yX7_part : MethodName := ⟨RX7, "part", "(I)V"⟩
abbrev cX7_number : ByteArray := prog_9_method_7_code
def yX7_number : MethodName := ⟨RX7, "number", "()I"⟩
abbrev cX7_word : ByteArray := prog_9_method_8_code
def yX7_word : MethodName := ⟨RX7, "word", "(Ljava/lang/String;)V"⟩
abbrev cX7_choice : ByteArray := prog_9_method_9_code
def yX7_choice : MethodName := ⟨RX7, "choice", "(Ljava/lang/String;)I"⟩
abbrev cX7_take : ByteArray := prog_9_method_10_code
def yX7_take : MethodName := ⟨RX7, "take", "(C)Z"⟩
abbrev cX7_note : ByteArray := prog_9_method_11_code
def yX7_note : MethodName := ⟨RX7, "note", "(II)V"⟩
def RX8 : String := "AskedIn$Token"
def TX8 : u_T := fun k => match k with
  | _ => ("", "", "", false)
def tyX8 : Nat → FieldType := fun k => match k with
  | _ => .int
abbrev wsX80 : List Cond := u_ws RX8 TX8 0
theorem nmX8 : ∀ a, a < 0 → ∀ b, b < 0 → a ≠ b → (TX8 a).2.1 ≠ (TX8 b).2.1 := by decide +kernel
theorem tyX8_ok : ∀ k, k < 0 → parseFieldDescriptor (TX8 k).2.2.1 = some (tyX8 k) := by decide +kernel
def RX9 : String := "AskedIn$Towns"
def TX9 : u_T := fun k => match k with
  | 0 => ("AskedIn$Towns", "tokens", "[[I", true)
  | 1 => ("AskedIn$Towns", "lengths", "[I", true)
  | 2 => ("AskedIn$Towns", "dawns", "[I", true)
  | 3 => ("AskedIn$Towns", "size", "I", false)
  | 4 => ("AskedIn$Towns", "letters", "[I", true)
  | 5 => ("AskedIn$Towns", "slow", "I", false)
  | _ => ("AskedIn$Towns", "far", "I", false)
def tyX9 : Nat → FieldType := fun k => match k with
  | 0 => .array (.array .int)
  | 1 => .array .int
  | 2 => .array .int
  | 3 => .int
  | 4 => .array .int
  | 5 => .int
  | _ => .int
abbrev wsX90 : List Cond := u_ws RX9 TX9 7
theorem nmX9 : ∀ a, a < 7 → ∀ b, b < 7 → a ≠ b → (TX9 a).2.1 ≠ (TX9 b).2.1 := by decide +kernel
theorem tyX9_ok : ∀ k, k < 7 → parseFieldDescriptor (TX9 k).2.2.1 = some (tyX9 k) := by decide +kernel
abbrev cX9_init : ByteArray := prog_11_method_1_code
def yX9_init : MethodName := ⟨RX9, "<init>", "()V"⟩
abbrev cX9_add : ByteArray := prog_11_method_2_code
def yX9_add : MethodName := ⟨RX9, "add", "(II)I"⟩
abbrev cX9_dawnOf : ByteArray := prog_11_method_3_code
def yX9_dawnOf : MethodName := ⟨RX9, "dawnOf", "(I)I"⟩
abbrev cX9_weigh : ByteArray := prog_11_method_4_code
def yX9_weigh : MethodName := ⟨RX9, "weigh", "(LAskedIn$Street;III)V"⟩
abbrev cX9_holds : ByteArray := prog_11_method_5_code
def yX9_holds : MethodName := ⟨RX9, "holds", "(II)Z"⟩
def RX10 : String := "AskedIn"
def TX10 : u_T := fun k => match k with
  | 0 => ("AskedIn", "now", "LAskedIn$Street;", true)
  | 1 => ("AskedIn", "kept", "LAskedIn$Street;", true)
  | 2 => ("AskedIn", "hasImage", "Z", false)
  | 3 => ("AskedIn", "text", "LAskedIn$Text;", true)
  | 4 => ("AskedIn", "towns", "LAskedIn$Towns;", true)
  | 5 => ("AskedIn", "questions", "LAskedIn$Questions;", true)
  | 6 => ("AskedIn", "acts", "LAskedIn$Acts;", true)
  | _ => ("AskedIn", "tapes", "LAskedIn$Tapes;", true)
def tyX10 : Nat → FieldType := fun k => match k with
  | 0 => .object "AskedIn$Street"
  | 1 => .object "AskedIn$Street"
  | 2 => .boolean
  | 3 => .object "AskedIn$Text"
  | 4 => .object "AskedIn$Towns"
  | 5 => .object "AskedIn$Questions"
  | 6 => .object "AskedIn$Acts"
  | _ => .object "AskedIn$Tapes"
abbrev wsX100 : List Cond := u_ws RX10 TX10 8
theorem nmX10 : ∀ a, a < 8 → ∀ b, b < 8 → a ≠ b → (TX10 a).2.1 ≠ (TX10 b).2.1 := by decide +kernel
theorem tyX10_ok : ∀ k, k < 8 → parseFieldDescriptor (TX10 k).2.2.1 = some (tyX10 k) := by decide +kernel
abbrev cX10_init : ByteArray := prog_1_method_1_code
def yX10_init : MethodName := ⟨RX10, "<init>", "()V"⟩
abbrev cX10_house : ByteArray := prog_1_method_2_code
def yX10_house : MethodName := ⟨RX10, "house", "(III)I"⟩
abbrev cX10_folk : ByteArray := prog_1_method_3_code
def yX10_folk : MethodName := ⟨RX10, "folk", "(III)I"⟩
abbrev cX10_of : ByteArray := prog_1_method_4_code
def yX10_of : MethodName := ⟨RX10, "of", "(II)I"⟩
abbrev cX10_who : ByteArray := prog_1_method_5_code
def yX10_who : MethodName := ⟨RX10, "who", "(II)I"⟩
abbrev cX10_strew : ByteArray := prog_1_method_6_code
def yX10_strew : MethodName := ⟨RX10, "strew", "(II)I"⟩
abbrev cX10_ask : ByteArray := prog_1_method_7_code
def yX10_ask : MethodName := ⟨RX10, "ask", "(IIZ)I"⟩
abbrev cX10_sack : ByteArray := prog_1_method_8_code
def yX10_sack : MethodName := ⟨RX10, "sack", "(II)I"⟩
abbrev cX10_sell : ByteArray := prog_1_method_9_code
def yX10_sell : MethodName := ⟨RX10, "sell", "(III)I"⟩
abbrev cX10_row : ByteArray := prog_1_method_10_code
def yX10_row : MethodName := ⟨RX10, "row", "(III)I"⟩
abbrev cX10_feed : ByteArray := prog_1_method_11_code
def yX10_feed : MethodName := ⟨RX10, "feed", "(I)I"⟩
abbrev cX10_town : ByteArray := prog_1_method_12_code
def yX10_town : MethodName := ⟨RX10, "town", "()I"⟩
abbrev cX10_dawn : ByteArray := prog_1_method_13_code
def yX10_dawn : MethodName := ⟨RX10, "dawn", "()I"⟩
abbrev cX10_visit : ByteArray := prog_1_method_14_code
def yX10_visit : MethodName := ⟨RX10, "visit", "(III)I"⟩
abbrev cX10_way : ByteArray := prog_1_method_15_code
def yX10_way : MethodName := ⟨RX10, "way", "(I)I"⟩
abbrev cX10_goes : ByteArray := prog_1_method_16_code
def yX10_goes : MethodName := ⟨RX10, "goes", "(II)I"⟩
abbrev cX10_round : ByteArray := prog_1_method_17_code
def yX10_round : MethodName := ⟨RX10, "round", "(III)I"⟩
abbrev cX10_keep : ByteArray := prog_1_method_18_code
def yX10_keep : MethodName := ⟨RX10, "keep", "(II)I"⟩
abbrev cX10_more : ByteArray := prog_1_method_19_code
def yX10_more : MethodName := ⟨RX10, "more", "(II)I"⟩
abbrev cX10_share : ByteArray := prog_1_method_20_code
def yX10_share : MethodName := ⟨RX10, "share", "(IIII)I"⟩
abbrev cX10_watch : ByteArray := prog_1_method_21_code
def yX10_watch : MethodName := ⟨RX10, "watch", "(IZ)I"⟩
abbrev cX10_suspects : ByteArray := prog_1_method_22_code
def yX10_suspects : MethodName := ⟨RX10, "suspects", "()I"⟩
abbrev cX10_next : ByteArray := prog_1_method_23_code
def yX10_next : MethodName := ⟨RX10, "next", "()I"⟩
abbrev cX10_when : ByteArray := prog_1_method_24_code
def yX10_when : MethodName := ⟨RX10, "when", "(II)I"⟩
abbrev cX10_odds : ByteArray := prog_1_method_25_code
def yX10_odds : MethodName := ⟨RX10, "odds", "(III)J"⟩
abbrev cX10_mean : ByteArray := prog_1_method_26_code
def yX10_mean : MethodName := ⟨RX10, "mean", "(II)J"⟩
abbrev cX10_book : ByteArray := prog_1_method_27_code
def yX10_book : MethodName := ⟨RX10, "book", "(II)I"⟩
abbrev cX10_looked : ByteArray := prog_1_method_28_code
def yX10_looked : MethodName := ⟨RX10, "looked", "()I"⟩
abbrev cX10_judge : ByteArray := prog_1_method_29_code
def yX10_judge : MethodName := ⟨RX10, "judge", "(II)I"⟩
abbrev cX10_image : ByteArray := prog_1_method_30_code
def yX10_image : MethodName := ⟨RX10, "image", "()I"⟩
abbrev cX10_undo : ByteArray := prog_1_method_31_code
def yX10_undo : MethodName := ⟨RX10, "undo", "()I"⟩
abbrev cX10_act : ByteArray := prog_1_method_32_code
def yX10_act : MethodName := ⟨RX10, "act", "(III)I"⟩
abbrev cX10_trace : ByteArray := prog_1_method_33_code
def yX10_trace : MethodName := ⟨RX10, "trace", "(I)I"⟩
abbrev cX10_taken : ByteArray := prog_1_method_34_code
def yX10_taken : MethodName := ⟨RX10, "taken", "(II)I"⟩
abbrev cX10_count : ByteArray := prog_1_method_35_code
def yX10_count : MethodName := ⟨RX10, "count", "(I)I"⟩
abbrev cX10_tape : ByteArray := prog_1_method_36_code
def yX10_tape : MethodName := ⟨RX10, "tape", "(III)I"⟩
abbrev cX10_item : ByteArray := prog_1_method_37_code
def yX10_item : MethodName := ⟨RX10, "item", "(IIJ)I"⟩
abbrev cX10_read : ByteArray := prog_1_method_38_code
def yX10_read : MethodName := ⟨RX10, "read", "(II)J"⟩
abbrev cX10_shift : ByteArray := prog_1_method_39_code
def yX10_shift : MethodName := ⟨RX10, "shift", "(IIIII)I"⟩
abbrev cX10_paceAt : ByteArray := prog_1_method_40_code
def yX10_paceAt : MethodName := ⟨RX10, "paceAt", "(II)I"⟩
abbrev cX10_isUpTo : ByteArray := prog_1_method_41_code
def yX10_isUpTo : MethodName := ⟨RX10, "isUpTo", "(II)Z"⟩
abbrev cX10_bit : ByteArray := prog_1_method_42_code
def yX10_bit : MethodName := ⟨RX10, "bit", "(II)I"⟩
abbrev cX10_withBit : ByteArray := prog_1_method_43_code
def yX10_withBit : MethodName := ⟨RX10, "withBit", "(IIZ)I"⟩
abbrev cX10_isUnder : ByteArray := prog_1_method_44_code
def yX10_isUnder : MethodName := ⟨RX10, "isUnder", "(II)Z"⟩
abbrev cX10_roundedUp : ByteArray := prog_1_method_45_code
def yX10_roundedUp : MethodName := ⟨RX10, "roundedUp", "(II)I"⟩
abbrev cX10_sideOfFraction : ByteArray := prog_1_method_46_code
def yX10_sideOfFraction : MethodName := ⟨RX10, "sideOfFraction", "(JJI)J"⟩
def RX11 : String := "AskedInModel"
def TX11 : u_T := fun k => match k with
  | 0 => ("AskedInModel", "houses", "I", false)
  | 1 => ("AskedInModel", "folks", "I", false)
  | 2 => ("AskedInModel", "kind", "[I", true)
  | 3 => ("AskedInModel", "v", "[I", true)
  | 4 => ("AskedInModel", "grain", "[I", true)
  | 5 => ("AskedInModel", "asked", "[I", true)
  | 6 => ("AskedInModel", "rows", "[I", true)
  | 7 => ("AskedInModel", "sack", "[I", true)
  | 8 => ("AskedInModel", "coins", "[I", true)
  | 9 => ("AskedInModel", "quick", "[I", true)
  | 10 => ("AskedInModel", "towns", "I", false)
  | 11 => ("AskedInModel", "the", "I", false)
  | 12 => ("AskedInModel", "fed", "I", false)
  | 13 => ("AskedInModel", "at", "I", false)
  | 14 => ("AskedInModel", "digits", "I", false)
  | 15 => ("AskedInModel", "text", "[I", true)
  | 16 => ("AskedInModel", "clauses", "[I", true)
  | 17 => ("AskedInModel", "word", "[I", true)
  | 18 => ("AskedInModel", "number", "[I", true)
  | 19 => ("AskedInModel", "from", "[I", true)
  | 20 => ("AskedInModel", "to", "[I", true)
  | 21 => ("AskedInModel", "sign", "[I", true)
  | 22 => ("AskedInModel", "waits", "[I", true)
  | 23 => ("AskedInModel", "signs", "I", false)
  | 24 => ("AskedInModel", "waiting", "I", false)
  | 25 => ("AskedInModel", "open", "I", false)
  | 26 => ("AskedInModel", "letters", "[I", true)
  | 27 => ("AskedInModel", "pile", "[Z", true)
  | 28 => ("AskedInModel", "whose", "I", false)
  | 29 => ("AskedInModel", "minute", "I", false)
  | 30 => ("AskedInModel", "stands", "I", false)
  | 31 => ("AskedInModel", "purse", "I", false)
  | 32 => ("AskedInModel", "been", "I", false)
  | 33 => ("AskedInModel", "inside", "I", false)
  | 34 => ("AskedInModel", "ways", "I", false)
  | 35 => ("AskedInModel", "way", "[I", true)
  | 36 => ("AskedInModel", "order", "[I", true)
  | 37 => ("AskedInModel", "bestOrder", "[I", true)
  | 38 => ("AskedInModel", "watched", "I", false)
  | 39 => ("AskedInModel", "watchHouse", "[I", true)
  | 40 => ("AskedInModel", "watchIn", "[Z", true)
  | 41 => ("AskedInModel", "books", "I", false)
  | 42 => ("AskedInModel", "bookFolk", "[I", true)
  | 43 => ("AskedInModel", "bookHouse", "[I", true)
  | 44 => ("AskedInModel", "hasImage", "Z", false)
  | 45 => ("AskedInModel", "imageThe", "I", false)
  | 46 => ("AskedInModel", "imageHouses", "I", false)
  | 47 => ("AskedInModel", "imageFolks", "I", false)
  | 48 => ("AskedInModel", "imageWays", "I", false)
  | 49 => ("AskedInModel", "imageWatched", "I", false)
  | 50 => ("AskedInModel", "imageBooks", "I", false)
  | 51 => ("AskedInModel", "imageKind", "[I", true)
  | 52 => ("AskedInModel", "imageV", "[I", true)
  | 53 => ("AskedInModel", "imageGrain", "[I", true)
  | 54 => ("AskedInModel", "imageAsked", "[I", true)
  | 55 => ("AskedInModel", "imageRows", "[I", true)
  | 56 => ("AskedInModel", "imageSack", "[I", true)
  | 57 => ("AskedInModel", "imageCoins", "[I", true)
  | 58 => ("AskedInModel", "imageQuick", "[I", true)
  | 59 => ("AskedInModel", "imageWay", "[I", true)
  | 60 => ("AskedInModel", "imageWatch", "[I", true)
  | 61 => ("AskedInModel", "imageFolk", "[I", true)
  | 62 => ("AskedInModel", "imageHouse", "[I", true)
  | 63 => ("AskedInModel", "imageIn", "[Z", true)
  | 64 => ("AskedInModel", "ran", "I", false)
  | 65 => ("AskedInModel", "bodies", "[I", true)
  | 66 => ("AskedInModel", "sort", "[I", true)
  | 67 => ("AskedInModel", "length", "[I", true)
  | 68 => ("AskedInModel", "item", "[J", true)
  | _ => ("AskedInModel", "aside", "[J", true)
def tyX11 : Nat → FieldType := fun k => match k with
  | 0 => .int
  | 1 => .int
  | 2 => .array .int
  | 3 => .array .int
  | 4 => .array .int
  | 5 => .array .int
  | 6 => .array .int
  | 7 => .array .int
  | 8 => .array .int
  | 9 => .array .int
  | 10 => .int
  | 11 => .int
  | 12 => .int
  | 13 => .int
  | 14 => .int
  | 15 => .array .int
  | 16 => .array .int
  | 17 => .array .int
  | 18 => .array .int
  | 19 => .array .int
  | 20 => .array .int
  | 21 => .array .int
  | 22 => .array .int
  | 23 => .int
  | 24 => .int
  | 25 => .int
  | 26 => .array .int
  | 27 => .array .boolean
  | 28 => .int
  | 29 => .int
  | 30 => .int
  | 31 => .int
  | 32 => .int
  | 33 => .int
  | 34 => .int
  | 35 => .array .int
  | 36 => .array .int
  | 37 => .array .int
  | 38 => .int
  | 39 => .array .int
  | 40 => .array .boolean
  | 41 => .int
  | 42 => .array .int
  | 43 => .array .int
  | 44 => .boolean
  | 45 => .int
  | 46 => .int
  | 47 => .int
  | 48 => .int
  | 49 => .int
  | 50 => .int
  | 51 => .array .int
  | 52 => .array .int
  | 53 => .array .int
  | 54 => .array .int
  | 55 => .array .int
  | 56 => .array .int
  | 57 => .array .int
  | 58 => .array .int
  | 59 => .array .int
  | 60 => .array .int
  | 61 => .array .int
  | 62 => .array .int
  | 63 => .array .boolean
  | 64 => .int
  | 65 => .array .int
  | 66 => .array .int
  | 67 => .array .int
  | 68 => .array .long
  | _ => .array .long
abbrev wsX110 : List Cond := u_ws RX11 TX11 70
theorem nmX11 : ∀ a, a < 70 → ∀ b, b < 70 → a ≠ b → (TX11 a).2.1 ≠ (TX11 b).2.1 := by decide +kernel
theorem tyX11_ok : ∀ k, k < 70 → parseFieldDescriptor (TX11 k).2.2.1 = some (tyX11 k) := by decide +kernel
abbrev cX11_init : ByteArray := prog_13_method_1_code
def yX11_init : MethodName := ⟨RX11, "<init>", "()V"⟩
abbrev cX11_in : ByteArray := prog_13_method_2_code
def yX11_in : MethodName := ⟨RX11, "in", "(III)Z"⟩
abbrev cX11_has : ByteArray := prog_13_method_3_code
def yX11_has : MethodName := ⟨RX11, "has", "(II)Z"⟩
abbrev cX11_ones : ByteArray := prog_13_method_4_code
def yX11_ones : MethodName := ⟨RX11, "ones", "(I)I"⟩
abbrev cX11_isHouse : ByteArray := prog_13_method_5_code
def yX11_isHouse : MethodName := ⟨RX11, "isHouse", "(I)Z"⟩
abbrev cX11_isFolk : ByteArray := prog_13_method_6_code
def yX11_isFolk : MethodName := ⟨RX11, "isFolk", "(I)Z"⟩
abbrev cX11_becomes : ByteArray := prog_13_method_7_code
def yX11_becomes : MethodName := ⟨RX11, "becomes", "(III)V"⟩
abbrev cX11_house : ByteArray := prog_13_method_8_code
def yX11_house : MethodName := ⟨RX11, "house", "(III)I"⟩
abbrev cX11_folk : ByteArray := prog_13_method_9_code
def yX11_folk : MethodName := ⟨RX11, "folk", "(III)I"⟩
abbrev cX11_who : ByteArray := prog_13_method_10_code
def yX11_who : MethodName := ⟨RX11, "who", "(II)I"⟩
abbrev cX11_strew : ByteArray := prog_13_method_11_code
def yX11_strew : MethodName := ⟨RX11, "strew", "(II)I"⟩
abbrev cX11_ask : ByteArray := prog_13_method_12_code
def yX11_ask : MethodName := ⟨RX11, "ask", "(IIZ)I"⟩
abbrev cX11_sack : ByteArray := prog_13_method_13_code
def yX11_sack : MethodName := ⟨RX11, "sack", "(II)I"⟩
abbrev cX11_sell : ByteArray := prog_13_method_14_code
def yX11_sell : MethodName := ⟨RX11, "sell", "(III)I"⟩
abbrev cX11_row : ByteArray := prog_13_method_15_code
def yX11_row : MethodName := ⟨RX11, "row", "(III)I"⟩
abbrev cX11_feed : ByteArray := prog_13_method_16_code
def yX11_feed : MethodName := ⟨RX11, "feed", "(I)I"⟩
abbrev cX11_peek : ByteArray := prog_13_method_17_code
def yX11_peek : MethodName := ⟨RX11, "peek", "()I"⟩
abbrev cX11_takes : ByteArray := prog_13_method_18_code
def yX11_takes : MethodName := ⟨RX11, "takes", "(I)Z"⟩
abbrev cX11_takesWord : ByteArray := prog_13_method_19_code
def yX11_takesWord : MethodName := ⟨RX11, "takesWord", "(II)Z"⟩
abbrev cX11_isDigit : ByteArray := prog_13_method_20_code
def yX11_isDigit : MethodName := ⟨RX11, "isDigit", "()Z"⟩
abbrev cX11_takesNumber : ByteArray := prog_13_method_21_code
def yX11_takesNumber : MethodName := ⟨RX11, "takesNumber", "()Z"⟩
abbrev cX11_emits : ByteArray := prog_13_method_22_code
def yX11_emits : MethodName := ⟨RX11, "emits", "(I)V"⟩
abbrev cX11_whole : ByteArray := prog_13_method_23_code
def yX11_whole : MethodName := ⟨RX11, "whole", "()V"⟩
abbrev cX11_settle : ByteArray := prog_13_method_24_code
def yX11_settle : MethodName := ⟨RX11, "settle", "(I)V"⟩
abbrev cX11_place : ByteArray := prog_13_method_25_code
def yX11_place : MethodName := ⟨RX11, "place", "(I)I"⟩
abbrev cX11_takesTest : ByteArray := prog_13_method_26_code
def yX11_takesTest : MethodName := ⟨RX11, "takesTest", "()Z"⟩
abbrev cX11_takesE : ByteArray := prog_13_method_27_code
def yX11_takesE : MethodName := ⟨RX11, "takesE", "(I)Z"⟩
abbrev cX11_takesHead : ByteArray := prog_13_method_28_code
def yX11_takesHead : MethodName := ⟨RX11, "takesHead", "(I)Z"⟩
abbrev cX11_takesClause : ByteArray := prog_13_method_29_code
def yX11_takesClause : MethodName := ⟨RX11, "takesClause", "(I)Z"⟩
abbrev cX11_goesText : ByteArray := prog_13_method_30_code
def yX11_goesText : MethodName := ⟨RX11, "goesText", "(I)Z"⟩
abbrev cX11_town : ByteArray := prog_13_method_31_code
def yX11_town : MethodName := ⟨RX11, "town", "()I"⟩
abbrev cX11_begin : ByteArray := prog_13_method_32_code
def yX11_begin : MethodName := ⟨RX11, "begin", "()I"⟩
abbrev cX11_behind : ByteArray := prog_13_method_33_code
def yX11_behind : MethodName := ⟨RX11, "behind", "()I"⟩
abbrev cX11_dawn : ByteArray := prog_13_method_34_code
def yX11_dawn : MethodName := ⟨RX11, "dawn", "()I"⟩
abbrev cX11_factOf : ByteArray := prog_13_method_35_code
def yX11_factOf : MethodName := ⟨RX11, "factOf", "(IIII)I"⟩
abbrev cX11_holds : ByteArray := prog_13_method_36_code
def yX11_holds : MethodName := ⟨RX11, "holds", "(IIII)Z"⟩
abbrev cX11_sumOf : ByteArray := prog_13_method_37_code
def yX11_sumOf : MethodName := ⟨RX11, "sumOf", "(IIIII)I"⟩
abbrev cX11_slowOf : ByteArray := prog_13_method_38_code
def yX11_slowOf : MethodName := ⟨RX11, "slowOf", "(III)I"⟩
abbrev cX11_farOf : ByteArray := prog_13_method_39_code
def yX11_farOf : MethodName := ⟨RX11, "farOf", "(III)I"⟩
abbrev cX11_of : ByteArray := prog_13_method_40_code
def yX11_of : MethodName := ⟨RX11, "of", "(II)I"⟩
abbrev cX11_beginNight : ByteArray := prog_13_method_41_code
def yX11_beginNight : MethodName := ⟨RX11, "beginNight", "(II)V"⟩
abbrev cX11_isProudly : ByteArray := prog_13_method_42_code
def yX11_isProudly : MethodName := ⟨RX11, "isProudly", "(I)Z"⟩
abbrev cX11_letsIn : ByteArray := prog_13_method_43_code
def yX11_letsIn : MethodName := ⟨RX11, "letsIn", "(I)Z"⟩
abbrev cX11_pays : ByteArray := prog_13_method_44_code
def yX11_pays : MethodName := ⟨RX11, "pays", "(I)Z"⟩
abbrev cX11_apart : ByteArray := prog_13_method_45_code
def yX11_apart : MethodName := ⟨RX11, "apart", "(II)I"⟩
abbrev cX11_upBy : ByteArray := prog_13_method_46_code
def yX11_upBy : MethodName := ⟨RX11, "upBy", "(II)I"⟩
abbrev cX11_visits : ByteArray := prog_13_method_47_code
def yX11_visits : MethodName := ⟨RX11, "visits", "(I)Z"⟩
abbrev cX11_comesIn : ByteArray := prog_13_method_48_code
def yX11_comesIn : MethodName := ⟨RX11, "comesIn", "(III)Z"⟩
abbrev cX11_visit : ByteArray := prog_13_method_49_code
def yX11_visit : MethodName := ⟨RX11, "visit", "(III)I"⟩
abbrev cX11_way : ByteArray := prog_13_method_50_code
def yX11_way : MethodName := ⟨RX11, "way", "(I)I"⟩
abbrev cX11_goes : ByteArray := prog_13_method_51_code
def yX11_goes : MethodName := ⟨RX11, "goes", "(II)I"⟩
abbrev cX11_layOrder : ByteArray := prog_13_method_52_code
def yX11_layOrder : MethodName := ⟨RX11, "layOrder", "(II)Z"⟩
abbrev cX11_round : ByteArray := prog_13_method_53_code
def yX11_round : MethodName := ⟨RX11, "round", "(III)I"⟩
abbrev cX11_keep : ByteArray := prog_13_method_54_code
def yX11_keep : MethodName := ⟨RX11, "keep", "(II)I"⟩
abbrev cX11_pairsIn : ByteArray := prog_13_method_55_code
def yX11_pairsIn : MethodName := ⟨RX11, "pairsIn", "()I"⟩
abbrev cX11_more : ByteArray := prog_13_method_56_code
def yX11_more : MethodName := ⟨RX11, "more", "(II)I"⟩
abbrev cX11_walksTo : ByteArray := prog_13_method_57_code
def yX11_walksTo : MethodName := ⟨RX11, "walksTo", "(II)I"⟩
abbrev cX11_isLetIn : ByteArray := prog_13_method_58_code
def yX11_isLetIn : MethodName := ⟨RX11, "isLetIn", "(III)Z"⟩
abbrev cX11_share : ByteArray := prog_13_method_59_code
def yX11_share : MethodName := ⟨RX11, "share", "(IIII)I"⟩
abbrev cX11_watch : ByteArray := prog_13_method_60_code
def yX11_watch : MethodName := ⟨RX11, "watch", "(IZ)I"⟩
abbrev cX11_suspects : ByteArray := prog_13_method_61_code
def yX11_suspects : MethodName := ⟨RX11, "suspects", "()I"⟩
abbrev cX11_next : ByteArray := prog_13_method_62_code
def yX11_next : MethodName := ⟨RX11, "next", "()I"⟩
abbrev cX11_when : ByteArray := prog_13_method_63_code
def yX11_when : MethodName := ⟨RX11, "when", "(II)I"⟩
abbrev cX11_divisor : ByteArray := prog_13_method_64_code
def yX11_divisor : MethodName := ⟨RX11, "divisor", "(II)I"⟩
abbrev cX11_lowest : ByteArray := prog_13_method_65_code
def yX11_lowest : MethodName := ⟨RX11, "lowest", "(III)J"⟩
abbrev cX11_odds : ByteArray := prog_13_method_66_code
def yX11_odds : MethodName := ⟨RX11, "odds", "(III)J"⟩
abbrev cX11_mean : ByteArray := prog_13_method_67_code
def yX11_mean : MethodName := ⟨RX11, "mean", "(II)J"⟩
abbrev cX11_book : ByteArray := prog_13_method_68_code
def yX11_book : MethodName := ⟨RX11, "book", "(II)I"⟩
abbrev cX11_looked : ByteArray := prog_13_method_69_code
def yX11_looked : MethodName := ⟨RX11, "looked", "()I"⟩
abbrev cX11_judge : ByteArray := prog_13_method_70_code
def yX11_judge : MethodName := ⟨RX11, "judge", "(II)I"⟩
abbrev cX11_image : ByteArray := prog_13_method_71_code
def yX11_image : MethodName := ⟨RX11, "image", "()I"⟩
abbrev cX11_undo : ByteArray := prog_13_method_72_code
def yX11_undo : MethodName := ⟨RX11, "undo", "()I"⟩
abbrev cX11_body : ByteArray := prog_13_method_73_code
def yX11_body : MethodName := ⟨RX11, "body", "(I)V"⟩
abbrev cX11_houseAsks : ByteArray := prog_13_method_74_code
def yX11_houseAsks : MethodName := ⟨RX11, "houseAsks", "(II)I"⟩
abbrev cX11_asksAct : ByteArray := prog_13_method_75_code
def yX11_asksAct : MethodName := ⟨RX11, "asksAct", "(II)I"⟩
abbrev cX11_houseOpens : ByteArray := prog_13_method_76_code
def yX11_houseOpens : MethodName := ⟨RX11, "houseOpens", "(II)I"⟩
abbrev cX11_lonelyOpens : ByteArray := prog_13_method_77_code
def yX11_lonelyOpens : MethodName := ⟨RX11, "lonelyOpens", "(II)I"⟩
abbrev cX11_opensAct : ByteArray := prog_13_method_78_code
def yX11_opensAct : MethodName := ⟨RX11, "opensAct", "(II)I"⟩
abbrev cX11_houseTells : ByteArray := prog_13_method_79_code
def yX11_houseTells : MethodName := ⟨RX11, "houseTells", "(II)I"⟩
abbrev cX11_tellsAct : ByteArray := prog_13_method_80_code
def yX11_tellsAct : MethodName := ⟨RX11, "tellsAct", "(II)I"⟩
abbrev cX11_act : ByteArray := prog_13_method_81_code
def yX11_act : MethodName := ⟨RX11, "act", "(III)I"⟩
abbrev cX11_trace : ByteArray := prog_13_method_82_code
def yX11_trace : MethodName := ⟨RX11, "trace", "(I)I"⟩
abbrev cX11_taken : ByteArray := prog_13_method_83_code
def yX11_taken : MethodName := ⟨RX11, "taken", "(II)I"⟩
abbrev cX11_count : ByteArray := prog_13_method_84_code
def yX11_count : MethodName := ⟨RX11, "count", "(I)I"⟩
abbrev cX11_isTape : ByteArray := prog_13_method_85_code
def yX11_isTape : MethodName := ⟨RX11, "isTape", "(I)Z"⟩
abbrev cX11_tape : ByteArray := prog_13_method_86_code
def yX11_tape : MethodName := ⟨RX11, "tape", "(III)I"⟩
abbrev cX11_narrow : ByteArray := prog_13_method_87_code
def yX11_narrow : MethodName := ⟨RX11, "narrow", "(IJ)J"⟩
abbrev cX11_item : ByteArray := prog_13_method_88_code
def yX11_item : MethodName := ⟨RX11, "item", "(IIJ)I"⟩
abbrev cX11_read : ByteArray := prog_13_method_89_code
def yX11_read : MethodName := ⟨RX11, "read", "(II)J"⟩
abbrev cX11_shift : ByteArray := prog_13_method_90_code
def yX11_shift : MethodName := ⟨RX11, "shift", "(IIIII)I"⟩
def RJx145de : String := "java/io/Serializable"
def TJx145de : u_T := fun k => match k with
  | _ => ("", "", "", false)
def tyJx145de : Nat → FieldType := fun k => match k with
  | _ => .int
abbrev wsJx145de0 : List Cond := u_ws RJx145de TJx145de 0
theorem nmJx145de : ∀ a, a < 0 → ∀ b, b < 0 → a ≠ b → (TJx145de a).2.1 ≠ (TJx145de b).2.1 := by decide +kernel
theorem tyJx145de_ok : ∀ k, k < 0 → parseFieldDescriptor (TJx145de k).2.2.1 = some (tyJx145de k) := by decide +kernel
def RJx9f9b0 : String := "java/lang/CharSequence"
def TJx9f9b0 : u_T := fun k => match k with
  | _ => ("", "", "", false)
def tyJx9f9b0 : Nat → FieldType := fun k => match k with
  | _ => .int
abbrev wsJx9f9b00 : List Cond := u_ws RJx9f9b0 TJx9f9b0 0
theorem nmJx9f9b0 : ∀ a, a < 0 → ∀ b, b < 0 → a ≠ b → (TJx9f9b0 a).2.1 ≠ (TJx9f9b0 b).2.1 := by decide +kernel
theorem tyJx9f9b0_ok : ∀ k, k < 0 → parseFieldDescriptor (TJx9f9b0 k).2.2.1 = some (tyJx9f9b0 k) := by decide +kernel
def RJ11 : String := "java/lang/Character"
def TJ11 : u_T := fun k => match k with
  | _ => ("", "", "", false)
def tyJ11 : Nat → FieldType := fun k => match k with
  | _ => .int
abbrev wsJ110 : List Cond := u_ws RJ11 TJ11 0
theorem nmJ11 : ∀ a, a < 0 → ∀ b, b < 0 → a ≠ b → (TJ11 a).2.1 ≠ (TJ11 b).2.1 := by decide +kernel
theorem tyJ11_ok : ∀ k, k < 0 → parseFieldDescriptor (TJ11 k).2.2.1 = some (tyJ11 k) := by decide +kernel
abbrev cJ11_isValidCodePoint_9a6ad : ByteArray := prog_14_method_11_code
def yJ11_isValidCodePoint_9a6ad : MethodName := ⟨RJ11, "isValidCodePoint", "(I)Z"⟩
abbrev cJ11_highSurrogate_5068e : ByteArray := prog_14_method_28_code
def yJ11_highSurrogate_5068e : MethodName := ⟨RJ11, "highSurrogate", "(I)C"⟩
abbrev cJ11_lowSurrogate_5068e : ByteArray := prog_14_method_29_code
def yJ11_lowSurrogate_5068e : MethodName := ⟨RJ11, "lowSurrogate", "(I)C"⟩
def RJxb160c : String := "java/lang/Comparable"
def TJxb160c : u_T := fun k => match k with
  | _ => ("", "", "", false)
def tyJxb160c : Nat → FieldType := fun k => match k with
  | _ => .int
abbrev wsJxb160c0 : List Cond := u_ws RJxb160c TJxb160c 0
theorem nmJxb160c : ∀ a, a < 0 → ∀ b, b < 0 → a ≠ b → (TJxb160c a).2.1 ≠ (TJxb160c b).2.1 := by decide +kernel
theorem tyJxb160c_ok : ∀ k, k < 0 → parseFieldDescriptor (TJxb160c k).2.2.1 = some (tyJxb160c k) := by decide +kernel
def RJ6 : String := "java/lang/Integer"
def TJ6 : u_T := fun k => match k with
  | _ => ("", "", "", false)
def tyJ6 : Nat → FieldType := fun k => match k with
  | _ => .int
abbrev wsJ60 : List Cond := u_ws RJ6 TJ6 0
theorem nmJ6 : ∀ a, a < 0 → ∀ b, b < 0 → a ≠ b → (TJ6 a).2.1 ≠ (TJ6 b).2.1 := by decide +kernel
theorem tyJ6_ok : ∀ k, k < 0 → parseFieldDescriptor (TJ6 k).2.2.1 = some (tyJ6 k) := by decide +kernel
abbrev cJ6_bitCount_0f7a4 : ByteArray := prog_15_method_49_code
def yJ6_bitCount_0f7a4 : MethodName := ⟨RJ6, "bitCount", "(I)I"⟩
def RJ9 : String := "java/lang/Math"
def TJ9 : u_T := fun k => match k with
  | _ => ("", "", "", false)
def tyJ9 : Nat → FieldType := fun k => match k with
  | _ => .int
abbrev wsJ90 : List Cond := u_ws RJ9 TJ9 0
theorem nmJ9 : ∀ a, a < 0 → ∀ b, b < 0 → a ≠ b → (TJ9 a).2.1 ≠ (TJ9 b).2.1 := by decide +kernel
theorem tyJ9_ok : ∀ k, k < 0 → parseFieldDescriptor (TJ9 k).2.2.1 = some (tyJ9 k) := by decide +kernel
abbrev cJ9_abs_0f7a4 : ByteArray := prog_16_method_59_code
def yJ9_abs_0f7a4 : MethodName := ⟨RJ9, "abs", "(I)I"⟩
abbrev cJ9_max_7cf53 : ByteArray := prog_16_method_65_code
def yJ9_max_7cf53 : MethodName := ⟨RJ9, "max", "(II)I"⟩
abbrev cJ9_min_7cf53 : ByteArray := prog_16_method_69_code
def yJ9_min_7cf53 : MethodName := ⟨RJ9, "min", "(II)I"⟩
def RJ0 : String := "java/lang/String"
def TJ0 : u_T := fun k => match k with
  | _ => ("", "", "", false)
def tyJ0 : Nat → FieldType := fun k => match k with
  | _ => .int
abbrev wsJ00 : List Cond := u_ws RJ0 TJ0 0
theorem nmJ0 : ∀ a, a < 0 → ∀ b, b < 0 → a ≠ b → (TJ0 a).2.1 ≠ (TJ0 b).2.1 := by decide +kernel
theorem tyJ0_ok : ∀ k, k < 0 → parseFieldDescriptor (TJ0 k).2.2.1 = some (tyJ0 k) := by decide +kernel
abbrev cJ0_length_8abf5 : ByteArray := prog_17_method_54_code
def yJ0_length_8abf5 : MethodName := ⟨RJ0, "length", "()I"⟩
abbrev cJ0_charAt_5068e : ByteArray := prog_17_method_56_code
def yJ0_charAt_5068e : MethodName := ⟨RJ0, "charAt", "(I)C"⟩
abbrev cJ0_indexOf_0f7a4 : ByteArray := prog_17_method_79_code
def yJ0_indexOf_0f7a4 : MethodName := ⟨RJ0, "indexOf", "(I)I"⟩
abbrev cJ0_indexOf_7cf53 : ByteArray := prog_17_method_80_code
def yJ0_indexOf_7cf53 : MethodName := ⟨RJ0, "indexOf", "(II)I"⟩
abbrev cJ0_coder_7d493 : ByteArray := prog_17_method_152_code
def yJ0_coder_7d493 : MethodName := ⟨RJ0, "coder", "()B"⟩
abbrev cJ0_isLatin1_aae02 : ByteArray := prog_17_method_154_code
def yJ0_isLatin1_aae02 : MethodName := ⟨RJ0, "isLatin1", "()Z"⟩
abbrev cJ0_checkIndex_df160 : ByteArray := prog_17_method_155_code
def yJ0_checkIndex_df160 : MethodName := ⟨RJ0, "checkIndex", "(II)V"⟩
abbrev cJ0_checkBoundsBeginEnd_23922 : ByteArray := prog_17_method_158_code
def yJ0_checkBoundsBeginEnd_23922 : MethodName := ⟨RJ0, "checkBoundsBeginEnd", "(III)V"⟩
def RJ1 : String := "java/lang/StringLatin1"
def TJ1 : u_T := fun k => match k with
  | _ => ("", "", "", false)
def tyJ1 : Nat → FieldType := fun k => match k with
  | _ => .int
abbrev wsJ10 : List Cond := u_ws RJ1 TJ1 0
theorem nmJ1 : ∀ a, a < 0 → ∀ b, b < 0 → a ≠ b → (TJ1 a).2.1 ≠ (TJ1 b).2.1 := by decide +kernel
theorem tyJ1_ok : ∀ k, k < 0 → parseFieldDescriptor (TJ1 k).2.2.1 = some (tyJ1 k) := by decide +kernel
abbrev cJ1_charAt_3b067 : ByteArray := prog_18_method_2_code
def yJ1_charAt_3b067 : MethodName := ⟨RJ1, "charAt", "([BI)C"⟩
abbrev cJ1_canEncode_9a6ad : ByteArray := prog_18_method_4_code
def yJ1_canEncode_9a6ad : MethodName := ⟨RJ1, "canEncode", "(I)Z"⟩
abbrev cJ1_indexOf_4cfef : ByteArray := prog_18_method_22_code
def yJ1_indexOf_4cfef : MethodName := ⟨RJ1, "indexOf", "([BIII)I"⟩
abbrev cJ1_indexOfChar_4cfef : ByteArray := prog_18_method_23_code
def yJ1_indexOfChar_4cfef : MethodName := ⟨RJ1, "indexOfChar", "([BIII)I"⟩
def RJ2 : String := "java/lang/StringUTF16"
def TJ2 : u_T := fun k => match k with
  | _ => ("", "", "", false)
def tyJ2 : Nat → FieldType := fun k => match k with
  | _ => .int
abbrev wsJ20 : List Cond := u_ws RJ2 TJ2 0
theorem nmJ2 : ∀ a, a < 0 → ∀ b, b < 0 → a ≠ b → (TJ2 a).2.1 ≠ (TJ2 b).2.1 := by decide +kernel
theorem tyJ2_ok : ∀ k, k < 0 → parseFieldDescriptor (TJ2 k).2.2.1 = some (tyJ2 k) := by decide +kernel
abbrev cJ2_getChar_3b067 : ByteArray := prog_19_method_5_code
def yJ2_getChar_3b067 : MethodName := ⟨RJ2, "getChar", "([BI)C"⟩
abbrev cJ2_length_9d52b : ByteArray := prog_19_method_6_code
def yJ2_length_9d52b : MethodName := ⟨RJ2, "length", "([B)I"⟩
abbrev cJ2_indexOf_4cfef : ByteArray := prog_19_method_40_code
def yJ2_indexOf_4cfef : MethodName := ⟨RJ2, "indexOf", "([BIII)I"⟩
abbrev cJ2_indexOfChar_4cfef : ByteArray := prog_19_method_47_code
def yJ2_indexOfChar_4cfef : MethodName := ⟨RJ2, "indexOfChar", "([BIII)I"⟩
abbrev cJ2_indexOfCharUnsafe_4cfef : ByteArray := prog_19_method_48_code
def yJ2_indexOfCharUnsafe_4cfef : MethodName := ⟨RJ2, "indexOfCharUnsafe", "([BIII)I"⟩
abbrev cJ2_indexOfSupplementary_4cfef : ByteArray := prog_19_method_49_code
def yJ2_indexOfSupplementary_4cfef : MethodName := ⟨RJ2, "indexOfSupplementary", "([BIII)I"⟩
abbrev cJ2_charAt_3b067 : ByteArray := prog_19_method_83_code
def yJ2_charAt_3b067 : MethodName := ⟨RJ2, "charAt", "([BI)C"⟩
abbrev cJ2_checkIndex_2214a : ByteArray := prog_19_method_91_code
def yJ2_checkIndex_2214a : MethodName := ⟨RJ2, "checkIndex", "(I[B)V"⟩
abbrev cJ2_checkBoundsBeginEnd_d044e : ByteArray := prog_19_method_93_code
def yJ2_checkBoundsBeginEnd_d044e : MethodName := ⟨RJ2, "checkBoundsBeginEnd", "(II[B)V"⟩
def RJ10 : String := "java/lang/System"
def TJ10 : u_T := fun k => match k with
  | _ => ("", "", "", false)
def tyJ10 : Nat → FieldType := fun k => match k with
  | _ => .int
abbrev wsJ100 : List Cond := u_ws RJ10 TJ10 0
theorem nmJ10 : ∀ a, a < 0 → ∀ b, b < 0 → a ≠ b → (TJ10 a).2.1 ≠ (TJ10 b).2.1 := by decide +kernel
theorem tyJ10_ok : ∀ k, k < 0 → parseFieldDescriptor (TJ10 k).2.2.1 = some (tyJ10 k) := by decide +kernel
def RJxfd54e : String := "java/lang/constant/Constable"
def TJxfd54e : u_T := fun k => match k with
  | _ => ("", "", "", false)
def tyJxfd54e : Nat → FieldType := fun k => match k with
  | _ => .int
abbrev wsJxfd54e0 : List Cond := u_ws RJxfd54e TJxfd54e 0
theorem nmJxfd54e : ∀ a, a < 0 → ∀ b, b < 0 → a ≠ b → (TJxfd54e a).2.1 ≠ (TJxfd54e b).2.1 := by decide +kernel
theorem tyJxfd54e_ok : ∀ k, k < 0 → parseFieldDescriptor (TJxfd54e k).2.2.1 = some (tyJxfd54e k) := by decide +kernel
def RJx3cf43 : String := "java/lang/constant/ConstantDesc"
def TJx3cf43 : u_T := fun k => match k with
  | _ => ("", "", "", false)
def tyJx3cf43 : Nat → FieldType := fun k => match k with
  | _ => .int
abbrev wsJx3cf430 : List Cond := u_ws RJx3cf43 TJx3cf43 0
theorem nmJx3cf43 : ∀ a, a < 0 → ∀ b, b < 0 → a ≠ b → (TJx3cf43 a).2.1 ≠ (TJx3cf43 b).2.1 := by decide +kernel
theorem tyJx3cf43_ok : ∀ k, k < 0 → parseFieldDescriptor (TJx3cf43 k).2.2.1 = some (tyJx3cf43 k) := by decide +kernel
def RJ7 : String := "java/util/Arrays"
def TJ7 : u_T := fun k => match k with
  | _ => ("", "", "", false)
def tyJ7 : Nat → FieldType := fun k => match k with
  | _ => .int
abbrev wsJ70 : List Cond := u_ws RJ7 TJ7 0
theorem nmJ7 : ∀ a, a < 0 → ∀ b, b < 0 → a ≠ b → (TJ7 a).2.1 ≠ (TJ7 b).2.1 := by decide +kernel
theorem tyJ7_ok : ∀ k, k < 0 → parseFieldDescriptor (TJ7 k).2.2.1 = some (tyJ7 k) := by decide +kernel
abbrev cJ7_fill_d0a16 : ByteArray := prog_21_method_101_code
def yJ7_fill_d0a16 : MethodName := ⟨RJ7, "fill", "([JJ)V"⟩
def RJ3 : String := "jdk/internal/util/Preconditions"
def TJ3 : u_T := fun k => match k with
  | _ => ("", "", "", false)
def tyJ3 : Nat → FieldType := fun k => match k with
  | _ => .int
abbrev wsJ30 : List Cond := u_ws RJ3 TJ3 0
theorem nmJ3 : ∀ a, a < 0 → ∀ b, b < 0 → a ≠ b → (TJ3 a).2.1 ≠ (TJ3 b).2.1 := by decide +kernel
theorem tyJ3_ok : ∀ k, k < 0 → parseFieldDescriptor (TJ3 k).2.2.1 = some (tyJ3 k) := by decide +kernel
abbrev cJ3_checkIndex_8e157 : ByteArray := prog_22_method_11_code
def yJ3_checkIndex_8e157 : MethodName := ⟨RJ3, "checkIndex", "(IILjava/util/function/BiFunction;)I"⟩
abbrev cJ3_checkFromToIndex_8c36e : ByteArray := prog_22_method_12_code
def yJ3_checkFromToIndex_8c36e : MethodName := ⟨RJ3, "checkFromToIndex", "(IIILjava/util/function/BiFunction;)I"⟩
def RL : String := "AskedInLaw"
abbrev cL_law : ByteArray := code
def yL_law : MethodName := ⟨RL, "law", "([I)Z"⟩
def wsL_law_r1 : List Cond := [Cond.classLink RL 7 RX10, Cond.instantiable RX10 8, Cond.initialized RX10, Cond.classLink RL 10 RX11, Cond.instantiable RX11 70, Cond.initialized RX11, Cond.constantLong RL 162 (4294967295), Cond.methodLink RL 9 yX10_init, Cond.instanceMethod yX10_init, Cond.code yX10_init cX10_init 3 none, Cond.methodLink RX10 3 objectInit, Cond.instanceMethod objectInit, Cond.code objectInit ⟨#[0xb1]⟩ 1 none, Cond.classLink RX10 9 RX5, Cond.instantiable RX5 14, Cond.initialized RX5, Cond.fieldLink RX10 12 "AskedIn" "kept" "LAskedIn$Street;", Cond.classLink RX10 18 RX7, Cond.instantiable RX7 7, Cond.initialized RX7, Cond.fieldLink RX10 21 "AskedIn" "text" "LAskedIn$Text;", Cond.classLink RX10 25 RX0, Cond.instantiable RX0 5, Cond.initialized RX0]
def wsL_law_r2 : List Cond := [Cond.fieldLink RX10 28 "AskedIn" "acts" "LAskedIn$Acts;", Cond.classLink RX10 32 RX6, Cond.instantiable RX6 3, Cond.initialized RX6, Cond.fieldLink RX10 35 "AskedIn" "tapes" "LAskedIn$Tapes;", Cond.classLink RX10 39 RX9, Cond.instantiable RX9 7, Cond.initialized RX9, Cond.fieldLink RX10 42 "AskedIn" "now" "LAskedIn$Street;", Cond.fieldLink RX10 45 "AskedIn" "towns" "LAskedIn$Towns;", Cond.classLink RX10 49 RX2, Cond.instantiable RX2 4, Cond.initialized RX2, Cond.fieldLink RX10 54 "AskedIn" "questions" "LAskedIn$Questions;", Cond.instanceMethod yX5_init, Cond.code yX5_init cX5_init 1 none, Cond.methodLink RX5 3 objectInit, Cond.arrayClass .int, Cond.fieldLink RX5 9 "AskedIn$Street" "kinds" "[I", Cond.fieldLink RX5 15 "AskedIn$Street" "numbers" "[I", Cond.fieldLink RX5 18 "AskedIn$Street" "grains" "[I", Cond.fieldLink RX5 21 "AskedIn$Street" "asked" "[I", Cond.fieldLink RX5 24 "AskedIn$Street" "rows" "[I", Cond.fieldLink RX5 27 "AskedIn$Street" "sacks" "[I"]
def wsL_law_r3 : List Cond := [Cond.fieldLink RX5 30 "AskedIn$Street" "purses" "[I", Cond.fieldLink RX5 33 "AskedIn$Street" "quicknesses" "[I", Cond.classLink RX5 36 RX4, Cond.instantiable RX4 3, Cond.initialized RX4, Cond.fieldLink RX5 41 "AskedIn$Street" "plan" "LAskedIn$Rows;", Cond.fieldLink RX5 45 "AskedIn$Street" "watched" "LAskedIn$Rows;", Cond.fieldLink RX5 48 "AskedIn$Street" "visits" "LAskedIn$Rows;", Cond.fieldLink RX5 51 "AskedIn$Street" "held" "I", Cond.methodLink RX5 38 yX4_init, Cond.instanceMethod yX4_init, Cond.code yX4_init cX4_init 3 none, Cond.methodLink RX4 3 objectInit, Cond.methodLink RX4 9 Lib.Math.max.name, Cond.static Lib.Math.max.name, Cond.initialized "java/lang/Math", Cond.code Lib.Math.max.name Lib.Math.max.code 2 (some .int), Cond.fieldLink RX4 15 "AskedIn$Rows" "firsts" "[I", Cond.fieldLink RX4 21 "AskedIn$Rows" "seconds" "[I", Cond.instanceMethod yX7_init, Cond.code yX7_init cX7_init 1 none, Cond.methodLink RX7 3 objectInit, Cond.arrayClass .byte, Cond.fieldLink RX7 9 "AskedIn$Text" "signs" "[B"]
def wsL_law_r4 : List Cond := [Cond.fieldLink RX7 15 "AskedIn$Text" "fault" "I", Cond.instanceMethod yX0_init, Cond.code yX0_init cX0_init 1 none, Cond.methodLink RX0 3 objectInit, Cond.fieldLink RX0 11 "AskedIn$Acts" "begun" "[I", Cond.instanceMethod yX6_init, Cond.code yX6_init cX6_init 1 none, Cond.methodLink RX6 3 objectInit, Cond.classLink RX6 11 "[[J", Cond.arrayClass .long, Cond.fieldLink RX6 13 "AskedIn$Tapes" "items" "[[J", Cond.fieldLink RX6 16 "AskedIn$Tapes" "sizes" "[I", Cond.fieldLink RX6 20 "AskedIn$Tapes" "sorts" "[I", Cond.instanceMethod yX9_init, Cond.code yX9_init cX9_init 1 none, Cond.methodLink RX9 3 objectInit, Cond.classLink RX9 9 "[[I", Cond.fieldLink RX9 11 "AskedIn$Towns" "tokens" "[[I", Cond.fieldLink RX9 16 "AskedIn$Towns" "lengths" "[I", Cond.fieldLink RX9 20 "AskedIn$Towns" "dawns" "[I", Cond.fieldLink RX9 25 "AskedIn$Towns" "letters" "[I", Cond.methodLink RX10 51 yX2_init, Cond.instanceMethod yX2_init, Cond.code yX2_init cX2_init 3 none]
def wsL_law_r5 : List Cond := [Cond.methodLink RX2 3 objectInit, Cond.classLink RX2 9 RX3, Cond.instantiable RX3 5, Cond.initialized RX3, Cond.fieldLink RX2 12 "AskedIn$Questions" "best" "LAskedIn$Round;", Cond.fieldLink RX2 18 "AskedIn$Questions" "street" "LAskedIn$Street;", Cond.fieldLink RX2 22 "AskedIn$Questions" "towns" "LAskedIn$Towns;", Cond.classLink RX2 26 RX1, Cond.instantiable RX1 10, Cond.initialized RX1, Cond.fieldLink RX2 31 "AskedIn$Questions" "night" "LAskedIn$Night;", Cond.instanceMethod yX3_init, Cond.code yX3_init cX3_init 1 none, Cond.methodLink RX3 3 objectInit, Cond.fieldLink RX3 9 "AskedIn$Round" "row" "[I", Cond.fieldLink RX3 15 "AskedIn$Round" "order" "[I", Cond.methodLink RX2 28 yX1_init, Cond.instanceMethod yX1_init, Cond.code yX1_init cX1_init 3 none, Cond.methodLink RX1 3 objectInit, Cond.fieldLink RX1 9 "AskedIn$Night" "fars" "[I", Cond.fieldLink RX1 15 "AskedIn$Night" "countings" "[I", Cond.fieldLink RX1 18 "AskedIn$Night" "street" "LAskedIn$Street;", Cond.fieldLink RX1 22 "AskedIn$Night" "towns" "LAskedIn$Towns;"]
def wsL_law_r6 : List Cond := [Cond.methodLink RL 12 yX11_init, Cond.instanceMethod yX11_init, Cond.code yX11_init cX11_init 1 none, Cond.methodLink RX11 1 objectInit, Cond.fieldLink RX11 7 "AskedInModel" "houses" "I", Cond.fieldLink RX11 13 "AskedInModel" "folks" "I", Cond.fieldLink RX11 16 "AskedInModel" "kind" "[I", Cond.fieldLink RX11 20 "AskedInModel" "v" "[I", Cond.fieldLink RX11 23 "AskedInModel" "grain" "[I", Cond.fieldLink RX11 26 "AskedInModel" "asked" "[I", Cond.fieldLink RX11 29 "AskedInModel" "rows" "[I", Cond.fieldLink RX11 32 "AskedInModel" "sack" "[I", Cond.fieldLink RX11 35 "AskedInModel" "coins" "[I", Cond.fieldLink RX11 38 "AskedInModel" "quick" "[I", Cond.fieldLink RX11 41 "AskedInModel" "towns" "I", Cond.fieldLink RX11 44 "AskedInModel" "the" "I", Cond.fieldLink RX11 47 "AskedInModel" "fed" "I", Cond.fieldLink RX11 50 "AskedInModel" "at" "I", Cond.fieldLink RX11 53 "AskedInModel" "digits" "I", Cond.fieldLink RX11 56 "AskedInModel" "text" "[I", Cond.fieldLink RX11 59 "AskedInModel" "clauses" "[I", Cond.fieldLink RX11 62 "AskedInModel" "word" "[I", Cond.fieldLink RX11 65 "AskedInModel" "number" "[I", Cond.fieldLink RX11 68 "AskedInModel" "from" "[I"]
def wsL_law_r7 : List Cond := [Cond.fieldLink RX11 71 "AskedInModel" "to" "[I", Cond.fieldLink RX11 74 "AskedInModel" "sign" "[I", Cond.fieldLink RX11 77 "AskedInModel" "waits" "[I", Cond.fieldLink RX11 80 "AskedInModel" "signs" "I", Cond.fieldLink RX11 83 "AskedInModel" "waiting" "I", Cond.fieldLink RX11 86 "AskedInModel" "open" "I", Cond.fieldLink RX11 89 "AskedInModel" "letters" "[I", Cond.arrayClass .boolean, Cond.fieldLink RX11 92 "AskedInModel" "pile" "[Z", Cond.fieldLink RX11 96 "AskedInModel" "whose" "I", Cond.fieldLink RX11 99 "AskedInModel" "minute" "I", Cond.fieldLink RX11 102 "AskedInModel" "stands" "I", Cond.fieldLink RX11 105 "AskedInModel" "purse" "I", Cond.fieldLink RX11 108 "AskedInModel" "been" "I", Cond.fieldLink RX11 111 "AskedInModel" "inside" "I", Cond.fieldLink RX11 114 "AskedInModel" "ways" "I", Cond.fieldLink RX11 117 "AskedInModel" "way" "[I", Cond.fieldLink RX11 120 "AskedInModel" "order" "[I", Cond.fieldLink RX11 123 "AskedInModel" "bestOrder" "[I", Cond.fieldLink RX11 126 "AskedInModel" "watched" "I", Cond.fieldLink RX11 129 "AskedInModel" "watchHouse" "[I", Cond.fieldLink RX11 132 "AskedInModel" "watchIn" "[Z", Cond.fieldLink RX11 135 "AskedInModel" "books" "I", Cond.fieldLink RX11 138 "AskedInModel" "bookFolk" "[I"]
def wsL_law_r8 : List Cond := [Cond.fieldLink RX11 141 "AskedInModel" "bookHouse" "[I", Cond.fieldLink RX11 144 "AskedInModel" "hasImage" "Z", Cond.fieldLink RX11 148 "AskedInModel" "imageThe" "I", Cond.fieldLink RX11 151 "AskedInModel" "imageHouses" "I", Cond.fieldLink RX11 154 "AskedInModel" "imageFolks" "I", Cond.fieldLink RX11 157 "AskedInModel" "imageWays" "I", Cond.fieldLink RX11 160 "AskedInModel" "imageWatched" "I", Cond.fieldLink RX11 163 "AskedInModel" "imageBooks" "I", Cond.fieldLink RX11 166 "AskedInModel" "imageKind" "[I", Cond.fieldLink RX11 169 "AskedInModel" "imageV" "[I", Cond.fieldLink RX11 172 "AskedInModel" "imageGrain" "[I", Cond.fieldLink RX11 175 "AskedInModel" "imageAsked" "[I", Cond.fieldLink RX11 178 "AskedInModel" "imageRows" "[I", Cond.fieldLink RX11 181 "AskedInModel" "imageSack" "[I", Cond.fieldLink RX11 184 "AskedInModel" "imageCoins" "[I", Cond.fieldLink RX11 187 "AskedInModel" "imageQuick" "[I", Cond.fieldLink RX11 190 "AskedInModel" "imageWay" "[I", Cond.fieldLink RX11 193 "AskedInModel" "imageWatch" "[I", Cond.fieldLink RX11 196 "AskedInModel" "imageFolk" "[I", Cond.fieldLink RX11 199 "AskedInModel" "imageHouse" "[I", Cond.fieldLink RX11 202 "AskedInModel" "imageIn" "[Z", Cond.fieldLink RX11 205 "AskedInModel" "ran" "I", Cond.fieldLink RX11 208 "AskedInModel" "bodies" "[I", Cond.fieldLink RX11 211 "AskedInModel" "sort" "[I"]
def wsL_law_r9 : List Cond := [Cond.fieldLink RX11 214 "AskedInModel" "length" "[I", Cond.fieldLink RX11 217 "AskedInModel" "item" "[J", Cond.fieldLink RX11 221 "AskedInModel" "aside" "[J", Cond.methodLink RL 13 yX10_house, Cond.instanceMethod yX10_house, Cond.selects RX10 yX10_house yX10_house, Cond.code yX10_house cX10_house 4 (some .int), Cond.methodLink RX10 58 yX10_isUpTo, Cond.static yX10_isUpTo, Cond.code yX10_isUpTo cX10_isUpTo 2 (some .boolean), Cond.methodLink RX10 62 yX5_build, Cond.instanceMethod yX5_build, Cond.selects RX5 yX5_build yX5_build, Cond.code yX5_build cX5_build 5 (some .int), Cond.fieldLink RX5 55 "AskedIn$Street" "houses" "I", Cond.methodLink RX5 61 yX5_settle, Cond.instanceMethod yX5_settle, Cond.selects RX5 yX5_settle yX5_settle, Cond.code yX5_settle cX5_settle 4 none, Cond.methodLink RL 17 yX11_house, Cond.instanceMethod yX11_house, Cond.selects RX11 yX11_house yX11_house, Cond.code yX11_house cX11_house 4 (some .int), Cond.methodLink RX11 224 yX11_in]
def wsL_law_r10 : List Cond := [Cond.instanceMethod yX11_in, Cond.selects RX11 yX11_in yX11_in, Cond.code yX11_in cX11_in 4 (some .boolean), Cond.methodLink RX11 228 yX11_becomes, Cond.instanceMethod yX11_becomes, Cond.selects RX11 yX11_becomes yX11_becomes, Cond.code yX11_becomes cX11_becomes 5 none, Cond.methodLink RL 18 yX10_folk, Cond.instanceMethod yX10_folk, Cond.selects RX10 yX10_folk yX10_folk, Cond.code yX10_folk cX10_folk 4 (some .int), Cond.methodLink RX10 66 yX5_hasHouse, Cond.instanceMethod yX5_hasHouse, Cond.selects RX5 yX5_hasHouse yX5_hasHouse, Cond.code yX5_hasHouse cX5_hasHouse 2 (some .boolean), Cond.methodLink RX10 70 yX5_wake, Cond.instanceMethod yX5_wake, Cond.selects RX5 yX5_wake yX5_wake, Cond.code yX5_wake cX5_wake 5 (some .int), Cond.fieldLink RX5 58 "AskedIn$Street" "folks" "I", Cond.methodLink RL 21 yX11_folk, Cond.instanceMethod yX11_folk, Cond.selects RX11 yX11_folk yX11_folk, Cond.code yX11_folk cX11_folk 4 (some .int)]
def wsL_law_r11 : List Cond := [Cond.methodLink RX11 232 yX11_isHouse, Cond.instanceMethod yX11_isHouse, Cond.selects RX11 yX11_isHouse yX11_isHouse, Cond.code yX11_isHouse cX11_isHouse 2 (some .boolean), Cond.methodLink RL 22 yX10_of, Cond.instanceMethod yX10_of, Cond.selects RX10 yX10_of yX10_of, Cond.code yX10_of cX10_of 3 (some .int), Cond.fieldLink RX10 73 "AskedIn$Street" "kinds" "[I", Cond.fieldLink RX10 77 "AskedIn$Street" "numbers" "[I", Cond.fieldLink RX10 80 "AskedIn$Street" "grains" "[I", Cond.fieldLink RX10 83 "AskedIn$Street" "asked" "[I", Cond.methodLink RX10 86 yX10_paceAt, Cond.instanceMethod yX10_paceAt, Cond.selects RX10 yX10_paceAt yX10_paceAt, Cond.code yX10_paceAt cX10_paceAt 3 (some .int), Cond.fieldLink RX10 309 "AskedIn$Towns" "slow" "I", Cond.fieldLink RX10 312 "AskedIn$Towns" "far" "I", Cond.methodLink RX10 90 yX5_hasFolk, Cond.instanceMethod yX5_hasFolk, Cond.selects RX5 yX5_hasFolk yX5_hasFolk, Cond.code yX5_hasFolk cX5_hasFolk 2 (some .boolean), Cond.methodLink RX10 305 yX9_weigh, Cond.instanceMethod yX9_weigh]
def wsL_law_r12 : List Cond := [Cond.selects RX9 yX9_weigh yX9_weigh, Cond.code yX9_weigh cX9_weigh 13 none, Cond.fieldLink RX9 38 "AskedIn$Street" "kinds" "[I", Cond.fieldLink RX9 43 "AskedIn$Street" "numbers" "[I", Cond.fieldLink RX9 46 "AskedIn$Street" "purses" "[I", Cond.fieldLink RX9 49 "AskedIn$Street" "held" "I", Cond.fieldLink RX9 28 "AskedIn$Towns" "size" "I", Cond.fieldLink RX9 52 "AskedIn$Towns" "slow" "I", Cond.fieldLink RX9 55 "AskedIn$Towns" "far" "I", Cond.methodLink RX9 58 yX9_holds, Cond.instanceMethod yX9_holds, Cond.selects RX9 yX9_holds yX9_holds, Cond.code yX9_holds cX9_holds 5 (some .boolean), Cond.methodLink RL 26 yX11_of, Cond.instanceMethod yX11_of, Cond.selects RX11 yX11_of yX11_of, Cond.code yX11_of cX11_of 3 (some .int), Cond.methodLink RX11 304 yX11_slowOf, Cond.instanceMethod yX11_slowOf, Cond.selects RX11 yX11_slowOf yX11_slowOf, Cond.code yX11_slowOf cX11_slowOf 4 (some .int), Cond.methodLink RX11 300 yX11_sumOf, Cond.instanceMethod yX11_sumOf, Cond.selects RX11 yX11_sumOf yX11_sumOf]
def wsL_law_r13 : List Cond := [Cond.code yX11_sumOf cX11_sumOf 9 (some .int), Cond.methodLink RX11 286 yX11_begin, Cond.instanceMethod yX11_begin, Cond.selects RX11 yX11_begin yX11_begin, Cond.code yX11_begin cX11_begin 1 (some .int), Cond.methodLink RX11 289 yX11_behind, Cond.instanceMethod yX11_behind, Cond.selects RX11 yX11_behind yX11_behind, Cond.code yX11_behind cX11_behind 1 (some .int), Cond.methodLink RX11 296 yX11_holds, Cond.instanceMethod yX11_holds, Cond.selects RX11 yX11_holds yX11_holds, Cond.code yX11_holds cX11_holds 10 (some .boolean), Cond.methodLink RX11 292 yX11_factOf, Cond.instanceMethod yX11_factOf, Cond.selects RX11 yX11_factOf yX11_factOf, Cond.code yX11_factOf cX11_factOf 5 (some .int), Cond.methodLink RX11 308 yX11_farOf, Cond.instanceMethod yX11_farOf, Cond.selects RX11 yX11_farOf yX11_farOf, Cond.code yX11_farOf cX11_farOf 4 (some .int), Cond.methodLink RL 27 yX10_who, Cond.instanceMethod yX10_who, Cond.selects RX10 yX10_who yX10_who]
def wsL_law_r14 : List Cond := [Cond.code yX10_who cX10_who 3 (some .int), Cond.fieldLink RX10 93 "AskedIn$Street" "sacks" "[I", Cond.fieldLink RX10 96 "AskedIn$Street" "purses" "[I", Cond.fieldLink RX10 99 "AskedIn$Street" "quicknesses" "[I", Cond.methodLink RL 30 yX11_who, Cond.instanceMethod yX11_who, Cond.selects RX11 yX11_who yX11_who, Cond.code yX11_who cX11_who 3 (some .int), Cond.methodLink RX11 236 yX11_isFolk, Cond.instanceMethod yX11_isFolk, Cond.selects RX11 yX11_isFolk yX11_isFolk, Cond.code yX11_isFolk cX11_isFolk 2 (some .boolean), Cond.methodLink RL 31 yX10_strew, Cond.instanceMethod yX10_strew, Cond.selects RX10 yX10_strew yX10_strew, Cond.code yX10_strew cX10_strew 4 (some .int), Cond.methodLink RL 34 yX11_strew, Cond.instanceMethod yX11_strew, Cond.selects RX11 yX11_strew yX11_strew, Cond.code yX11_strew cX11_strew 4 (some .int), Cond.methodLink RL 35 yX10_ask, Cond.instanceMethod yX10_ask, Cond.selects RX10 yX10_ask yX10_ask, Cond.code yX10_ask cX10_ask 5 (some .int)]
def wsL_law_r15 : List Cond := [Cond.methodLink RX10 102 yX10_bit, Cond.static yX10_bit, Cond.code yX10_bit cX10_bit 2 (some .int), Cond.methodLink RX10 105 yX10_withBit, Cond.static yX10_withBit, Cond.code yX10_withBit cX10_withBit 3 (some .int), Cond.methodLink RL 39 yX11_ask, Cond.instanceMethod yX11_ask, Cond.selects RX11 yX11_ask yX11_ask, Cond.code yX11_ask cX11_ask 5 (some .int), Cond.methodLink RL 40 yX10_sack, Cond.instanceMethod yX10_sack, Cond.selects RX10 yX10_sack yX10_sack, Cond.code yX10_sack cX10_sack 4 (some .int), Cond.methodLink RL 43 yX11_sack, Cond.instanceMethod yX11_sack, Cond.selects RX11 yX11_sack yX11_sack, Cond.code yX11_sack cX11_sack 4 (some .int), Cond.methodLink RL 44 yX10_sell, Cond.instanceMethod yX10_sell, Cond.selects RX10 yX10_sell yX10_sell, Cond.code yX10_sell cX10_sell 5 (some .int), Cond.methodLink RX10 109 yX5_settle, Cond.methodLink RL 47 yX11_sell]
def wsL_law_r16 : List Cond := [Cond.instanceMethod yX11_sell, Cond.selects RX11 yX11_sell yX11_sell, Cond.code yX11_sell cX11_sell 5 (some .int), Cond.methodLink RL 48 yX10_row, Cond.instanceMethod yX10_row, Cond.selects RX10 yX10_row yX10_row, Cond.code yX10_row cX10_row 5 (some .int), Cond.fieldLink RX10 113 "AskedIn$Street" "rows" "[I", Cond.methodLink RL 51 yX11_row, Cond.instanceMethod yX11_row, Cond.selects RX11 yX11_row yX11_row, Cond.code yX11_row cX11_row 5 (some .int), Cond.methodLink RL 52 yX10_feed, Cond.instanceMethod yX10_feed, Cond.selects RX10 yX10_feed yX10_feed, Cond.code yX10_feed cX10_feed 2 (some .int), Cond.methodLink RX10 116 yX7_add, Cond.instanceMethod yX7_add, Cond.selects RX7 yX7_add yX7_add, Cond.code yX7_add cX7_add 2 (some .int), Cond.fieldLink RX7 19 "AskedIn$Text" "length" "I", Cond.methodLink RL 56 yX11_feed, Cond.instanceMethod yX11_feed, Cond.selects RX11 yX11_feed yX11_feed]
def wsL_law_r17 : List Cond := [Cond.code yX11_feed cX11_feed 2 (some .int), Cond.methodLink RL 57 yX10_town, Cond.instanceMethod yX10_town, Cond.selects RX10 yX10_town yX10_town, Cond.code yX10_town cX10_town 1 (some .int), Cond.fieldLink RX10 120 "AskedIn$Towns" "size" "I", Cond.fieldLink RX10 124 "AskedIn$Towns" "tokens" "[[I", Cond.fieldLink RX10 132 "AskedIn$Text" "length" "I", Cond.fieldLink RX10 135 "AskedIn$Text" "fault" "I", Cond.fieldLink RX10 138 "AskedIn$Text" "noted" "I", Cond.fieldLink RX10 141 "AskedIn$Text" "dawn" "I", Cond.fieldLink RX10 146 "AskedIn$Street" "held" "I", Cond.methodLink RX10 128 yX7_compile, Cond.instanceMethod yX7_compile, Cond.selects RX7 yX7_compile yX7_compile, Cond.code yX7_compile cX7_compile 3 none, Cond.fieldLink RX7 22 "AskedIn$Text" "at" "I", Cond.fieldLink RX7 25 "AskedIn$Text" "tokens" "[I", Cond.fieldLink RX7 29 "AskedIn$Text" "noted" "I", Cond.fieldLink RX7 32 "AskedIn$Text" "dawn" "I", Cond.methodLink RX7 35 yX7_clause, Cond.instanceMethod yX7_clause, Cond.selects RX7 yX7_clause yX7_clause, Cond.code yX7_clause cX7_clause 3 none]
def wsL_law_r18 : List Cond := [Cond.methodLink RX7 38 yX7_take, Cond.instanceMethod yX7_take, Cond.selects RX7 yX7_take yX7_take, Cond.code yX7_take cX7_take 3 (some .boolean), Cond.methodLink RX7 50 yX7_word, Cond.instanceMethod yX7_word, Cond.selects RX7 yX7_word yX7_word, Cond.code yX7_word cX7_word 3 none, Cond.methodLink RX7 83 yJ0_length_8abf5, Cond.instanceMethod yJ0_length_8abf5, Cond.selects RJ0 yJ0_length_8abf5 yJ0_length_8abf5, Cond.initialized RJ0, Cond.code yJ0_length_8abf5 cJ0_length_8abf5 1 (some .int), Cond.fieldLink RJ0 9 "java/lang/String" "value" "[B", Cond.methodLink RJ0 335 yJ0_coder_7d493, Cond.instanceMethod yJ0_coder_7d493, Cond.selects RJ0 yJ0_coder_7d493 yJ0_coder_7d493, Cond.code yJ0_coder_7d493 cJ0_coder_7d493 1 (some .byte), Cond.fieldLink RJ0 38 "java/lang/String" "COMPACT_STRINGS" "Z", Cond.fieldLink RJ0 15 "java/lang/String" "coder" "B", Cond.methodLink RX7 87 yJ0_charAt_5068e, Cond.instanceMethod yJ0_charAt_5068e, Cond.selects RJ0 yJ0_charAt_5068e yJ0_charAt_5068e, Cond.code yJ0_charAt_5068e cJ0_charAt_5068e 2 (some .char)]
def wsL_law_r19 : List Cond := [Cond.methodLink RJ0 492 yJ0_isLatin1_aae02, Cond.instanceMethod yJ0_isLatin1_aae02, Cond.selects RJ0 yJ0_isLatin1_aae02 yJ0_isLatin1_aae02, Cond.code yJ0_isLatin1_aae02 cJ0_isLatin1_aae02 1 (some .boolean), Cond.methodLink RJ0 495 yJ1_charAt_3b067, Cond.static yJ1_charAt_3b067, Cond.initialized RJ1, Cond.code yJ1_charAt_3b067 cJ1_charAt_3b067 2 (some .char), Cond.methodLink RJ1 9 yJ0_checkIndex_df160, Cond.static yJ0_checkIndex_df160, Cond.code yJ0_checkIndex_df160 cJ0_checkIndex_df160 2 none, Cond.fieldLink RJ0 1053 "jdk/internal/util/Preconditions" "SIOOBE_FORMATTER" "Ljava/util/function/BiFunction;", Cond.methodLink RJ0 1059 yJ3_checkIndex_8e157, Cond.static yJ3_checkIndex_8e157, Cond.initialized RJ3, Cond.code yJ3_checkIndex_8e157 cJ3_checkIndex_8e157 3 (some .int), Cond.methodLink RJ0 498 yJ2_charAt_3b067, Cond.static yJ2_charAt_3b067, Cond.initialized RJ2, Cond.code yJ2_charAt_3b067 cJ2_charAt_3b067 2 (some .char), Cond.methodLink RJ2 67 yJ2_checkIndex_2214a, Cond.static yJ2_checkIndex_2214a, Cond.code yJ2_checkIndex_2214a cJ2_checkIndex_2214a 2 none, Cond.methodLink RJ2 48 yJ2_length_9d52b]
def wsL_law_r20 : List Cond := [Cond.static yJ2_length_9d52b, Cond.code yJ2_length_9d52b cJ2_length_9d52b 1 (some .int), Cond.methodLink RJ2 414 yJ0_checkIndex_df160, Cond.methodLink RJ2 71 yJ2_getChar_3b067, Cond.static yJ2_getChar_3b067, Cond.code yJ2_getChar_3b067 cJ2_getChar_3b067 2 (some .char), Cond.fieldLink RJ2 44 "java/lang/StringUTF16" "$assertionsDisabled" "Z", Cond.fieldLink RJ2 59 "java/lang/StringUTF16" "HI_BYTE_SHIFT" "I", Cond.fieldLink RJ2 63 "java/lang/StringUTF16" "LO_BYTE_SHIFT" "I", Cond.methodLink RX7 54 yX7_number, Cond.instanceMethod yX7_number, Cond.selects RX7 yX7_number yX7_number, Cond.code yX7_number cX7_number 2 (some .int), Cond.methodLink RX7 75 yX7_choice, Cond.instanceMethod yX7_choice, Cond.selects RX7 yX7_choice yX7_choice, Cond.code yX7_choice cX7_choice 3 (some .int), Cond.methodLink RX7 91 yJ0_indexOf_0f7a4, Cond.instanceMethod yJ0_indexOf_0f7a4, Cond.selects RJ0 yJ0_indexOf_0f7a4 yJ0_indexOf_0f7a4, Cond.code yJ0_indexOf_0f7a4 cJ0_indexOf_0f7a4 2 (some .int), Cond.methodLink RJ0 633 yJ0_indexOf_7cf53, Cond.instanceMethod yJ0_indexOf_7cf53, Cond.selects RJ0 yJ0_indexOf_7cf53 yJ0_indexOf_7cf53]
def wsL_law_r21 : List Cond := [Cond.code yJ0_indexOf_7cf53 cJ0_indexOf_7cf53 3 (some .int), Cond.methodLink RJ0 505 yJ0_length_8abf5, Cond.methodLink RJ0 637 yJ1_indexOf_4cfef, Cond.static yJ1_indexOf_4cfef, Cond.code yJ1_indexOf_4cfef cJ1_indexOf_4cfef 4 (some .int), Cond.methodLink RJ1 92 Lib.Math.max.name, Cond.methodLink RJ1 38 Lib.Math.min.name, Cond.static Lib.Math.min.name, Cond.code Lib.Math.min.name Lib.Math.min.code 2 (some .int), Cond.methodLink RJ1 88 yJ1_canEncode_9a6ad, Cond.static yJ1_canEncode_9a6ad, Cond.code yJ1_canEncode_9a6ad cJ1_canEncode_9a6ad 1 (some .boolean), Cond.methodLink RJ1 95 yJ1_indexOfChar_4cfef, Cond.static yJ1_indexOfChar_4cfef, Cond.code yJ1_indexOfChar_4cfef cJ1_indexOfChar_4cfef 6 (some .int), Cond.methodLink RJ0 640 yJ2_indexOf_4cfef, Cond.static yJ2_indexOf_4cfef, Cond.code yJ2_indexOf_4cfef cJ2_indexOf_4cfef 4 (some .int), Cond.methodLink RJ2 224 Lib.Math.max.name, Cond.methodLink RJ2 183 Lib.Math.min.name, Cond.constant RJ2 227 (65536), Cond.methodLink RJ2 228 yJ2_indexOfChar_4cfef, Cond.static yJ2_indexOfChar_4cfef, Cond.code yJ2_indexOfChar_4cfef cJ2_indexOfChar_4cfef 4 (some .int)]
def wsL_law_r22 : List Cond := [Cond.methodLink RJ2 96 yJ2_checkBoundsBeginEnd_d044e, Cond.static yJ2_checkBoundsBeginEnd_d044e, Cond.code yJ2_checkBoundsBeginEnd_d044e cJ2_checkBoundsBeginEnd_d044e 3 none, Cond.methodLink RJ2 241 yJ0_checkBoundsBeginEnd_23922, Cond.static yJ0_checkBoundsBeginEnd_23922, Cond.code yJ0_checkBoundsBeginEnd_23922 cJ0_checkBoundsBeginEnd_23922 3 none, Cond.methodLink RJ0 1062 yJ3_checkFromToIndex_8c36e, Cond.static yJ3_checkFromToIndex_8c36e, Cond.code yJ3_checkFromToIndex_8c36e cJ3_checkFromToIndex_8c36e 4 (some .int), Cond.methodLink RJ2 244 yJ2_indexOfCharUnsafe_4cfef, Cond.static yJ2_indexOfCharUnsafe_4cfef, Cond.code yJ2_indexOfCharUnsafe_4cfef cJ2_indexOfCharUnsafe_4cfef 5 (some .int), Cond.methodLink RJ2 232 yJ2_indexOfSupplementary_4cfef, Cond.static yJ2_indexOfSupplementary_4cfef, Cond.code yJ2_indexOfSupplementary_4cfef cJ2_indexOfSupplementary_4cfef 7 (some .int), Cond.methodLink RJ2 164 yJ11_isValidCodePoint_9a6ad, Cond.static yJ11_isValidCodePoint_9a6ad, Cond.initialized RJ11, Cond.code yJ11_isValidCodePoint_9a6ad cJ11_isValidCodePoint_9a6ad 2 (some .boolean), Cond.methodLink RJ2 157 yJ11_highSurrogate_5068e, Cond.static yJ11_highSurrogate_5068e, Cond.code yJ11_highSurrogate_5068e cJ11_highSurrogate_5068e 1 (some .char), Cond.constant RJ11 110 (55232), Cond.methodLink RJ2 161 yJ11_lowSurrogate_5068e]
def wsL_law_r23 : List Cond := [Cond.static yJ11_lowSurrogate_5068e, Cond.code yJ11_lowSurrogate_5068e cJ11_lowSurrogate_5068e 1 (some .char), Cond.constant RJ11 76 (56320), Cond.methodLink RX7 60 yX7_either, Cond.instanceMethod yX7_either, Cond.selects RX7 yX7_either yX7_either, Cond.code yX7_either cX7_either 5 none, Cond.methodLink RX7 68 yX7_part, Cond.instanceMethod yX7_part, Cond.selects RX7 yX7_part yX7_part, Cond.methodLink RX7 64 yX7_note, Cond.instanceMethod yX7_note, Cond.selects RX7 yX7_note yX7_note, Cond.code yX7_note cX7_note 3 none, Cond.code yX7_part cX7_part 5 none, Cond.methodLink RX10 144 yX9_add, Cond.instanceMethod yX9_add, Cond.selects RX9 yX9_add yX9_add, Cond.code yX9_add cX9_add 4 (some .int), Cond.methodLink RL 61 yX11_town, Cond.instanceMethod yX11_town, Cond.selects RX11 yX11_town yX11_town, Cond.code yX11_town cX11_town 2 (some .int), Cond.methodLink RX11 283 yX11_goesText]
def wsL_law_r24 : List Cond := [Cond.instanceMethod yX11_goesText, Cond.selects RX11 yX11_goesText yX11_goesText, Cond.code yX11_goesText cX11_goesText 3 (some .boolean), Cond.methodLink RX11 280 yX11_takesClause, Cond.instanceMethod yX11_takesClause, Cond.selects RX11 yX11_takesClause yX11_takesClause, Cond.code yX11_takesClause cX11_takesClause 2 (some .boolean), Cond.methodLink RX11 274 yX11_takesHead, Cond.instanceMethod yX11_takesHead, Cond.selects RX11 yX11_takesHead yX11_takesHead, Cond.code yX11_takesHead cX11_takesHead 2 (some .boolean), Cond.methodLink RX11 239 yX11_peek, Cond.instanceMethod yX11_peek, Cond.selects RX11 yX11_peek yX11_peek, Cond.code yX11_peek cX11_peek 1 (some .int), Cond.methodLink RX11 270 yX11_takesWord, Cond.instanceMethod yX11_takesWord, Cond.selects RX11 yX11_takesWord yX11_takesWord, Cond.code yX11_takesWord cX11_takesWord 4 (some .boolean), Cond.methodLink RX11 243 yX11_takes, Cond.instanceMethod yX11_takes, Cond.selects RX11 yX11_takes yX11_takes, Cond.code yX11_takes cX11_takes 2 (some .boolean), Cond.methodLink RX11 258 yX11_takesNumber]
def wsL_law_r25 : List Cond := [Cond.instanceMethod yX11_takesNumber, Cond.selects RX11 yX11_takesNumber yX11_takesNumber, Cond.code yX11_takesNumber cX11_takesNumber 2 (some .boolean), Cond.methodLink RX11 246 yX11_isDigit, Cond.instanceMethod yX11_isDigit, Cond.selects RX11 yX11_isDigit yX11_isDigit, Cond.code yX11_isDigit cX11_isDigit 1 (some .boolean), Cond.methodLink RX11 277 yX11_takesE, Cond.instanceMethod yX11_takesE, Cond.selects RX11 yX11_takesE yX11_takesE, Cond.code yX11_takesE cX11_takesE 4 (some .boolean), Cond.methodLink RX11 264 yX11_takesTest, Cond.instanceMethod yX11_takesTest, Cond.selects RX11 yX11_takesTest yX11_takesTest, Cond.code yX11_takesTest cX11_takesTest 3 (some .boolean), Cond.methodLink RX11 254 yX11_place, Cond.instanceMethod yX11_place, Cond.selects RX11 yX11_place yX11_place, Cond.code yX11_place cX11_place 2 (some .int), Cond.methodLink RX11 250 yX11_emits, Cond.instanceMethod yX11_emits, Cond.selects RX11 yX11_emits yX11_emits, Cond.code yX11_emits cX11_emits 2 none, Cond.methodLink RX11 261 yX11_whole]
def wsL_law_r26 : List Cond := [Cond.instanceMethod yX11_whole, Cond.selects RX11 yX11_whole yX11_whole, Cond.code yX11_whole cX11_whole 1 none, Cond.methodLink RX11 267 yX11_settle, Cond.instanceMethod yX11_settle, Cond.selects RX11 yX11_settle yX11_settle, Cond.code yX11_settle cX11_settle 2 none, Cond.methodLink RL 62 yX10_dawn, Cond.instanceMethod yX10_dawn, Cond.selects RX10 yX10_dawn yX10_dawn, Cond.code yX10_dawn cX10_dawn 1 (some .int), Cond.methodLink RX10 149 yX9_dawnOf, Cond.instanceMethod yX9_dawnOf, Cond.selects RX9 yX9_dawnOf yX9_dawnOf, Cond.code yX9_dawnOf cX9_dawnOf 2 (some .int), Cond.methodLink RL 65 yX11_dawn, Cond.instanceMethod yX11_dawn, Cond.selects RX11 yX11_dawn yX11_dawn, Cond.code yX11_dawn cX11_dawn 3 (some .int), Cond.methodLink RL 66 yX10_visit, Cond.instanceMethod yX10_visit, Cond.selects RX10 yX10_visit yX10_visit, Cond.code yX10_visit cX10_visit 5 (some .int), Cond.fieldLink RX10 156 "AskedIn$Questions" "night" "LAskedIn$Night;"]
def wsL_law_r27 : List Cond := [Cond.fieldLink RX10 160 "AskedIn$Night" "minute" "I", Cond.fieldLink RX10 165 "AskedIn$Night" "coins" "I", Cond.methodLink RX10 152 yX2_comesIn, Cond.instanceMethod yX2_comesIn, Cond.selects RX2 yX2_comesIn yX2_comesIn, Cond.code yX2_comesIn cX2_comesIn 4 (some .boolean), Cond.methodLink RX2 35 yX1_measure, Cond.instanceMethod yX1_measure, Cond.selects RX1 yX1_measure yX1_measure, Cond.code yX1_measure cX1_measure 4 none, Cond.fieldLink RX1 32 "AskedIn$Towns" "far" "I", Cond.fieldLink RX1 36 "AskedIn$Towns" "slow" "I", Cond.fieldLink RX1 39 "AskedIn$Street" "quicknesses" "[I", Cond.methodLink RX1 26 yX9_weigh, Cond.static yX10_roundedUp, Cond.code yX10_roundedUp cX10_roundedUp 2 (some .int), Cond.methodLink RX2 39 yX1_begin, Cond.instanceMethod yX1_begin, Cond.selects RX1 yX1_begin yX1_begin, Cond.code yX1_begin cX1_begin 3 none, Cond.fieldLink RX1 48 "AskedIn$Night" "one" "I", Cond.fieldLink RX1 51 "AskedIn$Night" "minute" "I", Cond.fieldLink RX1 54 "AskedIn$Street" "sacks" "[I", Cond.fieldLink RX1 57 "AskedIn$Night" "place" "I"]
def wsL_law_r28 : List Cond := [Cond.fieldLink RX1 60 "AskedIn$Street" "purses" "[I", Cond.fieldLink RX1 63 "AskedIn$Night" "coins" "I", Cond.fieldLink RX1 66 "AskedIn$Night" "in" "I", Cond.fieldLink RX1 69 "AskedIn$Night" "counted" "I", Cond.methodLink RX2 43 yX1_reach, Cond.instanceMethod yX1_reach, Cond.selects RX1 yX1_reach yX1_reach, Cond.code yX1_reach cX1_reach 3 (some .boolean), Cond.methodLink RX1 72 Lib.Math.abs.name, Cond.static Lib.Math.abs.name, Cond.code Lib.Math.abs.name Lib.Math.abs.code 1 (some .int), Cond.fieldLink RX1 85 "AskedIn$Street" "held" "I", Cond.methodLink RX1 88 yX9_dawnOf, Cond.methodLink RX1 91 yX1_isLet, Cond.instanceMethod yX1_isLet, Cond.selects RX1 yX1_isLet yX1_isLet, Cond.code yX1_isLet cX1_isLet 3 (some .boolean), Cond.fieldLink RX1 99 "AskedIn$Street" "asked" "[I", Cond.fieldLink RX1 102 "AskedIn$Street" "numbers" "[I", Cond.fieldLink RX1 105 "AskedIn$Street" "kinds" "[I", Cond.fieldLink RX1 118 "AskedIn$Street" "rows" "[I", Cond.methodLink RX1 108 yX1_isLate, Cond.instanceMethod yX1_isLate, Cond.selects RX1 yX1_isLate yX1_isLate]
def wsL_law_r29 : List Cond := [Cond.code yX1_isLate cX1_isLate 2 (some .boolean), Cond.methodLink RX1 111 yX1_isKnown, Cond.instanceMethod yX1_isKnown, Cond.selects RX1 yX1_isKnown yX1_isKnown, Cond.code yX1_isKnown cX1_isKnown 3 (some .boolean), Cond.methodLink RX1 121 yJ6_bitCount_0f7a4, Cond.static yJ6_bitCount_0f7a4, Cond.initialized RJ6, Cond.code yJ6_bitCount_0f7a4 cJ6_bitCount_0f7a4 1 (some .int), Cond.constant RJ6 265 (1431655765), Cond.constant RJ6 266 (858993459), Cond.constant RJ6 267 (252645135), Cond.methodLink RX1 115 yX1_pays, Cond.instanceMethod yX1_pays, Cond.selects RX1 yX1_pays yX1_pays, Cond.code yX1_pays cX1_pays 3 (some .boolean), Cond.methodLink RL 69 yX11_visit, Cond.instanceMethod yX11_visit, Cond.selects RX11 yX11_visit yX11_visit, Cond.code yX11_visit cX11_visit 5 (some .int), Cond.methodLink RX11 343 yX11_comesIn, Cond.instanceMethod yX11_comesIn, Cond.selects RX11 yX11_comesIn yX11_comesIn, Cond.code yX11_comesIn cX11_comesIn 4 (some .boolean)]
def wsL_law_r30 : List Cond := [Cond.methodLink RX11 336 yX11_beginNight, Cond.instanceMethod yX11_beginNight, Cond.selects RX11 yX11_beginNight yX11_beginNight, Cond.code yX11_beginNight cX11_beginNight 3 none, Cond.methodLink RX11 340 yX11_visits, Cond.instanceMethod yX11_visits, Cond.selects RX11 yX11_visits yX11_visits, Cond.code yX11_visits cX11_visits 4 (some .boolean), Cond.methodLink RX11 323 yX11_apart, Cond.instanceMethod yX11_apart, Cond.selects RX11 yX11_apart yX11_apart, Cond.code yX11_apart cX11_apart 3 (some .int), Cond.methodLink RX11 314 yX11_has, Cond.instanceMethod yX11_has, Cond.selects RX11 yX11_has yX11_has, Cond.code yX11_has cX11_has 3 (some .boolean), Cond.methodLink RX11 327 yX11_upBy, Cond.instanceMethod yX11_upBy, Cond.selects RX11 yX11_upBy yX11_upBy, Cond.code yX11_upBy cX11_upBy 3 (some .int), Cond.methodLink RX11 330 yX11_dawn, Cond.methodLink RX11 333 yX11_letsIn, Cond.instanceMethod yX11_letsIn, Cond.selects RX11 yX11_letsIn yX11_letsIn]
def wsL_law_r31 : List Cond := [Cond.code yX11_letsIn cX11_letsIn 2 (some .boolean), Cond.methodLink RX11 317 yX11_isProudly, Cond.instanceMethod yX11_isProudly, Cond.selects RX11 yX11_isProudly yX11_isProudly, Cond.code yX11_isProudly cX11_isProudly 2 (some .boolean), Cond.methodLink RX11 311 yX11_ones, Cond.instanceMethod yX11_ones, Cond.selects RX11 yX11_ones yX11_ones, Cond.code yX11_ones cX11_ones 4 (some .int), Cond.methodLink RX11 320 yX11_pays, Cond.instanceMethod yX11_pays, Cond.selects RX11 yX11_pays yX11_pays, Cond.code yX11_pays cX11_pays 2 (some .boolean), Cond.methodLink RL 70 yX10_way, Cond.instanceMethod yX10_way, Cond.selects RX10 yX10_way yX10_way, Cond.code yX10_way cX10_way 2 (some .int), Cond.fieldLink RX10 168 "AskedIn$Street" "plan" "LAskedIn$Rows;", Cond.methodLink RX10 172 yX4_empty, Cond.instanceMethod yX4_empty, Cond.selects RX4 yX4_empty yX4_empty, Cond.code yX4_empty cX4_empty 1 (some .int), Cond.fieldLink RX4 24 "AskedIn$Rows" "size" "I", Cond.methodLink RX10 178 yX4_add]
def wsL_law_r32 : List Cond := [Cond.instanceMethod yX4_add, Cond.selects RX4 yX4_add yX4_add, Cond.code yX4_add cX4_add 3 (some .int), Cond.methodLink RL 73 yX11_way, Cond.instanceMethod yX11_way, Cond.selects RX11 yX11_way yX11_way, Cond.code yX11_way cX11_way 2 (some .int), Cond.methodLink RL 74 yX10_goes, Cond.instanceMethod yX10_goes, Cond.selects RX10 yX10_goes yX10_goes, Cond.code yX10_goes cX10_goes 4 (some .int), Cond.fieldLink RX10 182 "AskedIn$Night" "in" "I", Cond.methodLink RX10 179 yX2_followPlan, Cond.instanceMethod yX2_followPlan, Cond.selects RX2 yX2_followPlan yX2_followPlan, Cond.code yX2_followPlan cX2_followPlan 5 (some .int), Cond.fieldLink RX2 47 "AskedIn$Street" "plan" "LAskedIn$Rows;", Cond.fieldLink RX2 53 "AskedIn$Rows" "size" "I", Cond.fieldLink RX2 59 "AskedIn$Rows" "firsts" "[I", Cond.fieldLink RX2 63 "AskedIn$Street" "grains" "[I", Cond.methodLink RL 77 yX11_goes, Cond.instanceMethod yX11_goes, Cond.selects RX11 yX11_goes yX11_goes, Cond.code yX11_goes cX11_goes 6 (some .int)]
def wsL_law_r33 : List Cond := [Cond.methodLink RL 78 yX10_round, Cond.instanceMethod yX10_round, Cond.selects RX10 yX10_round yX10_round, Cond.code yX10_round cX10_round 7 (some .int), Cond.fieldLink RX10 185 "AskedIn$Street" "houses" "I", Cond.fieldLink RX10 197 "AskedIn$Round" "size" "I", Cond.fieldLink RX10 200 "AskedIn$Round" "row" "[I", Cond.fieldLink RX10 203 "AskedIn$Round" "ins" "I", Cond.fieldLink RX10 206 "AskedIn$Round" "minute" "I", Cond.methodLink RX10 188 yJ6_bitCount_0f7a4, Cond.methodLink RX10 193 yX2_bestRound, Cond.instanceMethod yX2_bestRound, Cond.selects RX2 yX2_bestRound yX2_bestRound, Cond.code yX2_bestRound cX2_bestRound 6 (some (.object "AskedIn$Round")), Cond.fieldLink RX2 70 "AskedIn$Round" "size" "I", Cond.fieldLink RX2 74 "AskedIn$Night" "in" "I", Cond.fieldLink RX2 83 "AskedIn$Night" "minute" "I", Cond.methodLink RX2 66 yX3_start, Cond.instanceMethod yX3_start, Cond.selects RX3 yX3_start yX3_start, Cond.code yX3_start cX3_start 3 none, Cond.fieldLink RX3 18 "AskedIn$Round" "size" "I", Cond.fieldLink RX3 22 "AskedIn$Round" "ins" "I", Cond.fieldLink RX3 25 "AskedIn$Round" "minute" "I"]
def wsL_law_r34 : List Cond := [Cond.methodLink RX2 77 yJ6_bitCount_0f7a4, Cond.methodLink RX2 86 yX3_weigh, Cond.instanceMethod yX3_weigh, Cond.selects RX3 yX3_weigh yX3_weigh, Cond.code yX3_weigh cX3_weigh 3 none, Cond.methodLink RX3 32 arraycopyName, Cond.native arraycopyName, Cond.static arraycopyName, Cond.initialized "java/lang/System", Cond.methodLink RX2 89 yX3_advance, Cond.instanceMethod yX3_advance, Cond.selects RX3 yX3_advance yX3_advance, Cond.code yX3_advance cX3_advance 5 (some .boolean), Cond.methodLink RX3 38 yX3_swap, Cond.instanceMethod yX3_swap, Cond.selects RX3 yX3_swap yX3_swap, Cond.code yX3_swap cX3_swap 4 none, Cond.methodLink RL 81 yX11_round, Cond.instanceMethod yX11_round, Cond.selects RX11 yX11_round yX11_round, Cond.code yX11_round cX11_round 10 (some .int), Cond.methodLink RX11 346 yX11_layOrder, Cond.instanceMethod yX11_layOrder, Cond.selects RX11 yX11_layOrder yX11_layOrder]
def wsL_law_r35 : List Cond := [Cond.code yX11_layOrder cX11_layOrder 10 (some .boolean), Cond.methodLink RL 82 yX10_keep, Cond.instanceMethod yX10_keep, Cond.selects RX10 yX10_keep yX10_keep, Cond.code yX10_keep cX10_keep 3 (some .int), Cond.methodLink RX10 207 yX2_leastGrain, Cond.instanceMethod yX2_leastGrain, Cond.selects RX2 yX2_leastGrain yX2_leastGrain, Cond.code yX2_leastGrain cX2_leastGrain 4 (some .int), Cond.methodLink RX2 93 yX2_comesIn, Cond.methodLink RL 85 yX11_keep, Cond.instanceMethod yX11_keep, Cond.selects RX11 yX11_keep yX11_keep, Cond.code yX11_keep cX11_keep 6 (some .int), Cond.methodLink RL 86 yX10_more, Cond.instanceMethod yX10_more, Cond.selects RX10 yX10_more yX10_more, Cond.code yX10_more cX10_more 4 (some .int), Cond.methodLink RX10 210 yX2_houseToStrew, Cond.instanceMethod yX2_houseToStrew, Cond.selects RX2 yX2_houseToStrew yX2_houseToStrew, Cond.code yX2_houseToStrew cX2_houseToStrew 6 (some .int), Cond.fieldLink RX2 97 "AskedIn$Street" "houses" "I", Cond.methodLink RX2 100 yX2_insAt]
def wsL_law_r36 : List Cond := [Cond.instanceMethod yX2_insAt, Cond.selects RX2 yX2_insAt yX2_insAt, Cond.code yX2_insAt cX2_insAt 6 (some .int), Cond.methodLink RX2 104 Lib.Math.min.name, Cond.fieldLink RX2 109 "AskedIn$Street" "folks" "I", Cond.methodLink RX10 213 yX2_pairsAfter, Cond.instanceMethod yX2_pairsAfter, Cond.selects RX2 yX2_pairsAfter yX2_pairsAfter, Cond.code yX2_pairsAfter cX2_pairsAfter 5 (some .int), Cond.methodLink RL 89 yX11_more, Cond.instanceMethod yX11_more, Cond.selects RX11 yX11_more yX11_more, Cond.code yX11_more cX11_more 8 (some .int), Cond.methodLink RX11 349 yX11_pairsIn, Cond.instanceMethod yX11_pairsIn, Cond.selects RX11 yX11_pairsIn yX11_pairsIn, Cond.code yX11_pairsIn cX11_pairsIn 4 (some .int), Cond.methodLink RL 90 yX10_share, Cond.instanceMethod yX10_share, Cond.selects RX10 yX10_share yX10_share, Cond.code yX10_share cX10_share 8 (some .int), Cond.methodLink RX10 216 yX2_doneTogether, Cond.instanceMethod yX2_doneTogether, Cond.selects RX2 yX2_doneTogether yX2_doneTogether]
def wsL_law_r37 : List Cond := [Cond.code yX2_doneTogether cX2_doneTogether 7 (some .int), Cond.methodLink RX2 115 Lib.Math.max.name, Cond.fieldLink RX2 123 "AskedIn$Street" "quicknesses" "[I", Cond.fieldLink RX2 126 "AskedIn$Towns" "slow" "I", Cond.methodLink RX2 112 yX2_walk, Cond.instanceMethod yX2_walk, Cond.selects RX2 yX2_walk yX2_walk, Cond.code yX2_walk cX2_walk 3 (some .int), Cond.fieldLink RX2 132 "AskedIn$Towns" "far" "I", Cond.fieldLink RX2 135 "AskedIn$Street" "sacks" "[I", Cond.methodLink RX2 138 Lib.Math.abs.name, Cond.methodLink RX2 118 yX9_weigh, Cond.methodLink RX10 219 yX1_isLetIn, Cond.instanceMethod yX1_isLetIn, Cond.selects RX1 yX1_isLetIn yX1_isLetIn, Cond.code yX1_isLetIn cX1_isLetIn 4 (some .boolean), Cond.methodLink RX1 95 yX1_begin, Cond.methodLink RL 94 yX11_share, Cond.instanceMethod yX11_share, Cond.selects RX11 yX11_share yX11_share, Cond.code yX11_share cX11_share 9 (some .int), Cond.methodLink RX11 352 yX11_walksTo, Cond.instanceMethod yX11_walksTo, Cond.selects RX11 yX11_walksTo yX11_walksTo]
def wsL_law_r38 : List Cond := [Cond.code yX11_walksTo cX11_walksTo 3 (some .int), Cond.methodLink RX11 355 yX11_isLetIn, Cond.instanceMethod yX11_isLetIn, Cond.selects RX11 yX11_isLetIn yX11_isLetIn, Cond.code yX11_isLetIn cX11_isLetIn 4 (some .boolean), Cond.methodLink RL 95 yX10_watch, Cond.instanceMethod yX10_watch, Cond.selects RX10 yX10_watch yX10_watch, Cond.code yX10_watch cX10_watch 3 (some .int), Cond.fieldLink RX10 222 "AskedIn$Street" "watched" "LAskedIn$Rows;", Cond.methodLink RL 99 yX11_watch, Cond.instanceMethod yX11_watch, Cond.selects RX11 yX11_watch yX11_watch, Cond.code yX11_watch cX11_watch 3 (some .int), Cond.methodLink RL 100 yX10_suspects, Cond.instanceMethod yX10_suspects, Cond.selects RX10 yX10_suspects yX10_suspects, Cond.code yX10_suspects cX10_suspects 1 (some .int), Cond.methodLink RX10 225 yX2_whoBits, Cond.instanceMethod yX2_whoBits, Cond.selects RX2 yX2_whoBits yX2_whoBits, Cond.code yX2_whoBits cX2_whoBits 7 (some .int), Cond.fieldLink RX2 141 "AskedIn$Street" "watched" "LAskedIn$Rows;", Cond.fieldLink RX2 144 "AskedIn$Rows" "seconds" "[I"]
def wsL_law_r39 : List Cond := [Cond.methodLink RL 103 yX11_suspects, Cond.instanceMethod yX11_suspects, Cond.selects RX11 yX11_suspects yX11_suspects, Cond.code yX11_suspects cX11_suspects 5 (some .int), Cond.methodLink RL 104 yX10_next, Cond.instanceMethod yX10_next, Cond.selects RX10 yX10_next yX10_next, Cond.code yX10_next cX10_next 1 (some .int), Cond.methodLink RX10 228 yX2_houseToWatch, Cond.instanceMethod yX2_houseToWatch, Cond.selects RX2 yX2_houseToWatch yX2_houseToWatch, Cond.code yX2_houseToWatch cX2_houseToWatch 6 (some .int), Cond.methodLink RX2 151 yX2_whoBits, Cond.methodLink RX2 155 yX2_apartAt, Cond.instanceMethod yX2_apartAt, Cond.selects RX2 yX2_apartAt yX2_apartAt, Cond.code yX2_apartAt cX2_apartAt 5 (some .int), Cond.methodLink RL 107 yX11_next, Cond.instanceMethod yX11_next, Cond.selects RX11 yX11_next yX11_next, Cond.code yX11_next cX11_next 7 (some .int), Cond.methodLink RX11 358 yX11_suspects, Cond.methodLink RL 108 yX10_when, Cond.instanceMethod yX10_when]
def wsL_law_r40 : List Cond := [Cond.selects RX10 yX10_when yX10_when, Cond.code yX10_when cX10_when 3 (some .int), Cond.methodLink RX10 231 yX2_leastStart, Cond.instanceMethod yX2_leastStart, Cond.selects RX2 yX2_leastStart yX2_leastStart, Cond.code yX2_leastStart cX2_leastStart 4 (some .int), Cond.methodLink RL 111 yX11_when, Cond.instanceMethod yX11_when, Cond.selects RX11 yX11_when yX11_when, Cond.code yX11_when cX11_when 4 (some .int), Cond.methodLink RL 112 yX10_odds, Cond.instanceMethod yX10_odds, Cond.selects RX10 yX10_odds yX10_odds, Cond.code yX10_odds cX10_odds 4 (some .long), Cond.constantLong RX10 234 (-9223372036854775808), Cond.constantLong RX10 239 (60), Cond.methodLink RX10 236 yX2_goodStarts, Cond.instanceMethod yX2_goodStarts, Cond.selects RX2 yX2_goodStarts yX2_goodStarts, Cond.code yX2_goodStarts cX2_goodStarts 5 (some .int), Cond.methodLink RX10 241 yX10_sideOfFraction, Cond.static yX10_sideOfFraction, Cond.code yX10_sideOfFraction cX10_sideOfFraction 12 (some .long), Cond.methodLink RL 116 yX11_odds]
def wsL_law_r41 : List Cond := [Cond.instanceMethod yX11_odds, Cond.selects RX11 yX11_odds yX11_odds, Cond.code yX11_odds cX11_odds 6 (some .long), Cond.constantLong RX11 364 (-9223372036854775808), Cond.methodLink RX11 366 yX11_lowest, Cond.instanceMethod yX11_lowest, Cond.selects RX11 yX11_lowest yX11_lowest, Cond.code yX11_lowest cX11_lowest 5 (some .long), Cond.methodLink RX11 361 yX11_divisor, Cond.instanceMethod yX11_divisor, Cond.selects RX11 yX11_divisor yX11_divisor, Cond.code yX11_divisor cX11_divisor 6 (some .int), Cond.methodLink RL 117 yX10_mean, Cond.instanceMethod yX10_mean, Cond.selects RX10 yX10_mean yX10_mean, Cond.code yX10_mean cX10_mean 3 (some .long), Cond.fieldLink RX10 245 "AskedIn$Street" "folks" "I", Cond.methodLink RX10 248 yX2_minutesOfAll, Cond.instanceMethod yX2_minutesOfAll, Cond.selects RX2 yX2_minutesOfAll yX2_minutesOfAll, Cond.code yX2_minutesOfAll cX2_minutesOfAll 4 (some .int), Cond.methodLink RL 121 yX11_mean, Cond.instanceMethod yX11_mean, Cond.selects RX11 yX11_mean yX11_mean]
def wsL_law_r42 : List Cond := [Cond.code yX11_mean cX11_mean 6 (some .long), Cond.methodLink RL 122 yX10_book, Cond.instanceMethod yX10_book, Cond.selects RX10 yX10_book yX10_book, Cond.code yX10_book cX10_book 3 (some .int), Cond.fieldLink RX10 251 "AskedIn$Street" "visits" "LAskedIn$Rows;", Cond.methodLink RL 125 yX11_book, Cond.instanceMethod yX11_book, Cond.selects RX11 yX11_book yX11_book, Cond.code yX11_book cX11_book 3 (some .int), Cond.methodLink RL 126 yX10_looked, Cond.instanceMethod yX10_looked, Cond.selects RX10 yX10_looked yX10_looked, Cond.code yX10_looked cX10_looked 1 (some .int), Cond.methodLink RX10 254 yX2_firstKeptOut, Cond.instanceMethod yX2_firstKeptOut, Cond.selects RX2 yX2_firstKeptOut yX2_firstKeptOut, Cond.code yX2_firstKeptOut cX2_firstKeptOut 4 (some .int), Cond.fieldLink RX2 161 "AskedIn$Street" "visits" "LAskedIn$Rows;", Cond.methodLink RL 129 yX11_looked, Cond.instanceMethod yX11_looked, Cond.selects RX11 yX11_looked yX11_looked, Cond.code yX11_looked cX11_looked 2 (some .int), Cond.methodLink RL 130 yX10_judge]
def wsL_law_r43 : List Cond := [Cond.instanceMethod yX10_judge, Cond.selects RX10 yX10_judge yX10_judge, Cond.code yX10_judge cX10_judge 4 (some .int), Cond.fieldLink RX10 257 "AskedIn$Tapes" "sorts" "[I", Cond.fieldLink RX10 260 "AskedIn$Tapes" "sizes" "[I", Cond.fieldLink RX10 263 "AskedIn$Tapes" "items" "[[J", Cond.methodLink RL 133 yX11_judge, Cond.instanceMethod yX11_judge, Cond.selects RX11 yX11_judge yX11_judge, Cond.code yX11_judge cX11_judge 4 (some .int), Cond.methodLink RX11 370 yX11_isTape, Cond.instanceMethod yX11_isTape, Cond.selects RX11 yX11_isTape yX11_isTape, Cond.code yX11_isTape cX11_isTape 2 (some .boolean), Cond.methodLink RL 134 yX10_image, Cond.instanceMethod yX10_image, Cond.selects RX10 yX10_image yX10_image, Cond.code yX10_image cX10_image 1 (some .int), Cond.fieldLink RX10 271 "AskedIn" "hasImage" "Z", Cond.methodLink RX10 267 yX5_copy, Cond.instanceMethod yX5_copy, Cond.selects RX5 yX5_copy yX5_copy, Cond.code yX5_copy cX5_copy 2 none, Cond.methodLink RX5 65 arraycopyName]
def wsL_law_r44 : List Cond := [Cond.methodLink RX5 71 yX4_copy, Cond.instanceMethod yX4_copy, Cond.selects RX4 yX4_copy yX4_copy, Cond.code yX4_copy cX4_copy 2 none, Cond.methodLink RX4 28 Lib.Math.min.name, Cond.methodLink RX4 31 arraycopyName, Cond.methodLink RL 137 yX11_image, Cond.instanceMethod yX11_image, Cond.selects RX11 yX11_image yX11_image, Cond.code yX11_image cX11_image 2 (some .int), Cond.methodLink RL 138 yX10_undo, Cond.instanceMethod yX10_undo, Cond.selects RX10 yX10_undo yX10_undo, Cond.code yX10_undo cX10_undo 1 (some .int), Cond.methodLink RL 141 yX11_undo, Cond.instanceMethod yX11_undo, Cond.selects RX11 yX11_undo yX11_undo, Cond.code yX11_undo cX11_undo 2 (some .int), Cond.methodLink RL 142 yX10_act, Cond.instanceMethod yX10_act, Cond.selects RX10 yX10_act yX10_act, Cond.code yX10_act cX10_act 4 (some .int), Cond.methodLink RX10 275 yX0_forget, Cond.instanceMethod yX0_forget]
def wsL_law_r45 : List Cond := [Cond.selects RX0 yX0_forget yX0_forget, Cond.code yX0_forget cX0_forget 1 none, Cond.fieldLink RX0 15 "AskedIn$Acts" "ran" "I", Cond.methodLink RX10 278 yX0_start, Cond.instanceMethod yX0_start, Cond.selects RX0 yX0_start yX0_start, Cond.code yX0_start cX0_start 5 (some .int), Cond.fieldLink RX0 29 "AskedIn$Acts" "number" "I", Cond.fieldLink RX0 32 "AskedIn$Street" "kinds" "[I", Cond.fieldLink RX0 37 "AskedIn$Acts" "kind" "I", Cond.fieldLink RX0 40 "AskedIn$Street" "numbers" "[I", Cond.fieldLink RX0 43 "AskedIn$Acts" "v" "I", Cond.methodLink RX0 46 yX0_call, Cond.instanceMethod yX0_call, Cond.selects RX0 yX0_call yX0_call, Cond.code yX0_call cX0_call 8 (some .int), Cond.fieldLink RX0 50 "AskedIn$Acts" "BODIES" "[I", Cond.methodLink RX0 56 yX0_run, Cond.instanceMethod yX0_run, Cond.selects RX0 yX0_run yX0_run, Cond.code yX0_run cX0_run 5 (some .int), Cond.methodLink RX0 59 yX0_note, Cond.instanceMethod yX0_note, Cond.selects RX0 yX0_note yX0_note]
def wsL_law_r46 : List Cond := [Cond.code yX0_note cX0_note 2 none, Cond.methodLink RL 145 yX11_act, Cond.instanceMethod yX11_act, Cond.selects RX11 yX11_act yX11_act, Cond.code yX11_act cX11_act 4 (some .int), Cond.methodLink RX11 379 yX11_asksAct, Cond.instanceMethod yX11_asksAct, Cond.selects RX11 yX11_asksAct yX11_asksAct, Cond.code yX11_asksAct cX11_asksAct 3 (some .int), Cond.methodLink RX11 373 yX11_body, Cond.instanceMethod yX11_body, Cond.selects RX11 yX11_body yX11_body, Cond.code yX11_body cX11_body 2 none, Cond.methodLink RX11 376 yX11_houseAsks, Cond.instanceMethod yX11_houseAsks, Cond.selects RX11 yX11_houseAsks yX11_houseAsks, Cond.code yX11_houseAsks cX11_houseAsks 3 (some .int), Cond.methodLink RX11 388 yX11_opensAct, Cond.instanceMethod yX11_opensAct, Cond.selects RX11 yX11_opensAct yX11_opensAct, Cond.code yX11_opensAct cX11_opensAct 4 (some .int), Cond.methodLink RX11 385 yX11_lonelyOpens, Cond.instanceMethod yX11_lonelyOpens, Cond.selects RX11 yX11_lonelyOpens yX11_lonelyOpens]
def wsL_law_r47 : List Cond := [Cond.code yX11_lonelyOpens cX11_lonelyOpens 3 (some .int), Cond.methodLink RX11 382 yX11_houseOpens, Cond.instanceMethod yX11_houseOpens, Cond.selects RX11 yX11_houseOpens yX11_houseOpens, Cond.code yX11_houseOpens cX11_houseOpens 3 (some .int), Cond.methodLink RX11 394 yX11_tellsAct, Cond.instanceMethod yX11_tellsAct, Cond.selects RX11 yX11_tellsAct yX11_tellsAct, Cond.code yX11_tellsAct cX11_tellsAct 4 (some .int), Cond.methodLink RX11 391 yX11_houseTells, Cond.instanceMethod yX11_houseTells, Cond.selects RX11 yX11_houseTells yX11_houseTells, Cond.code yX11_houseTells cX11_houseTells 3 (some .int), Cond.methodLink RL 146 yX10_trace, Cond.instanceMethod yX10_trace, Cond.selects RX10 yX10_trace yX10_trace, Cond.code yX10_trace cX10_trace 2 (some .int), Cond.methodLink RX10 282 yX0_begun, Cond.instanceMethod yX0_begun, Cond.selects RX0 yX0_begun yX0_begun, Cond.code yX0_begun cX0_begun 2 (some .int), Cond.methodLink RX0 19 Lib.Math.min.name, Cond.methodLink RL 149 yX11_trace, Cond.instanceMethod yX11_trace]
def wsL_law_r48 : List Cond := [Cond.selects RX11 yX11_trace yX11_trace, Cond.code yX11_trace cX11_trace 2 (some .int), Cond.methodLink RL 150 yX10_taken, Cond.instanceMethod yX10_taken, Cond.selects RX10 yX10_taken yX10_taken, Cond.code yX10_taken cX10_taken 4 (some .int), Cond.methodLink RX10 285 yX10_isUnder, Cond.static yX10_isUnder, Cond.code yX10_isUnder cX10_isUnder 4 (some .boolean), Cond.fieldLink RX10 315 "AskedIn" "ABOVE" "[I", Cond.methodLink RL 153 yX11_taken, Cond.instanceMethod yX11_taken, Cond.selects RX11 yX11_taken yX11_taken, Cond.code yX11_taken cX11_taken 4 (some .int), Cond.methodLink RL 154 yX10_count, Cond.instanceMethod yX10_count, Cond.selects RX10 yX10_count yX10_count, Cond.code yX10_count cX10_count 2 (some .int), Cond.fieldLink RX10 288 "AskedIn$Rows" "size" "I", Cond.fieldLink RX10 289 "AskedIn$Acts" "ran" "I", Cond.methodLink RL 157 yX11_count, Cond.instanceMethod yX11_count, Cond.selects RX11 yX11_count yX11_count, Cond.code yX11_count cX11_count 2 (some .int)]
def wsL_law_r49 : List Cond := [Cond.methodLink RL 158 yX10_tape, Cond.instanceMethod yX10_tape, Cond.selects RX10 yX10_tape yX10_tape, Cond.code yX10_tape cX10_tape 4 (some .int), Cond.methodLink RX10 292 yX6_become, Cond.instanceMethod yX6_become, Cond.selects RX6 yX6_become yX6_become, Cond.code yX6_become cX6_become 4 (some .int), Cond.methodLink RX6 23 yJ7_fill_d0a16, Cond.static yJ7_fill_d0a16, Cond.initialized RJ7, Cond.code yJ7_fill_d0a16 cJ7_fill_d0a16 5 none, Cond.methodLink RL 161 yX11_tape, Cond.instanceMethod yX11_tape, Cond.selects RX11 yX11_tape yX11_tape, Cond.code yX11_tape cX11_tape 5 (some .int), Cond.methodLink RL 164 yX10_item, Cond.instanceMethod yX10_item, Cond.selects RX10 yX10_item yX10_item, Cond.code yX10_item cX10_item 5 (some .int), Cond.methodLink RX10 295 yX6_cut, Cond.static yX6_cut, Cond.code yX6_cut cX6_cut 3 (some .long), Cond.methodLink RL 168 yX11_item]
def wsL_law_r50 : List Cond := [Cond.instanceMethod yX11_item, Cond.selects RX11 yX11_item yX11_item, Cond.code yX11_item cX11_item 5 (some .int), Cond.methodLink RX11 397 yX11_narrow, Cond.instanceMethod yX11_narrow, Cond.selects RX11 yX11_narrow yX11_narrow, Cond.code yX11_narrow cX11_narrow 4 (some .long), Cond.methodLink RL 169 yX10_read, Cond.instanceMethod yX10_read, Cond.selects RX10 yX10_read yX10_read, Cond.code yX10_read cX10_read 3 (some .long), Cond.methodLink RL 172 yX11_read, Cond.instanceMethod yX11_read, Cond.selects RX11 yX11_read yX11_read, Cond.code yX11_read cX11_read 3 (some .long), Cond.methodLink RL 173 yX10_shift, Cond.instanceMethod yX10_shift, Cond.selects RX10 yX10_shift yX10_shift, Cond.code yX10_shift cX10_shift 6 (some .int), Cond.methodLink RX10 299 arraycopyName, Cond.methodLink RL 177 yX11_shift, Cond.instanceMethod yX11_shift, Cond.selects RX11 yX11_shift yX11_shift, Cond.code yX11_shift cX11_shift 7 (some .int)]
def wsL_law : List Cond := (wsL_law_r1 ++ (wsL_law_r2 ++ (wsL_law_r3 ++ (wsL_law_r4 ++ (wsL_law_r5 ++ (wsL_law_r6 ++ (wsL_law_r7 ++ (wsL_law_r8 ++ (wsL_law_r9 ++ (wsL_law_r10 ++ (wsL_law_r11 ++ (wsL_law_r12 ++ (wsL_law_r13 ++ (wsL_law_r14 ++ (wsL_law_r15 ++ (wsL_law_r16 ++ (wsL_law_r17 ++ (wsL_law_r18 ++ (wsL_law_r19 ++ (wsL_law_r20 ++ (wsL_law_r21 ++ (wsL_law_r22 ++ (wsL_law_r23 ++ (wsL_law_r24 ++ (wsL_law_r25 ++ (wsL_law_r26 ++ (wsL_law_r27 ++ (wsL_law_r28 ++ (wsL_law_r29 ++ (wsL_law_r30 ++ (wsL_law_r31 ++ (wsL_law_r32 ++ (wsL_law_r33 ++ (wsL_law_r34 ++ (wsL_law_r35 ++ (wsL_law_r36 ++ (wsL_law_r37 ++ (wsL_law_r38 ++ (wsL_law_r39 ++ (wsL_law_r40 ++ (wsL_law_r41 ++ (wsL_law_r42 ++ (wsL_law_r43 ++ (wsL_law_r44 ++ (wsL_law_r45 ++ (wsL_law_r46 ++ (wsL_law_r47 ++ (wsL_law_r48 ++ (wsL_law_r49 ++ wsL_law_r50))))))))))))))))))))))))))))))))))))))))))))))))) ++ wsX100 ++ wsX110 ++ wsX50 ++ wsX70 ++ wsX00 ++ wsX60 ++ wsX90 ++ wsX20 ++ wsX40 ++ wsX30 ++ wsX10 ++ ([] : List Cond)
set_option maxRecDepth 20000 in
theorem wsL_law_in : ∀ w ∈ wsL_law, w ∈ lw_tbl := fun w h => (goodIn_p wsL_law [97, 100, 105, 111, 115, 214, 247, 270, 292, 330, 336, 364, 1014, 444, 447, 451, 455, 1231, 1235, 1239, 459, 463, 467, 1243, 1247, 471, 475, 479, 483, 488, 1355, 1359, 1363, 1347, 1351, 1367, 1371, 1375, 492, 1251, 1255, 496, 1259, 500, 503, 506, 1263, 510, 1267, 514, 1271, 519, 1275, 523, 527, 1279, 531, 535, 539, 543, 550, 554, 558, 564, 568, 571, 574, 579, 582, 585, 588, 592, 602, 607, 611, 615, 619, 626, 622, 629, 632, 638, 641, 644, 647, 650, 653, 656, 659, 663, 669, 677, 673, 684, 1283, 1287, 1291, 1295, 1299, 1303, 1307, 1311, 1315, 1319, 1323, 1327, 1331, 1335, 1339, 688, 692, 1343, 696, 700, 704, 708, 712, 716, 719, 726, 730, 734, 737, 744, 1379, 1383, 1387, 1391, 1395, 1399, 1403, 1408, 1412, 1416, 1420, 748, 752, 756, 1424, 760, 764, 1428, 768, 773, 777, 783, 790, 794, 1432, 1436, 798, 802, 1440, 807, 811, 815, 820, 1444, 1448, 824, 828, 832, 840, 1452, 1456, 1460, 845, 1464, 849, 853, 1468, 858, 862, 867, 1472, 872, 876, 1477, 880, 885, 889, 1481, 1486, 1490, 893, 897, 1494, 901, 1498, 905, 909, 1502, 913, 1506, 1510, 917, 921, 926, 1514, 932, 1518, 936, 940, 944, 948, 957, 961, 1522, 1526, 1530, 1534, 1538, 1542, 1546, 1550, 1554, 965, 969, 1558, 974, 977, 1562, 982, 1566, 986, 990, 993, 1570, 997, 1000, 1574, 1578, 1004, 1582, 1008, 1586] (by decide +kernel) (by decide +kernel) w h).1
theorem inlX0 : ∀ w ∈ wsX00, w ∈ wsL_law := fun _ h => List.mem_append_left _ (List.mem_append_left _ (List.mem_append_left _ (List.mem_append_left _ (List.mem_append_left _ (List.mem_append_left _ (List.mem_append_left _ (List.mem_append_right _ h)))))))
theorem inlX1 : ∀ w ∈ wsX10, w ∈ wsL_law := fun _ h => List.mem_append_left _ (List.mem_append_right _ h)
theorem inlX2 : ∀ w ∈ wsX20, w ∈ wsL_law := fun _ h => List.mem_append_left _ (List.mem_append_left _ (List.mem_append_left _ (List.mem_append_left _ (List.mem_append_right _ h))))
theorem inlX3 : ∀ w ∈ wsX30, w ∈ wsL_law := fun _ h => List.mem_append_left _ (List.mem_append_left _ (List.mem_append_right _ h))
theorem inlX4 : ∀ w ∈ wsX40, w ∈ wsL_law := fun _ h => List.mem_append_left _ (List.mem_append_left _ (List.mem_append_left _ (List.mem_append_right _ h)))
theorem inlX5 : ∀ w ∈ wsX50, w ∈ wsL_law := fun _ h => List.mem_append_left _ (List.mem_append_left _ (List.mem_append_left _ (List.mem_append_left _ (List.mem_append_left _ (List.mem_append_left _ (List.mem_append_left _ (List.mem_append_left _ (List.mem_append_left _ (List.mem_append_right _ h)))))))))
theorem inlX6 : ∀ w ∈ wsX60, w ∈ wsL_law := fun _ h => List.mem_append_left _ (List.mem_append_left _ (List.mem_append_left _ (List.mem_append_left _ (List.mem_append_left _ (List.mem_append_left _ (List.mem_append_right _ h))))))
theorem inlX7 : ∀ w ∈ wsX70, w ∈ wsL_law := fun _ h => List.mem_append_left _ (List.mem_append_left _ (List.mem_append_left _ (List.mem_append_left _ (List.mem_append_left _ (List.mem_append_left _ (List.mem_append_left _ (List.mem_append_left _ (List.mem_append_right _ h))))))))
theorem inlX9 : ∀ w ∈ wsX90, w ∈ wsL_law := fun _ h => List.mem_append_left _ (List.mem_append_left _ (List.mem_append_left _ (List.mem_append_left _ (List.mem_append_left _ (List.mem_append_right _ h)))))
theorem inlX10 : ∀ w ∈ wsX100, w ∈ wsL_law := fun _ h => List.mem_append_left _ (List.mem_append_left _ (List.mem_append_left _ (List.mem_append_left _ (List.mem_append_left _ (List.mem_append_left _ (List.mem_append_left _ (List.mem_append_left _ (List.mem_append_left _ (List.mem_append_left _ (List.mem_append_left _ (List.mem_append_right _ h)))))))))))
theorem inlX11 : ∀ w ∈ wsX110, w ∈ wsL_law := fun _ h => List.mem_append_left _ (List.mem_append_left _ (List.mem_append_left _ (List.mem_append_left _ (List.mem_append_left _ (List.mem_append_left _ (List.mem_append_left _ (List.mem_append_left _ (List.mem_append_left _ (List.mem_append_left _ (List.mem_append_right _ h))))))))))
abbrev vwCl : List vw_C := [(RX0, TX0, 5), (RX1, TX1, 10), (RX2, TX2, 4), (RX3, TX3, 5), (RX4, TX4, 3), (RX5, TX5, 14), (RX6, TX6, 3), (RX7, TX7, 7), (RX9, TX9, 7), (RX10, TX10, 8), (RX11, TX11, 70)]
end
section
theorem dX0_init_0 : decode cX0_init 0 = .ok (.aload_n 0, 1) := by decide +kernel
theorem dX0_init_1 : decode cX0_init 1 = .ok (.invokespecial 3, 3) := by decide +kernel
theorem dX0_init_4 : decode cX0_init 4 = .ok (.aload_n 0, 1) := by decide +kernel
theorem dX0_init_5 : decode cX0_init 5 = .ok (.bipush 20, 2) := by decide +kernel
theorem dX0_init_7 : decode cX0_init 7 = .ok (.newarray .int, 2) := by decide +kernel
theorem dX0_init_9 : decode cX0_init 9 = .ok (.putfield 11, 3) := by decide +kernel
theorem dX0_init_12 : decode cX0_init 12 = .ok (.return_, 1) := by decide +kernel
theorem dX0_forget_0 : decode cX0_forget 0 = .ok (.aload_n 0, 1) := by decide +kernel
theorem dX0_forget_1 : decode cX0_forget 1 = .ok (.iconst 0, 1) := by decide +kernel
theorem dX0_forget_2 : decode cX0_forget 2 = .ok (.putfield 15, 3) := by decide +kernel
theorem dX0_forget_5 : decode cX0_forget 5 = .ok (.return_, 1) := by decide +kernel
theorem dX0_begun_0 : decode cX0_begun 0 = .ok (.iload_n 1, 1) := by decide +kernel
theorem dX0_begun_1 : decode cX0_begun 1 = .ok (.aload_n 0, 1) := by decide +kernel
theorem dX0_begun_2 : decode cX0_begun 2 = .ok (.getfield 15, 3) := by decide +kernel
theorem dX0_begun_5 : decode cX0_begun 5 = .ok (.bipush 20, 2) := by decide +kernel
theorem dX0_begun_7 : decode cX0_begun 7 = .ok (.invokestatic 19, 3) := by decide +kernel
theorem dX0_begun_10 : decode cX0_begun 10 = .ok (.iconst 1, 1) := by decide +kernel
theorem dX0_begun_11 : decode cX0_begun 11 = .ok (.isub, 1) := by decide +kernel
theorem dX0_begun_12 : decode cX0_begun 12 = .ok (.invokestatic 25, 3) := by decide +kernel
theorem dX0_begun_15 : decode cX0_begun 15 = .ok (.ifCond .eq 12, 3) := by decide +kernel
theorem dX0_begun_18 : decode cX0_begun 18 = .ok (.aload_n 0, 1) := by decide +kernel
theorem dX0_begun_19 : decode cX0_begun 19 = .ok (.getfield 11, 3) := by decide +kernel
theorem dX0_begun_22 : decode cX0_begun 22 = .ok (.iload_n 1, 1) := by decide +kernel
theorem dX0_begun_23 : decode cX0_begun 23 = .ok (.iaload, 1) := by decide +kernel
theorem dX0_begun_24 : decode cX0_begun 24 = .ok (.goto 4, 3) := by decide +kernel
theorem dX0_begun_27 : decode cX0_begun 27 = .ok (.iconst (-1), 1) := by decide +kernel
theorem dX0_begun_28 : decode cX0_begun 28 = .ok (.ireturn, 1) := by decide +kernel
theorem dX0_start_0 : decode cX0_start 0 = .ok (.aload_n 0, 1) := by decide +kernel
theorem dX0_start_1 : decode cX0_start 1 = .ok (.iload_n 2, 1) := by decide +kernel
theorem dX0_start_2 : decode cX0_start 2 = .ok (.putfield 29, 3) := by decide +kernel
theorem dX0_start_5 : decode cX0_start 5 = .ok (.aload_n 0, 1) := by decide +kernel
theorem dX0_start_6 : decode cX0_start 6 = .ok (.aload_n 1, 1) := by decide +kernel
theorem dX0_start_7 : decode cX0_start 7 = .ok (.getfield 32, 3) := by decide +kernel
theorem dX0_start_10 : decode cX0_start 10 = .ok (.iload_n 2, 1) := by decide +kernel
theorem dX0_start_11 : decode cX0_start 11 = .ok (.iaload, 1) := by decide +kernel
theorem dX0_start_12 : decode cX0_start 12 = .ok (.putfield 37, 3) := by decide +kernel
theorem dX0_start_15 : decode cX0_start 15 = .ok (.aload_n 0, 1) := by decide +kernel
theorem dX0_start_16 : decode cX0_start 16 = .ok (.aload_n 1, 1) := by decide +kernel
theorem dX0_start_17 : decode cX0_start 17 = .ok (.getfield 40, 3) := by decide +kernel
theorem dX0_start_20 : decode cX0_start 20 = .ok (.iload_n 2, 1) := by decide +kernel
theorem dX0_start_21 : decode cX0_start 21 = .ok (.iaload, 1) := by decide +kernel
theorem dX0_start_22 : decode cX0_start 22 = .ok (.putfield 43, 3) := by decide +kernel
theorem dX0_start_25 : decode cX0_start 25 = .ok (.aload_n 0, 1) := by decide +kernel
theorem dX0_start_26 : decode cX0_start 26 = .ok (.iload_n 3, 1) := by decide +kernel
theorem dX0_start_27 : decode cX0_start 27 = .ok (.aload_n 0, 1) := by decide +kernel
theorem dX0_start_28 : decode cX0_start 28 = .ok (.getfield 37, 3) := by decide +kernel
theorem dX0_start_31 : decode cX0_start 31 = .ok (.iload 4, 2) := by decide +kernel
theorem dX0_start_33 : decode cX0_start 33 = .ok (.iconst 0, 1) := by decide +kernel
theorem dX0_start_34 : decode cX0_start 34 = .ok (.invokevirtual 46, 3) := by decide +kernel
theorem dX0_start_37 : decode cX0_start 37 = .ok (.ireturn, 1) := by decide +kernel
theorem dX0_call_0 : decode cX0_call 0 = .ok (.iload_n 2, 1) := by decide +kernel
theorem dX0_call_1 : decode cX0_call 1 = .ok (.istore 5, 2) := by decide +kernel
theorem dX0_call_3 : decode cX0_call 3 = .ok (.iconst 0, 1) := by decide +kernel
theorem dX0_call_4 : decode cX0_call 4 = .ok (.istore 6, 2) := by decide +kernel
theorem dX0_call_6 : decode cX0_call 6 = .ok (.iload 6, 2) := by decide +kernel
theorem dX0_call_8 : decode cX0_call 8 = .ok (.bipush 6, 2) := by decide +kernel
theorem dX0_call_10 : decode cX0_call 10 = .ok (.if_icmp .gt 73, 3) := by decide +kernel
theorem dX0_call_13 : decode cX0_call 13 = .ok (.iload 5, 2) := by decide +kernel
theorem dX0_call_15 : decode cX0_call 15 = .ok (.bipush 6, 2) := by decide +kernel
theorem dX0_call_17 : decode cX0_call 17 = .ok (.invokestatic 25, 3) := by decide +kernel
theorem dX0_call_20 : decode cX0_call 20 = .ok (.ifCond .eq 63, 3) := by decide +kernel
theorem dX0_call_23 : decode cX0_call 23 = .ok (.getstatic 50, 3) := by decide +kernel
theorem dX0_call_26 : decode cX0_call 26 = .ok (.iload 5, 2) := by decide +kernel
theorem dX0_call_28 : decode cX0_call 28 = .ok (.iconst 3, 1) := by decide +kernel
theorem dX0_call_29 : decode cX0_call 29 = .ok (.imul, 1) := by decide +kernel
theorem dX0_call_30 : decode cX0_call 30 = .ok (.iload_n 1, 1) := by decide +kernel
theorem dX0_call_31 : decode cX0_call 31 = .ok (.iadd, 1) := by decide +kernel
theorem dX0_call_32 : decode cX0_call 32 = .ok (.iaload, 1) := by decide +kernel
theorem dX0_call_33 : decode cX0_call 33 = .ok (.istore 7, 2) := by decide +kernel
theorem dX0_call_35 : decode cX0_call 35 = .ok (.iload 7, 2) := by decide +kernel
theorem dX0_call_37 : decode cX0_call 37 = .ok (.ifCond .eq 32, 3) := by decide +kernel
theorem dX0_call_40 : decode cX0_call 40 = .ok (.iload 4, 2) := by decide +kernel
theorem dX0_call_42 : decode cX0_call 42 = .ok (.bipush 20, 2) := by decide +kernel
theorem dX0_call_44 : decode cX0_call 44 = .ok (.if_icmp .ge 23, 3) := by decide +kernel
theorem dX0_call_47 : decode cX0_call 47 = .ok (.aload_n 0, 1) := by decide +kernel
theorem dX0_call_48 : decode cX0_call 48 = .ok (.iload 7, 2) := by decide +kernel
theorem dX0_call_50 : decode cX0_call 50 = .ok (.getstatic 53, 3) := by decide +kernel
theorem dX0_call_53 : decode cX0_call 53 = .ok (.iload 5, 2) := by decide +kernel
theorem dX0_call_55 : decode cX0_call 55 = .ok (.iaload, 1) := by decide +kernel
theorem dX0_call_56 : decode cX0_call 56 = .ok (.iload_n 3, 1) := by decide +kernel
theorem dX0_call_57 : decode cX0_call 57 = .ok (.iload 4, 2) := by decide +kernel
theorem dX0_call_59 : decode cX0_call 59 = .ok (.iconst 1, 1) := by decide +kernel
theorem dX0_call_60 : decode cX0_call 60 = .ok (.iadd, 1) := by decide +kernel
theorem dX0_call_61 : decode cX0_call 61 = .ok (.invokevirtual 56, 3) := by decide +kernel
theorem dX0_call_64 : decode cX0_call 64 = .ok (.goto 4, 3) := by decide +kernel
theorem dX0_call_67 : decode cX0_call 67 = .ok (.iconst 0, 1) := by decide +kernel
theorem dX0_call_68 : decode cX0_call 68 = .ok (.ireturn, 1) := by decide +kernel
theorem dX0_call_69 : decode cX0_call 69 = .ok (.getstatic 53, 3) := by decide +kernel
theorem dX0_call_72 : decode cX0_call 72 = .ok (.iload 5, 2) := by decide +kernel
theorem dX0_call_74 : decode cX0_call 74 = .ok (.iaload, 1) := by decide +kernel
theorem dX0_call_75 : decode cX0_call 75 = .ok (.istore 5, 2) := by decide +kernel
theorem dX0_call_77 : decode cX0_call 77 = .ok (.iinc 6 1, 3) := by decide +kernel
theorem dX0_call_80 : decode cX0_call 80 = .ok (.goto (-74), 3) := by decide +kernel
theorem dX0_call_83 : decode cX0_call 83 = .ok (.iconst 0, 1) := by decide +kernel
theorem dX0_call_84 : decode cX0_call 84 = .ok (.ireturn, 1) := by decide +kernel
theorem dX0_run_0 : decode cX0_run 0 = .ok (.aload_n 0, 1) := by decide +kernel
theorem dX0_run_1 : decode cX0_run 1 = .ok (.iload_n 1, 1) := by decide +kernel
theorem dX0_run_2 : decode cX0_run 2 = .ok (.invokevirtual 59, 3) := by decide +kernel
theorem dX0_run_5 : decode cX0_run 5 = .ok (.iload_n 1, 1) := by decide +kernel
theorem dX0_run_6 : decode cX0_run 6 = .ok (.lookupswitch 259 #[(10, 98), (11, 105), (12, 123), (20, 138), (30, 151), (40, 163), (50, 186), (51, 197), (60, 209), (70, 224), (71, 244)], 98) := by decide +kernel
theorem dX0_run_104 : decode cX0_run 104 = .ok (.iload_n 3, 1) := by decide +kernel
theorem dX0_run_105 : decode cX0_run 105 = .ok (.aload_n 0, 1) := by decide +kernel
theorem dX0_run_106 : decode cX0_run 106 = .ok (.getfield 29, 3) := by decide +kernel
theorem dX0_run_109 : decode cX0_run 109 = .ok (.iadd, 1) := by decide +kernel
theorem dX0_run_110 : decode cX0_run 110 = .ok (.ireturn, 1) := by decide +kernel
theorem dX0_run_111 : decode cX0_run 111 = .ok (.aload_n 0, 1) := by decide +kernel
theorem dX0_run_112 : decode cX0_run 112 = .ok (.iconst 0, 1) := by decide +kernel
theorem dX0_run_113 : decode cX0_run 113 = .ok (.aload_n 0, 1) := by decide +kernel
theorem dX0_run_114 : decode cX0_run 114 = .ok (.getfield 37, 3) := by decide +kernel
theorem dX0_run_117 : decode cX0_run 117 = .ok (.iload_n 3, 1) := by decide +kernel
theorem dX0_run_118 : decode cX0_run 118 = .ok (.iload 4, 2) := by decide +kernel
theorem dX0_run_120 : decode cX0_run 120 = .ok (.invokevirtual 46, 3) := by decide +kernel
theorem dX0_run_123 : decode cX0_run 123 = .ok (.aload_n 0, 1) := by decide +kernel
theorem dX0_run_124 : decode cX0_run 124 = .ok (.getfield 43, 3) := by decide +kernel
theorem dX0_run_127 : decode cX0_run 127 = .ok (.isub, 1) := by decide +kernel
theorem dX0_run_128 : decode cX0_run 128 = .ok (.ireturn, 1) := by decide +kernel
theorem dX0_run_129 : decode cX0_run 129 = .ok (.aload_n 0, 1) := by decide +kernel
theorem dX0_run_130 : decode cX0_run 130 = .ok (.iconst 1, 1) := by decide +kernel
theorem dX0_run_131 : decode cX0_run 131 = .ok (.aload_n 0, 1) := by decide +kernel
theorem dX0_run_132 : decode cX0_run 132 = .ok (.getfield 37, 3) := by decide +kernel
theorem dX0_run_135 : decode cX0_run 135 = .ok (.iload_n 3, 1) := by decide +kernel
theorem dX0_run_136 : decode cX0_run 136 = .ok (.iload 4, 2) := by decide +kernel
theorem dX0_run_138 : decode cX0_run 138 = .ok (.invokevirtual 46, 3) := by decide +kernel
theorem dX0_run_141 : decode cX0_run 141 = .ok (.iconst 2, 1) := by decide +kernel
theorem dX0_run_142 : decode cX0_run 142 = .ok (.imul, 1) := by decide +kernel
theorem dX0_run_143 : decode cX0_run 143 = .ok (.ireturn, 1) := by decide +kernel
theorem dX0_run_144 : decode cX0_run 144 = .ok (.aload_n 0, 1) := by decide +kernel
theorem dX0_run_145 : decode cX0_run 145 = .ok (.iconst 1, 1) := by decide +kernel
theorem dX0_run_146 : decode cX0_run 146 = .ok (.iload_n 2, 1) := by decide +kernel
theorem dX0_run_147 : decode cX0_run 147 = .ok (.iload_n 3, 1) := by decide +kernel
theorem dX0_run_148 : decode cX0_run 148 = .ok (.iload 4, 2) := by decide +kernel
theorem dX0_run_150 : decode cX0_run 150 = .ok (.invokevirtual 46, 3) := by decide +kernel
theorem dX0_run_153 : decode cX0_run 153 = .ok (.bipush 6, 2) := by decide +kernel
theorem dX0_run_155 : decode cX0_run 155 = .ok (.ixor, 1) := by decide +kernel
theorem dX0_run_156 : decode cX0_run 156 = .ok (.ireturn, 1) := by decide +kernel
theorem dX0_run_157 : decode cX0_run 157 = .ok (.aload_n 0, 1) := by decide +kernel
theorem dX0_run_158 : decode cX0_run 158 = .ok (.iconst 0, 1) := by decide +kernel
theorem dX0_run_159 : decode cX0_run 159 = .ok (.iload_n 2, 1) := by decide +kernel
theorem dX0_run_160 : decode cX0_run 160 = .ok (.iload_n 3, 1) := by decide +kernel
theorem dX0_run_161 : decode cX0_run 161 = .ok (.iconst 3, 1) := by decide +kernel
theorem dX0_run_162 : decode cX0_run 162 = .ok (.imul, 1) := by decide +kernel
theorem dX0_run_163 : decode cX0_run 163 = .ok (.iload 4, 2) := by decide +kernel
theorem dX0_run_165 : decode cX0_run 165 = .ok (.invokevirtual 46, 3) := by decide +kernel
theorem dX0_run_168 : decode cX0_run 168 = .ok (.ireturn, 1) := by decide +kernel
theorem dX0_run_169 : decode cX0_run 169 = .ok (.aload_n 0, 1) := by decide +kernel
theorem dX0_run_170 : decode cX0_run 170 = .ok (.iconst 2, 1) := by decide +kernel
theorem dX0_run_171 : decode cX0_run 171 = .ok (.iload_n 2, 1) := by decide +kernel
theorem dX0_run_172 : decode cX0_run 172 = .ok (.iload_n 3, 1) := by decide +kernel
theorem dX0_run_173 : decode cX0_run 173 = .ok (.iload 4, 2) := by decide +kernel
theorem dX0_run_175 : decode cX0_run 175 = .ok (.invokevirtual 46, 3) := by decide +kernel
theorem dX0_run_178 : decode cX0_run 178 = .ok (.aload_n 0, 1) := by decide +kernel
theorem dX0_run_179 : decode cX0_run 179 = .ok (.iconst 1, 1) := by decide +kernel
theorem dX0_run_180 : decode cX0_run 180 = .ok (.aload_n 0, 1) := by decide +kernel
theorem dX0_run_181 : decode cX0_run 181 = .ok (.getfield 37, 3) := by decide +kernel
theorem dX0_run_184 : decode cX0_run 184 = .ok (.iconst 1, 1) := by decide +kernel
theorem dX0_run_185 : decode cX0_run 185 = .ok (.iload 4, 2) := by decide +kernel
theorem dX0_run_187 : decode cX0_run 187 = .ok (.invokevirtual 46, 3) := by decide +kernel
theorem dX0_run_190 : decode cX0_run 190 = .ok (.iadd, 1) := by decide +kernel
theorem dX0_run_191 : decode cX0_run 191 = .ok (.ireturn, 1) := by decide +kernel
theorem dX0_run_192 : decode cX0_run 192 = .ok (.aload_n 0, 1) := by decide +kernel
theorem dX0_run_193 : decode cX0_run 193 = .ok (.iconst 0, 1) := by decide +kernel
theorem dX0_run_194 : decode cX0_run 194 = .ok (.iload_n 2, 1) := by decide +kernel
theorem dX0_run_195 : decode cX0_run 195 = .ok (.iload_n 3, 1) := by decide +kernel
theorem dX0_run_196 : decode cX0_run 196 = .ok (.iload 4, 2) := by decide +kernel
theorem dX0_run_198 : decode cX0_run 198 = .ok (.invokevirtual 46, 3) := by decide +kernel
theorem dX0_run_201 : decode cX0_run 201 = .ok (.ineg, 1) := by decide +kernel
theorem dX0_run_202 : decode cX0_run 202 = .ok (.ireturn, 1) := by decide +kernel
theorem dX0_run_203 : decode cX0_run 203 = .ok (.aload_n 0, 1) := by decide +kernel
theorem dX0_run_204 : decode cX0_run 204 = .ok (.iconst 1, 1) := by decide +kernel
theorem dX0_run_205 : decode cX0_run 205 = .ok (.iload_n 2, 1) := by decide +kernel
theorem dX0_run_206 : decode cX0_run 206 = .ok (.iload_n 3, 1) := by decide +kernel
theorem dX0_run_207 : decode cX0_run 207 = .ok (.iconst 1, 1) := by decide +kernel
theorem dX0_run_208 : decode cX0_run 208 = .ok (.iadd, 1) := by decide +kernel
theorem dX0_run_209 : decode cX0_run 209 = .ok (.iload 4, 2) := by decide +kernel
theorem dX0_run_211 : decode cX0_run 211 = .ok (.invokevirtual 46, 3) := by decide +kernel
theorem dX0_run_214 : decode cX0_run 214 = .ok (.ireturn, 1) := by decide +kernel
theorem dX0_run_215 : decode cX0_run 215 = .ok (.aload_n 0, 1) := by decide +kernel
theorem dX0_run_216 : decode cX0_run 216 = .ok (.iconst 2, 1) := by decide +kernel
theorem dX0_run_217 : decode cX0_run 217 = .ok (.iload_n 2, 1) := by decide +kernel
theorem dX0_run_218 : decode cX0_run 218 = .ok (.iload_n 3, 1) := by decide +kernel
theorem dX0_run_219 : decode cX0_run 219 = .ok (.aload_n 0, 1) := by decide +kernel
theorem dX0_run_220 : decode cX0_run 220 = .ok (.getfield 29, 3) := by decide +kernel
theorem dX0_run_223 : decode cX0_run 223 = .ok (.isub, 1) := by decide +kernel
theorem dX0_run_224 : decode cX0_run 224 = .ok (.iload 4, 2) := by decide +kernel
theorem dX0_run_226 : decode cX0_run 226 = .ok (.invokevirtual 46, 3) := by decide +kernel
theorem dX0_run_229 : decode cX0_run 229 = .ok (.ireturn, 1) := by decide +kernel
theorem dX0_run_230 : decode cX0_run 230 = .ok (.aload_n 0, 1) := by decide +kernel
theorem dX0_run_231 : decode cX0_run 231 = .ok (.iconst 1, 1) := by decide +kernel
theorem dX0_run_232 : decode cX0_run 232 = .ok (.iload_n 2, 1) := by decide +kernel
theorem dX0_run_233 : decode cX0_run 233 = .ok (.iload_n 3, 1) := by decide +kernel
theorem dX0_run_234 : decode cX0_run 234 = .ok (.iload 4, 2) := by decide +kernel
theorem dX0_run_236 : decode cX0_run 236 = .ok (.invokevirtual 46, 3) := by decide +kernel
theorem dX0_run_239 : decode cX0_run 239 = .ok (.aload_n 0, 1) := by decide +kernel
theorem dX0_run_240 : decode cX0_run 240 = .ok (.iconst 0, 1) := by decide +kernel
theorem dX0_run_241 : decode cX0_run 241 = .ok (.iload_n 2, 1) := by decide +kernel
theorem dX0_run_242 : decode cX0_run 242 = .ok (.iconst 2, 1) := by decide +kernel
theorem dX0_run_243 : decode cX0_run 243 = .ok (.iload 4, 2) := by decide +kernel
theorem dX0_run_245 : decode cX0_run 245 = .ok (.invokevirtual 46, 3) := by decide +kernel
theorem dX0_run_248 : decode cX0_run 248 = .ok (.iadd, 1) := by decide +kernel
theorem dX0_run_249 : decode cX0_run 249 = .ok (.ireturn, 1) := by decide +kernel
theorem dX0_run_250 : decode cX0_run 250 = .ok (.aload_n 0, 1) := by decide +kernel
theorem dX0_run_251 : decode cX0_run 251 = .ok (.iconst 0, 1) := by decide +kernel
theorem dX0_run_252 : decode cX0_run 252 = .ok (.iload_n 2, 1) := by decide +kernel
theorem dX0_run_253 : decode cX0_run 253 = .ok (.iload_n 3, 1) := by decide +kernel
theorem dX0_run_254 : decode cX0_run 254 = .ok (.iload 4, 2) := by decide +kernel
theorem dX0_run_256 : decode cX0_run 256 = .ok (.invokevirtual 46, 3) := by decide +kernel
theorem dX0_run_259 : decode cX0_run 259 = .ok (.aload_n 0, 1) := by decide +kernel
theorem dX0_run_260 : decode cX0_run 260 = .ok (.getfield 43, 3) := by decide +kernel
theorem dX0_run_263 : decode cX0_run 263 = .ok (.ixor, 1) := by decide +kernel
theorem dX0_run_264 : decode cX0_run 264 = .ok (.ireturn, 1) := by decide +kernel
theorem dX0_run_265 : decode cX0_run 265 = .ok (.iconst 0, 1) := by decide +kernel
theorem dX0_run_266 : decode cX0_run 266 = .ok (.ireturn, 1) := by decide +kernel
theorem dX0_note_0 : decode cX0_note 0 = .ok (.aload_n 0, 1) := by decide +kernel
theorem dX0_note_1 : decode cX0_note 1 = .ok (.getfield 15, 3) := by decide +kernel
theorem dX0_note_4 : decode cX0_note 4 = .ok (.bipush 20, 2) := by decide +kernel
theorem dX0_note_6 : decode cX0_note 6 = .ok (.if_icmp .ge 13, 3) := by decide +kernel
theorem dX0_note_9 : decode cX0_note 9 = .ok (.aload_n 0, 1) := by decide +kernel
theorem dX0_note_10 : decode cX0_note 10 = .ok (.getfield 11, 3) := by decide +kernel
theorem dX0_note_13 : decode cX0_note 13 = .ok (.aload_n 0, 1) := by decide +kernel
theorem dX0_note_14 : decode cX0_note 14 = .ok (.getfield 15, 3) := by decide +kernel
theorem dX0_note_17 : decode cX0_note 17 = .ok (.iload_n 1, 1) := by decide +kernel
theorem dX0_note_18 : decode cX0_note 18 = .ok (.iastore, 1) := by decide +kernel
theorem dX0_note_19 : decode cX0_note 19 = .ok (.aload_n 0, 1) := by decide +kernel
theorem dX0_note_20 : decode cX0_note 20 = .ok (.dup, 1) := by decide +kernel
theorem dX0_note_21 : decode cX0_note 21 = .ok (.getfield 15, 3) := by decide +kernel
theorem dX0_note_24 : decode cX0_note 24 = .ok (.iconst 1, 1) := by decide +kernel
theorem dX0_note_25 : decode cX0_note 25 = .ok (.iadd, 1) := by decide +kernel
theorem dX0_note_26 : decode cX0_note 26 = .ok (.putfield 15, 3) := by decide +kernel
theorem dX0_note_29 : decode cX0_note 29 = .ok (.return_, 1) := by decide +kernel
theorem dX1_init_0 : decode cX1_init 0 = .ok (.aload_n 0, 1) := by decide +kernel
theorem dX1_init_1 : decode cX1_init 1 = .ok (.invokespecial 3, 3) := by decide +kernel
theorem dX1_init_4 : decode cX1_init 4 = .ok (.aload_n 0, 1) := by decide +kernel
theorem dX1_init_5 : decode cX1_init 5 = .ok (.bipush 6, 2) := by decide +kernel
theorem dX1_init_7 : decode cX1_init 7 = .ok (.newarray .int, 2) := by decide +kernel
theorem dX1_init_9 : decode cX1_init 9 = .ok (.putfield 9, 3) := by decide +kernel
theorem dX1_init_12 : decode cX1_init 12 = .ok (.aload_n 0, 1) := by decide +kernel
theorem dX1_init_13 : decode cX1_init 13 = .ok (.bipush 6, 2) := by decide +kernel
theorem dX1_init_15 : decode cX1_init 15 = .ok (.newarray .int, 2) := by decide +kernel
theorem dX1_init_17 : decode cX1_init 17 = .ok (.putfield 15, 3) := by decide +kernel
theorem dX1_init_20 : decode cX1_init 20 = .ok (.aload_n 0, 1) := by decide +kernel
theorem dX1_init_21 : decode cX1_init 21 = .ok (.aload_n 1, 1) := by decide +kernel
theorem dX1_init_22 : decode cX1_init 22 = .ok (.putfield 18, 3) := by decide +kernel
theorem dX1_init_25 : decode cX1_init 25 = .ok (.aload_n 0, 1) := by decide +kernel
theorem dX1_init_26 : decode cX1_init 26 = .ok (.aload_n 2, 1) := by decide +kernel
theorem dX1_init_27 : decode cX1_init 27 = .ok (.putfield 22, 3) := by decide +kernel
theorem dX1_init_30 : decode cX1_init 30 = .ok (.return_, 1) := by decide +kernel
theorem dX1_measure_0 : decode cX1_measure 0 = .ok (.aload_n 0, 1) := by decide +kernel
theorem dX1_measure_1 : decode cX1_measure 1 = .ok (.getfield 22, 3) := by decide +kernel
theorem dX1_measure_4 : decode cX1_measure 4 = .ok (.aload_n 0, 1) := by decide +kernel
theorem dX1_measure_5 : decode cX1_measure 5 = .ok (.getfield 18, 3) := by decide +kernel
theorem dX1_measure_8 : decode cX1_measure 8 = .ok (.iload_n 1, 1) := by decide +kernel
theorem dX1_measure_9 : decode cX1_measure 9 = .ok (.iload_n 2, 1) := by decide +kernel
theorem dX1_measure_10 : decode cX1_measure 10 = .ok (.iload_n 3, 1) := by decide +kernel
theorem dX1_measure_11 : decode cX1_measure 11 = .ok (.invokevirtual 26, 3) := by decide +kernel
theorem dX1_measure_14 : decode cX1_measure 14 = .ok (.aload_n 0, 1) := by decide +kernel
theorem dX1_measure_15 : decode cX1_measure 15 = .ok (.getfield 9, 3) := by decide +kernel
theorem dX1_measure_18 : decode cX1_measure 18 = .ok (.iload_n 2, 1) := by decide +kernel
theorem dX1_measure_19 : decode cX1_measure 19 = .ok (.aload_n 0, 1) := by decide +kernel
theorem dX1_measure_20 : decode cX1_measure 20 = .ok (.getfield 22, 3) := by decide +kernel
theorem dX1_measure_23 : decode cX1_measure 23 = .ok (.getfield 32, 3) := by decide +kernel
theorem dX1_measure_26 : decode cX1_measure 26 = .ok (.iastore, 1) := by decide +kernel
theorem dX1_measure_27 : decode cX1_measure 27 = .ok (.aload_n 0, 1) := by decide +kernel
theorem dX1_measure_28 : decode cX1_measure 28 = .ok (.getfield 15, 3) := by decide +kernel
theorem dX1_measure_31 : decode cX1_measure 31 = .ok (.iload_n 2, 1) := by decide +kernel
theorem dX1_measure_32 : decode cX1_measure 32 = .ok (.aload_n 0, 1) := by decide +kernel
theorem dX1_measure_33 : decode cX1_measure 33 = .ok (.getfield 22, 3) := by decide +kernel
theorem dX1_measure_36 : decode cX1_measure 36 = .ok (.getfield 36, 3) := by decide +kernel
theorem dX1_measure_39 : decode cX1_measure 39 = .ok (.iload_n 3, 1) := by decide +kernel
theorem dX1_measure_40 : decode cX1_measure 40 = .ok (.imul, 1) := by decide +kernel
theorem dX1_measure_41 : decode cX1_measure 41 = .ok (.aload_n 0, 1) := by decide +kernel
theorem dX1_measure_42 : decode cX1_measure 42 = .ok (.getfield 18, 3) := by decide +kernel
theorem dX1_measure_45 : decode cX1_measure 45 = .ok (.getfield 39, 3) := by decide +kernel
theorem dX1_measure_48 : decode cX1_measure 48 = .ok (.iload_n 1, 1) := by decide +kernel
theorem dX1_measure_49 : decode cX1_measure 49 = .ok (.iaload, 1) := by decide +kernel
theorem dX1_measure_50 : decode cX1_measure 50 = .ok (.invokestatic 44, 3) := by decide +kernel
theorem dX1_measure_53 : decode cX1_measure 53 = .ok (.iastore, 1) := by decide +kernel
theorem dX1_measure_54 : decode cX1_measure 54 = .ok (.return_, 1) := by decide +kernel
theorem dX1_begin_0 : decode cX1_begin 0 = .ok (.aload_n 0, 1) := by decide +kernel
theorem dX1_begin_1 : decode cX1_begin 1 = .ok (.iload_n 1, 1) := by decide +kernel
theorem dX1_begin_2 : decode cX1_begin 2 = .ok (.putfield 48, 3) := by decide +kernel
theorem dX1_begin_5 : decode cX1_begin 5 = .ok (.aload_n 0, 1) := by decide +kernel
theorem dX1_begin_6 : decode cX1_begin 6 = .ok (.iload_n 2, 1) := by decide +kernel
theorem dX1_begin_7 : decode cX1_begin 7 = .ok (.putfield 51, 3) := by decide +kernel
theorem dX1_begin_10 : decode cX1_begin 10 = .ok (.aload_n 0, 1) := by decide +kernel
theorem dX1_begin_11 : decode cX1_begin 11 = .ok (.aload_n 0, 1) := by decide +kernel
theorem dX1_begin_12 : decode cX1_begin 12 = .ok (.getfield 18, 3) := by decide +kernel
theorem dX1_begin_15 : decode cX1_begin 15 = .ok (.getfield 54, 3) := by decide +kernel
theorem dX1_begin_18 : decode cX1_begin 18 = .ok (.iload_n 1, 1) := by decide +kernel
theorem dX1_begin_19 : decode cX1_begin 19 = .ok (.iaload, 1) := by decide +kernel
theorem dX1_begin_20 : decode cX1_begin 20 = .ok (.putfield 57, 3) := by decide +kernel
theorem dX1_begin_23 : decode cX1_begin 23 = .ok (.aload_n 0, 1) := by decide +kernel
theorem dX1_begin_24 : decode cX1_begin 24 = .ok (.aload_n 0, 1) := by decide +kernel
theorem dX1_begin_25 : decode cX1_begin 25 = .ok (.getfield 18, 3) := by decide +kernel
theorem dX1_begin_28 : decode cX1_begin 28 = .ok (.getfield 60, 3) := by decide +kernel
theorem dX1_begin_31 : decode cX1_begin 31 = .ok (.iload_n 1, 1) := by decide +kernel
theorem dX1_begin_32 : decode cX1_begin 32 = .ok (.iaload, 1) := by decide +kernel
theorem dX1_begin_33 : decode cX1_begin 33 = .ok (.putfield 63, 3) := by decide +kernel
theorem dX1_begin_36 : decode cX1_begin 36 = .ok (.aload_n 0, 1) := by decide +kernel
theorem dX1_begin_37 : decode cX1_begin 37 = .ok (.iconst 0, 1) := by decide +kernel
theorem dX1_begin_38 : decode cX1_begin 38 = .ok (.putfield 66, 3) := by decide +kernel
theorem dX1_begin_41 : decode cX1_begin 41 = .ok (.aload_n 0, 1) := by decide +kernel
theorem dX1_begin_42 : decode cX1_begin 42 = .ok (.iconst 0, 1) := by decide +kernel
theorem dX1_begin_43 : decode cX1_begin 43 = .ok (.putfield 69, 3) := by decide +kernel
theorem dX1_begin_46 : decode cX1_begin 46 = .ok (.return_, 1) := by decide +kernel
theorem dX1_reach_0 : decode cX1_reach 0 = .ok (.aload_n 0, 1) := by decide +kernel
theorem dX1_reach_1 : decode cX1_reach 1 = .ok (.dup, 1) := by decide +kernel
theorem dX1_reach_2 : decode cX1_reach 2 = .ok (.getfield 51, 3) := by decide +kernel
theorem dX1_reach_5 : decode cX1_reach 5 = .ok (.aload_n 0, 1) := by decide +kernel
theorem dX1_reach_6 : decode cX1_reach 6 = .ok (.getfield 9, 3) := by decide +kernel
theorem dX1_reach_9 : decode cX1_reach 9 = .ok (.iload_n 1, 1) := by decide +kernel
theorem dX1_reach_10 : decode cX1_reach 10 = .ok (.iaload, 1) := by decide +kernel
theorem dX1_reach_11 : decode cX1_reach 11 = .ok (.iload_n 1, 1) := by decide +kernel
theorem dX1_reach_12 : decode cX1_reach 12 = .ok (.aload_n 0, 1) := by decide +kernel
theorem dX1_reach_13 : decode cX1_reach 13 = .ok (.getfield 57, 3) := by decide +kernel
theorem dX1_reach_16 : decode cX1_reach 16 = .ok (.isub, 1) := by decide +kernel
theorem dX1_reach_17 : decode cX1_reach 17 = .ok (.invokestatic 72, 3) := by decide +kernel
theorem dX1_reach_20 : decode cX1_reach 20 = .ok (.imul, 1) := by decide +kernel
theorem dX1_reach_21 : decode cX1_reach 21 = .ok (.iadd, 1) := by decide +kernel
theorem dX1_reach_22 : decode cX1_reach 22 = .ok (.putfield 51, 3) := by decide +kernel
theorem dX1_reach_25 : decode cX1_reach 25 = .ok (.aload_n 0, 1) := by decide +kernel
theorem dX1_reach_26 : decode cX1_reach 26 = .ok (.getfield 69, 3) := by decide +kernel
theorem dX1_reach_29 : decode cX1_reach 29 = .ok (.iload_n 1, 1) := by decide +kernel
theorem dX1_reach_30 : decode cX1_reach 30 = .ok (.invokestatic 78, 3) := by decide +kernel
theorem dX1_reach_33 : decode cX1_reach 33 = .ok (.ifCond .ne 31, 3) := by decide +kernel
theorem dX1_reach_36 : decode cX1_reach 36 = .ok (.aload_n 0, 1) := by decide +kernel
theorem dX1_reach_37 : decode cX1_reach 37 = .ok (.dup, 1) := by decide +kernel
theorem dX1_reach_38 : decode cX1_reach 38 = .ok (.getfield 51, 3) := by decide +kernel
theorem dX1_reach_41 : decode cX1_reach 41 = .ok (.aload_n 0, 1) := by decide +kernel
theorem dX1_reach_42 : decode cX1_reach 42 = .ok (.getfield 15, 3) := by decide +kernel
theorem dX1_reach_45 : decode cX1_reach 45 = .ok (.iload_n 1, 1) := by decide +kernel
theorem dX1_reach_46 : decode cX1_reach 46 = .ok (.iaload, 1) := by decide +kernel
theorem dX1_reach_47 : decode cX1_reach 47 = .ok (.iadd, 1) := by decide +kernel
theorem dX1_reach_48 : decode cX1_reach 48 = .ok (.putfield 51, 3) := by decide +kernel
theorem dX1_reach_51 : decode cX1_reach 51 = .ok (.aload_n 0, 1) := by decide +kernel
theorem dX1_reach_52 : decode cX1_reach 52 = .ok (.aload_n 0, 1) := by decide +kernel
theorem dX1_reach_53 : decode cX1_reach 53 = .ok (.getfield 69, 3) := by decide +kernel
theorem dX1_reach_56 : decode cX1_reach 56 = .ok (.iload_n 1, 1) := by decide +kernel
theorem dX1_reach_57 : decode cX1_reach 57 = .ok (.iconst 1, 1) := by decide +kernel
theorem dX1_reach_58 : decode cX1_reach 58 = .ok (.invokestatic 81, 3) := by decide +kernel
theorem dX1_reach_61 : decode cX1_reach 61 = .ok (.putfield 69, 3) := by decide +kernel
theorem dX1_reach_64 : decode cX1_reach 64 = .ok (.aload_n 0, 1) := by decide +kernel
theorem dX1_reach_65 : decode cX1_reach 65 = .ok (.iload_n 1, 1) := by decide +kernel
theorem dX1_reach_66 : decode cX1_reach 66 = .ok (.putfield 57, 3) := by decide +kernel
theorem dX1_reach_69 : decode cX1_reach 69 = .ok (.aload_n 0, 1) := by decide +kernel
theorem dX1_reach_70 : decode cX1_reach 70 = .ok (.getfield 51, 3) := by decide +kernel
theorem dX1_reach_73 : decode cX1_reach 73 = .ok (.aload_n 0, 1) := by decide +kernel
theorem dX1_reach_74 : decode cX1_reach 74 = .ok (.getfield 22, 3) := by decide +kernel
theorem dX1_reach_77 : decode cX1_reach 77 = .ok (.aload_n 0, 1) := by decide +kernel
theorem dX1_reach_78 : decode cX1_reach 78 = .ok (.getfield 18, 3) := by decide +kernel
theorem dX1_reach_81 : decode cX1_reach 81 = .ok (.getfield 85, 3) := by decide +kernel
theorem dX1_reach_84 : decode cX1_reach 84 = .ok (.invokevirtual 88, 3) := by decide +kernel
theorem dX1_reach_87 : decode cX1_reach 87 = .ok (.if_icmp .ge 15, 3) := by decide +kernel
theorem dX1_reach_90 : decode cX1_reach 90 = .ok (.aload_n 0, 1) := by decide +kernel
theorem dX1_reach_91 : decode cX1_reach 91 = .ok (.iload_n 1, 1) := by decide +kernel
theorem dX1_reach_92 : decode cX1_reach 92 = .ok (.invokevirtual 91, 3) := by decide +kernel
theorem dX1_reach_95 : decode cX1_reach 95 = .ok (.ifCond .eq 7, 3) := by decide +kernel
theorem dX1_reach_98 : decode cX1_reach 98 = .ok (.iconst 1, 1) := by decide +kernel
theorem dX1_reach_99 : decode cX1_reach 99 = .ok (.goto 4, 3) := by decide +kernel
theorem dX1_reach_102 : decode cX1_reach 102 = .ok (.iconst 0, 1) := by decide +kernel
theorem dX1_reach_103 : decode cX1_reach 103 = .ok (.istore_n 2, 1) := by decide +kernel
theorem dX1_reach_104 : decode cX1_reach 104 = .ok (.iload_n 2, 1) := by decide +kernel
theorem dX1_reach_105 : decode cX1_reach 105 = .ok (.ifCond .eq 16, 3) := by decide +kernel
theorem dX1_reach_108 : decode cX1_reach 108 = .ok (.aload_n 0, 1) := by decide +kernel
theorem dX1_reach_109 : decode cX1_reach 109 = .ok (.aload_n 0, 1) := by decide +kernel
theorem dX1_reach_110 : decode cX1_reach 110 = .ok (.getfield 66, 3) := by decide +kernel
theorem dX1_reach_113 : decode cX1_reach 113 = .ok (.iload_n 1, 1) := by decide +kernel
theorem dX1_reach_114 : decode cX1_reach 114 = .ok (.iconst 1, 1) := by decide +kernel
theorem dX1_reach_115 : decode cX1_reach 115 = .ok (.invokestatic 81, 3) := by decide +kernel
theorem dX1_reach_118 : decode cX1_reach 118 = .ok (.putfield 66, 3) := by decide +kernel
theorem dX1_reach_121 : decode cX1_reach 121 = .ok (.iload_n 2, 1) := by decide +kernel
theorem dX1_reach_122 : decode cX1_reach 122 = .ok (.ireturn, 1) := by decide +kernel
theorem dX1_isLetIn_0 : decode cX1_isLetIn 0 = .ok (.aload_n 0, 1) := by decide +kernel
theorem dX1_isLetIn_1 : decode cX1_isLetIn 1 = .ok (.iload_n 1, 1) := by decide +kernel
theorem dX1_isLetIn_2 : decode cX1_isLetIn 2 = .ok (.iload_n 3, 1) := by decide +kernel
theorem dX1_isLetIn_3 : decode cX1_isLetIn 3 = .ok (.invokevirtual 95, 3) := by decide +kernel
theorem dX1_isLetIn_6 : decode cX1_isLetIn 6 = .ok (.aload_n 0, 1) := by decide +kernel
theorem dX1_isLetIn_7 : decode cX1_isLetIn 7 = .ok (.getfield 51, 3) := by decide +kernel
theorem dX1_isLetIn_10 : decode cX1_isLetIn 10 = .ok (.aload_n 0, 1) := by decide +kernel
theorem dX1_isLetIn_11 : decode cX1_isLetIn 11 = .ok (.getfield 22, 3) := by decide +kernel
theorem dX1_isLetIn_14 : decode cX1_isLetIn 14 = .ok (.aload_n 0, 1) := by decide +kernel
theorem dX1_isLetIn_15 : decode cX1_isLetIn 15 = .ok (.getfield 18, 3) := by decide +kernel
theorem dX1_isLetIn_18 : decode cX1_isLetIn 18 = .ok (.getfield 85, 3) := by decide +kernel
theorem dX1_isLetIn_21 : decode cX1_isLetIn 21 = .ok (.invokevirtual 88, 3) := by decide +kernel
theorem dX1_isLetIn_24 : decode cX1_isLetIn 24 = .ok (.if_icmp .ge 15, 3) := by decide +kernel
theorem dX1_isLetIn_27 : decode cX1_isLetIn 27 = .ok (.aload_n 0, 1) := by decide +kernel
theorem dX1_isLetIn_28 : decode cX1_isLetIn 28 = .ok (.iload_n 2, 1) := by decide +kernel
theorem dX1_isLetIn_29 : decode cX1_isLetIn 29 = .ok (.invokevirtual 91, 3) := by decide +kernel
theorem dX1_isLetIn_32 : decode cX1_isLetIn 32 = .ok (.ifCond .eq 7, 3) := by decide +kernel
theorem dX1_isLetIn_35 : decode cX1_isLetIn 35 = .ok (.iconst 1, 1) := by decide +kernel
theorem dX1_isLetIn_36 : decode cX1_isLetIn 36 = .ok (.goto 4, 3) := by decide +kernel
theorem dX1_isLetIn_39 : decode cX1_isLetIn 39 = .ok (.iconst 0, 1) := by decide +kernel
theorem dX1_isLetIn_40 : decode cX1_isLetIn 40 = .ok (.ireturn, 1) := by decide +kernel
theorem dX1_isLet_0 : decode cX1_isLet 0 = .ok (.aload_n 0, 1) := by decide +kernel
theorem dX1_isLet_1 : decode cX1_isLet 1 = .ok (.getfield 18, 3) := by decide +kernel
theorem dX1_isLet_4 : decode cX1_isLet 4 = .ok (.getfield 99, 3) := by decide +kernel
theorem dX1_isLet_7 : decode cX1_isLet 7 = .ok (.iload_n 1, 1) := by decide +kernel
theorem dX1_isLet_8 : decode cX1_isLet 8 = .ok (.iaload, 1) := by decide +kernel
theorem dX1_isLet_9 : decode cX1_isLet 9 = .ok (.aload_n 0, 1) := by decide +kernel
theorem dX1_isLet_10 : decode cX1_isLet 10 = .ok (.getfield 48, 3) := by decide +kernel
theorem dX1_isLet_13 : decode cX1_isLet 13 = .ok (.invokestatic 78, 3) := by decide +kernel
end
section
theorem zz_dummy : True := trivial
end
