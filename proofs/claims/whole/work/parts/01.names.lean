-- ===== PART A: goes FIRST, ahead of the names: the tables' words, and 'selects' of the private methods out of them =====
/-- a private method of a class that the tables say can be made, by its rows of tables_1 -/
def lw_okq (q : MethodName × Nat) : Prop := (q.1.cls ≠ "java/lang/invoke/MethodHandle" ∧ q.1.cls ≠ "java/lang/invoke/VarHandle") ∧ Cond.instantiable q.1.cls q.2 ∈ tables_1 ∧ Cond.privateMethod q.1 ∈ tables_1 ∧ Cond.instanceMethod q.1 ∈ tables_1
theorem lw_p0 : lw_okq (⟨"LargeBubble", "find", "(I)LLargeBubble$Blower;"⟩, 14) := ⟨⟨by decide +kernel, by decide +kernel⟩, List.mem_of_getElem? (i := 21) (by decide +kernel), List.mem_of_getElem? (i := 370) (by decide +kernel), List.mem_of_getElem? (i := 371) (by decide +kernel)⟩
theorem lw_p1 : lw_okq (⟨"LargeBubble$Text", "readClause", "(LLargeBubble$Square;)Z"⟩, 3) := ⟨⟨by decide +kernel, by decide +kernel⟩, List.mem_of_getElem? (i := 169) (by decide +kernel), List.mem_of_getElem? (i := 441) (by decide +kernel), List.mem_of_getElem? (i := 442) (by decide +kernel)⟩
theorem lw_p2 : lw_okq (⟨"LargeBubble$Text", "readWord", "()I"⟩, 3) := ⟨⟨by decide +kernel, by decide +kernel⟩, List.mem_of_getElem? (i := 169) (by decide +kernel), List.mem_of_getElem? (i := 445) (by decide +kernel), List.mem_of_getElem? (i := 446) (by decide +kernel)⟩
theorem lw_p3 : lw_okq (⟨"LargeBubble$Text", "peek", "()I"⟩, 3) := ⟨⟨by decide +kernel, by decide +kernel⟩, List.mem_of_getElem? (i := 169) (by decide +kernel), List.mem_of_getElem? (i := 449) (by decide +kernel), List.mem_of_getElem? (i := 450) (by decide +kernel)⟩
theorem lw_p4 : lw_okq (⟨"LargeBubble$Text", "passWord", "(Ljava/lang/String;)Z"⟩, 3) := ⟨⟨by decide +kernel, by decide +kernel⟩, List.mem_of_getElem? (i := 169) (by decide +kernel), List.mem_of_getElem? (i := 454) (by decide +kernel), List.mem_of_getElem? (i := 455) (by decide +kernel)⟩
theorem lw_p5 : lw_okq (⟨"LargeBubble$Text", "passSign", "(I)Z"⟩, 3) := ⟨⟨by decide +kernel, by decide +kernel⟩, List.mem_of_getElem? (i := 169) (by decide +kernel), List.mem_of_getElem? (i := 506) (by decide +kernel), List.mem_of_getElem? (i := 507) (by decide +kernel)⟩
theorem lw_p6 : lw_okq (⟨"LargeBubble$Text", "readNumber", "()I"⟩, 3) := ⟨⟨by decide +kernel, by decide +kernel⟩, List.mem_of_getElem? (i := 169) (by decide +kernel), List.mem_of_getElem? (i := 512) (by decide +kernel), List.mem_of_getElem? (i := 513) (by decide +kernel)⟩
theorem lw_p7 : lw_okq (⟨"LargeBubble$Text", "readEither", "(LLargeBubble$Square;I)Z"⟩, 3) := ⟨⟨by decide +kernel, by decide +kernel⟩, List.mem_of_getElem? (i := 169) (by decide +kernel), List.mem_of_getElem? (i := 516) (by decide +kernel), List.mem_of_getElem? (i := 517) (by decide +kernel)⟩
theorem lw_p8 : lw_okq (⟨"LargeBubble$Text", "readBoth", "(LLargeBubble$Square;I)Z"⟩, 3) := ⟨⟨by decide +kernel, by decide +kernel⟩, List.mem_of_getElem? (i := 169) (by decide +kernel), List.mem_of_getElem? (i := 520) (by decide +kernel), List.mem_of_getElem? (i := 521) (by decide +kernel)⟩
theorem lw_p9 : lw_okq (⟨"LargeBubble$Text", "readPart", "(LLargeBubble$Square;I)Z"⟩, 3) := ⟨⟨by decide +kernel, by decide +kernel⟩, List.mem_of_getElem? (i := 169) (by decide +kernel), List.mem_of_getElem? (i := 524) (by decide +kernel), List.mem_of_getElem? (i := 525) (by decide +kernel)⟩
theorem lw_p10 : lw_okq (⟨"LargeBubble$Text", "readTest", "(LLargeBubble$Square;)Z"⟩, 3) := ⟨⟨by decide +kernel, by decide +kernel⟩, List.mem_of_getElem? (i := 169) (by decide +kernel), List.mem_of_getElem? (i := 528) (by decide +kernel), List.mem_of_getElem? (i := 529) (by decide +kernel)⟩
theorem lw_p11 : lw_okq (⟨"LargeBubble$Text", "readOneOf", "(Ljava/lang/String;)I"⟩, 3) := ⟨⟨by decide +kernel, by decide +kernel⟩, List.mem_of_getElem? (i := 169) (by decide +kernel), List.mem_of_getElem? (i := 533) (by decide +kernel), List.mem_of_getElem? (i := 534) (by decide +kernel)⟩
theorem lw_p12 : lw_okq (⟨"LargeBubble", "begin", "(LLargeBubble$Blower;)V"⟩, 14) := ⟨⟨by decide +kernel, by decide +kernel⟩, List.mem_of_getElem? (i := 21) (by decide +kernel), List.mem_of_getElem? (i := 571) (by decide +kernel), List.mem_of_getElem? (i := 572) (by decide +kernel)⟩
theorem lw_p13 : lw_okq (⟨"LargeBubble$Course", "walk", "(LLargeBubble$Blower;)V"⟩, 15) := ⟨⟨by decide +kernel, by decide +kernel⟩, List.mem_of_getElem? (i := 93) (by decide +kernel), List.mem_of_getElem? (i := 590) (by decide +kernel), List.mem_of_getElem? (i := 591) (by decide +kernel)⟩
theorem lw_p14 : lw_okq (⟨"LargeBubble$Course", "look", "(II)I"⟩, 15) := ⟨⟨by decide +kernel, by decide +kernel⟩, List.mem_of_getElem? (i := 93) (by decide +kernel), List.mem_of_getElem? (i := 594) (by decide +kernel), List.mem_of_getElem? (i := 595) (by decide +kernel)⟩
theorem lw_p15 : lw_okq (⟨"LargeBubble$Square", "isSo", "(II[I)Z"⟩, 8) := ⟨⟨by decide +kernel, by decide +kernel⟩, List.mem_of_getElem? (i := 402) (by decide +kernel), List.mem_of_getElem? (i := 602) (by decide +kernel), List.mem_of_getElem? (i := 603) (by decide +kernel)⟩
def lw_privs_1 : List (MethodName × Nat) := [(⟨"LargeBubble", "find", "(I)LLargeBubble$Blower;"⟩, 14), (⟨"LargeBubble$Text", "readClause", "(LLargeBubble$Square;)Z"⟩, 3), (⟨"LargeBubble$Text", "readWord", "()I"⟩, 3), (⟨"LargeBubble$Text", "peek", "()I"⟩, 3), (⟨"LargeBubble$Text", "passWord", "(Ljava/lang/String;)Z"⟩, 3), (⟨"LargeBubble$Text", "passSign", "(I)Z"⟩, 3), (⟨"LargeBubble$Text", "readNumber", "()I"⟩, 3), (⟨"LargeBubble$Text", "readEither", "(LLargeBubble$Square;I)Z"⟩, 3), (⟨"LargeBubble$Text", "readBoth", "(LLargeBubble$Square;I)Z"⟩, 3), (⟨"LargeBubble$Text", "readPart", "(LLargeBubble$Square;I)Z"⟩, 3), (⟨"LargeBubble$Text", "readTest", "(LLargeBubble$Square;)Z"⟩, 3), (⟨"LargeBubble$Text", "readOneOf", "(Ljava/lang/String;)I"⟩, 3), (⟨"LargeBubble", "begin", "(LLargeBubble$Blower;)V"⟩, 14), (⟨"LargeBubble$Course", "walk", "(LLargeBubble$Blower;)V"⟩, 15), (⟨"LargeBubble$Course", "look", "(II)I"⟩, 15), (⟨"LargeBubble$Square", "isSo", "(II[I)Z"⟩, 8)]
theorem lw_r1 : ∀ q ∈ lw_privs_1, lw_okq q := List.forall_mem_cons.mpr ⟨lw_p0, List.forall_mem_cons.mpr ⟨lw_p1, List.forall_mem_cons.mpr ⟨lw_p2, List.forall_mem_cons.mpr ⟨lw_p3, List.forall_mem_cons.mpr ⟨lw_p4, List.forall_mem_cons.mpr ⟨lw_p5, List.forall_mem_cons.mpr ⟨lw_p6, List.forall_mem_cons.mpr ⟨lw_p7, List.forall_mem_cons.mpr ⟨lw_p8, List.forall_mem_cons.mpr ⟨lw_p9, List.forall_mem_cons.mpr ⟨lw_p10, List.forall_mem_cons.mpr ⟨lw_p11, List.forall_mem_cons.mpr ⟨lw_p12, List.forall_mem_cons.mpr ⟨lw_p13, List.forall_mem_cons.mpr ⟨lw_p14, List.forall_mem_cons.mpr ⟨lw_p15, fun _ h => absurd h List.not_mem_nil⟩⟩⟩⟩⟩⟩⟩⟩⟩⟩⟩⟩⟩⟩⟩⟩
theorem lw_p16 : lw_okq (⟨"LargeBubble$Course", "tear", "()V"⟩, 15) := ⟨⟨by decide +kernel, by decide +kernel⟩, List.mem_of_getElem? (i := 93) (by decide +kernel), List.mem_of_getElem? (i := 621) (by decide +kernel), List.mem_of_getElem? (i := 622) (by decide +kernel)⟩
theorem lw_p17 : lw_okq (⟨"LargeBubble$Course", "free", "()V"⟩, 15) := ⟨⟨by decide +kernel, by decide +kernel⟩, List.mem_of_getElem? (i := 93) (by decide +kernel), List.mem_of_getElem? (i := 652) (by decide +kernel), List.mem_of_getElem? (i := 653) (by decide +kernel)⟩
theorem lw_p18 : lw_okq (⟨"LargeBubble", "bestBy", "(IIIII)I"⟩, 14) := ⟨⟨by decide +kernel, by decide +kernel⟩, List.mem_of_getElem? (i := 21) (by decide +kernel), List.mem_of_getElem? (i := 670) (by decide +kernel), List.mem_of_getElem? (i := 671) (by decide +kernel)⟩
theorem lw_p19 : lw_okq (⟨"LargeBubble", "vary", "(II)V"⟩, 14) := ⟨⟨by decide +kernel, by decide +kernel⟩, List.mem_of_getElem? (i := 21) (by decide +kernel), List.mem_of_getElem? (i := 674) (by decide +kernel), List.mem_of_getElem? (i := 675) (by decide +kernel)⟩
theorem lw_p20 : lw_okq (⟨"LargeBubble", "runDay", "(I)V"⟩, 14) := ⟨⟨by decide +kernel, by decide +kernel⟩, List.mem_of_getElem? (i := 21) (by decide +kernel), List.mem_of_getElem? (i := 695) (by decide +kernel), List.mem_of_getElem? (i := 696) (by decide +kernel)⟩
theorem lw_p21 : lw_okq (⟨"LargeBubble", "runAhead", "(LLargeBubble$Blower;I)V"⟩, 14) := ⟨⟨by decide +kernel, by decide +kernel⟩, List.mem_of_getElem? (i := 21) (by decide +kernel), List.mem_of_getElem? (i := 707) (by decide +kernel), List.mem_of_getElem? (i := 708) (by decide +kernel)⟩
theorem lw_p22 : lw_okq (⟨"LargeBubble", "isAllSeenBy", "(I)Z"⟩, 14) := ⟨⟨by decide +kernel, by decide +kernel⟩, List.mem_of_getElem? (i := 21) (by decide +kernel), List.mem_of_getElem? (i := 719) (by decide +kernel), List.mem_of_getElem? (i := 720) (by decide +kernel)⟩
theorem lw_p23 : lw_okq (⟨"LargeBubble", "holds", "(I)Z"⟩, 14) := ⟨⟨by decide +kernel, by decide +kernel⟩, List.mem_of_getElem? (i := 21) (by decide +kernel), List.mem_of_getElem? (i := 755) (by decide +kernel), List.mem_of_getElem? (i := 756) (by decide +kernel)⟩
theorem lw_p24 : lw_okq (⟨"LargeBubble", "hasPlaces", "(III)Z"⟩, 14) := ⟨⟨by decide +kernel, by decide +kernel⟩, List.mem_of_getElem? (i := 21) (by decide +kernel), List.mem_of_getElem? (i := 937) (by decide +kernel), List.mem_of_getElem? (i := 938) (by decide +kernel)⟩
theorem lw_p25 : lw_okq (⟨"LargeBubbleModel", "in", "(III)Z"⟩, 71) := ⟨⟨by decide +kernel, by decide +kernel⟩, List.mem_of_getElem? (i := 942) (by decide +kernel), List.mem_of_getElem? (i := 1166) (by decide +kernel), List.mem_of_getElem? (i := 1167) (by decide +kernel)⟩
theorem lw_p26 : lw_okq (⟨"LargeBubbleModel", "isBlower", "(I)Z"⟩, 71) := ⟨⟨by decide +kernel, by decide +kernel⟩, List.mem_of_getElem? (i := 942) (by decide +kernel), List.mem_of_getElem? (i := 1174) (by decide +kernel), List.mem_of_getElem? (i := 1175) (by decide +kernel)⟩
theorem lw_p27 : lw_okq (⟨"LargeBubbleModel", "goesText", "(I)Z"⟩, 71) := ⟨⟨by decide +kernel, by decide +kernel⟩, List.mem_of_getElem? (i := 942) (by decide +kernel), List.mem_of_getElem? (i := 1198) (by decide +kernel), List.mem_of_getElem? (i := 1199) (by decide +kernel)⟩
theorem lw_p28 : lw_okq (⟨"LargeBubbleModel", "takesClause", "(I)Z"⟩, 71) := ⟨⟨by decide +kernel, by decide +kernel⟩, List.mem_of_getElem? (i := 942) (by decide +kernel), List.mem_of_getElem? (i := 1202) (by decide +kernel), List.mem_of_getElem? (i := 1203) (by decide +kernel)⟩
theorem lw_p29 : lw_okq (⟨"LargeBubbleModel", "takesHead", "(I)Z"⟩, 71) := ⟨⟨by decide +kernel, by decide +kernel⟩, List.mem_of_getElem? (i := 942) (by decide +kernel), List.mem_of_getElem? (i := 1206) (by decide +kernel), List.mem_of_getElem? (i := 1207) (by decide +kernel)⟩
theorem lw_p30 : lw_okq (⟨"LargeBubbleModel", "next", "()I"⟩, 71) := ⟨⟨by decide +kernel, by decide +kernel⟩, List.mem_of_getElem? (i := 942) (by decide +kernel), List.mem_of_getElem? (i := 1210) (by decide +kernel), List.mem_of_getElem? (i := 1211) (by decide +kernel)⟩
theorem lw_p31 : lw_okq (⟨"LargeBubbleModel", "takesWord", "(II)Z"⟩, 71) := ⟨⟨by decide +kernel, by decide +kernel⟩, List.mem_of_getElem? (i := 942) (by decide +kernel), List.mem_of_getElem? (i := 1214) (by decide +kernel), List.mem_of_getElem? (i := 1215) (by decide +kernel)⟩
def lw_privs_2 : List (MethodName × Nat) := [(⟨"LargeBubble$Course", "tear", "()V"⟩, 15), (⟨"LargeBubble$Course", "free", "()V"⟩, 15), (⟨"LargeBubble", "bestBy", "(IIIII)I"⟩, 14), (⟨"LargeBubble", "vary", "(II)V"⟩, 14), (⟨"LargeBubble", "runDay", "(I)V"⟩, 14), (⟨"LargeBubble", "runAhead", "(LLargeBubble$Blower;I)V"⟩, 14), (⟨"LargeBubble", "isAllSeenBy", "(I)Z"⟩, 14), (⟨"LargeBubble", "holds", "(I)Z"⟩, 14), (⟨"LargeBubble", "hasPlaces", "(III)Z"⟩, 14), (⟨"LargeBubbleModel", "in", "(III)Z"⟩, 71), (⟨"LargeBubbleModel", "isBlower", "(I)Z"⟩, 71), (⟨"LargeBubbleModel", "goesText", "(I)Z"⟩, 71), (⟨"LargeBubbleModel", "takesClause", "(I)Z"⟩, 71), (⟨"LargeBubbleModel", "takesHead", "(I)Z"⟩, 71), (⟨"LargeBubbleModel", "next", "()I"⟩, 71), (⟨"LargeBubbleModel", "takesWord", "(II)Z"⟩, 71)]
theorem lw_r2 : ∀ q ∈ lw_privs_2, lw_okq q := List.forall_mem_cons.mpr ⟨lw_p16, List.forall_mem_cons.mpr ⟨lw_p17, List.forall_mem_cons.mpr ⟨lw_p18, List.forall_mem_cons.mpr ⟨lw_p19, List.forall_mem_cons.mpr ⟨lw_p20, List.forall_mem_cons.mpr ⟨lw_p21, List.forall_mem_cons.mpr ⟨lw_p22, List.forall_mem_cons.mpr ⟨lw_p23, List.forall_mem_cons.mpr ⟨lw_p24, List.forall_mem_cons.mpr ⟨lw_p25, List.forall_mem_cons.mpr ⟨lw_p26, List.forall_mem_cons.mpr ⟨lw_p27, List.forall_mem_cons.mpr ⟨lw_p28, List.forall_mem_cons.mpr ⟨lw_p29, List.forall_mem_cons.mpr ⟨lw_p30, List.forall_mem_cons.mpr ⟨lw_p31, fun _ h => absurd h List.not_mem_nil⟩⟩⟩⟩⟩⟩⟩⟩⟩⟩⟩⟩⟩⟩⟩⟩
theorem lw_p32 : lw_okq (⟨"LargeBubbleModel", "takes", "(I)Z"⟩, 71) := ⟨⟨by decide +kernel, by decide +kernel⟩, List.mem_of_getElem? (i := 942) (by decide +kernel), List.mem_of_getElem? (i := 1218) (by decide +kernel), List.mem_of_getElem? (i := 1219) (by decide +kernel)⟩
theorem lw_p33 : lw_okq (⟨"LargeBubbleModel", "takesNumber", "()Z"⟩, 71) := ⟨⟨by decide +kernel, by decide +kernel⟩, List.mem_of_getElem? (i := 942) (by decide +kernel), List.mem_of_getElem? (i := 1222) (by decide +kernel), List.mem_of_getElem? (i := 1223) (by decide +kernel)⟩
theorem lw_p34 : lw_okq (⟨"LargeBubbleModel", "isDigit", "()Z"⟩, 71) := ⟨⟨by decide +kernel, by decide +kernel⟩, List.mem_of_getElem? (i := 942) (by decide +kernel), List.mem_of_getElem? (i := 1226) (by decide +kernel), List.mem_of_getElem? (i := 1227) (by decide +kernel)⟩
theorem lw_p35 : lw_okq (⟨"LargeBubbleModel", "takesE", "(I)Z"⟩, 71) := ⟨⟨by decide +kernel, by decide +kernel⟩, List.mem_of_getElem? (i := 942) (by decide +kernel), List.mem_of_getElem? (i := 1230) (by decide +kernel), List.mem_of_getElem? (i := 1231) (by decide +kernel)⟩
theorem lw_p36 : lw_okq (⟨"LargeBubbleModel", "takesTest", "()Z"⟩, 71) := ⟨⟨by decide +kernel, by decide +kernel⟩, List.mem_of_getElem? (i := 942) (by decide +kernel), List.mem_of_getElem? (i := 1234) (by decide +kernel), List.mem_of_getElem? (i := 1235) (by decide +kernel)⟩
theorem lw_p37 : lw_okq (⟨"LargeBubbleModel", "place", "(I)I"⟩, 71) := ⟨⟨by decide +kernel, by decide +kernel⟩, List.mem_of_getElem? (i := 942) (by decide +kernel), List.mem_of_getElem? (i := 1238) (by decide +kernel), List.mem_of_getElem? (i := 1239) (by decide +kernel)⟩
theorem lw_p38 : lw_okq (⟨"LargeBubbleModel", "emits", "(I)V"⟩, 71) := ⟨⟨by decide +kernel, by decide +kernel⟩, List.mem_of_getElem? (i := 942) (by decide +kernel), List.mem_of_getElem? (i := 1242) (by decide +kernel), List.mem_of_getElem? (i := 1243) (by decide +kernel)⟩
theorem lw_p39 : lw_okq (⟨"LargeBubbleModel", "whole", "()V"⟩, 71) := ⟨⟨by decide +kernel, by decide +kernel⟩, List.mem_of_getElem? (i := 942) (by decide +kernel), List.mem_of_getElem? (i := 1246) (by decide +kernel), List.mem_of_getElem? (i := 1247) (by decide +kernel)⟩
theorem lw_p40 : lw_okq (⟨"LargeBubbleModel", "settle", "(I)V"⟩, 71) := ⟨⟨by decide +kernel, by decide +kernel⟩, List.mem_of_getElem? (i := 942) (by decide +kernel), List.mem_of_getElem? (i := 1250) (by decide +kernel), List.mem_of_getElem? (i := 1251) (by decide +kernel)⟩
theorem lw_p41 : lw_okq (⟨"LargeBubbleModel", "good", "()I"⟩, 71) := ⟨⟨by decide +kernel, by decide +kernel⟩, List.mem_of_getElem? (i := 942) (by decide +kernel), List.mem_of_getElem? (i := 1258) (by decide +kernel), List.mem_of_getElem? (i := 1259) (by decide +kernel)⟩
theorem lw_p42 : lw_okq (⟨"LargeBubbleModel", "apart", "(II)I"⟩, 71) := ⟨⟨by decide +kernel, by decide +kernel⟩, List.mem_of_getElem? (i := 942) (by decide +kernel), List.mem_of_getElem? (i := 1262) (by decide +kernel), List.mem_of_getElem? (i := 1263) (by decide +kernel)⟩
theorem lw_p43 : lw_okq (⟨"LargeBubbleModel", "most", "(II)I"⟩, 71) := ⟨⟨by decide +kernel, by decide +kernel⟩, List.mem_of_getElem? (i := 942) (by decide +kernel), List.mem_of_getElem? (i := 1266) (by decide +kernel), List.mem_of_getElem? (i := 1267) (by decide +kernel)⟩
theorem lw_p44 : lw_okq (⟨"LargeBubbleModel", "goes", "(II)V"⟩, 71) := ⟨⟨by decide +kernel, by decide +kernel⟩, List.mem_of_getElem? (i := 942) (by decide +kernel), List.mem_of_getElem? (i := 1278) (by decide +kernel), List.mem_of_getElem? (i := 1279) (by decide +kernel)⟩
theorem lw_p45 : lw_okq (⟨"LargeBubbleModel", "sumOf", "(III)I"⟩, 71) := ⟨⟨by decide +kernel, by decide +kernel⟩, List.mem_of_getElem? (i := 942) (by decide +kernel), List.mem_of_getElem? (i := 1282) (by decide +kernel), List.mem_of_getElem? (i := 1283) (by decide +kernel)⟩
theorem lw_p46 : lw_okq (⟨"LargeBubbleModel", "begin", "()I"⟩, 71) := ⟨⟨by decide +kernel, by decide +kernel⟩, List.mem_of_getElem? (i := 942) (by decide +kernel), List.mem_of_getElem? (i := 1286) (by decide +kernel), List.mem_of_getElem? (i := 1287) (by decide +kernel)⟩
theorem lw_p47 : lw_okq (⟨"LargeBubbleModel", "behind", "()I"⟩, 71) := ⟨⟨by decide +kernel, by decide +kernel⟩, List.mem_of_getElem? (i := 942) (by decide +kernel), List.mem_of_getElem? (i := 1290) (by decide +kernel), List.mem_of_getElem? (i := 1291) (by decide +kernel)⟩
def lw_privs_3 : List (MethodName × Nat) := [(⟨"LargeBubbleModel", "takes", "(I)Z"⟩, 71), (⟨"LargeBubbleModel", "takesNumber", "()Z"⟩, 71), (⟨"LargeBubbleModel", "isDigit", "()Z"⟩, 71), (⟨"LargeBubbleModel", "takesE", "(I)Z"⟩, 71), (⟨"LargeBubbleModel", "takesTest", "()Z"⟩, 71), (⟨"LargeBubbleModel", "place", "(I)I"⟩, 71), (⟨"LargeBubbleModel", "emits", "(I)V"⟩, 71), (⟨"LargeBubbleModel", "whole", "()V"⟩, 71), (⟨"LargeBubbleModel", "settle", "(I)V"⟩, 71), (⟨"LargeBubbleModel", "good", "()I"⟩, 71), (⟨"LargeBubbleModel", "apart", "(II)I"⟩, 71), (⟨"LargeBubbleModel", "most", "(II)I"⟩, 71), (⟨"LargeBubbleModel", "goes", "(II)V"⟩, 71), (⟨"LargeBubbleModel", "sumOf", "(III)I"⟩, 71), (⟨"LargeBubbleModel", "begin", "()I"⟩, 71), (⟨"LargeBubbleModel", "behind", "()I"⟩, 71)]
theorem lw_r3 : ∀ q ∈ lw_privs_3, lw_okq q := List.forall_mem_cons.mpr ⟨lw_p32, List.forall_mem_cons.mpr ⟨lw_p33, List.forall_mem_cons.mpr ⟨lw_p34, List.forall_mem_cons.mpr ⟨lw_p35, List.forall_mem_cons.mpr ⟨lw_p36, List.forall_mem_cons.mpr ⟨lw_p37, List.forall_mem_cons.mpr ⟨lw_p38, List.forall_mem_cons.mpr ⟨lw_p39, List.forall_mem_cons.mpr ⟨lw_p40, List.forall_mem_cons.mpr ⟨lw_p41, List.forall_mem_cons.mpr ⟨lw_p42, List.forall_mem_cons.mpr ⟨lw_p43, List.forall_mem_cons.mpr ⟨lw_p44, List.forall_mem_cons.mpr ⟨lw_p45, List.forall_mem_cons.mpr ⟨lw_p46, List.forall_mem_cons.mpr ⟨lw_p47, fun _ h => absurd h List.not_mem_nil⟩⟩⟩⟩⟩⟩⟩⟩⟩⟩⟩⟩⟩⟩⟩⟩
theorem lw_p48 : lw_okq (⟨"LargeBubbleModel", "holds", "(II)Z"⟩, 71) := ⟨⟨by decide +kernel, by decide +kernel⟩, List.mem_of_getElem? (i := 942) (by decide +kernel), List.mem_of_getElem? (i := 1294) (by decide +kernel), List.mem_of_getElem? (i := 1295) (by decide +kernel)⟩
theorem lw_p49 : lw_okq (⟨"LargeBubbleModel", "factOf", "(II)I"⟩, 71) := ⟨⟨by decide +kernel, by decide +kernel⟩, List.mem_of_getElem? (i := 942) (by decide +kernel), List.mem_of_getElem? (i := 1298) (by decide +kernel), List.mem_of_getElem? (i := 1299) (by decide +kernel)⟩
theorem lw_p50 : lw_okq (⟨"LargeBubbleModel", "paceOf", "(I)I"⟩, 71) := ⟨⟨by decide +kernel, by decide +kernel⟩, List.mem_of_getElem? (i := 942) (by decide +kernel), List.mem_of_getElem? (i := 1302) (by decide +kernel), List.mem_of_getElem? (i := 1303) (by decide +kernel)⟩
theorem lw_p51 : lw_okq (⟨"LargeBubbleModel", "shuts", "(II)Z"⟩, 71) := ⟨⟨by decide +kernel, by decide +kernel⟩, List.mem_of_getElem? (i := 942) (by decide +kernel), List.mem_of_getElem? (i := 1306) (by decide +kernel), List.mem_of_getElem? (i := 1307) (by decide +kernel)⟩
theorem lw_p52 : lw_okq (⟨"LargeBubbleModel", "ends", "(I)V"⟩, 71) := ⟨⟨by decide +kernel, by decide +kernel⟩, List.mem_of_getElem? (i := 942) (by decide +kernel), List.mem_of_getElem? (i := 1310) (by decide +kernel), List.mem_of_getElem? (i := 1311) (by decide +kernel)⟩
theorem lw_p53 : lw_okq (⟨"LargeBubbleModel", "least2", "(J)J"⟩, 71) := ⟨⟨by decide +kernel, by decide +kernel⟩, List.mem_of_getElem? (i := 942) (by decide +kernel), List.mem_of_getElem? (i := 1314) (by decide +kernel), List.mem_of_getElem? (i := 1315) (by decide +kernel)⟩
theorem lw_p54 : lw_okq (⟨"LargeBubbleModel", "least", "(II)I"⟩, 71) := ⟨⟨by decide +kernel, by decide +kernel⟩, List.mem_of_getElem? (i := 942) (by decide +kernel), List.mem_of_getElem? (i := 1320) (by decide +kernel), List.mem_of_getElem? (i := 1321) (by decide +kernel)⟩
theorem lw_p55 : lw_okq (⟨"LargeBubbleModel", "brings", "(II)I"⟩, 71) := ⟨⟨by decide +kernel, by decide +kernel⟩, List.mem_of_getElem? (i := 942) (by decide +kernel), List.mem_of_getElem? (i := 1332) (by decide +kernel), List.mem_of_getElem? (i := 1333) (by decide +kernel)⟩
theorem lw_p56 : lw_okq (⟨"LargeBubbleModel", "layDay", "(I)V"⟩, 71) := ⟨⟨by decide +kernel, by decide +kernel⟩, List.mem_of_getElem? (i := 942) (by decide +kernel), List.mem_of_getElem? (i := 1352) (by decide +kernel), List.mem_of_getElem? (i := 1353) (by decide +kernel)⟩
theorem lw_p57 : lw_okq (⟨"LargeBubbleModel", "isSeen", "(I)Z"⟩, 71) := ⟨⟨by decide +kernel, by decide +kernel⟩, List.mem_of_getElem? (i := 942) (by decide +kernel), List.mem_of_getElem? (i := 1372) (by decide +kernel), List.mem_of_getElem? (i := 1373) (by decide +kernel)⟩
theorem lw_p58 : lw_okq (⟨"LargeBubbleModel", "lowest", "(JJI)J"⟩, 71) := ⟨⟨by decide +kernel, by decide +kernel⟩, List.mem_of_getElem? (i := 942) (by decide +kernel), List.mem_of_getElem? (i := 1387) (by decide +kernel), List.mem_of_getElem? (i := 1388) (by decide +kernel)⟩
theorem lw_p59 : lw_okq (⟨"LargeBubbleModel", "divisor", "(JJ)J"⟩, 71) := ⟨⟨by decide +kernel, by decide +kernel⟩, List.mem_of_getElem? (i := 942) (by decide +kernel), List.mem_of_getElem? (i := 1391) (by decide +kernel), List.mem_of_getElem? (i := 1392) (by decide +kernel)⟩
theorem lw_p60 : lw_okq (⟨"LargeBubbleModel", "isTape", "(I)Z"⟩, 71) := ⟨⟨by decide +kernel, by decide +kernel⟩, List.mem_of_getElem? (i := 942) (by decide +kernel), List.mem_of_getElem? (i := 1412) (by decide +kernel), List.mem_of_getElem? (i := 1413) (by decide +kernel)⟩
theorem lw_p61 : lw_okq (⟨"LargeBubbleModel", "opensAct", "(II)I"⟩, 71) := ⟨⟨by decide +kernel, by decide +kernel⟩, List.mem_of_getElem? (i := 942) (by decide +kernel), List.mem_of_getElem? (i := 1428) (by decide +kernel), List.mem_of_getElem? (i := 1429) (by decide +kernel)⟩
theorem lw_p62 : lw_okq (⟨"LargeBubbleModel", "body", "(I)V"⟩, 71) := ⟨⟨by decide +kernel, by decide +kernel⟩, List.mem_of_getElem? (i := 942) (by decide +kernel), List.mem_of_getElem? (i := 1432) (by decide +kernel), List.mem_of_getElem? (i := 1433) (by decide +kernel)⟩
theorem lw_p63 : lw_okq (⟨"LargeBubbleModel", "blowerOpens", "(II)I"⟩, 71) := ⟨⟨by decide +kernel, by decide +kernel⟩, List.mem_of_getElem? (i := 942) (by decide +kernel), List.mem_of_getElem? (i := 1436) (by decide +kernel), List.mem_of_getElem? (i := 1437) (by decide +kernel)⟩
def lw_privs_4 : List (MethodName × Nat) := [(⟨"LargeBubbleModel", "holds", "(II)Z"⟩, 71), (⟨"LargeBubbleModel", "factOf", "(II)I"⟩, 71), (⟨"LargeBubbleModel", "paceOf", "(I)I"⟩, 71), (⟨"LargeBubbleModel", "shuts", "(II)Z"⟩, 71), (⟨"LargeBubbleModel", "ends", "(I)V"⟩, 71), (⟨"LargeBubbleModel", "least2", "(J)J"⟩, 71), (⟨"LargeBubbleModel", "least", "(II)I"⟩, 71), (⟨"LargeBubbleModel", "brings", "(II)I"⟩, 71), (⟨"LargeBubbleModel", "layDay", "(I)V"⟩, 71), (⟨"LargeBubbleModel", "isSeen", "(I)Z"⟩, 71), (⟨"LargeBubbleModel", "lowest", "(JJI)J"⟩, 71), (⟨"LargeBubbleModel", "divisor", "(JJ)J"⟩, 71), (⟨"LargeBubbleModel", "isTape", "(I)Z"⟩, 71), (⟨"LargeBubbleModel", "opensAct", "(II)I"⟩, 71), (⟨"LargeBubbleModel", "body", "(I)V"⟩, 71), (⟨"LargeBubbleModel", "blowerOpens", "(II)I"⟩, 71)]
theorem lw_r4 : ∀ q ∈ lw_privs_4, lw_okq q := List.forall_mem_cons.mpr ⟨lw_p48, List.forall_mem_cons.mpr ⟨lw_p49, List.forall_mem_cons.mpr ⟨lw_p50, List.forall_mem_cons.mpr ⟨lw_p51, List.forall_mem_cons.mpr ⟨lw_p52, List.forall_mem_cons.mpr ⟨lw_p53, List.forall_mem_cons.mpr ⟨lw_p54, List.forall_mem_cons.mpr ⟨lw_p55, List.forall_mem_cons.mpr ⟨lw_p56, List.forall_mem_cons.mpr ⟨lw_p57, List.forall_mem_cons.mpr ⟨lw_p58, List.forall_mem_cons.mpr ⟨lw_p59, List.forall_mem_cons.mpr ⟨lw_p60, List.forall_mem_cons.mpr ⟨lw_p61, List.forall_mem_cons.mpr ⟨lw_p62, List.forall_mem_cons.mpr ⟨lw_p63, fun _ h => absurd h List.not_mem_nil⟩⟩⟩⟩⟩⟩⟩⟩⟩⟩⟩⟩⟩⟩⟩⟩
theorem lw_p64 : lw_okq (⟨"LargeBubbleModel", "growsAct", "(II)I"⟩, 71) := ⟨⟨by decide +kernel, by decide +kernel⟩, List.mem_of_getElem? (i := 942) (by decide +kernel), List.mem_of_getElem? (i := 1440) (by decide +kernel), List.mem_of_getElem? (i := 1441) (by decide +kernel)⟩
theorem lw_p65 : lw_okq (⟨"LargeBubbleModel", "boldGrows", "(II)I"⟩, 71) := ⟨⟨by decide +kernel, by decide +kernel⟩, List.mem_of_getElem? (i := 942) (by decide +kernel), List.mem_of_getElem? (i := 1444) (by decide +kernel), List.mem_of_getElem? (i := 1445) (by decide +kernel)⟩
theorem lw_p66 : lw_okq (⟨"LargeBubbleModel", "blowerGrows", "(II)I"⟩, 71) := ⟨⟨by decide +kernel, by decide +kernel⟩, List.mem_of_getElem? (i := 942) (by decide +kernel), List.mem_of_getElem? (i := 1448) (by decide +kernel), List.mem_of_getElem? (i := 1449) (by decide +kernel)⟩
theorem lw_p67 : lw_okq (⟨"LargeBubbleModel", "tellsAct", "(II)I"⟩, 71) := ⟨⟨by decide +kernel, by decide +kernel⟩, List.mem_of_getElem? (i := 942) (by decide +kernel), List.mem_of_getElem? (i := 1452) (by decide +kernel), List.mem_of_getElem? (i := 1453) (by decide +kernel)⟩
theorem lw_p68 : lw_okq (⟨"LargeBubbleModel", "blowerTells", "(II)I"⟩, 71) := ⟨⟨by decide +kernel, by decide +kernel⟩, List.mem_of_getElem? (i := 942) (by decide +kernel), List.mem_of_getElem? (i := 1456) (by decide +kernel), List.mem_of_getElem? (i := 1457) (by decide +kernel)⟩
theorem lw_p69 : lw_okq (⟨"LargeBubbleModel", "narrow", "(IJ)J"⟩, 71) := ⟨⟨by decide +kernel, by decide +kernel⟩, List.mem_of_getElem? (i := 942) (by decide +kernel), List.mem_of_getElem? (i := 1480) (by decide +kernel), List.mem_of_getElem? (i := 1481) (by decide +kernel)⟩
def lw_privs_5 : List (MethodName × Nat) := [(⟨"LargeBubbleModel", "growsAct", "(II)I"⟩, 71), (⟨"LargeBubbleModel", "boldGrows", "(II)I"⟩, 71), (⟨"LargeBubbleModel", "blowerGrows", "(II)I"⟩, 71), (⟨"LargeBubbleModel", "tellsAct", "(II)I"⟩, 71), (⟨"LargeBubbleModel", "blowerTells", "(II)I"⟩, 71), (⟨"LargeBubbleModel", "narrow", "(IJ)J"⟩, 71)]
theorem lw_r5 : ∀ q ∈ lw_privs_5, lw_okq q := List.forall_mem_cons.mpr ⟨lw_p64, List.forall_mem_cons.mpr ⟨lw_p65, List.forall_mem_cons.mpr ⟨lw_p66, List.forall_mem_cons.mpr ⟨lw_p67, List.forall_mem_cons.mpr ⟨lw_p68, List.forall_mem_cons.mpr ⟨lw_p69, fun _ h => absurd h List.not_mem_nil⟩⟩⟩⟩⟩⟩
def lw_privs : List (MethodName × Nat) := lw_privs_1 ++ (lw_privs_2 ++ (lw_privs_3 ++ (lw_privs_4 ++ (lw_privs_5))))
def lw_tbl : List Cond := k2_sels lw_privs ++ tables_1
theorem lw_privs_ok : ∀ q ∈ lw_privs, lw_okq q := by
  show ∀ q ∈ lw_privs_1 ++ (lw_privs_2 ++ (lw_privs_3 ++ (lw_privs_4 ++ (lw_privs_5)))), lw_okq q
  exact List.forall_mem_append.mpr ⟨lw_r1, List.forall_mem_append.mpr ⟨lw_r2, List.forall_mem_append.mpr ⟨lw_r3, List.forall_mem_append.mpr ⟨lw_r4, lw_r5⟩⟩⟩⟩
-- ===== end of PART A; then your names; then what follows =====
def RX0 : String := "LargeBubble$Blower"
def TX0 : u_T := fun k => match k with
  | 0 => ("LargeBubble$Blower", "kind", "I", true)
  | 1 => ("LargeBubble$Blower", "number", "I", true)
  | 2 => ("LargeBubble$Blower", "v", "I", true)
  | 3 => ("LargeBubble$Blower", "cord", "I", false)
  | 4 => ("LargeBubble$Blower", "aim", "I", false)
  | _ => ("LargeBubble$Blower", "coins", "I", false)
def tyX0 : Nat → FieldType := fun k => match k with
  | 0 => .int
  | 1 => .int
  | 2 => .int
  | 3 => .int
  | 4 => .int
  | _ => .int
theorem nmX0 : ∀ a, a < 6 → ∀ b, b < 6 → a ≠ b → (TX0 a).2.1 ≠ (TX0 b).2.1 := by decide +kernel
theorem tyX0_ok : ∀ k, k < 6 → parseFieldDescriptor (TX0 k).2.2.1 = some (tyX0 k) := by decide +kernel
def RX1 : String := "LargeBubble$Bold"
def TX1 : u_T := fun k => match k with
  | 0 => ("LargeBubble$Blower", "kind", "I", true)
  | 1 => ("LargeBubble$Blower", "number", "I", true)
  | 2 => ("LargeBubble$Blower", "v", "I", true)
  | 3 => ("LargeBubble$Blower", "cord", "I", false)
  | 4 => ("LargeBubble$Blower", "aim", "I", false)
  | _ => ("LargeBubble$Blower", "coins", "I", false)
def tyX1 : Nat → FieldType := fun k => match k with
  | 0 => .int
  | 1 => .int
  | 2 => .int
  | 3 => .int
  | 4 => .int
  | _ => .int
theorem nmX1 : ∀ a, a < 6 → ∀ b, b < 6 → a ≠ b → (TX1 a).2.1 ≠ (TX1 b).2.1 := by decide +kernel
theorem tyX1_ok : ∀ k, k < 6 → parseFieldDescriptor (TX1 k).2.2.1 = some (tyX1 k) := by decide +kernel
def RX2 : String := "LargeBubble$Careful"
def TX2 : u_T := fun k => match k with
  | 0 => ("LargeBubble$Blower", "kind", "I", true)
  | 1 => ("LargeBubble$Blower", "number", "I", true)
  | 2 => ("LargeBubble$Blower", "v", "I", true)
  | 3 => ("LargeBubble$Blower", "cord", "I", false)
  | 4 => ("LargeBubble$Blower", "aim", "I", false)
  | _ => ("LargeBubble$Blower", "coins", "I", false)
def tyX2 : Nat → FieldType := fun k => match k with
  | 0 => .int
  | 1 => .int
  | 2 => .int
  | 3 => .int
  | 4 => .int
  | _ => .int
theorem nmX2 : ∀ a, a < 6 → ∀ b, b < 6 → a ≠ b → (TX2 a).2.1 ≠ (TX2 b).2.1 := by decide +kernel
theorem tyX2_ok : ∀ k, k < 6 → parseFieldDescriptor (TX2 k).2.2.1 = some (tyX2 k) := by decide +kernel
def RX3 : String := "LargeBubble$Course"
def TX3 : u_T := fun k => match k with
  | 0 => ("LargeBubble$Course", "square", "LLargeBubble$Square;", false)
  | 1 => ("LargeBubble$Course", "cord", "I", false)
  | 2 => ("LargeBubble$Course", "aim", "I", false)
  | 3 => ("LargeBubble$Course", "good", "I", false)
  | 4 => ("LargeBubble$Course", "minute", "I", false)
  | 5 => ("LargeBubble$Course", "gust", "I", false)
  | 6 => ("LargeBubble$Course", "calm", "Z", false)
  | 7 => ("LargeBubble$Course", "size", "I", false)
  | 8 => ("LargeBubble$Course", "film", "I", false)
  | 9 => ("LargeBubble$Course", "wind", "I", false)
  | 10 => ("LargeBubble$Course", "minutes", "I", false)
  | 11 => ("LargeBubble$Course", "life", "I", false)
  | 12 => ("LargeBubble$Course", "brings", "I", false)
  | 13 => ("LargeBubble$Course", "torn", "Z", false)
  | _ => ("LargeBubble$Course", "letters", "[I", true)
def tyX3 : Nat → FieldType := fun k => match k with
  | 0 => .object "LargeBubble$Square"
  | 1 => .int
  | 2 => .int
  | 3 => .int
  | 4 => .int
  | 5 => .int
  | 6 => .boolean
  | 7 => .int
  | 8 => .int
  | 9 => .int
  | 10 => .int
  | 11 => .int
  | 12 => .int
  | 13 => .boolean
  | _ => .array .int
theorem nmX3 : ∀ a, a < 15 → ∀ b, b < 15 → a ≠ b → (TX3 a).2.1 ≠ (TX3 b).2.1 := by decide +kernel
theorem tyX3_ok : ∀ k, k < 15 → parseFieldDescriptor (TX3 k).2.2.1 = some (tyX3 k) := by decide +kernel
def RX4 : String := "LargeBubble$Mad"
def TX4 : u_T := fun k => match k with
  | 0 => ("LargeBubble$Blower", "kind", "I", true)
  | 1 => ("LargeBubble$Blower", "number", "I", true)
  | 2 => ("LargeBubble$Blower", "v", "I", true)
  | 3 => ("LargeBubble$Blower", "cord", "I", false)
  | 4 => ("LargeBubble$Blower", "aim", "I", false)
  | _ => ("LargeBubble$Blower", "coins", "I", false)
def tyX4 : Nat → FieldType := fun k => match k with
  | 0 => .int
  | 1 => .int
  | 2 => .int
  | 3 => .int
  | 4 => .int
  | _ => .int
theorem nmX4 : ∀ a, a < 6 → ∀ b, b < 6 → a ≠ b → (TX4 a).2.1 ≠ (TX4 b).2.1 := by decide +kernel
theorem tyX4_ok : ∀ k, k < 6 → parseFieldDescriptor (TX4 k).2.2.1 = some (tyX4 k) := by decide +kernel
def RX5 : String := "LargeBubble$Slow"
def TX5 : u_T := fun k => match k with
  | 0 => ("LargeBubble$Blower", "kind", "I", true)
  | 1 => ("LargeBubble$Blower", "number", "I", true)
  | 2 => ("LargeBubble$Blower", "v", "I", true)
  | 3 => ("LargeBubble$Blower", "cord", "I", false)
  | 4 => ("LargeBubble$Blower", "aim", "I", false)
  | _ => ("LargeBubble$Blower", "coins", "I", false)
def tyX5 : Nat → FieldType := fun k => match k with
  | 0 => .int
  | 1 => .int
  | 2 => .int
  | 3 => .int
  | 4 => .int
  | _ => .int
theorem nmX5 : ∀ a, a < 6 → ∀ b, b < 6 → a ≠ b → (TX5 a).2.1 ≠ (TX5 b).2.1 := by decide +kernel
theorem tyX5_ok : ∀ k, k < 6 → parseFieldDescriptor (TX5 k).2.2.1 = some (tyX5 k) := by decide +kernel
def RX6 : String := "LargeBubble$Square"
def TX6 : u_T := fun k => match k with
  | 0 => ("LargeBubble$Square", "words", "[I", true)
  | 1 => ("LargeBubble$Square", "numbers", "[I", true)
  | 2 => ("LargeBubble$Square", "ends", "[I", true)
  | 3 => ("LargeBubble$Square", "clauses", "I", false)
  | 4 => ("LargeBubble$Square", "codes", "[I", true)
  | 5 => ("LargeBubble$Square", "relations", "[I", true)
  | 6 => ("LargeBubble$Square", "limits", "[I", true)
  | _ => ("LargeBubble$Square", "codeCount", "I", false)
def tyX6 : Nat → FieldType := fun k => match k with
  | 0 => .array .int
  | 1 => .array .int
  | 2 => .array .int
  | 3 => .int
  | 4 => .array .int
  | 5 => .array .int
  | 6 => .array .int
  | _ => .int
theorem nmX6 : ∀ a, a < 8 → ∀ b, b < 8 → a ≠ b → (TX6 a).2.1 ≠ (TX6 b).2.1 := by decide +kernel
theorem tyX6_ok : ∀ k, k < 8 → parseFieldDescriptor (TX6 k).2.2.1 = some (tyX6 k) := by decide +kernel
def RX7 : String := "LargeBubble$State"
def TX7 : u_T := fun k => match k with
  | 0 => ("LargeBubble$State", "blowers", "[LLargeBubble$Blower;", true)
  | 1 => ("LargeBubble$State", "blowerCount", "I", false)
  | 2 => ("LargeBubble$State", "bucket", "[I", true)
  | 3 => ("LargeBubble$State", "minute", "I", false)
  | 4 => ("LargeBubble$State", "square", "I", false)
  | 5 => ("LargeBubble$State", "seenBlowers", "[I", true)
  | 6 => ("LargeBubble$State", "seenMinutes", "[I", true)
  | 7 => ("LargeBubble$State", "seenSizes", "[I", true)
  | 8 => ("LargeBubble$State", "seenCount", "I", false)
  | 9 => ("LargeBubble$State", "bookBlowers", "[I", true)
  | 10 => ("LargeBubble$State", "bookTorn", "[Z", true)
  | 11 => ("LargeBubble$State", "bookCount", "I", false)
  | _ => ("LargeBubble$State", "kept", "[[I", true)
def tyX7 : Nat → FieldType := fun k => match k with
  | 0 => .array (.object "LargeBubble$Blower")
  | 1 => .int
  | 2 => .array .int
  | 3 => .int
  | 4 => .int
  | 5 => .array .int
  | 6 => .array .int
  | 7 => .array .int
  | 8 => .int
  | 9 => .array .int
  | 10 => .array .boolean
  | 11 => .int
  | _ => .array (.array .int)
theorem nmX7 : ∀ a, a < 13 → ∀ b, b < 13 → a ≠ b → (TX7 a).2.1 ≠ (TX7 b).2.1 := by decide +kernel
theorem tyX7_ok : ∀ k, k < 13 → parseFieldDescriptor (TX7 k).2.2.1 = some (tyX7 k) := by decide +kernel
def RX8 : String := "LargeBubble$Text"
def TX8 : u_T := fun k => match k with
  | 0 => ("LargeBubble$Text", "signs", "[B", true)
  | 1 => ("LargeBubble$Text", "length", "I", false)
  | _ => ("LargeBubble$Text", "place", "I", false)
def tyX8 : Nat → FieldType := fun k => match k with
  | 0 => .array .byte
  | 1 => .int
  | _ => .int
theorem nmX8 : ∀ a, a < 3 → ∀ b, b < 3 → a ≠ b → (TX8 a).2.1 ≠ (TX8 b).2.1 := by decide +kernel
theorem tyX8_ok : ∀ k, k < 3 → parseFieldDescriptor (TX8 k).2.2.1 = some (tyX8 k) := by decide +kernel
def RX9 : String := "LargeBubble$Told"
def TX9 : u_T := fun k => match k with
  | 0 => ("LargeBubble$Blower", "kind", "I", true)
  | 1 => ("LargeBubble$Blower", "number", "I", true)
  | 2 => ("LargeBubble$Blower", "v", "I", true)
  | 3 => ("LargeBubble$Blower", "cord", "I", false)
  | 4 => ("LargeBubble$Blower", "aim", "I", false)
  | 5 => ("LargeBubble$Blower", "coins", "I", false)
  | _ => ("LargeBubble$Told", "row", "[I", true)
def tyX9 : Nat → FieldType := fun k => match k with
  | 0 => .int
  | 1 => .int
  | 2 => .int
  | 3 => .int
  | 4 => .int
  | 5 => .int
  | _ => .array .int
theorem nmX9 : ∀ a, a < 7 → ∀ b, b < 7 → a ≠ b → (TX9 a).2.1 ≠ (TX9 b).2.1 := by decide +kernel
theorem tyX9_ok : ∀ k, k < 7 → parseFieldDescriptor (TX9 k).2.2.1 = some (tyX9 k) := by decide +kernel
def RX10 : String := "LargeBubble$Wise"
def TX10 : u_T := fun k => match k with
  | 0 => ("LargeBubble$Blower", "kind", "I", true)
  | 1 => ("LargeBubble$Blower", "number", "I", true)
  | 2 => ("LargeBubble$Blower", "v", "I", true)
  | 3 => ("LargeBubble$Blower", "cord", "I", false)
  | 4 => ("LargeBubble$Blower", "aim", "I", false)
  | _ => ("LargeBubble$Blower", "coins", "I", false)
def tyX10 : Nat → FieldType := fun k => match k with
  | 0 => .int
  | 1 => .int
  | 2 => .int
  | 3 => .int
  | 4 => .int
  | _ => .int
theorem nmX10 : ∀ a, a < 6 → ∀ b, b < 6 → a ≠ b → (TX10 a).2.1 ≠ (TX10 b).2.1 := by decide +kernel
theorem tyX10_ok : ∀ k, k < 6 → parseFieldDescriptor (TX10 k).2.2.1 = some (tyX10 k) := by decide +kernel
def RX11 : String := "LargeBubble"
def TX11 : u_T := fun k => match k with
  | 0 => ("LargeBubble", "now", "LLargeBubble$State;", true)
  | 1 => ("LargeBubble", "image", "LLargeBubble$State;", false)
  | 2 => ("LargeBubble", "course", "LLargeBubble$Course;", true)
  | 3 => ("LargeBubble", "text", "LLargeBubble$Text;", true)
  | 4 => ("LargeBubble", "squares", "[LLargeBubble$Square;", true)
  | 5 => ("LargeBubble", "squareCount", "I", false)
  | 6 => ("LargeBubble", "spare", "LLargeBubble$Square;", false)
  | 7 => ("LargeBubble", "dayBrings", "[I", true)
  | 8 => ("LargeBubble", "dayTorn", "I", false)
  | 9 => ("LargeBubble", "dayMinute", "I", false)
  | 10 => ("LargeBubble", "bodies", "[I", true)
  | 11 => ("LargeBubble", "tapeSorts", "[I", true)
  | 12 => ("LargeBubble", "tapeLengths", "[I", true)
  | _ => ("LargeBubble", "tapeItems", "[[J", true)
def tyX11 : Nat → FieldType := fun k => match k with
  | 0 => .object "LargeBubble$State"
  | 1 => .object "LargeBubble$State"
  | 2 => .object "LargeBubble$Course"
  | 3 => .object "LargeBubble$Text"
  | 4 => .array (.object "LargeBubble$Square")
  | 5 => .int
  | 6 => .object "LargeBubble$Square"
  | 7 => .array .int
  | 8 => .int
  | 9 => .int
  | 10 => .array .int
  | 11 => .array .int
  | 12 => .array .int
  | _ => .array (.array .long)
theorem nmX11 : ∀ a, a < 14 → ∀ b, b < 14 → a ≠ b → (TX11 a).2.1 ≠ (TX11 b).2.1 := by decide +kernel
theorem tyX11_ok : ∀ k, k < 14 → parseFieldDescriptor (TX11 k).2.2.1 = some (tyX11 k) := by decide +kernel
def RX12 : String := "LargeBubbleModel"
def TX12 : u_T := fun k => match k with
  | 0 => ("LargeBubbleModel", "blowers", "I", false)
  | 1 => ("LargeBubbleModel", "minute", "I", false)
  | 2 => ("LargeBubbleModel", "kind", "[I", true)
  | 3 => ("LargeBubbleModel", "v", "[I", true)
  | 4 => ("LargeBubbleModel", "cord", "[I", true)
  | 5 => ("LargeBubbleModel", "aim", "[I", true)
  | 6 => ("LargeBubbleModel", "coins", "[I", true)
  | 7 => ("LargeBubbleModel", "rows", "[I", true)
  | 8 => ("LargeBubbleModel", "bucket", "[I", true)
  | 9 => ("LargeBubbleModel", "squares", "I", false)
  | 10 => ("LargeBubbleModel", "the", "I", false)
  | 11 => ("LargeBubbleModel", "fed", "I", false)
  | 12 => ("LargeBubbleModel", "at", "I", false)
  | 13 => ("LargeBubbleModel", "digits", "I", false)
  | 14 => ("LargeBubbleModel", "text", "[I", true)
  | 15 => ("LargeBubbleModel", "clauses", "[I", true)
  | 16 => ("LargeBubbleModel", "word", "[I", true)
  | 17 => ("LargeBubbleModel", "number", "[I", true)
  | 18 => ("LargeBubbleModel", "from", "[I", true)
  | 19 => ("LargeBubbleModel", "to", "[I", true)
  | 20 => ("LargeBubbleModel", "sign", "[I", true)
  | 21 => ("LargeBubbleModel", "waits", "[I", true)
  | 22 => ("LargeBubbleModel", "signs", "I", false)
  | 23 => ("LargeBubbleModel", "waiting", "I", false)
  | 24 => ("LargeBubbleModel", "open", "I", false)
  | 25 => ("LargeBubbleModel", "letters", "[I", true)
  | 26 => ("LargeBubbleModel", "pile", "[Z", true)
  | 27 => ("LargeBubbleModel", "size", "I", false)
  | 28 => ("LargeBubbleModel", "film", "I", false)
  | 29 => ("LargeBubbleModel", "clock", "I", false)
  | 30 => ("LargeBubbleModel", "goSize", "I", false)
  | 31 => ("LargeBubbleModel", "goLife", "I", false)
  | 32 => ("LargeBubbleModel", "goBrings", "I", false)
  | 33 => ("LargeBubbleModel", "goMinutes", "I", false)
  | 34 => ("LargeBubbleModel", "isTorn", "Z", false)
  | 35 => ("LargeBubbleModel", "isCalm", "Z", false)
  | 36 => ("LargeBubbleModel", "gust", "I", false)
  | 37 => ("LargeBubbleModel", "earned", "[I", true)
  | 38 => ("LargeBubbleModel", "dayTorn", "I", false)
  | 39 => ("LargeBubbleModel", "dayMinute", "I", false)
  | 40 => ("LargeBubbleModel", "seen", "I", false)
  | 41 => ("LargeBubbleModel", "seenWho", "[I", true)
  | 42 => ("LargeBubbleModel", "seenWhen", "[I", true)
  | 43 => ("LargeBubbleModel", "seenSize", "[I", true)
  | 44 => ("LargeBubbleModel", "books", "I", false)
  | 45 => ("LargeBubbleModel", "bookWho", "[I", true)
  | 46 => ("LargeBubbleModel", "bookTorn", "[Z", true)
  | 47 => ("LargeBubbleModel", "hasImage", "Z", false)
  | 48 => ("LargeBubbleModel", "imageThe", "I", false)
  | 49 => ("LargeBubbleModel", "imageBlowers", "I", false)
  | 50 => ("LargeBubbleModel", "imageMinute", "I", false)
  | 51 => ("LargeBubbleModel", "imageSeen", "I", false)
  | 52 => ("LargeBubbleModel", "imageBooks", "I", false)
  | 53 => ("LargeBubbleModel", "imageKind", "[I", true)
  | 54 => ("LargeBubbleModel", "imageV", "[I", true)
  | 55 => ("LargeBubbleModel", "imageCord", "[I", true)
  | 56 => ("LargeBubbleModel", "imageAim", "[I", true)
  | 57 => ("LargeBubbleModel", "imageCoins", "[I", true)
  | 58 => ("LargeBubbleModel", "imageRows", "[I", true)
  | 59 => ("LargeBubbleModel", "imageBucket", "[I", true)
  | 60 => ("LargeBubbleModel", "imageWho", "[I", true)
  | 61 => ("LargeBubbleModel", "imageWhen", "[I", true)
  | 62 => ("LargeBubbleModel", "imageSize", "[I", true)
  | 63 => ("LargeBubbleModel", "imageBook", "[I", true)
  | 64 => ("LargeBubbleModel", "imageTorn", "[Z", true)
  | 65 => ("LargeBubbleModel", "ran", "I", false)
  | 66 => ("LargeBubbleModel", "bodies", "[I", true)
  | 67 => ("LargeBubbleModel", "sort", "[I", true)
  | 68 => ("LargeBubbleModel", "length", "[I", true)
  | 69 => ("LargeBubbleModel", "item", "[J", true)
  | _ => ("LargeBubbleModel", "aside", "[J", true)
def tyX12 : Nat → FieldType := fun k => match k with
  | 0 => .int
  | 1 => .int
  | 2 => .array .int
  | 3 => .array .int
  | 4 => .array .int
  | 5 => .array .int
  | 6 => .array .int
  | 7 => .array .int
  | 8 => .array .int
  | 9 => .int
  | 10 => .int
  | 11 => .int
  | 12 => .int
  | 13 => .int
  | 14 => .array .int
  | 15 => .array .int
  | 16 => .array .int
  | 17 => .array .int
  | 18 => .array .int
  | 19 => .array .int
  | 20 => .array .int
  | 21 => .array .int
  | 22 => .int
  | 23 => .int
  | 24 => .int
  | 25 => .array .int
  | 26 => .array .boolean
  | 27 => .int
  | 28 => .int
  | 29 => .int
  | 30 => .int
  | 31 => .int
  | 32 => .int
  | 33 => .int
  | 34 => .boolean
  | 35 => .boolean
  | 36 => .int
  | 37 => .array .int
  | 38 => .int
  | 39 => .int
  | 40 => .int
  | 41 => .array .int
  | 42 => .array .int
  | 43 => .array .int
  | 44 => .int
  | 45 => .array .int
  | 46 => .array .boolean
  | 47 => .boolean
  | 48 => .int
  | 49 => .int
  | 50 => .int
  | 51 => .int
  | 52 => .int
  | 53 => .array .int
  | 54 => .array .int
  | 55 => .array .int
  | 56 => .array .int
  | 57 => .array .int
  | 58 => .array .int
  | 59 => .array .int
  | 60 => .array .int
  | 61 => .array .int
  | 62 => .array .int
  | 63 => .array .int
  | 64 => .array .boolean
  | 65 => .int
  | 66 => .array .int
  | 67 => .array .int
  | 68 => .array .int
  | 69 => .array .long
  | _ => .array .long
theorem nmX12 : ∀ a, a < 71 → ∀ b, b < 71 → a ≠ b → (TX12 a).2.1 ≠ (TX12 b).2.1 := by decide +kernel
theorem tyX12_ok : ∀ k, k < 71 → parseFieldDescriptor (TX12 k).2.2.1 = some (tyX12 k) := by decide +kernel
abbrev vwCl : List vw_C := [(RX0, TX0, 6), (RX1, TX1, 6), (RX2, TX2, 6), (RX3, TX3, 15), (RX4, TX4, 6), (RX5, TX5, 6), (RX6, TX6, 8), (RX7, TX7, 13), (RX8, TX8, 3), (RX9, TX9, 7), (RX10, TX10, 6), (RX11, TX11, 14), (RX12, TX12, 71)]
/-- the words that stay true under warmer tables -/
def am_T0 : List Cond := lw_tbl.filter goodWord
theorem am_tl1 {w : Cond} (h : w ∈ tables_1_1) : w ∈ lw_tbl := List.mem_append_right _ (List.mem_append_left _ h)
theorem am_t1 {w : Cond} (h : w ∈ tables_1_1) (hg : goodWord w = true) : w ∈ am_T0 := List.mem_filter.mpr ⟨am_tl1 h, hg⟩
theorem am_tl2 {w : Cond} (h : w ∈ tables_1_2) : w ∈ lw_tbl := List.mem_append_right _ (List.mem_append_right _ (List.mem_append_left _ h))
theorem am_t2 {w : Cond} (h : w ∈ tables_1_2) (hg : goodWord w = true) : w ∈ am_T0 := List.mem_filter.mpr ⟨am_tl2 h, hg⟩
theorem am_tl3 {w : Cond} (h : w ∈ tables_1_3) : w ∈ lw_tbl := List.mem_append_right _ (List.mem_append_right _ (List.mem_append_right _ (List.mem_append_left _ h)))
theorem am_t3 {w : Cond} (h : w ∈ tables_1_3) (hg : goodWord w = true) : w ∈ am_T0 := List.mem_filter.mpr ⟨am_tl3 h, hg⟩
theorem am_tl4 {w : Cond} (h : w ∈ tables_1_4) : w ∈ lw_tbl := List.mem_append_right _ (List.mem_append_right _ (List.mem_append_right _ (List.mem_append_right _ (List.mem_append_left _ h))))
theorem am_t4 {w : Cond} (h : w ∈ tables_1_4) (hg : goodWord w = true) : w ∈ am_T0 := List.mem_filter.mpr ⟨am_tl4 h, hg⟩
theorem am_tl5 {w : Cond} (h : w ∈ tables_1_5) : w ∈ lw_tbl := List.mem_append_right _ (List.mem_append_right _ (List.mem_append_right _ (List.mem_append_right _ (List.mem_append_right _ (List.mem_append_left _ h)))))
theorem am_t5 {w : Cond} (h : w ∈ tables_1_5) (hg : goodWord w = true) : w ∈ am_T0 := List.mem_filter.mpr ⟨am_tl5 h, hg⟩
theorem am_tl6 {w : Cond} (h : w ∈ tables_1_6) : w ∈ lw_tbl := List.mem_append_right _ (List.mem_append_right _ (List.mem_append_right _ (List.mem_append_right _ (List.mem_append_right _ (List.mem_append_right _ (List.mem_append_left _ h))))))
theorem am_t6 {w : Cond} (h : w ∈ tables_1_6) (hg : goodWord w = true) : w ∈ am_T0 := List.mem_filter.mpr ⟨am_tl6 h, hg⟩
theorem am_tl7 {w : Cond} (h : w ∈ tables_1_7) : w ∈ lw_tbl := List.mem_append_right _ (List.mem_append_right _ (List.mem_append_right _ (List.mem_append_right _ (List.mem_append_right _ (List.mem_append_right _ (List.mem_append_right _ (h)))))))
theorem am_t7 {w : Cond} (h : w ∈ tables_1_7) (hg : goodWord w = true) : w ∈ am_T0 := List.mem_filter.mpr ⟨am_tl7 h, hg⟩
set_option maxRecDepth 100000 in
theorem kw_0 : (Jvm.Cond.initialized "LargeBubbleLaw") ∈ am_T0 := am_t1 (List.mem_of_getElem? (i := 0) rfl) rfl
set_option maxRecDepth 100000 in
theorem kw_1 : (Jvm.Cond.initialized "LargeBubble") ∈ am_T0 := am_t1 (List.mem_of_getElem? (i := 1) rfl) rfl
set_option maxRecDepth 100000 in
theorem kw_2 : (Jvm.Cond.initialized "LargeBubble$State") ∈ am_T0 := am_t1 (List.mem_of_getElem? (i := 2) rfl) rfl
set_option maxRecDepth 100000 in
theorem kw_3 : (Jvm.Cond.initialized "LargeBubble$Course") ∈ am_T0 := am_t1 (List.mem_of_getElem? (i := 3) rfl) rfl
set_option maxRecDepth 100000 in
theorem kw_4 : (Jvm.Cond.initialized "LargeBubble$Text") ∈ am_T0 := am_t1 (List.mem_of_getElem? (i := 4) rfl) rfl
set_option maxRecDepth 100000 in
theorem kw_5 : (Jvm.Cond.initialized "LargeBubbleModel") ∈ am_T0 := am_t1 (List.mem_of_getElem? (i := 5) rfl) rfl
set_option maxRecDepth 100000 in
theorem kw_6 : (Jvm.Cond.initialized "LargeBubble$Blower") ∈ am_T0 := am_t1 (List.mem_of_getElem? (i := 6) rfl) rfl
set_option maxRecDepth 100000 in
theorem kw_7 : (Jvm.Cond.initialized "LargeBubble$Bold") ∈ am_T0 := am_t1 (List.mem_of_getElem? (i := 7) rfl) rfl
set_option maxRecDepth 100000 in
theorem kw_8 : (Jvm.Cond.initialized "LargeBubble$Careful") ∈ am_T0 := am_t1 (List.mem_of_getElem? (i := 8) rfl) rfl
set_option maxRecDepth 100000 in
theorem kw_9 : (Jvm.Cond.initialized "LargeBubble$Slow") ∈ am_T0 := am_t1 (List.mem_of_getElem? (i := 9) rfl) rfl
set_option maxRecDepth 100000 in
theorem kw_10 : (Jvm.Cond.initialized "LargeBubble$Mad") ∈ am_T0 := am_t1 (List.mem_of_getElem? (i := 10) rfl) rfl
set_option maxRecDepth 100000 in
theorem kw_11 : (Jvm.Cond.initialized "LargeBubble$Wise") ∈ am_T0 := am_t1 (List.mem_of_getElem? (i := 11) rfl) rfl
set_option maxRecDepth 100000 in
theorem kw_12 : (Jvm.Cond.initialized "LargeBubble$Told") ∈ am_T0 := am_t1 (List.mem_of_getElem? (i := 12) rfl) rfl
set_option maxRecDepth 100000 in
theorem kw_13 : (Jvm.Cond.initialized "LargeBubble$Square") ∈ am_T0 := am_t1 (List.mem_of_getElem? (i := 13) rfl) rfl
set_option maxRecDepth 100000 in
theorem kw_14 : (Jvm.Cond.initialized "java/lang/String") ∈ am_T0 := am_t1 (List.mem_of_getElem? (i := 14) rfl) rfl
set_option maxRecDepth 100000 in
theorem kw_15 : (Jvm.Cond.initialized "java/lang/StringLatin1") ∈ am_T0 := am_t1 (List.mem_of_getElem? (i := 15) rfl) rfl
set_option maxRecDepth 100000 in
theorem kw_16 : (Jvm.Cond.initialized "jdk/internal/util/Preconditions") ∈ am_T0 := am_t1 (List.mem_of_getElem? (i := 16) rfl) rfl
set_option maxRecDepth 100000 in
theorem kw_17 : (Jvm.Cond.initialized "java/lang/StringUTF16") ∈ am_T0 := am_t1 (List.mem_of_getElem? (i := 17) rfl) rfl
set_option maxRecDepth 100000 in
theorem kw_18 : (Jvm.Cond.initialized "java/lang/Math") ∈ am_T0 := am_t1 (List.mem_of_getElem? (i := 18) rfl) rfl
set_option maxRecDepth 100000 in
theorem kw_19 : (Jvm.Cond.initialized "java/lang/System") ∈ am_T0 := am_t1 (List.mem_of_getElem? (i := 19) rfl) rfl
set_option maxRecDepth 100000 in
theorem kw_20 : (Jvm.Cond.classLink "LargeBubbleLaw" (7 : Nat) "LargeBubble") ∈ am_T0 := am_t1 (List.mem_of_getElem? (i := 20) rfl) rfl
set_option maxRecDepth 100000 in
theorem kw_21 : (Jvm.Cond.instantiable "LargeBubble" (14 : Nat)) ∈ am_T0 := am_t1 (List.mem_of_getElem? (i := 21) rfl) rfl
set_option maxRecDepth 100000 in
theorem kw_22 : (Jvm.Cond.methodLink "LargeBubbleLaw" (9 : Nat) ({ cls := "LargeBubble", name := "<init>", desc := "()V" } : Jvm.MethodName)) ∈ am_T0 := am_t1 (List.mem_of_getElem? (i := 22) rfl) rfl
set_option maxRecDepth 100000 in
theorem kw_23 : (Jvm.Cond.instanceMethod ({ cls := "LargeBubble", name := "<init>", desc := "()V" } : Jvm.MethodName)) ∈ am_T0 := am_t1 (List.mem_of_getElem? (i := 23) rfl) rfl
set_option maxRecDepth 100000 in
theorem kw_24 : (Jvm.Cond.code ({ cls := "LargeBubble", name := "<init>", desc := "()V" } : Jvm.MethodName) prog_1_method_1_code (1 : Nat) (Option.none : Option Jvm.ClassFile.FieldType)) ∈ am_T0 := am_t1 (List.mem_of_getElem? (i := 24) rfl) rfl
set_option maxRecDepth 100000 in
theorem kw_25 : (Jvm.Cond.methodLink "LargeBubble" (3 : Nat) ({ cls := "java/lang/Object", name := "<init>", desc := "()V" } : Jvm.MethodName)) ∈ am_T0 := am_t1 (List.mem_of_getElem? (i := 25) rfl) rfl
set_option maxRecDepth 100000 in
theorem kw_26 : (Jvm.Cond.instanceMethod ({ cls := "java/lang/Object", name := "<init>", desc := "()V" } : Jvm.MethodName)) ∈ am_T0 := am_t1 (List.mem_of_getElem? (i := 26) rfl) rfl
set_option maxRecDepth 100000 in
theorem kw_27 : (Jvm.Cond.code ({ cls := "java/lang/Object", name := "<init>", desc := "()V" } : Jvm.MethodName) object_method_1_code (1 : Nat) (Option.none : Option Jvm.ClassFile.FieldType)) ∈ am_T0 := am_t1 (List.mem_of_getElem? (i := 27) rfl) rfl
set_option maxRecDepth 100000 in
theorem kw_28 : (Jvm.Cond.classLink "LargeBubble" (9 : Nat) "LargeBubble$State") ∈ am_T0 := am_t1 (List.mem_of_getElem? (i := 28) rfl) rfl
set_option maxRecDepth 100000 in
theorem kw_29 : (Jvm.Cond.instantiable "LargeBubble$State" (13 : Nat)) ∈ am_T0 := am_t1 (List.mem_of_getElem? (i := 29) rfl) rfl
set_option maxRecDepth 100000 in
theorem kn_30 : (Jvm.Cond.methodLinkNest "LargeBubble" (11 : Nat) ({ cls := "LargeBubble$State", name := "<init>", desc := "()V" } : Jvm.MethodName) "LargeBubble") ∈ lw_tbl := am_tl1 (List.mem_of_getElem? (i := 30) rfl)
set_option maxRecDepth 100000 in
theorem kw_31 : (Jvm.Cond.instanceMethod ({ cls := "LargeBubble$State", name := "<init>", desc := "()V" } : Jvm.MethodName)) ∈ am_T0 := am_t1 (List.mem_of_getElem? (i := 31) rfl) rfl
set_option maxRecDepth 100000 in
theorem kw_32 : (Jvm.Cond.code ({ cls := "LargeBubble$State", name := "<init>", desc := "()V" } : Jvm.MethodName) prog_9_method_1_code (1 : Nat) (Option.none : Option Jvm.ClassFile.FieldType)) ∈ am_T0 := am_t1 (List.mem_of_getElem? (i := 32) rfl) rfl
set_option maxRecDepth 100000 in
theorem kw_33 : (Jvm.Cond.methodLink "LargeBubble$State" (3 : Nat) ({ cls := "java/lang/Object", name := "<init>", desc := "()V" } : Jvm.MethodName)) ∈ am_T0 := am_t1 (List.mem_of_getElem? (i := 33) rfl) rfl
set_option maxRecDepth 100000 in
theorem kw_34 : (Jvm.Cond.classLink "LargeBubble$State" (9 : Nat) "LargeBubble$Blower") ∈ am_T0 := am_t1 (List.mem_of_getElem? (i := 34) rfl) rfl
set_option maxRecDepth 100000 in
theorem kn_35 : (Jvm.Cond.arrayOver (Jvm.ClassFile.FieldType.object "LargeBubble$Blower")) ∈ lw_tbl := am_tl1 (List.mem_of_getElem? (i := 35) rfl)
set_option maxRecDepth 100000 in
theorem kw_36 : (Jvm.Cond.classLink "LargeBubble$State" (53 : Nat) "[[I") ∈ am_T0 := am_t1 (List.mem_of_getElem? (i := 36) rfl) rfl
set_option maxRecDepth 100000 in
theorem kn_37 : (Jvm.Cond.arrayOver (Jvm.ClassFile.FieldType.array Jvm.ClassFile.FieldType.int)) ∈ lw_tbl := am_tl1 (List.mem_of_getElem? (i := 37) rfl)
set_option maxRecDepth 100000 in
theorem kw_38 : (Jvm.Cond.fieldLink "LargeBubble$State" (11 : Nat) "LargeBubble$State" "blowers" "[LLargeBubble$Blower;") ∈ am_T0 := am_t1 (List.mem_of_getElem? (i := 38) rfl) rfl
set_option maxRecDepth 100000 in
theorem kw_39 : (Jvm.Cond.fieldLink "LargeBubble" (80 : Nat) "LargeBubble$State" "blowers" "[LLargeBubble$Blower;") ∈ am_T0 := am_t1 (List.mem_of_getElem? (i := 39) rfl) rfl
set_option maxRecDepth 100000 in
theorem kw_40 : (Jvm.Cond.fieldLink "LargeBubble$State" (17 : Nat) "LargeBubble$State" "blowerCount" "I") ∈ am_T0 := am_t1 (List.mem_of_getElem? (i := 40) rfl) rfl
set_option maxRecDepth 100000 in
theorem kw_41 : (Jvm.Cond.fieldLink "LargeBubble" (77 : Nat) "LargeBubble$State" "blowerCount" "I") ∈ am_T0 := am_t1 (List.mem_of_getElem? (i := 41) rfl) rfl
set_option maxRecDepth 100000 in
theorem kw_42 : (Jvm.Cond.fieldLink "LargeBubble$State" (21 : Nat) "LargeBubble$State" "bucket" "[I") ∈ am_T0 := am_t1 (List.mem_of_getElem? (i := 42) rfl) rfl
set_option maxRecDepth 100000 in
theorem kw_43 : (Jvm.Cond.fieldLink "LargeBubble" (109 : Nat) "LargeBubble$State" "bucket" "[I") ∈ am_T0 := am_t1 (List.mem_of_getElem? (i := 43) rfl) rfl
set_option maxRecDepth 100000 in
theorem kw_44 : (Jvm.Cond.fieldLink "LargeBubble$State" (25 : Nat) "LargeBubble$State" "minute" "I") ∈ am_T0 := am_t1 (List.mem_of_getElem? (i := 44) rfl) rfl
set_option maxRecDepth 100000 in
theorem kw_45 : (Jvm.Cond.fieldLink "LargeBubble" (143 : Nat) "LargeBubble$State" "minute" "I") ∈ am_T0 := am_t1 (List.mem_of_getElem? (i := 45) rfl) rfl
set_option maxRecDepth 100000 in
theorem kw_46 : (Jvm.Cond.fieldLink "LargeBubble$State" (28 : Nat) "LargeBubble$State" "square" "I") ∈ am_T0 := am_t1 (List.mem_of_getElem? (i := 46) rfl) rfl
set_option maxRecDepth 100000 in
theorem kw_47 : (Jvm.Cond.fieldLink "LargeBubble" (136 : Nat) "LargeBubble$State" "square" "I") ∈ am_T0 := am_t1 (List.mem_of_getElem? (i := 47) rfl) rfl
set_option maxRecDepth 100000 in
theorem kw_48 : (Jvm.Cond.fieldLink "LargeBubble$State" (31 : Nat) "LargeBubble$State" "seenBlowers" "[I") ∈ am_T0 := am_t1 (List.mem_of_getElem? (i := 48) rfl) rfl
set_option maxRecDepth 100000 in
theorem kw_49 : (Jvm.Cond.fieldLink "LargeBubble" (191 : Nat) "LargeBubble$State" "seenBlowers" "[I") ∈ am_T0 := am_t1 (List.mem_of_getElem? (i := 49) rfl) rfl
set_option maxRecDepth 100000 in
theorem kw_50 : (Jvm.Cond.fieldLink "LargeBubble$State" (34 : Nat) "LargeBubble$State" "seenMinutes" "[I") ∈ am_T0 := am_t1 (List.mem_of_getElem? (i := 50) rfl) rfl
set_option maxRecDepth 100000 in
theorem kw_51 : (Jvm.Cond.fieldLink "LargeBubble" (194 : Nat) "LargeBubble$State" "seenMinutes" "[I") ∈ am_T0 := am_t1 (List.mem_of_getElem? (i := 51) rfl) rfl
set_option maxRecDepth 100000 in
theorem kw_52 : (Jvm.Cond.fieldLink "LargeBubble$State" (37 : Nat) "LargeBubble$State" "seenSizes" "[I") ∈ am_T0 := am_t1 (List.mem_of_getElem? (i := 52) rfl) rfl
set_option maxRecDepth 100000 in
theorem kw_53 : (Jvm.Cond.fieldLink "LargeBubble" (197 : Nat) "LargeBubble$State" "seenSizes" "[I") ∈ am_T0 := am_t1 (List.mem_of_getElem? (i := 53) rfl) rfl
set_option maxRecDepth 100000 in
theorem kw_54 : (Jvm.Cond.fieldLink "LargeBubble$State" (40 : Nat) "LargeBubble$State" "seenCount" "I") ∈ am_T0 := am_t1 (List.mem_of_getElem? (i := 54) rfl) rfl
set_option maxRecDepth 100000 in
theorem kw_55 : (Jvm.Cond.fieldLink "LargeBubble" (188 : Nat) "LargeBubble$State" "seenCount" "I") ∈ am_T0 := am_t1 (List.mem_of_getElem? (i := 55) rfl) rfl
set_option maxRecDepth 100000 in
theorem kw_56 : (Jvm.Cond.fieldLink "LargeBubble$State" (43 : Nat) "LargeBubble$State" "bookBlowers" "[I") ∈ am_T0 := am_t1 (List.mem_of_getElem? (i := 56) rfl) rfl
set_option maxRecDepth 100000 in
theorem kw_57 : (Jvm.Cond.fieldLink "LargeBubble" (220 : Nat) "LargeBubble$State" "bookBlowers" "[I") ∈ am_T0 := am_t1 (List.mem_of_getElem? (i := 57) rfl) rfl
set_option maxRecDepth 100000 in
theorem kw_58 : (Jvm.Cond.fieldLink "LargeBubble$State" (46 : Nat) "LargeBubble$State" "bookTorn" "[Z") ∈ am_T0 := am_t1 (List.mem_of_getElem? (i := 58) rfl) rfl
set_option maxRecDepth 100000 in
theorem kw_59 : (Jvm.Cond.fieldLink "LargeBubble" (223 : Nat) "LargeBubble$State" "bookTorn" "[Z") ∈ am_T0 := am_t1 (List.mem_of_getElem? (i := 59) rfl) rfl
set_option maxRecDepth 100000 in
theorem kw_60 : (Jvm.Cond.fieldLink "LargeBubble$State" (50 : Nat) "LargeBubble$State" "bookCount" "I") ∈ am_T0 := am_t1 (List.mem_of_getElem? (i := 60) rfl) rfl
set_option maxRecDepth 100000 in
theorem kw_61 : (Jvm.Cond.fieldLink "LargeBubble" (217 : Nat) "LargeBubble$State" "bookCount" "I") ∈ am_T0 := am_t1 (List.mem_of_getElem? (i := 61) rfl) rfl
set_option maxRecDepth 100000 in
theorem kw_62 : (Jvm.Cond.fieldLink "LargeBubble$State" (55 : Nat) "LargeBubble$State" "kept" "[[I") ∈ am_T0 := am_t1 (List.mem_of_getElem? (i := 62) rfl) rfl
set_option maxRecDepth 100000 in
theorem kw_63 : (Jvm.Cond.laysFinal "LargeBubble$State" "LargeBubble$State" "blowers" "[LLargeBubble$Blower;") ∈ am_T0 := am_t1 (List.mem_of_getElem? (i := 63) rfl) rfl
set_option maxRecDepth 100000 in
theorem kw_65 : (Jvm.Cond.lays "LargeBubble$State" "LargeBubble$State" "blowerCount" "I") ∈ am_T0 := am_t1 (List.mem_of_getElem? (i := 65) rfl) rfl
set_option maxRecDepth 100000 in
theorem kw_67 : (Jvm.Cond.laysFinal "LargeBubble$State" "LargeBubble$State" "bucket" "[I") ∈ am_T0 := am_t1 (List.mem_of_getElem? (i := 67) rfl) rfl
set_option maxRecDepth 100000 in
theorem kw_69 : (Jvm.Cond.lays "LargeBubble$State" "LargeBubble$State" "minute" "I") ∈ am_T0 := am_t1 (List.mem_of_getElem? (i := 69) rfl) rfl
set_option maxRecDepth 100000 in
theorem kw_71 : (Jvm.Cond.lays "LargeBubble$State" "LargeBubble$State" "square" "I") ∈ am_T0 := am_t1 (List.mem_of_getElem? (i := 71) rfl) rfl
set_option maxRecDepth 100000 in
theorem kw_73 : (Jvm.Cond.laysFinal "LargeBubble$State" "LargeBubble$State" "seenBlowers" "[I") ∈ am_T0 := am_t1 (List.mem_of_getElem? (i := 73) rfl) rfl
set_option maxRecDepth 100000 in
theorem kw_75 : (Jvm.Cond.laysFinal "LargeBubble$State" "LargeBubble$State" "seenMinutes" "[I") ∈ am_T0 := am_t1 (List.mem_of_getElem? (i := 75) rfl) rfl
set_option maxRecDepth 100000 in
theorem kw_77 : (Jvm.Cond.laysFinal "LargeBubble$State" "LargeBubble$State" "seenSizes" "[I") ∈ am_T0 := am_t1 (List.mem_of_getElem? (i := 77) rfl) rfl
set_option maxRecDepth 100000 in
theorem kw_79 : (Jvm.Cond.lays "LargeBubble$State" "LargeBubble$State" "seenCount" "I") ∈ am_T0 := am_t1 (List.mem_of_getElem? (i := 79) rfl) rfl
set_option maxRecDepth 100000 in
theorem kw_81 : (Jvm.Cond.laysFinal "LargeBubble$State" "LargeBubble$State" "bookBlowers" "[I") ∈ am_T0 := am_t1 (List.mem_of_getElem? (i := 81) rfl) rfl
set_option maxRecDepth 100000 in
theorem kw_83 : (Jvm.Cond.laysFinal "LargeBubble$State" "LargeBubble$State" "bookTorn" "[Z") ∈ am_T0 := am_t1 (List.mem_of_getElem? (i := 83) rfl) rfl
set_option maxRecDepth 100000 in
theorem kw_85 : (Jvm.Cond.lays "LargeBubble$State" "LargeBubble$State" "bookCount" "I") ∈ am_T0 := am_t1 (List.mem_of_getElem? (i := 85) rfl) rfl
set_option maxRecDepth 100000 in
theorem kw_87 : (Jvm.Cond.laysFinal "LargeBubble$State" "LargeBubble$State" "kept" "[[I") ∈ am_T0 := am_t1 (List.mem_of_getElem? (i := 87) rfl) rfl
set_option maxRecDepth 100000 in
theorem kw_89 : (Jvm.Cond.superclass "LargeBubble$State" "java/lang/Object") ∈ am_T0 := am_t1 (List.mem_of_getElem? (i := 89) rfl) rfl
set_option maxRecDepth 100000 in
theorem kw_90 : (Jvm.Cond.arrayClass Jvm.ClassFile.FieldType.int) ∈ am_T0 := am_t1 (List.mem_of_getElem? (i := 90) rfl) rfl
set_option maxRecDepth 100000 in
theorem kw_91 : (Jvm.Cond.arrayClass Jvm.ClassFile.FieldType.boolean) ∈ am_T0 := am_t1 (List.mem_of_getElem? (i := 91) rfl) rfl
set_option maxRecDepth 100000 in
theorem kw_92 : (Jvm.Cond.classLink "LargeBubble" (21 : Nat) "LargeBubble$Course") ∈ am_T0 := am_t1 (List.mem_of_getElem? (i := 92) rfl) rfl
set_option maxRecDepth 100000 in
theorem kw_93 : (Jvm.Cond.instantiable "LargeBubble$Course" (15 : Nat)) ∈ am_T0 := am_t1 (List.mem_of_getElem? (i := 93) rfl) rfl
set_option maxRecDepth 100000 in
theorem kn_94 : (Jvm.Cond.methodLinkNest "LargeBubble" (23 : Nat) ({ cls := "LargeBubble$Course", name := "<init>", desc := "()V" } : Jvm.MethodName) "LargeBubble") ∈ lw_tbl := am_tl1 (List.mem_of_getElem? (i := 94) rfl)
set_option maxRecDepth 100000 in
theorem kw_95 : (Jvm.Cond.instanceMethod ({ cls := "LargeBubble$Course", name := "<init>", desc := "()V" } : Jvm.MethodName)) ∈ am_T0 := am_t1 (List.mem_of_getElem? (i := 95) rfl) rfl
set_option maxRecDepth 100000 in
theorem kw_96 : (Jvm.Cond.code ({ cls := "LargeBubble$Course", name := "<init>", desc := "()V" } : Jvm.MethodName) prog_5_method_1_code (1 : Nat) (Option.none : Option Jvm.ClassFile.FieldType)) ∈ am_T0 := am_t1 (List.mem_of_getElem? (i := 96) rfl) rfl
set_option maxRecDepth 100000 in
theorem kw_97 : (Jvm.Cond.methodLink "LargeBubble$Course" (3 : Nat) ({ cls := "java/lang/Object", name := "<init>", desc := "()V" } : Jvm.MethodName)) ∈ am_T0 := am_t1 (List.mem_of_getElem? (i := 97) rfl) rfl
set_option maxRecDepth 100000 in
theorem kw_98 : (Jvm.Cond.fieldLink "LargeBubble$Course" (9 : Nat) "LargeBubble$Course" "square" "LLargeBubble$Square;") ∈ am_T0 := am_t1 (List.mem_of_getElem? (i := 98) rfl) rfl
set_option maxRecDepth 100000 in
theorem kw_99 : (Jvm.Cond.fieldLink "LargeBubble" (289 : Nat) "LargeBubble$Course" "square" "LLargeBubble$Square;") ∈ am_T0 := am_t1 (List.mem_of_getElem? (i := 99) rfl) rfl
set_option maxRecDepth 100000 in
theorem kw_100 : (Jvm.Cond.fieldLink "LargeBubble$Course" (15 : Nat) "LargeBubble$Course" "cord" "I") ∈ am_T0 := am_t1 (List.mem_of_getElem? (i := 100) rfl) rfl
set_option maxRecDepth 100000 in
theorem kw_101 : (Jvm.Cond.fieldLink "LargeBubble" (291 : Nat) "LargeBubble$Course" "cord" "I") ∈ am_T0 := am_t1 (List.mem_of_getElem? (i := 101) rfl) rfl
set_option maxRecDepth 100000 in
theorem kw_102 : (Jvm.Cond.fieldLink "LargeBubble$Course" (19 : Nat) "LargeBubble$Course" "aim" "I") ∈ am_T0 := am_t1 (List.mem_of_getElem? (i := 102) rfl) rfl
set_option maxRecDepth 100000 in
theorem kw_103 : (Jvm.Cond.fieldLink "LargeBubble$Bold" (13 : Nat) "LargeBubble$Course" "aim" "I") ∈ am_T0 := am_t1 (List.mem_of_getElem? (i := 103) rfl) rfl
set_option maxRecDepth 100000 in
theorem kw_104 : (Jvm.Cond.fieldLink "LargeBubble$Told" (34 : Nat) "LargeBubble$Course" "aim" "I") ∈ am_T0 := am_t1 (List.mem_of_getElem? (i := 104) rfl) rfl
set_option maxRecDepth 100000 in
theorem kw_105 : (Jvm.Cond.fieldLink "LargeBubble$Blower" (37 : Nat) "LargeBubble$Course" "aim" "I") ∈ am_T0 := am_t1 (List.mem_of_getElem? (i := 105) rfl) rfl
set_option maxRecDepth 100000 in
theorem kw_106 : (Jvm.Cond.fieldLink "LargeBubble" (292 : Nat) "LargeBubble$Course" "aim" "I") ∈ am_T0 := am_t1 (List.mem_of_getElem? (i := 106) rfl) rfl
set_option maxRecDepth 100000 in
theorem kw_107 : (Jvm.Cond.fieldLink "LargeBubble$Course" (22 : Nat) "LargeBubble$Course" "good" "I") ∈ am_T0 := am_t1 (List.mem_of_getElem? (i := 107) rfl) rfl
set_option maxRecDepth 100000 in
theorem kw_108 : (Jvm.Cond.fieldLink "LargeBubble" (293 : Nat) "LargeBubble$Course" "good" "I") ∈ am_T0 := am_t1 (List.mem_of_getElem? (i := 108) rfl) rfl
set_option maxRecDepth 100000 in
theorem kw_109 : (Jvm.Cond.fieldLink "LargeBubble$Course" (25 : Nat) "LargeBubble$Course" "minute" "I") ∈ am_T0 := am_t1 (List.mem_of_getElem? (i := 109) rfl) rfl
set_option maxRecDepth 100000 in
theorem kw_110 : (Jvm.Cond.fieldLink "LargeBubble$Told" (37 : Nat) "LargeBubble$Course" "minute" "I") ∈ am_T0 := am_t1 (List.mem_of_getElem? (i := 110) rfl) rfl
set_option maxRecDepth 100000 in
theorem kw_111 : (Jvm.Cond.fieldLink "LargeBubble" (153 : Nat) "LargeBubble$Course" "minute" "I") ∈ am_T0 := am_t1 (List.mem_of_getElem? (i := 111) rfl) rfl
set_option maxRecDepth 100000 in
theorem kw_112 : (Jvm.Cond.fieldLink "LargeBubble$Course" (28 : Nat) "LargeBubble$Course" "gust" "I") ∈ am_T0 := am_t1 (List.mem_of_getElem? (i := 112) rfl) rfl
set_option maxRecDepth 100000 in
theorem kw_113 : (Jvm.Cond.fieldLink "LargeBubble" (210 : Nat) "LargeBubble$Course" "gust" "I") ∈ am_T0 := am_t1 (List.mem_of_getElem? (i := 113) rfl) rfl
set_option maxRecDepth 100000 in
theorem kw_114 : (Jvm.Cond.fieldLink "LargeBubble$Course" (31 : Nat) "LargeBubble$Course" "calm" "Z") ∈ am_T0 := am_t1 (List.mem_of_getElem? (i := 114) rfl) rfl
set_option maxRecDepth 100000 in
theorem kw_115 : (Jvm.Cond.fieldLink "LargeBubble" (205 : Nat) "LargeBubble$Course" "calm" "Z") ∈ am_T0 := am_t1 (List.mem_of_getElem? (i := 115) rfl) rfl
set_option maxRecDepth 100000 in
theorem kw_116 : (Jvm.Cond.fieldLink "LargeBubble$Course" (35 : Nat) "LargeBubble$Course" "size" "I") ∈ am_T0 := am_t1 (List.mem_of_getElem? (i := 116) rfl) rfl
set_option maxRecDepth 100000 in
theorem kw_117 : (Jvm.Cond.fieldLink "LargeBubble$Bold" (7 : Nat) "LargeBubble$Course" "size" "I") ∈ am_T0 := am_t1 (List.mem_of_getElem? (i := 117) rfl) rfl
set_option maxRecDepth 100000 in
theorem kw_118 : (Jvm.Cond.fieldLink "LargeBubble$Careful" (17 : Nat) "LargeBubble$Course" "size" "I") ∈ am_T0 := am_t1 (List.mem_of_getElem? (i := 118) rfl) rfl
set_option maxRecDepth 100000 in
theorem kw_119 : (Jvm.Cond.fieldLink "LargeBubble$Wise" (17 : Nat) "LargeBubble$Course" "size" "I") ∈ am_T0 := am_t1 (List.mem_of_getElem? (i := 119) rfl) rfl
set_option maxRecDepth 100000 in
theorem kw_120 : (Jvm.Cond.fieldLink "LargeBubble$Told" (28 : Nat) "LargeBubble$Course" "size" "I") ∈ am_T0 := am_t1 (List.mem_of_getElem? (i := 120) rfl) rfl
set_option maxRecDepth 100000 in
theorem kw_121 : (Jvm.Cond.fieldLink "LargeBubble$Blower" (32 : Nat) "LargeBubble$Course" "size" "I") ∈ am_T0 := am_t1 (List.mem_of_getElem? (i := 121) rfl) rfl
set_option maxRecDepth 100000 in
theorem kw_122 : (Jvm.Cond.fieldLink "LargeBubble" (164 : Nat) "LargeBubble$Course" "size" "I") ∈ am_T0 := am_t1 (List.mem_of_getElem? (i := 122) rfl) rfl
set_option maxRecDepth 100000 in
theorem kw_123 : (Jvm.Cond.fieldLink "LargeBubble$Course" (38 : Nat) "LargeBubble$Course" "film" "I") ∈ am_T0 := am_t1 (List.mem_of_getElem? (i := 123) rfl) rfl
set_option maxRecDepth 100000 in
theorem kw_124 : (Jvm.Cond.fieldLink "LargeBubble$Careful" (11 : Nat) "LargeBubble$Course" "film" "I") ∈ am_T0 := am_t1 (List.mem_of_getElem? (i := 124) rfl) rfl
set_option maxRecDepth 100000 in
theorem kw_125 : (Jvm.Cond.fieldLink "LargeBubble$Course" (41 : Nat) "LargeBubble$Course" "wind" "I") ∈ am_T0 := am_t1 (List.mem_of_getElem? (i := 125) rfl) rfl
set_option maxRecDepth 100000 in
theorem kw_126 : (Jvm.Cond.fieldLink "LargeBubble$Wise" (11 : Nat) "LargeBubble$Course" "wind" "I") ∈ am_T0 := am_t1 (List.mem_of_getElem? (i := 126) rfl) rfl
set_option maxRecDepth 100000 in
theorem kw_127 : (Jvm.Cond.fieldLink "LargeBubble$Mad" (7 : Nat) "LargeBubble$Course" "wind" "I") ∈ am_T0 := am_t1 (List.mem_of_getElem? (i := 127) rfl) rfl
set_option maxRecDepth 100000 in
theorem kw_128 : (Jvm.Cond.fieldLink "LargeBubble$Course" (44 : Nat) "LargeBubble$Course" "minutes" "I") ∈ am_T0 := am_t1 (List.mem_of_getElem? (i := 128) rfl) rfl
set_option maxRecDepth 100000 in
theorem kw_129 : (Jvm.Cond.fieldLink "LargeBubble" (174 : Nat) "LargeBubble$Course" "minutes" "I") ∈ am_T0 := am_t1 (List.mem_of_getElem? (i := 129) rfl) rfl
set_option maxRecDepth 100000 in
theorem kw_130 : (Jvm.Cond.fieldLink "LargeBubble$Course" (47 : Nat) "LargeBubble$Course" "life" "I") ∈ am_T0 := am_t1 (List.mem_of_getElem? (i := 130) rfl) rfl
set_option maxRecDepth 100000 in
theorem kw_131 : (Jvm.Cond.fieldLink "LargeBubble" (167 : Nat) "LargeBubble$Course" "life" "I") ∈ am_T0 := am_t1 (List.mem_of_getElem? (i := 131) rfl) rfl
set_option maxRecDepth 100000 in
theorem kw_132 : (Jvm.Cond.fieldLink "LargeBubble$Course" (50 : Nat) "LargeBubble$Course" "brings" "I") ∈ am_T0 := am_t1 (List.mem_of_getElem? (i := 132) rfl) rfl
set_option maxRecDepth 100000 in
theorem kw_133 : (Jvm.Cond.fieldLink "LargeBubble" (154 : Nat) "LargeBubble$Course" "brings" "I") ∈ am_T0 := am_t1 (List.mem_of_getElem? (i := 133) rfl) rfl
set_option maxRecDepth 100000 in
theorem kw_134 : (Jvm.Cond.fieldLink "LargeBubble$Course" (53 : Nat) "LargeBubble$Course" "torn" "Z") ∈ am_T0 := am_t1 (List.mem_of_getElem? (i := 134) rfl) rfl
set_option maxRecDepth 100000 in
theorem kw_135 : (Jvm.Cond.fieldLink "LargeBubble" (170 : Nat) "LargeBubble$Course" "torn" "Z") ∈ am_T0 := am_t1 (List.mem_of_getElem? (i := 135) rfl) rfl
set_option maxRecDepth 100000 in
theorem kw_136 : (Jvm.Cond.fieldLink "LargeBubble$Course" (58 : Nat) "LargeBubble$Course" "letters" "[I") ∈ am_T0 := am_t1 (List.mem_of_getElem? (i := 136) rfl) rfl
set_option maxRecDepth 100000 in
theorem kw_137 : (Jvm.Cond.lays "LargeBubble$Course" "LargeBubble$Course" "square" "LLargeBubble$Square;") ∈ am_T0 := am_t1 (List.mem_of_getElem? (i := 137) rfl) rfl
set_option maxRecDepth 100000 in
theorem kw_139 : (Jvm.Cond.lays "LargeBubble$Course" "LargeBubble$Course" "cord" "I") ∈ am_T0 := am_t1 (List.mem_of_getElem? (i := 139) rfl) rfl
set_option maxRecDepth 100000 in
theorem kw_141 : (Jvm.Cond.lays "LargeBubble$Course" "LargeBubble$Course" "aim" "I") ∈ am_T0 := am_t1 (List.mem_of_getElem? (i := 141) rfl) rfl
set_option maxRecDepth 100000 in
theorem kw_143 : (Jvm.Cond.lays "LargeBubble$Course" "LargeBubble$Course" "good" "I") ∈ am_T0 := am_t1 (List.mem_of_getElem? (i := 143) rfl) rfl
set_option maxRecDepth 100000 in
theorem kw_145 : (Jvm.Cond.lays "LargeBubble$Course" "LargeBubble$Course" "minute" "I") ∈ am_T0 := am_t1 (List.mem_of_getElem? (i := 145) rfl) rfl
set_option maxRecDepth 100000 in
theorem kw_147 : (Jvm.Cond.lays "LargeBubble$Course" "LargeBubble$Course" "gust" "I") ∈ am_T0 := am_t1 (List.mem_of_getElem? (i := 147) rfl) rfl
set_option maxRecDepth 100000 in
theorem kw_149 : (Jvm.Cond.lays "LargeBubble$Course" "LargeBubble$Course" "calm" "Z") ∈ am_T0 := am_t1 (List.mem_of_getElem? (i := 149) rfl) rfl
set_option maxRecDepth 100000 in
theorem kw_151 : (Jvm.Cond.lays "LargeBubble$Course" "LargeBubble$Course" "size" "I") ∈ am_T0 := am_t1 (List.mem_of_getElem? (i := 151) rfl) rfl
set_option maxRecDepth 100000 in
theorem kw_153 : (Jvm.Cond.lays "LargeBubble$Course" "LargeBubble$Course" "film" "I") ∈ am_T0 := am_t1 (List.mem_of_getElem? (i := 153) rfl) rfl
set_option maxRecDepth 100000 in
theorem kw_155 : (Jvm.Cond.lays "LargeBubble$Course" "LargeBubble$Course" "wind" "I") ∈ am_T0 := am_t1 (List.mem_of_getElem? (i := 155) rfl) rfl
set_option maxRecDepth 100000 in
theorem kw_157 : (Jvm.Cond.lays "LargeBubble$Course" "LargeBubble$Course" "minutes" "I") ∈ am_T0 := am_t1 (List.mem_of_getElem? (i := 157) rfl) rfl
set_option maxRecDepth 100000 in
theorem kw_159 : (Jvm.Cond.lays "LargeBubble$Course" "LargeBubble$Course" "life" "I") ∈ am_T0 := am_t1 (List.mem_of_getElem? (i := 159) rfl) rfl
set_option maxRecDepth 100000 in
theorem kw_161 : (Jvm.Cond.lays "LargeBubble$Course" "LargeBubble$Course" "brings" "I") ∈ am_T0 := am_t1 (List.mem_of_getElem? (i := 161) rfl) rfl
set_option maxRecDepth 100000 in
theorem kw_163 : (Jvm.Cond.lays "LargeBubble$Course" "LargeBubble$Course" "torn" "Z") ∈ am_T0 := am_t1 (List.mem_of_getElem? (i := 163) rfl) rfl
set_option maxRecDepth 100000 in
theorem kw_165 : (Jvm.Cond.laysFinal "LargeBubble$Course" "LargeBubble$Course" "letters" "[I") ∈ am_T0 := am_t1 (List.mem_of_getElem? (i := 165) rfl) rfl
set_option maxRecDepth 100000 in
theorem kw_167 : (Jvm.Cond.superclass "LargeBubble$Course" "java/lang/Object") ∈ am_T0 := am_t1 (List.mem_of_getElem? (i := 167) rfl) rfl
set_option maxRecDepth 100000 in
theorem kw_168 : (Jvm.Cond.classLink "LargeBubble" (28 : Nat) "LargeBubble$Text") ∈ am_T0 := am_t1 (List.mem_of_getElem? (i := 168) rfl) rfl
set_option maxRecDepth 100000 in
theorem kw_169 : (Jvm.Cond.instantiable "LargeBubble$Text" (3 : Nat)) ∈ am_T0 := am_t1 (List.mem_of_getElem? (i := 169) rfl) rfl
set_option maxRecDepth 100000 in
theorem kn_170 : (Jvm.Cond.methodLinkNest "LargeBubble" (30 : Nat) ({ cls := "LargeBubble$Text", name := "<init>", desc := "()V" } : Jvm.MethodName) "LargeBubble") ∈ lw_tbl := am_tl1 (List.mem_of_getElem? (i := 170) rfl)
set_option maxRecDepth 100000 in
theorem kw_171 : (Jvm.Cond.instanceMethod ({ cls := "LargeBubble$Text", name := "<init>", desc := "()V" } : Jvm.MethodName)) ∈ am_T0 := am_t1 (List.mem_of_getElem? (i := 171) rfl) rfl
set_option maxRecDepth 100000 in
theorem kw_172 : (Jvm.Cond.code ({ cls := "LargeBubble$Text", name := "<init>", desc := "()V" } : Jvm.MethodName) prog_10_method_1_code (1 : Nat) (Option.none : Option Jvm.ClassFile.FieldType)) ∈ am_T0 := am_t1 (List.mem_of_getElem? (i := 172) rfl) rfl
set_option maxRecDepth 100000 in
theorem kw_173 : (Jvm.Cond.methodLink "LargeBubble$Text" (1 : Nat) ({ cls := "java/lang/Object", name := "<init>", desc := "()V" } : Jvm.MethodName)) ∈ am_T0 := am_t1 (List.mem_of_getElem? (i := 173) rfl) rfl
set_option maxRecDepth 100000 in
theorem kw_174 : (Jvm.Cond.fieldLink "LargeBubble$Text" (9 : Nat) "LargeBubble$Text" "signs" "[B") ∈ am_T0 := am_t1 (List.mem_of_getElem? (i := 174) rfl) rfl
set_option maxRecDepth 100000 in
theorem kw_175 : (Jvm.Cond.fieldLink "LargeBubble$Text" (13 : Nat) "LargeBubble$Text" "length" "I") ∈ am_T0 := am_t1 (List.mem_of_getElem? (i := 175) rfl) rfl
set_option maxRecDepth 100000 in
theorem kw_176 : (Jvm.Cond.fieldLink "LargeBubble" (125 : Nat) "LargeBubble$Text" "length" "I") ∈ am_T0 := am_t1 (List.mem_of_getElem? (i := 176) rfl) rfl
set_option maxRecDepth 100000 in
theorem kw_177 : (Jvm.Cond.fieldLink "LargeBubble$Text" (17 : Nat) "LargeBubble$Text" "place" "I") ∈ am_T0 := am_t1 (List.mem_of_getElem? (i := 177) rfl) rfl
set_option maxRecDepth 100000 in
theorem kw_178 : (Jvm.Cond.fieldLink "LargeBubble" (133 : Nat) "LargeBubble$Text" "place" "I") ∈ am_T0 := am_t1 (List.mem_of_getElem? (i := 178) rfl) rfl
set_option maxRecDepth 100000 in
theorem kw_179 : (Jvm.Cond.laysFinal "LargeBubble$Text" "LargeBubble$Text" "signs" "[B") ∈ am_T0 := am_t1 (List.mem_of_getElem? (i := 179) rfl) rfl
set_option maxRecDepth 100000 in
theorem kw_181 : (Jvm.Cond.lays "LargeBubble$Text" "LargeBubble$Text" "length" "I") ∈ am_T0 := am_t1 (List.mem_of_getElem? (i := 181) rfl) rfl
set_option maxRecDepth 100000 in
theorem kw_183 : (Jvm.Cond.lays "LargeBubble$Text" "LargeBubble$Text" "place" "I") ∈ am_T0 := am_t1 (List.mem_of_getElem? (i := 183) rfl) rfl
set_option maxRecDepth 100000 in
theorem kw_185 : (Jvm.Cond.superclass "LargeBubble$Text" "java/lang/Object") ∈ am_T0 := am_t1 (List.mem_of_getElem? (i := 185) rfl) rfl
set_option maxRecDepth 100000 in
theorem kw_186 : (Jvm.Cond.arrayClass Jvm.ClassFile.FieldType.byte) ∈ am_T0 := am_t1 (List.mem_of_getElem? (i := 186) rfl) rfl
set_option maxRecDepth 100000 in
theorem kw_187 : (Jvm.Cond.classLink "LargeBubble" (35 : Nat) "LargeBubble$Square") ∈ am_T0 := am_t1 (List.mem_of_getElem? (i := 187) rfl) rfl
set_option maxRecDepth 100000 in
theorem kn_188 : (Jvm.Cond.arrayOver (Jvm.ClassFile.FieldType.object "LargeBubble$Square")) ∈ lw_tbl := am_tl1 (List.mem_of_getElem? (i := 188) rfl)
set_option maxRecDepth 100000 in
theorem kw_189 : (Jvm.Cond.classLink "LargeBubble" (68 : Nat) "[[J") ∈ am_T0 := am_t1 (List.mem_of_getElem? (i := 189) rfl) rfl
set_option maxRecDepth 100000 in
theorem kn_190 : (Jvm.Cond.arrayOver (Jvm.ClassFile.FieldType.array Jvm.ClassFile.FieldType.long)) ∈ lw_tbl := am_tl1 (List.mem_of_getElem? (i := 190) rfl)
set_option maxRecDepth 100000 in
theorem kw_191 : (Jvm.Cond.fieldLink "LargeBubble" (12 : Nat) "LargeBubble" "now" "LLargeBubble$State;") ∈ am_T0 := am_t1 (List.mem_of_getElem? (i := 191) rfl) rfl
set_option maxRecDepth 100000 in
theorem kw_192 : (Jvm.Cond.fieldLink "LargeBubble" (18 : Nat) "LargeBubble" "image" "LLargeBubble$State;") ∈ am_T0 := am_t1 (List.mem_of_getElem? (i := 192) rfl) rfl
set_option maxRecDepth 100000 in
theorem kw_193 : (Jvm.Cond.fieldLink "LargeBubble" (24 : Nat) "LargeBubble" "course" "LLargeBubble$Course;") ∈ am_T0 := am_t1 (List.mem_of_getElem? (i := 193) rfl) rfl
set_option maxRecDepth 100000 in
theorem kw_194 : (Jvm.Cond.fieldLink "LargeBubble" (31 : Nat) "LargeBubble" "text" "LLargeBubble$Text;") ∈ am_T0 := am_t1 (List.mem_of_getElem? (i := 194) rfl) rfl
set_option maxRecDepth 100000 in
theorem kw_195 : (Jvm.Cond.fieldLink "LargeBubble" (37 : Nat) "LargeBubble" "squares" "[LLargeBubble$Square;") ∈ am_T0 := am_t1 (List.mem_of_getElem? (i := 195) rfl) rfl
set_option maxRecDepth 100000 in
theorem kw_196 : (Jvm.Cond.fieldLink "LargeBubble" (41 : Nat) "LargeBubble" "squareCount" "I") ∈ am_T0 := am_t1 (List.mem_of_getElem? (i := 196) rfl) rfl
set_option maxRecDepth 100000 in
theorem kw_197 : (Jvm.Cond.fieldLink "LargeBubble" (45 : Nat) "LargeBubble" "spare" "LLargeBubble$Square;") ∈ am_T0 := am_t1 (List.mem_of_getElem? (i := 197) rfl) rfl
set_option maxRecDepth 100000 in
theorem kw_198 : (Jvm.Cond.fieldLink "LargeBubble" (49 : Nat) "LargeBubble" "dayBrings" "[I") ∈ am_T0 := am_t1 (List.mem_of_getElem? (i := 198) rfl) rfl
set_option maxRecDepth 100000 in
theorem kw_199 : (Jvm.Cond.fieldLink "LargeBubble" (53 : Nat) "LargeBubble" "dayTorn" "I") ∈ am_T0 := am_t1 (List.mem_of_getElem? (i := 199) rfl) rfl
set_option maxRecDepth 100000 in
theorem kw_200 : (Jvm.Cond.fieldLink "LargeBubble" (56 : Nat) "LargeBubble" "dayMinute" "I") ∈ am_T0 := am_t1 (List.mem_of_getElem? (i := 200) rfl) rfl
set_option maxRecDepth 100000 in
theorem kw_201 : (Jvm.Cond.fieldLink "LargeBubble" (59 : Nat) "LargeBubble" "bodies" "[I") ∈ am_T0 := am_t1 (List.mem_of_getElem? (i := 201) rfl) rfl
set_option maxRecDepth 100000 in
theorem kw_202 : (Jvm.Cond.fieldLink "LargeBubble" (62 : Nat) "LargeBubble" "tapeSorts" "[I") ∈ am_T0 := am_t1 (List.mem_of_getElem? (i := 202) rfl) rfl
set_option maxRecDepth 100000 in
theorem kw_203 : (Jvm.Cond.fieldLink "LargeBubble" (65 : Nat) "LargeBubble" "tapeLengths" "[I") ∈ am_T0 := am_t1 (List.mem_of_getElem? (i := 203) rfl) rfl
set_option maxRecDepth 100000 in
theorem kw_204 : (Jvm.Cond.fieldLink "LargeBubble" (70 : Nat) "LargeBubble" "tapeItems" "[[J") ∈ am_T0 := am_t1 (List.mem_of_getElem? (i := 204) rfl) rfl
set_option maxRecDepth 100000 in
theorem kw_205 : (Jvm.Cond.laysFinal "LargeBubble" "LargeBubble" "now" "LLargeBubble$State;") ∈ am_T0 := am_t1 (List.mem_of_getElem? (i := 205) rfl) rfl
set_option maxRecDepth 100000 in
theorem kw_207 : (Jvm.Cond.lays "LargeBubble" "LargeBubble" "image" "LLargeBubble$State;") ∈ am_T0 := am_t1 (List.mem_of_getElem? (i := 207) rfl) rfl
set_option maxRecDepth 100000 in
theorem kw_209 : (Jvm.Cond.laysFinal "LargeBubble" "LargeBubble" "course" "LLargeBubble$Course;") ∈ am_T0 := am_t1 (List.mem_of_getElem? (i := 209) rfl) rfl
set_option maxRecDepth 100000 in
theorem kw_211 : (Jvm.Cond.laysFinal "LargeBubble" "LargeBubble" "text" "LLargeBubble$Text;") ∈ am_T0 := am_t1 (List.mem_of_getElem? (i := 211) rfl) rfl
set_option maxRecDepth 100000 in
theorem kw_213 : (Jvm.Cond.laysFinal "LargeBubble" "LargeBubble" "squares" "[LLargeBubble$Square;") ∈ am_T0 := am_t1 (List.mem_of_getElem? (i := 213) rfl) rfl
set_option maxRecDepth 100000 in
theorem kw_215 : (Jvm.Cond.lays "LargeBubble" "LargeBubble" "squareCount" "I") ∈ am_T0 := am_t1 (List.mem_of_getElem? (i := 215) rfl) rfl
set_option maxRecDepth 100000 in
theorem kw_217 : (Jvm.Cond.lays "LargeBubble" "LargeBubble" "spare" "LLargeBubble$Square;") ∈ am_T0 := am_t1 (List.mem_of_getElem? (i := 217) rfl) rfl
set_option maxRecDepth 100000 in
theorem kw_219 : (Jvm.Cond.laysFinal "LargeBubble" "LargeBubble" "dayBrings" "[I") ∈ am_T0 := am_t1 (List.mem_of_getElem? (i := 219) rfl) rfl
set_option maxRecDepth 100000 in
theorem kw_221 : (Jvm.Cond.lays "LargeBubble" "LargeBubble" "dayTorn" "I") ∈ am_T0 := am_t1 (List.mem_of_getElem? (i := 221) rfl) rfl
set_option maxRecDepth 100000 in
theorem kw_223 : (Jvm.Cond.lays "LargeBubble" "LargeBubble" "dayMinute" "I") ∈ am_T0 := am_t1 (List.mem_of_getElem? (i := 223) rfl) rfl
set_option maxRecDepth 100000 in
theorem kw_225 : (Jvm.Cond.laysFinal "LargeBubble" "LargeBubble" "bodies" "[I") ∈ am_T0 := am_t1 (List.mem_of_getElem? (i := 225) rfl) rfl
set_option maxRecDepth 100000 in
theorem kw_227 : (Jvm.Cond.laysFinal "LargeBubble" "LargeBubble" "tapeSorts" "[I") ∈ am_T0 := am_t1 (List.mem_of_getElem? (i := 227) rfl) rfl
set_option maxRecDepth 100000 in
theorem kw_229 : (Jvm.Cond.laysFinal "LargeBubble" "LargeBubble" "tapeLengths" "[I") ∈ am_T0 := am_t1 (List.mem_of_getElem? (i := 229) rfl) rfl
set_option maxRecDepth 100000 in
theorem kw_231 : (Jvm.Cond.laysFinal "LargeBubble" "LargeBubble" "tapeItems" "[[J") ∈ am_T0 := am_t1 (List.mem_of_getElem? (i := 231) rfl) rfl
set_option maxRecDepth 100000 in
theorem kw_233 : (Jvm.Cond.superclass "LargeBubble" "java/lang/Object") ∈ am_T0 := am_t1 (List.mem_of_getElem? (i := 233) rfl) rfl
set_option maxRecDepth 100000 in
theorem kw_234 : (Jvm.Cond.arrayClass Jvm.ClassFile.FieldType.long) ∈ am_T0 := am_t1 (List.mem_of_getElem? (i := 234) rfl) rfl
set_option maxRecDepth 100000 in
theorem kw_235 : (Jvm.Cond.methodLink "LargeBubbleLaw" (13 : Nat) ({ cls := "LargeBubble", name := "blower", desc := "(IIII)I" } : Jvm.MethodName)) ∈ am_T0 := am_t1 (List.mem_of_getElem? (i := 235) rfl) rfl
set_option maxRecDepth 100000 in
theorem kw_236 : (Jvm.Cond.instanceMethod ({ cls := "LargeBubble", name := "blower", desc := "(IIII)I" } : Jvm.MethodName)) ∈ am_T0 := am_t1 (List.mem_of_getElem? (i := 236) rfl) rfl
set_option maxRecDepth 100000 in
theorem kw_237 : (Jvm.Cond.selects "LargeBubble" ({ cls := "LargeBubble", name := "blower", desc := "(IIII)I" } : Jvm.MethodName) ({ cls := "LargeBubble", name := "blower", desc := "(IIII)I" } : Jvm.MethodName)) ∈ am_T0 := am_t1 (List.mem_of_getElem? (i := 237) rfl) rfl
set_option maxRecDepth 100000 in
theorem kw_238 : (Jvm.Cond.code ({ cls := "LargeBubble", name := "blower", desc := "(IIII)I" } : Jvm.MethodName) prog_1_method_2_code (6 : Nat) (Option.some Jvm.ClassFile.FieldType.int)) ∈ am_T0 := am_t1 (List.mem_of_getElem? (i := 238) rfl) rfl
set_option maxRecDepth 100000 in
theorem kw_239 : (Jvm.Cond.methodLink "LargeBubble" (73 : Nat) ({ cls := "LargeBubble", name := "within", desc := "(III)Z" } : Jvm.MethodName)) ∈ am_T0 := am_t1 (List.mem_of_getElem? (i := 239) rfl) rfl
set_option maxRecDepth 100000 in
theorem kw_240 : (Jvm.Cond.static ({ cls := "LargeBubble", name := "within", desc := "(III)Z" } : Jvm.MethodName)) ∈ am_T0 := am_t2 (List.mem_of_getElem? (i := 0) rfl) rfl
set_option maxRecDepth 100000 in
theorem kw_241 : (Jvm.Cond.code ({ cls := "LargeBubble", name := "within", desc := "(III)Z" } : Jvm.MethodName) prog_1_method_38_code (3 : Nat) (Option.some Jvm.ClassFile.FieldType.boolean)) ∈ am_T0 := am_t2 (List.mem_of_getElem? (i := 1) rfl) rfl
set_option maxRecDepth 100000 in
theorem kw_242 : (Jvm.Cond.methodLink "LargeBubble" (84 : Nat) ({ cls := "LargeBubble", name := "made", desc := "(IIIII)LLargeBubble$Blower;" } : Jvm.MethodName)) ∈ am_T0 := am_t2 (List.mem_of_getElem? (i := 2) rfl) rfl
set_option maxRecDepth 100000 in
theorem kw_243 : (Jvm.Cond.static ({ cls := "LargeBubble", name := "made", desc := "(IIIII)LLargeBubble$Blower;" } : Jvm.MethodName)) ∈ am_T0 := am_t2 (List.mem_of_getElem? (i := 3) rfl) rfl
set_option maxRecDepth 100000 in
theorem kw_244 : (Jvm.Cond.code ({ cls := "LargeBubble", name := "made", desc := "(IIIII)LLargeBubble$Blower;" } : Jvm.MethodName) prog_1_method_40_code (5 : Nat) (Option.some (Jvm.ClassFile.FieldType.object "LargeBubble$Blower"))) ∈ am_T0 := am_t2 (List.mem_of_getElem? (i := 4) rfl) rfl
set_option maxRecDepth 100000 in
theorem kw_245 : (Jvm.Cond.classLink "LargeBubble" (270 : Nat) "LargeBubble$Bold") ∈ am_T0 := am_t2 (List.mem_of_getElem? (i := 5) rfl) rfl
set_option maxRecDepth 100000 in
theorem kw_246 : (Jvm.Cond.instantiable "LargeBubble$Bold" (6 : Nat)) ∈ am_T0 := am_t2 (List.mem_of_getElem? (i := 6) rfl) rfl
set_option maxRecDepth 100000 in
theorem kw_247 : (Jvm.Cond.methodLink "LargeBubble" (272 : Nat) ({ cls := "LargeBubble$Bold", name := "<init>", desc := "(IIIII)V" } : Jvm.MethodName)) ∈ am_T0 := am_t2 (List.mem_of_getElem? (i := 7) rfl) rfl
set_option maxRecDepth 100000 in
theorem kw_248 : (Jvm.Cond.instanceMethod ({ cls := "LargeBubble$Bold", name := "<init>", desc := "(IIIII)V" } : Jvm.MethodName)) ∈ am_T0 := am_t2 (List.mem_of_getElem? (i := 8) rfl) rfl
set_option maxRecDepth 100000 in
theorem kw_249 : (Jvm.Cond.code ({ cls := "LargeBubble$Bold", name := "<init>", desc := "(IIIII)V" } : Jvm.MethodName) prog_3_method_1_code (6 : Nat) (Option.none : Option Jvm.ClassFile.FieldType)) ∈ am_T0 := am_t2 (List.mem_of_getElem? (i := 9) rfl) rfl
set_option maxRecDepth 100000 in
theorem kw_250 : (Jvm.Cond.methodLink "LargeBubble$Bold" (1 : Nat) ({ cls := "LargeBubble$Blower", name := "<init>", desc := "(IIIII)V" } : Jvm.MethodName)) ∈ am_T0 := am_t2 (List.mem_of_getElem? (i := 10) rfl) rfl
set_option maxRecDepth 100000 in
theorem kw_251 : (Jvm.Cond.instanceMethod ({ cls := "LargeBubble$Blower", name := "<init>", desc := "(IIIII)V" } : Jvm.MethodName)) ∈ am_T0 := am_t2 (List.mem_of_getElem? (i := 11) rfl) rfl
set_option maxRecDepth 100000 in
theorem kw_252 : (Jvm.Cond.code ({ cls := "LargeBubble$Blower", name := "<init>", desc := "(IIIII)V" } : Jvm.MethodName) prog_2_method_1_code (6 : Nat) (Option.none : Option Jvm.ClassFile.FieldType)) ∈ am_T0 := am_t2 (List.mem_of_getElem? (i := 12) rfl) rfl
set_option maxRecDepth 100000 in
theorem kw_253 : (Jvm.Cond.methodLink "LargeBubble$Blower" (3 : Nat) ({ cls := "java/lang/Object", name := "<init>", desc := "()V" } : Jvm.MethodName)) ∈ am_T0 := am_t2 (List.mem_of_getElem? (i := 13) rfl) rfl
set_option maxRecDepth 100000 in
theorem kw_254 : (Jvm.Cond.fieldLink "LargeBubble$Blower" (15 : Nat) "LargeBubble$Blower" "kind" "I") ∈ am_T0 := am_t2 (List.mem_of_getElem? (i := 14) rfl) rfl
set_option maxRecDepth 100000 in
theorem kw_255 : (Jvm.Cond.fieldLink "LargeBubble" (92 : Nat) "LargeBubble$Blower" "kind" "I") ∈ am_T0 := am_t2 (List.mem_of_getElem? (i := 15) rfl) rfl
set_option maxRecDepth 100000 in
theorem kw_256 : (Jvm.Cond.fieldLink "LargeBubble$Blower" (18 : Nat) "LargeBubble$Blower" "number" "I") ∈ am_T0 := am_t2 (List.mem_of_getElem? (i := 16) rfl) rfl
set_option maxRecDepth 100000 in
theorem kw_257 : (Jvm.Cond.fieldLink "LargeBubble$Wise" (26 : Nat) "LargeBubble$Wise" "number" "I") ∈ am_T0 := am_t2 (List.mem_of_getElem? (i := 17) rfl) rfl
set_option maxRecDepth 100000 in
theorem kw_258 : (Jvm.Cond.sameField "LargeBubble$Wise" "LargeBubble$Blower" "number" "I") ∈ am_T0 := am_t2 (List.mem_of_getElem? (i := 18) rfl) rfl
set_option maxRecDepth 100000 in
theorem kw_259 : (Jvm.Cond.fieldLink "LargeBubble$Blower" (21 : Nat) "LargeBubble$Blower" "v" "I") ∈ am_T0 := am_t2 (List.mem_of_getElem? (i := 19) rfl) rfl
set_option maxRecDepth 100000 in
theorem kw_260 : (Jvm.Cond.fieldLink "LargeBubble$Bold" (16 : Nat) "LargeBubble$Bold" "v" "I") ∈ am_T0 := am_t2 (List.mem_of_getElem? (i := 20) rfl) rfl
set_option maxRecDepth 100000 in
theorem kw_261 : (Jvm.Cond.sameField "LargeBubble$Bold" "LargeBubble$Blower" "v" "I") ∈ am_T0 := am_t2 (List.mem_of_getElem? (i := 21) rfl) rfl
set_option maxRecDepth 100000 in
theorem kw_262 : (Jvm.Cond.fieldLink "LargeBubble$Careful" (20 : Nat) "LargeBubble$Careful" "v" "I") ∈ am_T0 := am_t2 (List.mem_of_getElem? (i := 22) rfl) rfl
set_option maxRecDepth 100000 in
theorem kw_263 : (Jvm.Cond.sameField "LargeBubble$Careful" "LargeBubble$Blower" "v" "I") ∈ am_T0 := am_t2 (List.mem_of_getElem? (i := 23) rfl) rfl
set_option maxRecDepth 100000 in
theorem kw_264 : (Jvm.Cond.fieldLink "LargeBubble" (97 : Nat) "LargeBubble$Blower" "v" "I") ∈ am_T0 := am_t2 (List.mem_of_getElem? (i := 24) rfl) rfl
set_option maxRecDepth 100000 in
theorem kw_265 : (Jvm.Cond.fieldLink "LargeBubble$Told" (57 : Nat) "LargeBubble$Told" "v" "I") ∈ am_T0 := am_t2 (List.mem_of_getElem? (i := 25) rfl) rfl
set_option maxRecDepth 100000 in
theorem kw_266 : (Jvm.Cond.sameField "LargeBubble$Told" "LargeBubble$Blower" "v" "I") ∈ am_T0 := am_t2 (List.mem_of_getElem? (i := 26) rfl) rfl
set_option maxRecDepth 100000 in
theorem kw_267 : (Jvm.Cond.fieldLink "LargeBubble$Blower" (24 : Nat) "LargeBubble$Blower" "cord" "I") ∈ am_T0 := am_t2 (List.mem_of_getElem? (i := 27) rfl) rfl
set_option maxRecDepth 100000 in
theorem kw_268 : (Jvm.Cond.fieldLink "LargeBubble" (100 : Nat) "LargeBubble$Blower" "cord" "I") ∈ am_T0 := am_t2 (List.mem_of_getElem? (i := 28) rfl) rfl
set_option maxRecDepth 100000 in
theorem kw_269 : (Jvm.Cond.fieldLink "LargeBubble$Blower" (27 : Nat) "LargeBubble$Blower" "aim" "I") ∈ am_T0 := am_t2 (List.mem_of_getElem? (i := 29) rfl) rfl
set_option maxRecDepth 100000 in
theorem kw_270 : (Jvm.Cond.fieldLink "LargeBubble" (103 : Nat) "LargeBubble$Blower" "aim" "I") ∈ am_T0 := am_t2 (List.mem_of_getElem? (i := 30) rfl) rfl
set_option maxRecDepth 100000 in
theorem kw_271 : (Jvm.Cond.fieldLink "LargeBubble$Blower" (9 : Nat) "LargeBubble$Blower" "coins" "I") ∈ am_T0 := am_t2 (List.mem_of_getElem? (i := 31) rfl) rfl
set_option maxRecDepth 100000 in
theorem kw_272 : (Jvm.Cond.fieldLink "LargeBubble" (106 : Nat) "LargeBubble$Blower" "coins" "I") ∈ am_T0 := am_t2 (List.mem_of_getElem? (i := 32) rfl) rfl
set_option maxRecDepth 100000 in
theorem kw_273 : (Jvm.Cond.laysFinal "LargeBubble$Bold" "LargeBubble$Blower" "kind" "I") ∈ am_T0 := am_t2 (List.mem_of_getElem? (i := 33) rfl) rfl
set_option maxRecDepth 100000 in
theorem kw_275 : (Jvm.Cond.laysFinal "LargeBubble$Bold" "LargeBubble$Blower" "number" "I") ∈ am_T0 := am_t2 (List.mem_of_getElem? (i := 35) rfl) rfl
set_option maxRecDepth 100000 in
theorem kw_277 : (Jvm.Cond.laysFinal "LargeBubble$Bold" "LargeBubble$Blower" "v" "I") ∈ am_T0 := am_t2 (List.mem_of_getElem? (i := 37) rfl) rfl
set_option maxRecDepth 100000 in
theorem kw_279 : (Jvm.Cond.lays "LargeBubble$Bold" "LargeBubble$Blower" "cord" "I") ∈ am_T0 := am_t2 (List.mem_of_getElem? (i := 39) rfl) rfl
set_option maxRecDepth 100000 in
theorem kw_281 : (Jvm.Cond.lays "LargeBubble$Bold" "LargeBubble$Blower" "aim" "I") ∈ am_T0 := am_t2 (List.mem_of_getElem? (i := 41) rfl) rfl
set_option maxRecDepth 100000 in
theorem kw_283 : (Jvm.Cond.lays "LargeBubble$Bold" "LargeBubble$Blower" "coins" "I") ∈ am_T0 := am_t2 (List.mem_of_getElem? (i := 43) rfl) rfl
set_option maxRecDepth 100000 in
theorem kw_285 : (Jvm.Cond.superclass "LargeBubble$Bold" "LargeBubble$Blower") ∈ am_T0 := am_t2 (List.mem_of_getElem? (i := 45) rfl) rfl
set_option maxRecDepth 100000 in
theorem kw_286 : (Jvm.Cond.classLink "LargeBubble" (275 : Nat) "LargeBubble$Careful") ∈ am_T0 := am_t2 (List.mem_of_getElem? (i := 46) rfl) rfl
set_option maxRecDepth 100000 in
theorem kw_287 : (Jvm.Cond.instantiable "LargeBubble$Careful" (6 : Nat)) ∈ am_T0 := am_t2 (List.mem_of_getElem? (i := 47) rfl) rfl
set_option maxRecDepth 100000 in
theorem kw_288 : (Jvm.Cond.methodLink "LargeBubble" (277 : Nat) ({ cls := "LargeBubble$Careful", name := "<init>", desc := "(IIIII)V" } : Jvm.MethodName)) ∈ am_T0 := am_t2 (List.mem_of_getElem? (i := 48) rfl) rfl
set_option maxRecDepth 100000 in
theorem kw_289 : (Jvm.Cond.instanceMethod ({ cls := "LargeBubble$Careful", name := "<init>", desc := "(IIIII)V" } : Jvm.MethodName)) ∈ am_T0 := am_t2 (List.mem_of_getElem? (i := 49) rfl) rfl
set_option maxRecDepth 100000 in
theorem kw_290 : (Jvm.Cond.code ({ cls := "LargeBubble$Careful", name := "<init>", desc := "(IIIII)V" } : Jvm.MethodName) prog_4_method_1_code (6 : Nat) (Option.none : Option Jvm.ClassFile.FieldType)) ∈ am_T0 := am_t2 (List.mem_of_getElem? (i := 50) rfl) rfl
set_option maxRecDepth 100000 in
theorem kw_291 : (Jvm.Cond.methodLink "LargeBubble$Careful" (1 : Nat) ({ cls := "LargeBubble$Blower", name := "<init>", desc := "(IIIII)V" } : Jvm.MethodName)) ∈ am_T0 := am_t2 (List.mem_of_getElem? (i := 51) rfl) rfl
set_option maxRecDepth 100000 in
theorem kw_292 : (Jvm.Cond.laysFinal "LargeBubble$Careful" "LargeBubble$Blower" "kind" "I") ∈ am_T0 := am_t2 (List.mem_of_getElem? (i := 52) rfl) rfl
set_option maxRecDepth 100000 in
theorem kw_293 : (Jvm.Cond.laysFinal "LargeBubble$Careful" "LargeBubble$Blower" "number" "I") ∈ am_T0 := am_t2 (List.mem_of_getElem? (i := 53) rfl) rfl
set_option maxRecDepth 100000 in
theorem kw_294 : (Jvm.Cond.laysFinal "LargeBubble$Careful" "LargeBubble$Blower" "v" "I") ∈ am_T0 := am_t2 (List.mem_of_getElem? (i := 54) rfl) rfl
set_option maxRecDepth 100000 in
theorem kw_295 : (Jvm.Cond.lays "LargeBubble$Careful" "LargeBubble$Blower" "cord" "I") ∈ am_T0 := am_t2 (List.mem_of_getElem? (i := 55) rfl) rfl
set_option maxRecDepth 100000 in
theorem kw_296 : (Jvm.Cond.lays "LargeBubble$Careful" "LargeBubble$Blower" "aim" "I") ∈ am_T0 := am_t2 (List.mem_of_getElem? (i := 56) rfl) rfl
set_option maxRecDepth 100000 in
theorem kw_297 : (Jvm.Cond.lays "LargeBubble$Careful" "LargeBubble$Blower" "coins" "I") ∈ am_T0 := am_t2 (List.mem_of_getElem? (i := 57) rfl) rfl
set_option maxRecDepth 100000 in
theorem kw_298 : (Jvm.Cond.superclass "LargeBubble$Careful" "LargeBubble$Blower") ∈ am_T0 := am_t2 (List.mem_of_getElem? (i := 58) rfl) rfl
set_option maxRecDepth 100000 in
theorem kw_299 : (Jvm.Cond.classLink "LargeBubble" (278 : Nat) "LargeBubble$Slow") ∈ am_T0 := am_t2 (List.mem_of_getElem? (i := 59) rfl) rfl
set_option maxRecDepth 100000 in
theorem kw_300 : (Jvm.Cond.instantiable "LargeBubble$Slow" (6 : Nat)) ∈ am_T0 := am_t2 (List.mem_of_getElem? (i := 60) rfl) rfl
set_option maxRecDepth 100000 in
theorem kw_301 : (Jvm.Cond.methodLink "LargeBubble" (280 : Nat) ({ cls := "LargeBubble$Slow", name := "<init>", desc := "(IIIII)V" } : Jvm.MethodName)) ∈ am_T0 := am_t2 (List.mem_of_getElem? (i := 61) rfl) rfl
set_option maxRecDepth 100000 in
theorem kw_302 : (Jvm.Cond.instanceMethod ({ cls := "LargeBubble$Slow", name := "<init>", desc := "(IIIII)V" } : Jvm.MethodName)) ∈ am_T0 := am_t2 (List.mem_of_getElem? (i := 62) rfl) rfl
set_option maxRecDepth 100000 in
theorem kw_303 : (Jvm.Cond.code ({ cls := "LargeBubble$Slow", name := "<init>", desc := "(IIIII)V" } : Jvm.MethodName) prog_7_method_1_code (6 : Nat) (Option.none : Option Jvm.ClassFile.FieldType)) ∈ am_T0 := am_t2 (List.mem_of_getElem? (i := 63) rfl) rfl
set_option maxRecDepth 100000 in
theorem kw_304 : (Jvm.Cond.methodLink "LargeBubble$Slow" (1 : Nat) ({ cls := "LargeBubble$Blower", name := "<init>", desc := "(IIIII)V" } : Jvm.MethodName)) ∈ am_T0 := am_t2 (List.mem_of_getElem? (i := 64) rfl) rfl
set_option maxRecDepth 100000 in
theorem kw_305 : (Jvm.Cond.laysFinal "LargeBubble$Slow" "LargeBubble$Blower" "kind" "I") ∈ am_T0 := am_t2 (List.mem_of_getElem? (i := 65) rfl) rfl
set_option maxRecDepth 100000 in
theorem kw_306 : (Jvm.Cond.laysFinal "LargeBubble$Slow" "LargeBubble$Blower" "number" "I") ∈ am_T0 := am_t2 (List.mem_of_getElem? (i := 66) rfl) rfl
set_option maxRecDepth 100000 in
theorem kw_307 : (Jvm.Cond.laysFinal "LargeBubble$Slow" "LargeBubble$Blower" "v" "I") ∈ am_T0 := am_t2 (List.mem_of_getElem? (i := 67) rfl) rfl
set_option maxRecDepth 100000 in
theorem kw_308 : (Jvm.Cond.lays "LargeBubble$Slow" "LargeBubble$Blower" "cord" "I") ∈ am_T0 := am_t2 (List.mem_of_getElem? (i := 68) rfl) rfl
set_option maxRecDepth 100000 in
theorem kw_309 : (Jvm.Cond.lays "LargeBubble$Slow" "LargeBubble$Blower" "aim" "I") ∈ am_T0 := am_t2 (List.mem_of_getElem? (i := 69) rfl) rfl
set_option maxRecDepth 100000 in
theorem kw_310 : (Jvm.Cond.lays "LargeBubble$Slow" "LargeBubble$Blower" "coins" "I") ∈ am_T0 := am_t2 (List.mem_of_getElem? (i := 70) rfl) rfl
set_option maxRecDepth 100000 in
theorem kw_311 : (Jvm.Cond.superclass "LargeBubble$Slow" "LargeBubble$Blower") ∈ am_T0 := am_t2 (List.mem_of_getElem? (i := 71) rfl) rfl
set_option maxRecDepth 100000 in
theorem kw_312 : (Jvm.Cond.classLink "LargeBubble" (281 : Nat) "LargeBubble$Mad") ∈ am_T0 := am_t2 (List.mem_of_getElem? (i := 72) rfl) rfl
set_option maxRecDepth 100000 in
theorem kw_313 : (Jvm.Cond.instantiable "LargeBubble$Mad" (6 : Nat)) ∈ am_T0 := am_t2 (List.mem_of_getElem? (i := 73) rfl) rfl
set_option maxRecDepth 100000 in
theorem kw_314 : (Jvm.Cond.methodLink "LargeBubble" (283 : Nat) ({ cls := "LargeBubble$Mad", name := "<init>", desc := "(IIIII)V" } : Jvm.MethodName)) ∈ am_T0 := am_t2 (List.mem_of_getElem? (i := 74) rfl) rfl
set_option maxRecDepth 100000 in
theorem kw_315 : (Jvm.Cond.instanceMethod ({ cls := "LargeBubble$Mad", name := "<init>", desc := "(IIIII)V" } : Jvm.MethodName)) ∈ am_T0 := am_t2 (List.mem_of_getElem? (i := 75) rfl) rfl
set_option maxRecDepth 100000 in
theorem kw_316 : (Jvm.Cond.code ({ cls := "LargeBubble$Mad", name := "<init>", desc := "(IIIII)V" } : Jvm.MethodName) prog_6_method_1_code (6 : Nat) (Option.none : Option Jvm.ClassFile.FieldType)) ∈ am_T0 := am_t2 (List.mem_of_getElem? (i := 76) rfl) rfl
set_option maxRecDepth 100000 in
theorem kw_317 : (Jvm.Cond.methodLink "LargeBubble$Mad" (1 : Nat) ({ cls := "LargeBubble$Bold", name := "<init>", desc := "(IIIII)V" } : Jvm.MethodName)) ∈ am_T0 := am_t2 (List.mem_of_getElem? (i := 77) rfl) rfl
set_option maxRecDepth 100000 in
theorem kw_318 : (Jvm.Cond.laysFinal "LargeBubble$Mad" "LargeBubble$Blower" "kind" "I") ∈ am_T0 := am_t2 (List.mem_of_getElem? (i := 78) rfl) rfl
set_option maxRecDepth 100000 in
theorem kw_319 : (Jvm.Cond.laysFinal "LargeBubble$Mad" "LargeBubble$Blower" "number" "I") ∈ am_T0 := am_t2 (List.mem_of_getElem? (i := 79) rfl) rfl
set_option maxRecDepth 100000 in
theorem kw_320 : (Jvm.Cond.laysFinal "LargeBubble$Mad" "LargeBubble$Blower" "v" "I") ∈ am_T0 := am_t2 (List.mem_of_getElem? (i := 80) rfl) rfl
set_option maxRecDepth 100000 in
theorem kw_321 : (Jvm.Cond.lays "LargeBubble$Mad" "LargeBubble$Blower" "cord" "I") ∈ am_T0 := am_t2 (List.mem_of_getElem? (i := 81) rfl) rfl
set_option maxRecDepth 100000 in
theorem kw_322 : (Jvm.Cond.lays "LargeBubble$Mad" "LargeBubble$Blower" "aim" "I") ∈ am_T0 := am_t2 (List.mem_of_getElem? (i := 82) rfl) rfl
set_option maxRecDepth 100000 in
theorem kw_323 : (Jvm.Cond.lays "LargeBubble$Mad" "LargeBubble$Blower" "coins" "I") ∈ am_T0 := am_t2 (List.mem_of_getElem? (i := 83) rfl) rfl
set_option maxRecDepth 100000 in
theorem kw_324 : (Jvm.Cond.superclass "LargeBubble$Mad" "LargeBubble$Bold") ∈ am_T0 := am_t2 (List.mem_of_getElem? (i := 84) rfl) rfl
set_option maxRecDepth 100000 in
theorem kw_325 : (Jvm.Cond.classLink "LargeBubble" (284 : Nat) "LargeBubble$Wise") ∈ am_T0 := am_t2 (List.mem_of_getElem? (i := 85) rfl) rfl
set_option maxRecDepth 100000 in
theorem kw_326 : (Jvm.Cond.instantiable "LargeBubble$Wise" (6 : Nat)) ∈ am_T0 := am_t2 (List.mem_of_getElem? (i := 86) rfl) rfl
set_option maxRecDepth 100000 in
theorem kw_327 : (Jvm.Cond.methodLink "LargeBubble" (286 : Nat) ({ cls := "LargeBubble$Wise", name := "<init>", desc := "(IIIII)V" } : Jvm.MethodName)) ∈ am_T0 := am_t2 (List.mem_of_getElem? (i := 87) rfl) rfl
set_option maxRecDepth 100000 in
theorem kw_328 : (Jvm.Cond.instanceMethod ({ cls := "LargeBubble$Wise", name := "<init>", desc := "(IIIII)V" } : Jvm.MethodName)) ∈ am_T0 := am_t2 (List.mem_of_getElem? (i := 88) rfl) rfl
set_option maxRecDepth 100000 in
theorem kw_329 : (Jvm.Cond.code ({ cls := "LargeBubble$Wise", name := "<init>", desc := "(IIIII)V" } : Jvm.MethodName) prog_12_method_1_code (6 : Nat) (Option.none : Option Jvm.ClassFile.FieldType)) ∈ am_T0 := am_t2 (List.mem_of_getElem? (i := 89) rfl) rfl
set_option maxRecDepth 100000 in
theorem kw_330 : (Jvm.Cond.methodLink "LargeBubble$Wise" (1 : Nat) ({ cls := "LargeBubble$Careful", name := "<init>", desc := "(IIIII)V" } : Jvm.MethodName)) ∈ am_T0 := am_t2 (List.mem_of_getElem? (i := 90) rfl) rfl
set_option maxRecDepth 100000 in
theorem kw_331 : (Jvm.Cond.laysFinal "LargeBubble$Wise" "LargeBubble$Blower" "kind" "I") ∈ am_T0 := am_t2 (List.mem_of_getElem? (i := 91) rfl) rfl
set_option maxRecDepth 100000 in
theorem kw_332 : (Jvm.Cond.laysFinal "LargeBubble$Wise" "LargeBubble$Blower" "number" "I") ∈ am_T0 := am_t2 (List.mem_of_getElem? (i := 92) rfl) rfl
set_option maxRecDepth 100000 in
theorem kw_333 : (Jvm.Cond.laysFinal "LargeBubble$Wise" "LargeBubble$Blower" "v" "I") ∈ am_T0 := am_t2 (List.mem_of_getElem? (i := 93) rfl) rfl
set_option maxRecDepth 100000 in
theorem kw_334 : (Jvm.Cond.lays "LargeBubble$Wise" "LargeBubble$Blower" "cord" "I") ∈ am_T0 := am_t2 (List.mem_of_getElem? (i := 94) rfl) rfl
set_option maxRecDepth 100000 in
theorem kw_335 : (Jvm.Cond.lays "LargeBubble$Wise" "LargeBubble$Blower" "aim" "I") ∈ am_T0 := am_t2 (List.mem_of_getElem? (i := 95) rfl) rfl
set_option maxRecDepth 100000 in
theorem kw_336 : (Jvm.Cond.lays "LargeBubble$Wise" "LargeBubble$Blower" "coins" "I") ∈ am_T0 := am_t2 (List.mem_of_getElem? (i := 96) rfl) rfl
set_option maxRecDepth 100000 in
theorem kw_337 : (Jvm.Cond.superclass "LargeBubble$Wise" "LargeBubble$Careful") ∈ am_T0 := am_t2 (List.mem_of_getElem? (i := 97) rfl) rfl
set_option maxRecDepth 100000 in
theorem kw_338 : (Jvm.Cond.classLink "LargeBubble" (112 : Nat) "LargeBubble$Told") ∈ am_T0 := am_t2 (List.mem_of_getElem? (i := 98) rfl) rfl
set_option maxRecDepth 100000 in
theorem kw_339 : (Jvm.Cond.instantiable "LargeBubble$Told" (7 : Nat)) ∈ am_T0 := am_t2 (List.mem_of_getElem? (i := 99) rfl) rfl
set_option maxRecDepth 100000 in
theorem kw_340 : (Jvm.Cond.methodLink "LargeBubble" (287 : Nat) ({ cls := "LargeBubble$Told", name := "<init>", desc := "(IIIII)V" } : Jvm.MethodName)) ∈ am_T0 := am_t2 (List.mem_of_getElem? (i := 100) rfl) rfl
set_option maxRecDepth 100000 in
theorem kw_341 : (Jvm.Cond.instanceMethod ({ cls := "LargeBubble$Told", name := "<init>", desc := "(IIIII)V" } : Jvm.MethodName)) ∈ am_T0 := am_t2 (List.mem_of_getElem? (i := 101) rfl) rfl
set_option maxRecDepth 100000 in
theorem kw_342 : (Jvm.Cond.code ({ cls := "LargeBubble$Told", name := "<init>", desc := "(IIIII)V" } : Jvm.MethodName) prog_11_method_1_code (6 : Nat) (Option.none : Option Jvm.ClassFile.FieldType)) ∈ am_T0 := am_t2 (List.mem_of_getElem? (i := 102) rfl) rfl
set_option maxRecDepth 100000 in
theorem kw_343 : (Jvm.Cond.methodLink "LargeBubble$Told" (3 : Nat) ({ cls := "LargeBubble$Slow", name := "<init>", desc := "(IIIII)V" } : Jvm.MethodName)) ∈ am_T0 := am_t2 (List.mem_of_getElem? (i := 103) rfl) rfl
set_option maxRecDepth 100000 in
theorem kw_344 : (Jvm.Cond.fieldLink "LargeBubble$Told" (9 : Nat) "LargeBubble$Told" "row" "[I") ∈ am_T0 := am_t2 (List.mem_of_getElem? (i := 104) rfl) rfl
set_option maxRecDepth 100000 in
theorem kw_345 : (Jvm.Cond.fieldLink "LargeBubble" (114 : Nat) "LargeBubble$Told" "row" "[I") ∈ am_T0 := am_t2 (List.mem_of_getElem? (i := 105) rfl) rfl
set_option maxRecDepth 100000 in
theorem kw_346 : (Jvm.Cond.laysFinal "LargeBubble$Told" "LargeBubble$Told" "row" "[I") ∈ am_T0 := am_t2 (List.mem_of_getElem? (i := 106) rfl) rfl
set_option maxRecDepth 100000 in
theorem kw_348 : (Jvm.Cond.laysFinal "LargeBubble$Told" "LargeBubble$Blower" "kind" "I") ∈ am_T0 := am_t2 (List.mem_of_getElem? (i := 108) rfl) rfl
set_option maxRecDepth 100000 in
theorem kw_349 : (Jvm.Cond.laysFinal "LargeBubble$Told" "LargeBubble$Blower" "number" "I") ∈ am_T0 := am_t2 (List.mem_of_getElem? (i := 109) rfl) rfl
set_option maxRecDepth 100000 in
theorem kw_350 : (Jvm.Cond.laysFinal "LargeBubble$Told" "LargeBubble$Blower" "v" "I") ∈ am_T0 := am_t2 (List.mem_of_getElem? (i := 110) rfl) rfl
set_option maxRecDepth 100000 in
theorem kw_351 : (Jvm.Cond.lays "LargeBubble$Told" "LargeBubble$Blower" "cord" "I") ∈ am_T0 := am_t2 (List.mem_of_getElem? (i := 111) rfl) rfl
set_option maxRecDepth 100000 in
theorem kw_352 : (Jvm.Cond.lays "LargeBubble$Told" "LargeBubble$Blower" "aim" "I") ∈ am_T0 := am_t2 (List.mem_of_getElem? (i := 112) rfl) rfl
set_option maxRecDepth 100000 in
theorem kw_353 : (Jvm.Cond.lays "LargeBubble$Told" "LargeBubble$Blower" "coins" "I") ∈ am_T0 := am_t2 (List.mem_of_getElem? (i := 113) rfl) rfl
set_option maxRecDepth 100000 in
theorem kw_354 : (Jvm.Cond.superclass "LargeBubble$Told" "LargeBubble$Slow") ∈ am_T0 := am_t2 (List.mem_of_getElem? (i := 114) rfl) rfl
set_option maxRecDepth 100000 in
theorem kw_355 : (Jvm.Cond.classLink "LargeBubble" (93 : Nat) "LargeBubble$Blower") ∈ am_T0 := am_t2 (List.mem_of_getElem? (i := 115) rfl) rfl
set_option maxRecDepth 100000 in
theorem kw_356 : (Jvm.Cond.instantiable "LargeBubble$Blower" (6 : Nat)) ∈ am_T0 := am_t2 (List.mem_of_getElem? (i := 116) rfl) rfl
set_option maxRecDepth 100000 in
theorem kw_357 : (Jvm.Cond.methodLink "LargeBubble" (288 : Nat) ({ cls := "LargeBubble$Blower", name := "<init>", desc := "(IIIII)V" } : Jvm.MethodName)) ∈ am_T0 := am_t2 (List.mem_of_getElem? (i := 117) rfl) rfl
set_option maxRecDepth 100000 in
theorem kw_358 : (Jvm.Cond.laysFinal "LargeBubble$Blower" "LargeBubble$Blower" "kind" "I") ∈ am_T0 := am_t2 (List.mem_of_getElem? (i := 118) rfl) rfl
set_option maxRecDepth 100000 in
theorem kw_359 : (Jvm.Cond.laysFinal "LargeBubble$Blower" "LargeBubble$Blower" "number" "I") ∈ am_T0 := am_t2 (List.mem_of_getElem? (i := 119) rfl) rfl
set_option maxRecDepth 100000 in
theorem kw_360 : (Jvm.Cond.laysFinal "LargeBubble$Blower" "LargeBubble$Blower" "v" "I") ∈ am_T0 := am_t2 (List.mem_of_getElem? (i := 120) rfl) rfl
set_option maxRecDepth 100000 in
theorem kw_361 : (Jvm.Cond.lays "LargeBubble$Blower" "LargeBubble$Blower" "cord" "I") ∈ am_T0 := am_t2 (List.mem_of_getElem? (i := 121) rfl) rfl
set_option maxRecDepth 100000 in
theorem kw_362 : (Jvm.Cond.lays "LargeBubble$Blower" "LargeBubble$Blower" "aim" "I") ∈ am_T0 := am_t2 (List.mem_of_getElem? (i := 122) rfl) rfl
set_option maxRecDepth 100000 in
theorem kw_363 : (Jvm.Cond.lays "LargeBubble$Blower" "LargeBubble$Blower" "coins" "I") ∈ am_T0 := am_t2 (List.mem_of_getElem? (i := 123) rfl) rfl
set_option maxRecDepth 100000 in
theorem kw_364 : (Jvm.Cond.superclass "LargeBubble$Blower" "java/lang/Object") ∈ am_T0 := am_t2 (List.mem_of_getElem? (i := 124) rfl) rfl
set_option maxRecDepth 100000 in
theorem kw_365 : (Jvm.Cond.methodLink "LargeBubbleLaw" (18 : Nat) ({ cls := "LargeBubble", name := "of", desc := "(II)I" } : Jvm.MethodName)) ∈ am_T0 := am_t2 (List.mem_of_getElem? (i := 125) rfl) rfl
set_option maxRecDepth 100000 in
theorem kw_366 : (Jvm.Cond.instanceMethod ({ cls := "LargeBubble", name := "of", desc := "(II)I" } : Jvm.MethodName)) ∈ am_T0 := am_t2 (List.mem_of_getElem? (i := 126) rfl) rfl
set_option maxRecDepth 100000 in
theorem kw_367 : (Jvm.Cond.selects "LargeBubble" ({ cls := "LargeBubble", name := "of", desc := "(II)I" } : Jvm.MethodName) ({ cls := "LargeBubble", name := "of", desc := "(II)I" } : Jvm.MethodName)) ∈ am_T0 := am_t2 (List.mem_of_getElem? (i := 127) rfl) rfl
set_option maxRecDepth 100000 in
theorem kw_368 : (Jvm.Cond.code ({ cls := "LargeBubble", name := "of", desc := "(II)I" } : Jvm.MethodName) prog_1_method_3_code (4 : Nat) (Option.some Jvm.ClassFile.FieldType.int)) ∈ am_T0 := am_t2 (List.mem_of_getElem? (i := 128) rfl) rfl
set_option maxRecDepth 100000 in
theorem kw_369 : (Jvm.Cond.methodLink "LargeBubble" (88 : Nat) ({ cls := "LargeBubble", name := "find", desc := "(I)LLargeBubble$Blower;" } : Jvm.MethodName)) ∈ am_T0 := am_t2 (List.mem_of_getElem? (i := 129) rfl) rfl
set_option maxRecDepth 100000 in
theorem kw_371 : (Jvm.Cond.instanceMethod ({ cls := "LargeBubble", name := "find", desc := "(I)LLargeBubble$Blower;" } : Jvm.MethodName)) ∈ am_T0 := am_t2 (List.mem_of_getElem? (i := 131) rfl) rfl
set_option maxRecDepth 100000 in
theorem kw_372 : (Jvm.Cond.code ({ cls := "LargeBubble", name := "find", desc := "(I)LLargeBubble$Blower;" } : Jvm.MethodName) prog_1_method_39_code (2 : Nat) (Option.some (Jvm.ClassFile.FieldType.object "LargeBubble$Blower"))) ∈ am_T0 := am_t2 (List.mem_of_getElem? (i := 132) rfl) rfl
set_option maxRecDepth 100000 in
theorem kw_373 : (Jvm.Cond.methodLink "LargeBubbleLaw" (23 : Nat) ({ cls := "LargeBubble", name := "set", desc := "(III)I" } : Jvm.MethodName)) ∈ am_T0 := am_t2 (List.mem_of_getElem? (i := 133) rfl) rfl
set_option maxRecDepth 100000 in
theorem kw_374 : (Jvm.Cond.instanceMethod ({ cls := "LargeBubble", name := "set", desc := "(III)I" } : Jvm.MethodName)) ∈ am_T0 := am_t2 (List.mem_of_getElem? (i := 134) rfl) rfl
set_option maxRecDepth 100000 in
theorem kw_375 : (Jvm.Cond.selects "LargeBubble" ({ cls := "LargeBubble", name := "set", desc := "(III)I" } : Jvm.MethodName) ({ cls := "LargeBubble", name := "set", desc := "(III)I" } : Jvm.MethodName)) ∈ am_T0 := am_t2 (List.mem_of_getElem? (i := 135) rfl) rfl
set_option maxRecDepth 100000 in
theorem kw_376 : (Jvm.Cond.code ({ cls := "LargeBubble", name := "set", desc := "(III)I" } : Jvm.MethodName) prog_1_method_4_code (6 : Nat) (Option.some Jvm.ClassFile.FieldType.int)) ∈ am_T0 := am_t2 (List.mem_of_getElem? (i := 136) rfl) rfl
set_option maxRecDepth 100000 in
theorem kw_377 : (Jvm.Cond.methodLink "LargeBubbleLaw" (28 : Nat) ({ cls := "LargeBubble", name := "mix", desc := "(II)I" } : Jvm.MethodName)) ∈ am_T0 := am_t2 (List.mem_of_getElem? (i := 137) rfl) rfl
set_option maxRecDepth 100000 in
theorem kw_378 : (Jvm.Cond.instanceMethod ({ cls := "LargeBubble", name := "mix", desc := "(II)I" } : Jvm.MethodName)) ∈ am_T0 := am_t2 (List.mem_of_getElem? (i := 138) rfl) rfl
set_option maxRecDepth 100000 in
theorem kw_379 : (Jvm.Cond.selects "LargeBubble" ({ cls := "LargeBubble", name := "mix", desc := "(II)I" } : Jvm.MethodName) ({ cls := "LargeBubble", name := "mix", desc := "(II)I" } : Jvm.MethodName)) ∈ am_T0 := am_t2 (List.mem_of_getElem? (i := 139) rfl) rfl
set_option maxRecDepth 100000 in
theorem kw_380 : (Jvm.Cond.code ({ cls := "LargeBubble", name := "mix", desc := "(II)I" } : Jvm.MethodName) prog_1_method_5_code (4 : Nat) (Option.some Jvm.ClassFile.FieldType.int)) ∈ am_T0 := am_t2 (List.mem_of_getElem? (i := 140) rfl) rfl
set_option maxRecDepth 100000 in
theorem kw_381 : (Jvm.Cond.methodLink "LargeBubbleLaw" (32 : Nat) ({ cls := "LargeBubble", name := "row", desc := "(III)I" } : Jvm.MethodName)) ∈ am_T0 := am_t2 (List.mem_of_getElem? (i := 141) rfl) rfl
set_option maxRecDepth 100000 in
theorem kw_382 : (Jvm.Cond.instanceMethod ({ cls := "LargeBubble", name := "row", desc := "(III)I" } : Jvm.MethodName)) ∈ am_T0 := am_t2 (List.mem_of_getElem? (i := 142) rfl) rfl
set_option maxRecDepth 100000 in
theorem kw_383 : (Jvm.Cond.selects "LargeBubble" ({ cls := "LargeBubble", name := "row", desc := "(III)I" } : Jvm.MethodName) ({ cls := "LargeBubble", name := "row", desc := "(III)I" } : Jvm.MethodName)) ∈ am_T0 := am_t2 (List.mem_of_getElem? (i := 143) rfl) rfl
set_option maxRecDepth 100000 in
theorem kw_384 : (Jvm.Cond.code ({ cls := "LargeBubble", name := "row", desc := "(III)I" } : Jvm.MethodName) prog_1_method_6_code (7 : Nat) (Option.some Jvm.ClassFile.FieldType.int)) ∈ am_T0 := am_t2 (List.mem_of_getElem? (i := 144) rfl) rfl
set_option maxRecDepth 100000 in
theorem kw_385 : (Jvm.Cond.methodLink "LargeBubbleLaw" (36 : Nat) ({ cls := "LargeBubble", name := "feed", desc := "(I)I" } : Jvm.MethodName)) ∈ am_T0 := am_t2 (List.mem_of_getElem? (i := 145) rfl) rfl
set_option maxRecDepth 100000 in
theorem kw_386 : (Jvm.Cond.instanceMethod ({ cls := "LargeBubble", name := "feed", desc := "(I)I" } : Jvm.MethodName)) ∈ am_T0 := am_t2 (List.mem_of_getElem? (i := 146) rfl) rfl
set_option maxRecDepth 100000 in
theorem kw_387 : (Jvm.Cond.selects "LargeBubble" ({ cls := "LargeBubble", name := "feed", desc := "(I)I" } : Jvm.MethodName) ({ cls := "LargeBubble", name := "feed", desc := "(I)I" } : Jvm.MethodName)) ∈ am_T0 := am_t2 (List.mem_of_getElem? (i := 147) rfl) rfl
set_option maxRecDepth 100000 in
theorem kw_388 : (Jvm.Cond.code ({ cls := "LargeBubble", name := "feed", desc := "(I)I" } : Jvm.MethodName) prog_1_method_7_code (2 : Nat) (Option.some Jvm.ClassFile.FieldType.int)) ∈ am_T0 := am_t2 (List.mem_of_getElem? (i := 148) rfl) rfl
set_option maxRecDepth 100000 in
theorem kw_389 : (Jvm.Cond.methodLink "LargeBubble" (117 : Nat) ({ cls := "LargeBubble$Text", name := "isFull", desc := "()Z" } : Jvm.MethodName)) ∈ am_T0 := am_t2 (List.mem_of_getElem? (i := 149) rfl) rfl
set_option maxRecDepth 100000 in
theorem kw_390 : (Jvm.Cond.instanceMethod ({ cls := "LargeBubble$Text", name := "isFull", desc := "()Z" } : Jvm.MethodName)) ∈ am_T0 := am_t2 (List.mem_of_getElem? (i := 150) rfl) rfl
set_option maxRecDepth 100000 in
theorem kw_391 : (Jvm.Cond.selects "LargeBubble$Text" ({ cls := "LargeBubble$Text", name := "isFull", desc := "()Z" } : Jvm.MethodName) ({ cls := "LargeBubble$Text", name := "isFull", desc := "()Z" } : Jvm.MethodName)) ∈ am_T0 := am_t2 (List.mem_of_getElem? (i := 151) rfl) rfl
set_option maxRecDepth 100000 in
theorem kw_392 : (Jvm.Cond.code ({ cls := "LargeBubble$Text", name := "isFull", desc := "()Z" } : Jvm.MethodName) prog_10_method_2_code (1 : Nat) (Option.some Jvm.ClassFile.FieldType.boolean)) ∈ am_T0 := am_t2 (List.mem_of_getElem? (i := 152) rfl) rfl
set_option maxRecDepth 100000 in
theorem kw_393 : (Jvm.Cond.methodLink "LargeBubble" (121 : Nat) ({ cls := "LargeBubble$Text", name := "add", desc := "(I)V" } : Jvm.MethodName)) ∈ am_T0 := am_t2 (List.mem_of_getElem? (i := 153) rfl) rfl
set_option maxRecDepth 100000 in
theorem kw_394 : (Jvm.Cond.instanceMethod ({ cls := "LargeBubble$Text", name := "add", desc := "(I)V" } : Jvm.MethodName)) ∈ am_T0 := am_t2 (List.mem_of_getElem? (i := 154) rfl) rfl
set_option maxRecDepth 100000 in
theorem kw_395 : (Jvm.Cond.selects "LargeBubble$Text" ({ cls := "LargeBubble$Text", name := "add", desc := "(I)V" } : Jvm.MethodName) ({ cls := "LargeBubble$Text", name := "add", desc := "(I)V" } : Jvm.MethodName)) ∈ am_T0 := am_t2 (List.mem_of_getElem? (i := 155) rfl) rfl
set_option maxRecDepth 100000 in
theorem kw_396 : (Jvm.Cond.code ({ cls := "LargeBubble$Text", name := "add", desc := "(I)V" } : Jvm.MethodName) prog_10_method_3_code (2 : Nat) (Option.none : Option Jvm.ClassFile.FieldType)) ∈ am_T0 := am_t2 (List.mem_of_getElem? (i := 156) rfl) rfl
set_option maxRecDepth 100000 in
theorem kw_397 : (Jvm.Cond.methodLink "LargeBubble$Text" (20 : Nat) ({ cls := "LargeBubble$Text", name := "isFull", desc := "()Z" } : Jvm.MethodName)) ∈ am_T0 := am_t2 (List.mem_of_getElem? (i := 157) rfl) rfl
set_option maxRecDepth 100000 in
theorem kw_398 : (Jvm.Cond.methodLink "LargeBubbleLaw" (41 : Nat) ({ cls := "LargeBubble", name := "square", desc := "()I" } : Jvm.MethodName)) ∈ am_T0 := am_t2 (List.mem_of_getElem? (i := 158) rfl) rfl
set_option maxRecDepth 100000 in
theorem kw_399 : (Jvm.Cond.instanceMethod ({ cls := "LargeBubble", name := "square", desc := "()I" } : Jvm.MethodName)) ∈ am_T0 := am_t2 (List.mem_of_getElem? (i := 159) rfl) rfl
set_option maxRecDepth 100000 in
theorem kw_400 : (Jvm.Cond.selects "LargeBubble" ({ cls := "LargeBubble", name := "square", desc := "()I" } : Jvm.MethodName) ({ cls := "LargeBubble", name := "square", desc := "()I" } : Jvm.MethodName)) ∈ am_T0 := am_t2 (List.mem_of_getElem? (i := 160) rfl) rfl
set_option maxRecDepth 100000 in
theorem kw_401 : (Jvm.Cond.code ({ cls := "LargeBubble", name := "square", desc := "()I" } : Jvm.MethodName) prog_1_method_8_code (2 : Nat) (Option.some Jvm.ClassFile.FieldType.int)) ∈ am_T0 := am_t2 (List.mem_of_getElem? (i := 161) rfl) rfl
set_option maxRecDepth 100000 in
theorem kw_402 : (Jvm.Cond.instantiable "LargeBubble$Square" (8 : Nat)) ∈ am_T0 := am_t2 (List.mem_of_getElem? (i := 162) rfl) rfl
set_option maxRecDepth 100000 in
theorem kn_403 : (Jvm.Cond.methodLinkNest "LargeBubble" (128 : Nat) ({ cls := "LargeBubble$Square", name := "<init>", desc := "()V" } : Jvm.MethodName) "LargeBubble") ∈ lw_tbl := am_tl2 (List.mem_of_getElem? (i := 163) rfl)
set_option maxRecDepth 100000 in
theorem kw_404 : (Jvm.Cond.instanceMethod ({ cls := "LargeBubble$Square", name := "<init>", desc := "()V" } : Jvm.MethodName)) ∈ am_T0 := am_t2 (List.mem_of_getElem? (i := 164) rfl) rfl
set_option maxRecDepth 100000 in
theorem kw_405 : (Jvm.Cond.code ({ cls := "LargeBubble$Square", name := "<init>", desc := "()V" } : Jvm.MethodName) prog_8_method_1_code (1 : Nat) (Option.none : Option Jvm.ClassFile.FieldType)) ∈ am_T0 := am_t2 (List.mem_of_getElem? (i := 165) rfl) rfl
set_option maxRecDepth 100000 in
theorem kw_406 : (Jvm.Cond.methodLink "LargeBubble$Square" (1 : Nat) ({ cls := "java/lang/Object", name := "<init>", desc := "()V" } : Jvm.MethodName)) ∈ am_T0 := am_t2 (List.mem_of_getElem? (i := 166) rfl) rfl
set_option maxRecDepth 100000 in
theorem kw_407 : (Jvm.Cond.fieldLink "LargeBubble$Square" (9 : Nat) "LargeBubble$Square" "words" "[I") ∈ am_T0 := am_t2 (List.mem_of_getElem? (i := 167) rfl) rfl
set_option maxRecDepth 100000 in
theorem kw_408 : (Jvm.Cond.fieldLink "LargeBubble$Square" (13 : Nat) "LargeBubble$Square" "numbers" "[I") ∈ am_T0 := am_t2 (List.mem_of_getElem? (i := 168) rfl) rfl
set_option maxRecDepth 100000 in
theorem kw_409 : (Jvm.Cond.fieldLink "LargeBubble$Square" (16 : Nat) "LargeBubble$Square" "ends" "[I") ∈ am_T0 := am_t2 (List.mem_of_getElem? (i := 169) rfl) rfl
set_option maxRecDepth 100000 in
theorem kw_410 : (Jvm.Cond.fieldLink "LargeBubble$Square" (19 : Nat) "LargeBubble$Square" "clauses" "I") ∈ am_T0 := am_t2 (List.mem_of_getElem? (i := 170) rfl) rfl
set_option maxRecDepth 100000 in
theorem kw_411 : (Jvm.Cond.fieldLink "LargeBubble$Square" (25 : Nat) "LargeBubble$Square" "codes" "[I") ∈ am_T0 := am_t2 (List.mem_of_getElem? (i := 171) rfl) rfl
set_option maxRecDepth 100000 in
theorem kw_412 : (Jvm.Cond.fieldLink "LargeBubble$Square" (28 : Nat) "LargeBubble$Square" "relations" "[I") ∈ am_T0 := am_t2 (List.mem_of_getElem? (i := 172) rfl) rfl
set_option maxRecDepth 100000 in
theorem kw_413 : (Jvm.Cond.fieldLink "LargeBubble$Square" (31 : Nat) "LargeBubble$Square" "limits" "[I") ∈ am_T0 := am_t2 (List.mem_of_getElem? (i := 173) rfl) rfl
set_option maxRecDepth 100000 in
theorem kw_414 : (Jvm.Cond.fieldLink "LargeBubble$Square" (34 : Nat) "LargeBubble$Square" "codeCount" "I") ∈ am_T0 := am_t2 (List.mem_of_getElem? (i := 174) rfl) rfl
set_option maxRecDepth 100000 in
theorem kw_415 : (Jvm.Cond.laysFinal "LargeBubble$Square" "LargeBubble$Square" "words" "[I") ∈ am_T0 := am_t2 (List.mem_of_getElem? (i := 175) rfl) rfl
set_option maxRecDepth 100000 in
theorem kw_417 : (Jvm.Cond.laysFinal "LargeBubble$Square" "LargeBubble$Square" "numbers" "[I") ∈ am_T0 := am_t2 (List.mem_of_getElem? (i := 177) rfl) rfl
set_option maxRecDepth 100000 in
theorem kw_419 : (Jvm.Cond.laysFinal "LargeBubble$Square" "LargeBubble$Square" "ends" "[I") ∈ am_T0 := am_t2 (List.mem_of_getElem? (i := 179) rfl) rfl
set_option maxRecDepth 100000 in
theorem kw_421 : (Jvm.Cond.lays "LargeBubble$Square" "LargeBubble$Square" "clauses" "I") ∈ am_T0 := am_t2 (List.mem_of_getElem? (i := 181) rfl) rfl
set_option maxRecDepth 100000 in
theorem kw_423 : (Jvm.Cond.laysFinal "LargeBubble$Square" "LargeBubble$Square" "codes" "[I") ∈ am_T0 := am_t2 (List.mem_of_getElem? (i := 183) rfl) rfl
set_option maxRecDepth 100000 in
theorem kw_425 : (Jvm.Cond.laysFinal "LargeBubble$Square" "LargeBubble$Square" "relations" "[I") ∈ am_T0 := am_t2 (List.mem_of_getElem? (i := 185) rfl) rfl
set_option maxRecDepth 100000 in
theorem kw_427 : (Jvm.Cond.laysFinal "LargeBubble$Square" "LargeBubble$Square" "limits" "[I") ∈ am_T0 := am_t2 (List.mem_of_getElem? (i := 187) rfl) rfl
set_option maxRecDepth 100000 in
theorem kw_429 : (Jvm.Cond.lays "LargeBubble$Square" "LargeBubble$Square" "codeCount" "I") ∈ am_T0 := am_t2 (List.mem_of_getElem? (i := 189) rfl) rfl
set_option maxRecDepth 100000 in
theorem kw_431 : (Jvm.Cond.superclass "LargeBubble$Square" "java/lang/Object") ∈ am_T0 := am_t2 (List.mem_of_getElem? (i := 191) rfl) rfl
set_option maxRecDepth 100000 in
theorem kw_432 : (Jvm.Cond.methodLink "LargeBubble" (129 : Nat) ({ cls := "LargeBubble$Text", name := "readInto", desc := "(LLargeBubble$Square;)Z" } : Jvm.MethodName)) ∈ am_T0 := am_t2 (List.mem_of_getElem? (i := 192) rfl) rfl
set_option maxRecDepth 100000 in
theorem kw_433 : (Jvm.Cond.instanceMethod ({ cls := "LargeBubble$Text", name := "readInto", desc := "(LLargeBubble$Square;)Z" } : Jvm.MethodName)) ∈ am_T0 := am_t2 (List.mem_of_getElem? (i := 193) rfl) rfl
set_option maxRecDepth 100000 in
theorem kw_434 : (Jvm.Cond.selects "LargeBubble$Text" ({ cls := "LargeBubble$Text", name := "readInto", desc := "(LLargeBubble$Square;)Z" } : Jvm.MethodName) ({ cls := "LargeBubble$Text", name := "readInto", desc := "(LLargeBubble$Square;)Z" } : Jvm.MethodName)) ∈ am_T0 := am_t2 (List.mem_of_getElem? (i := 194) rfl) rfl
set_option maxRecDepth 100000 in
theorem kw_435 : (Jvm.Cond.code ({ cls := "LargeBubble$Text", name := "readInto", desc := "(LLargeBubble$Square;)Z" } : Jvm.MethodName) prog_10_method_4_code (3 : Nat) (Option.some Jvm.ClassFile.FieldType.boolean)) ∈ am_T0 := am_t2 (List.mem_of_getElem? (i := 195) rfl) rfl
set_option maxRecDepth 100000 in
theorem kw_436 : (Jvm.Cond.methodLink "LargeBubble$Text" (24 : Nat) ({ cls := "LargeBubble$Square", name := "empty", desc := "()V" } : Jvm.MethodName)) ∈ am_T0 := am_t2 (List.mem_of_getElem? (i := 196) rfl) rfl
set_option maxRecDepth 100000 in
theorem kw_437 : (Jvm.Cond.instanceMethod ({ cls := "LargeBubble$Square", name := "empty", desc := "()V" } : Jvm.MethodName)) ∈ am_T0 := am_t2 (List.mem_of_getElem? (i := 197) rfl) rfl
set_option maxRecDepth 100000 in
theorem kw_438 : (Jvm.Cond.selects "LargeBubble$Square" ({ cls := "LargeBubble$Square", name := "empty", desc := "()V" } : Jvm.MethodName) ({ cls := "LargeBubble$Square", name := "empty", desc := "()V" } : Jvm.MethodName)) ∈ am_T0 := am_t2 (List.mem_of_getElem? (i := 198) rfl) rfl
set_option maxRecDepth 100000 in
theorem kw_439 : (Jvm.Cond.code ({ cls := "LargeBubble$Square", name := "empty", desc := "()V" } : Jvm.MethodName) prog_8_method_2_code (1 : Nat) (Option.none : Option Jvm.ClassFile.FieldType)) ∈ am_T0 := am_t2 (List.mem_of_getElem? (i := 199) rfl) rfl
set_option maxRecDepth 100000 in
theorem kw_440 : (Jvm.Cond.methodLink "LargeBubble$Text" (29 : Nat) ({ cls := "LargeBubble$Text", name := "readClause", desc := "(LLargeBubble$Square;)Z" } : Jvm.MethodName)) ∈ am_T0 := am_t2 (List.mem_of_getElem? (i := 200) rfl) rfl
set_option maxRecDepth 100000 in
theorem kw_442 : (Jvm.Cond.instanceMethod ({ cls := "LargeBubble$Text", name := "readClause", desc := "(LLargeBubble$Square;)Z" } : Jvm.MethodName)) ∈ am_T0 := am_t2 (List.mem_of_getElem? (i := 202) rfl) rfl
set_option maxRecDepth 100000 in
theorem kw_443 : (Jvm.Cond.code ({ cls := "LargeBubble$Text", name := "readClause", desc := "(LLargeBubble$Square;)Z" } : Jvm.MethodName) prog_10_method_5_code (4 : Nat) (Option.some Jvm.ClassFile.FieldType.boolean)) ∈ am_T0 := am_t2 (List.mem_of_getElem? (i := 203) rfl) rfl
set_option maxRecDepth 100000 in
theorem kw_444 : (Jvm.Cond.methodLink "LargeBubble$Text" (37 : Nat) ({ cls := "LargeBubble$Text", name := "readWord", desc := "()I" } : Jvm.MethodName)) ∈ am_T0 := am_t2 (List.mem_of_getElem? (i := 204) rfl) rfl
set_option maxRecDepth 100000 in
theorem kw_446 : (Jvm.Cond.instanceMethod ({ cls := "LargeBubble$Text", name := "readWord", desc := "()I" } : Jvm.MethodName)) ∈ am_T0 := am_t2 (List.mem_of_getElem? (i := 206) rfl) rfl
set_option maxRecDepth 100000 in
theorem kw_447 : (Jvm.Cond.code ({ cls := "LargeBubble$Text", name := "readWord", desc := "()I" } : Jvm.MethodName) prog_10_method_6_code (1 : Nat) (Option.some Jvm.ClassFile.FieldType.int)) ∈ am_T0 := am_t2 (List.mem_of_getElem? (i := 207) rfl) rfl
set_option maxRecDepth 100000 in
theorem kw_448 : (Jvm.Cond.methodLink "LargeBubble$Text" (52 : Nat) ({ cls := "LargeBubble$Text", name := "peek", desc := "()I" } : Jvm.MethodName)) ∈ am_T0 := am_t2 (List.mem_of_getElem? (i := 208) rfl) rfl
set_option maxRecDepth 100000 in
theorem kw_450 : (Jvm.Cond.instanceMethod ({ cls := "LargeBubble$Text", name := "peek", desc := "()I" } : Jvm.MethodName)) ∈ am_T0 := am_t2 (List.mem_of_getElem? (i := 210) rfl) rfl
set_option maxRecDepth 100000 in
theorem kw_451 : (Jvm.Cond.code ({ cls := "LargeBubble$Text", name := "peek", desc := "()I" } : Jvm.MethodName) prog_10_method_15_code (1 : Nat) (Option.some Jvm.ClassFile.FieldType.int)) ∈ am_T0 := am_t2 (List.mem_of_getElem? (i := 211) rfl) rfl
set_option maxRecDepth 100000 in
theorem kn_452 : (Jvm.Cond.stringRef "LargeBubble$Text" (55 : Nat) "wind") ∈ lw_tbl := am_tl2 (List.mem_of_getElem? (i := 212) rfl)
set_option maxRecDepth 100000 in
theorem kw_453 : (Jvm.Cond.methodLink "LargeBubble$Text" (57 : Nat) ({ cls := "LargeBubble$Text", name := "passWord", desc := "(Ljava/lang/String;)Z" } : Jvm.MethodName)) ∈ am_T0 := am_t2 (List.mem_of_getElem? (i := 213) rfl) rfl
set_option maxRecDepth 100000 in
theorem kw_455 : (Jvm.Cond.instanceMethod ({ cls := "LargeBubble$Text", name := "passWord", desc := "(Ljava/lang/String;)Z" } : Jvm.MethodName)) ∈ am_T0 := am_t2 (List.mem_of_getElem? (i := 215) rfl) rfl
set_option maxRecDepth 100000 in
theorem kw_456 : (Jvm.Cond.code ({ cls := "LargeBubble$Text", name := "passWord", desc := "(Ljava/lang/String;)Z" } : Jvm.MethodName) prog_10_method_7_code (3 : Nat) (Option.some Jvm.ClassFile.FieldType.boolean)) ∈ am_T0 := am_t2 (List.mem_of_getElem? (i := 216) rfl) rfl
set_option maxRecDepth 100000 in
theorem kw_457 : (Jvm.Cond.methodLink "LargeBubble$Text" (65 : Nat) ({ cls := "java/lang/String", name := "length", desc := "()I" } : Jvm.MethodName)) ∈ am_T0 := am_t2 (List.mem_of_getElem? (i := 217) rfl) rfl
set_option maxRecDepth 100000 in
theorem kw_458 : (Jvm.Cond.instanceMethod ({ cls := "java/lang/String", name := "length", desc := "()I" } : Jvm.MethodName)) ∈ am_T0 := am_t2 (List.mem_of_getElem? (i := 218) rfl) rfl
set_option maxRecDepth 100000 in
theorem kw_459 : (Jvm.Cond.selects "java/lang/String" ({ cls := "java/lang/String", name := "length", desc := "()I" } : Jvm.MethodName) ({ cls := "java/lang/String", name := "length", desc := "()I" } : Jvm.MethodName)) ∈ am_T0 := am_t2 (List.mem_of_getElem? (i := 219) rfl) rfl
set_option maxRecDepth 100000 in
theorem kw_460 : (Jvm.Cond.code ({ cls := "java/lang/String", name := "length", desc := "()I" } : Jvm.MethodName) prog_16_method_54_code (1 : Nat) (Option.some Jvm.ClassFile.FieldType.int)) ∈ am_T0 := am_t2 (List.mem_of_getElem? (i := 220) rfl) rfl
set_option maxRecDepth 100000 in
theorem kw_461 : (Jvm.Cond.methodLink "java/lang/String" (335 : Nat) ({ cls := "java/lang/String", name := "coder", desc := "()B" } : Jvm.MethodName)) ∈ am_T0 := am_t2 (List.mem_of_getElem? (i := 221) rfl) rfl
set_option maxRecDepth 100000 in
theorem kw_462 : (Jvm.Cond.instanceMethod ({ cls := "java/lang/String", name := "coder", desc := "()B" } : Jvm.MethodName)) ∈ am_T0 := am_t2 (List.mem_of_getElem? (i := 222) rfl) rfl
set_option maxRecDepth 100000 in
theorem kw_463 : (Jvm.Cond.selects "java/lang/String" ({ cls := "java/lang/String", name := "coder", desc := "()B" } : Jvm.MethodName) ({ cls := "java/lang/String", name := "coder", desc := "()B" } : Jvm.MethodName)) ∈ am_T0 := am_t2 (List.mem_of_getElem? (i := 223) rfl) rfl
set_option maxRecDepth 100000 in
theorem kw_464 : (Jvm.Cond.code ({ cls := "java/lang/String", name := "coder", desc := "()B" } : Jvm.MethodName) prog_16_method_152_code (1 : Nat) (Option.some Jvm.ClassFile.FieldType.byte)) ∈ am_T0 := am_t2 (List.mem_of_getElem? (i := 224) rfl) rfl
set_option maxRecDepth 100000 in
theorem kw_465 : (Jvm.Cond.fieldLink "java/lang/String" (38 : Nat) "java/lang/String" "COMPACT_STRINGS" "Z") ∈ am_T0 := am_t2 (List.mem_of_getElem? (i := 225) rfl) rfl
set_option maxRecDepth 100000 in
theorem kn_466 : (Jvm.Cond.laysStatic "java/lang/String" "COMPACT_STRINGS" "Z") ∈ lw_tbl := am_tl2 (List.mem_of_getElem? (i := 226) rfl)
set_option maxRecDepth 100000 in
theorem kw_467 : (Jvm.Cond.methodLink "LargeBubble$Text" (69 : Nat) ({ cls := "java/lang/String", name := "charAt", desc := "(I)C" } : Jvm.MethodName)) ∈ am_T0 := am_t2 (List.mem_of_getElem? (i := 227) rfl) rfl
set_option maxRecDepth 100000 in
theorem kw_468 : (Jvm.Cond.instanceMethod ({ cls := "java/lang/String", name := "charAt", desc := "(I)C" } : Jvm.MethodName)) ∈ am_T0 := am_t2 (List.mem_of_getElem? (i := 228) rfl) rfl
set_option maxRecDepth 100000 in
theorem kw_469 : (Jvm.Cond.selects "java/lang/String" ({ cls := "java/lang/String", name := "charAt", desc := "(I)C" } : Jvm.MethodName) ({ cls := "java/lang/String", name := "charAt", desc := "(I)C" } : Jvm.MethodName)) ∈ am_T0 := am_t2 (List.mem_of_getElem? (i := 229) rfl) rfl
set_option maxRecDepth 100000 in
theorem kw_470 : (Jvm.Cond.code ({ cls := "java/lang/String", name := "charAt", desc := "(I)C" } : Jvm.MethodName) prog_16_method_56_code (2 : Nat) (Option.some Jvm.ClassFile.FieldType.char)) ∈ am_T0 := am_t2 (List.mem_of_getElem? (i := 230) rfl) rfl
set_option maxRecDepth 100000 in
theorem kw_471 : (Jvm.Cond.methodLink "java/lang/String" (492 : Nat) ({ cls := "java/lang/String", name := "isLatin1", desc := "()Z" } : Jvm.MethodName)) ∈ am_T0 := am_t2 (List.mem_of_getElem? (i := 231) rfl) rfl
set_option maxRecDepth 100000 in
theorem kw_472 : (Jvm.Cond.instanceMethod ({ cls := "java/lang/String", name := "isLatin1", desc := "()Z" } : Jvm.MethodName)) ∈ am_T0 := am_t2 (List.mem_of_getElem? (i := 232) rfl) rfl
set_option maxRecDepth 100000 in
theorem kw_473 : (Jvm.Cond.selects "java/lang/String" ({ cls := "java/lang/String", name := "isLatin1", desc := "()Z" } : Jvm.MethodName) ({ cls := "java/lang/String", name := "isLatin1", desc := "()Z" } : Jvm.MethodName)) ∈ am_T0 := am_t2 (List.mem_of_getElem? (i := 233) rfl) rfl
set_option maxRecDepth 100000 in
theorem kw_474 : (Jvm.Cond.code ({ cls := "java/lang/String", name := "isLatin1", desc := "()Z" } : Jvm.MethodName) prog_16_method_154_code (1 : Nat) (Option.some Jvm.ClassFile.FieldType.boolean)) ∈ am_T0 := am_t2 (List.mem_of_getElem? (i := 234) rfl) rfl
set_option maxRecDepth 100000 in
theorem kw_475 : (Jvm.Cond.methodLink "java/lang/String" (495 : Nat) ({ cls := "java/lang/StringLatin1", name := "charAt", desc := "([BI)C" } : Jvm.MethodName)) ∈ am_T0 := am_t2 (List.mem_of_getElem? (i := 235) rfl) rfl
set_option maxRecDepth 100000 in
theorem kw_476 : (Jvm.Cond.static ({ cls := "java/lang/StringLatin1", name := "charAt", desc := "([BI)C" } : Jvm.MethodName)) ∈ am_T0 := am_t2 (List.mem_of_getElem? (i := 236) rfl) rfl
set_option maxRecDepth 100000 in
theorem kw_477 : (Jvm.Cond.code ({ cls := "java/lang/StringLatin1", name := "charAt", desc := "([BI)C" } : Jvm.MethodName) prog_17_method_2_code (2 : Nat) (Option.some Jvm.ClassFile.FieldType.char)) ∈ am_T0 := am_t2 (List.mem_of_getElem? (i := 237) rfl) rfl
set_option maxRecDepth 100000 in
theorem kw_478 : (Jvm.Cond.methodLink "java/lang/StringLatin1" (9 : Nat) ({ cls := "java/lang/String", name := "checkIndex", desc := "(II)V" } : Jvm.MethodName)) ∈ am_T0 := am_t2 (List.mem_of_getElem? (i := 238) rfl) rfl
set_option maxRecDepth 100000 in
theorem kw_479 : (Jvm.Cond.static ({ cls := "java/lang/String", name := "checkIndex", desc := "(II)V" } : Jvm.MethodName)) ∈ am_T0 := am_t2 (List.mem_of_getElem? (i := 239) rfl) rfl
set_option maxRecDepth 100000 in
theorem kw_480 : (Jvm.Cond.code ({ cls := "java/lang/String", name := "checkIndex", desc := "(II)V" } : Jvm.MethodName) prog_16_method_155_code (2 : Nat) (Option.none : Option Jvm.ClassFile.FieldType)) ∈ am_T0 := am_t3 (List.mem_of_getElem? (i := 0) rfl) rfl
set_option maxRecDepth 100000 in
theorem kw_481 : (Jvm.Cond.fieldLink "java/lang/String" (1053 : Nat) "jdk/internal/util/Preconditions" "SIOOBE_FORMATTER" "Ljava/util/function/BiFunction;") ∈ am_T0 := am_t3 (List.mem_of_getElem? (i := 1) rfl) rfl
set_option maxRecDepth 100000 in
theorem kn_482 : (Jvm.Cond.laysStatic "jdk/internal/util/Preconditions" "SIOOBE_FORMATTER" "Ljava/util/function/BiFunction;") ∈ lw_tbl := am_tl3 (List.mem_of_getElem? (i := 2) rfl)
set_option maxRecDepth 100000 in
theorem kw_483 : (Jvm.Cond.methodLink "java/lang/String" (1059 : Nat) ({ cls := "jdk/internal/util/Preconditions", name := "checkIndex", desc := "(IILjava/util/function/BiFunction;)I" } : Jvm.MethodName)) ∈ am_T0 := am_t3 (List.mem_of_getElem? (i := 3) rfl) rfl
set_option maxRecDepth 100000 in
theorem kw_484 : (Jvm.Cond.static ({ cls := "jdk/internal/util/Preconditions", name := "checkIndex", desc := "(IILjava/util/function/BiFunction;)I" } : Jvm.MethodName)) ∈ am_T0 := am_t3 (List.mem_of_getElem? (i := 4) rfl) rfl
set_option maxRecDepth 100000 in
theorem kw_485 : (Jvm.Cond.code ({ cls := "jdk/internal/util/Preconditions", name := "checkIndex", desc := "(IILjava/util/function/BiFunction;)I" } : Jvm.MethodName) prog_20_method_11_code (3 : Nat) (Option.some Jvm.ClassFile.FieldType.int)) ∈ am_T0 := am_t3 (List.mem_of_getElem? (i := 5) rfl) rfl
set_option maxRecDepth 100000 in
theorem kw_486 : (Jvm.Cond.methodLink "java/lang/String" (498 : Nat) ({ cls := "java/lang/StringUTF16", name := "charAt", desc := "([BI)C" } : Jvm.MethodName)) ∈ am_T0 := am_t3 (List.mem_of_getElem? (i := 6) rfl) rfl
set_option maxRecDepth 100000 in
theorem kw_487 : (Jvm.Cond.static ({ cls := "java/lang/StringUTF16", name := "charAt", desc := "([BI)C" } : Jvm.MethodName)) ∈ am_T0 := am_t3 (List.mem_of_getElem? (i := 7) rfl) rfl
set_option maxRecDepth 100000 in
theorem kw_488 : (Jvm.Cond.code ({ cls := "java/lang/StringUTF16", name := "charAt", desc := "([BI)C" } : Jvm.MethodName) prog_18_method_83_code (2 : Nat) (Option.some Jvm.ClassFile.FieldType.char)) ∈ am_T0 := am_t3 (List.mem_of_getElem? (i := 8) rfl) rfl
set_option maxRecDepth 100000 in
theorem kw_489 : (Jvm.Cond.methodLink "java/lang/StringUTF16" (67 : Nat) ({ cls := "java/lang/StringUTF16", name := "checkIndex", desc := "(I[B)V" } : Jvm.MethodName)) ∈ am_T0 := am_t3 (List.mem_of_getElem? (i := 9) rfl) rfl
set_option maxRecDepth 100000 in
theorem kw_490 : (Jvm.Cond.static ({ cls := "java/lang/StringUTF16", name := "checkIndex", desc := "(I[B)V" } : Jvm.MethodName)) ∈ am_T0 := am_t3 (List.mem_of_getElem? (i := 10) rfl) rfl
set_option maxRecDepth 100000 in
theorem kw_491 : (Jvm.Cond.code ({ cls := "java/lang/StringUTF16", name := "checkIndex", desc := "(I[B)V" } : Jvm.MethodName) prog_18_method_91_code (2 : Nat) (Option.none : Option Jvm.ClassFile.FieldType)) ∈ am_T0 := am_t3 (List.mem_of_getElem? (i := 11) rfl) rfl
set_option maxRecDepth 100000 in
theorem kw_492 : (Jvm.Cond.methodLink "java/lang/StringUTF16" (48 : Nat) ({ cls := "java/lang/StringUTF16", name := "length", desc := "([B)I" } : Jvm.MethodName)) ∈ am_T0 := am_t3 (List.mem_of_getElem? (i := 12) rfl) rfl
set_option maxRecDepth 100000 in
theorem kw_493 : (Jvm.Cond.static ({ cls := "java/lang/StringUTF16", name := "length", desc := "([B)I" } : Jvm.MethodName)) ∈ am_T0 := am_t3 (List.mem_of_getElem? (i := 13) rfl) rfl
set_option maxRecDepth 100000 in
theorem kw_494 : (Jvm.Cond.code ({ cls := "java/lang/StringUTF16", name := "length", desc := "([B)I" } : Jvm.MethodName) prog_18_method_6_code (1 : Nat) (Option.some Jvm.ClassFile.FieldType.int)) ∈ am_T0 := am_t3 (List.mem_of_getElem? (i := 14) rfl) rfl
set_option maxRecDepth 100000 in
theorem kw_495 : (Jvm.Cond.methodLink "java/lang/StringUTF16" (414 : Nat) ({ cls := "java/lang/String", name := "checkIndex", desc := "(II)V" } : Jvm.MethodName)) ∈ am_T0 := am_t3 (List.mem_of_getElem? (i := 15) rfl) rfl
set_option maxRecDepth 100000 in
theorem kw_496 : (Jvm.Cond.methodLink "java/lang/StringUTF16" (71 : Nat) ({ cls := "java/lang/StringUTF16", name := "getChar", desc := "([BI)C" } : Jvm.MethodName)) ∈ am_T0 := am_t3 (List.mem_of_getElem? (i := 16) rfl) rfl
set_option maxRecDepth 100000 in
theorem kw_497 : (Jvm.Cond.static ({ cls := "java/lang/StringUTF16", name := "getChar", desc := "([BI)C" } : Jvm.MethodName)) ∈ am_T0 := am_t3 (List.mem_of_getElem? (i := 17) rfl) rfl
set_option maxRecDepth 100000 in
theorem kw_498 : (Jvm.Cond.code ({ cls := "java/lang/StringUTF16", name := "getChar", desc := "([BI)C" } : Jvm.MethodName) prog_18_method_5_code (2 : Nat) (Option.some Jvm.ClassFile.FieldType.char)) ∈ am_T0 := am_t3 (List.mem_of_getElem? (i := 18) rfl) rfl
set_option maxRecDepth 100000 in
theorem kw_499 : (Jvm.Cond.fieldLink "java/lang/StringUTF16" (44 : Nat) "java/lang/StringUTF16" "$assertionsDisabled" "Z") ∈ am_T0 := am_t3 (List.mem_of_getElem? (i := 19) rfl) rfl
set_option maxRecDepth 100000 in
theorem kn_500 : (Jvm.Cond.laysStatic "java/lang/StringUTF16" "$assertionsDisabled" "Z") ∈ lw_tbl := am_tl3 (List.mem_of_getElem? (i := 20) rfl)
set_option maxRecDepth 100000 in
theorem kw_501 : (Jvm.Cond.fieldLink "java/lang/StringUTF16" (59 : Nat) "java/lang/StringUTF16" "HI_BYTE_SHIFT" "I") ∈ am_T0 := am_t3 (List.mem_of_getElem? (i := 21) rfl) rfl
set_option maxRecDepth 100000 in
theorem kn_502 : (Jvm.Cond.laysStatic "java/lang/StringUTF16" "HI_BYTE_SHIFT" "I") ∈ lw_tbl := am_tl3 (List.mem_of_getElem? (i := 22) rfl)
set_option maxRecDepth 100000 in
theorem kw_503 : (Jvm.Cond.fieldLink "java/lang/StringUTF16" (63 : Nat) "java/lang/StringUTF16" "LO_BYTE_SHIFT" "I") ∈ am_T0 := am_t3 (List.mem_of_getElem? (i := 23) rfl) rfl
set_option maxRecDepth 100000 in
theorem kn_504 : (Jvm.Cond.laysStatic "java/lang/StringUTF16" "LO_BYTE_SHIFT" "I") ∈ lw_tbl := am_tl3 (List.mem_of_getElem? (i := 24) rfl)
set_option maxRecDepth 100000 in
theorem kw_505 : (Jvm.Cond.methodLink "LargeBubble$Text" (33 : Nat) ({ cls := "LargeBubble$Text", name := "passSign", desc := "(I)Z" } : Jvm.MethodName)) ∈ am_T0 := am_t3 (List.mem_of_getElem? (i := 25) rfl) rfl
set_option maxRecDepth 100000 in
theorem kw_507 : (Jvm.Cond.instanceMethod ({ cls := "LargeBubble$Text", name := "passSign", desc := "(I)Z" } : Jvm.MethodName)) ∈ am_T0 := am_t3 (List.mem_of_getElem? (i := 27) rfl) rfl
set_option maxRecDepth 100000 in
theorem kw_508 : (Jvm.Cond.code ({ cls := "LargeBubble$Text", name := "passSign", desc := "(I)Z" } : Jvm.MethodName) prog_10_method_14_code (2 : Nat) (Option.some Jvm.ClassFile.FieldType.boolean)) ∈ am_T0 := am_t3 (List.mem_of_getElem? (i := 28) rfl) rfl
set_option maxRecDepth 100000 in
theorem kn_509 : (Jvm.Cond.stringRef "LargeBubble$Text" (61 : Nat) "dry") ∈ lw_tbl := am_tl3 (List.mem_of_getElem? (i := 29) rfl)
set_option maxRecDepth 100000 in
theorem kn_510 : (Jvm.Cond.stringRef "LargeBubble$Text" (63 : Nat) "coin") ∈ lw_tbl := am_tl3 (List.mem_of_getElem? (i := 30) rfl)
set_option maxRecDepth 100000 in
theorem kw_511 : (Jvm.Cond.methodLink "LargeBubble$Text" (41 : Nat) ({ cls := "LargeBubble$Text", name := "readNumber", desc := "()I" } : Jvm.MethodName)) ∈ am_T0 := am_t3 (List.mem_of_getElem? (i := 31) rfl) rfl
set_option maxRecDepth 100000 in
theorem kw_513 : (Jvm.Cond.instanceMethod ({ cls := "LargeBubble$Text", name := "readNumber", desc := "()I" } : Jvm.MethodName)) ∈ am_T0 := am_t3 (List.mem_of_getElem? (i := 33) rfl) rfl
set_option maxRecDepth 100000 in
theorem kw_514 : (Jvm.Cond.code ({ cls := "LargeBubble$Text", name := "readNumber", desc := "()I" } : Jvm.MethodName) prog_10_method_8_code (4 : Nat) (Option.some Jvm.ClassFile.FieldType.int)) ∈ am_T0 := am_t3 (List.mem_of_getElem? (i := 34) rfl) rfl
set_option maxRecDepth 100000 in
theorem kw_515 : (Jvm.Cond.methodLink "LargeBubble$Text" (44 : Nat) ({ cls := "LargeBubble$Text", name := "readEither", desc := "(LLargeBubble$Square;I)Z" } : Jvm.MethodName)) ∈ am_T0 := am_t3 (List.mem_of_getElem? (i := 35) rfl) rfl
set_option maxRecDepth 100000 in
theorem kw_517 : (Jvm.Cond.instanceMethod ({ cls := "LargeBubble$Text", name := "readEither", desc := "(LLargeBubble$Square;I)Z" } : Jvm.MethodName)) ∈ am_T0 := am_t3 (List.mem_of_getElem? (i := 37) rfl) rfl
set_option maxRecDepth 100000 in
theorem kw_518 : (Jvm.Cond.code ({ cls := "LargeBubble$Text", name := "readEither", desc := "(LLargeBubble$Square;I)Z" } : Jvm.MethodName) prog_10_method_9_code (4 : Nat) (Option.some Jvm.ClassFile.FieldType.boolean)) ∈ am_T0 := am_t3 (List.mem_of_getElem? (i := 38) rfl) rfl
set_option maxRecDepth 100000 in
theorem kw_519 : (Jvm.Cond.methodLink "LargeBubble$Text" (73 : Nat) ({ cls := "LargeBubble$Text", name := "readBoth", desc := "(LLargeBubble$Square;I)Z" } : Jvm.MethodName)) ∈ am_T0 := am_t3 (List.mem_of_getElem? (i := 39) rfl) rfl
set_option maxRecDepth 100000 in
theorem kw_521 : (Jvm.Cond.instanceMethod ({ cls := "LargeBubble$Text", name := "readBoth", desc := "(LLargeBubble$Square;I)Z" } : Jvm.MethodName)) ∈ am_T0 := am_t3 (List.mem_of_getElem? (i := 41) rfl) rfl
set_option maxRecDepth 100000 in
theorem kw_522 : (Jvm.Cond.code ({ cls := "LargeBubble$Text", name := "readBoth", desc := "(LLargeBubble$Square;I)Z" } : Jvm.MethodName) prog_10_method_10_code (4 : Nat) (Option.some Jvm.ClassFile.FieldType.boolean)) ∈ am_T0 := am_t3 (List.mem_of_getElem? (i := 42) rfl) rfl
set_option maxRecDepth 100000 in
theorem kw_523 : (Jvm.Cond.methodLink "LargeBubble$Text" (80 : Nat) ({ cls := "LargeBubble$Text", name := "readPart", desc := "(LLargeBubble$Square;I)Z" } : Jvm.MethodName)) ∈ am_T0 := am_t3 (List.mem_of_getElem? (i := 43) rfl) rfl
set_option maxRecDepth 100000 in
theorem kw_525 : (Jvm.Cond.instanceMethod ({ cls := "LargeBubble$Text", name := "readPart", desc := "(LLargeBubble$Square;I)Z" } : Jvm.MethodName)) ∈ am_T0 := am_t3 (List.mem_of_getElem? (i := 45) rfl) rfl
set_option maxRecDepth 100000 in
theorem kw_526 : (Jvm.Cond.code ({ cls := "LargeBubble$Text", name := "readPart", desc := "(LLargeBubble$Square;I)Z" } : Jvm.MethodName) prog_10_method_11_code (4 : Nat) (Option.some Jvm.ClassFile.FieldType.boolean)) ∈ am_T0 := am_t3 (List.mem_of_getElem? (i := 46) rfl) rfl
set_option maxRecDepth 100000 in
theorem kw_527 : (Jvm.Cond.methodLink "LargeBubble$Text" (83 : Nat) ({ cls := "LargeBubble$Text", name := "readTest", desc := "(LLargeBubble$Square;)Z" } : Jvm.MethodName)) ∈ am_T0 := am_t3 (List.mem_of_getElem? (i := 47) rfl) rfl
set_option maxRecDepth 100000 in
theorem kw_529 : (Jvm.Cond.instanceMethod ({ cls := "LargeBubble$Text", name := "readTest", desc := "(LLargeBubble$Square;)Z" } : Jvm.MethodName)) ∈ am_T0 := am_t3 (List.mem_of_getElem? (i := 49) rfl) rfl
set_option maxRecDepth 100000 in
theorem kw_530 : (Jvm.Cond.code ({ cls := "LargeBubble$Text", name := "readTest", desc := "(LLargeBubble$Square;)Z" } : Jvm.MethodName) prog_10_method_12_code (5 : Nat) (Option.some Jvm.ClassFile.FieldType.boolean)) ∈ am_T0 := am_t3 (List.mem_of_getElem? (i := 50) rfl) rfl
set_option maxRecDepth 100000 in
theorem kn_531 : (Jvm.Cond.stringRef "LargeBubble$Text" (86 : Nat) "bkvmsf") ∈ lw_tbl := am_tl3 (List.mem_of_getElem? (i := 51) rfl)
set_option maxRecDepth 100000 in
theorem kw_532 : (Jvm.Cond.methodLink "LargeBubble$Text" (88 : Nat) ({ cls := "LargeBubble$Text", name := "readOneOf", desc := "(Ljava/lang/String;)I" } : Jvm.MethodName)) ∈ am_T0 := am_t3 (List.mem_of_getElem? (i := 52) rfl) rfl
set_option maxRecDepth 100000 in
theorem kw_534 : (Jvm.Cond.instanceMethod ({ cls := "LargeBubble$Text", name := "readOneOf", desc := "(Ljava/lang/String;)I" } : Jvm.MethodName)) ∈ am_T0 := am_t3 (List.mem_of_getElem? (i := 54) rfl) rfl
set_option maxRecDepth 100000 in
theorem kw_535 : (Jvm.Cond.code ({ cls := "LargeBubble$Text", name := "readOneOf", desc := "(Ljava/lang/String;)I" } : Jvm.MethodName) prog_10_method_13_code (4 : Nat) (Option.some Jvm.ClassFile.FieldType.int)) ∈ am_T0 := am_t3 (List.mem_of_getElem? (i := 55) rfl) rfl
set_option maxRecDepth 100000 in
theorem kn_536 : (Jvm.Cond.stringRef "LargeBubble$Text" (92 : Nat) "<=>") ∈ lw_tbl := am_tl3 (List.mem_of_getElem? (i := 56) rfl)
set_option maxRecDepth 100000 in
theorem kw_537 : (Jvm.Cond.methodLink "LargeBubble$Text" (76 : Nat) ({ cls := "LargeBubble$Square", name := "add", desc := "(III)V" } : Jvm.MethodName)) ∈ am_T0 := am_t3 (List.mem_of_getElem? (i := 57) rfl) rfl
set_option maxRecDepth 100000 in
theorem kw_538 : (Jvm.Cond.instanceMethod ({ cls := "LargeBubble$Square", name := "add", desc := "(III)V" } : Jvm.MethodName)) ∈ am_T0 := am_t3 (List.mem_of_getElem? (i := 58) rfl) rfl
set_option maxRecDepth 100000 in
theorem kw_539 : (Jvm.Cond.selects "LargeBubble$Square" ({ cls := "LargeBubble$Square", name := "add", desc := "(III)V" } : Jvm.MethodName) ({ cls := "LargeBubble$Square", name := "add", desc := "(III)V" } : Jvm.MethodName)) ∈ am_T0 := am_t3 (List.mem_of_getElem? (i := 59) rfl) rfl
set_option maxRecDepth 100000 in
theorem kw_540 : (Jvm.Cond.code ({ cls := "LargeBubble$Square", name := "add", desc := "(III)V" } : Jvm.MethodName) prog_8_method_3_code (4 : Nat) (Option.none : Option Jvm.ClassFile.FieldType)) ∈ am_T0 := am_t3 (List.mem_of_getElem? (i := 60) rfl) rfl
set_option maxRecDepth 100000 in
theorem kw_541 : (Jvm.Cond.methodLink "LargeBubble$Text" (48 : Nat) ({ cls := "LargeBubble$Square", name := "close", desc := "(II)V" } : Jvm.MethodName)) ∈ am_T0 := am_t3 (List.mem_of_getElem? (i := 61) rfl) rfl
set_option maxRecDepth 100000 in
theorem kw_542 : (Jvm.Cond.instanceMethod ({ cls := "LargeBubble$Square", name := "close", desc := "(II)V" } : Jvm.MethodName)) ∈ am_T0 := am_t3 (List.mem_of_getElem? (i := 62) rfl) rfl
set_option maxRecDepth 100000 in
theorem kw_543 : (Jvm.Cond.selects "LargeBubble$Square" ({ cls := "LargeBubble$Square", name := "close", desc := "(II)V" } : Jvm.MethodName) ({ cls := "LargeBubble$Square", name := "close", desc := "(II)V" } : Jvm.MethodName)) ∈ am_T0 := am_t3 (List.mem_of_getElem? (i := 63) rfl) rfl
set_option maxRecDepth 100000 in
theorem kw_544 : (Jvm.Cond.code ({ cls := "LargeBubble$Square", name := "close", desc := "(II)V" } : Jvm.MethodName) prog_8_method_4_code (3 : Nat) (Option.none : Option Jvm.ClassFile.FieldType)) ∈ am_T0 := am_t3 (List.mem_of_getElem? (i := 64) rfl) rfl
set_option maxRecDepth 100000 in
theorem kw_545 : (Jvm.Cond.methodLink "LargeBubbleLaw" (46 : Nat) ({ cls := "LargeBubble", name := "told", desc := "(I)I" } : Jvm.MethodName)) ∈ am_T0 := am_t3 (List.mem_of_getElem? (i := 65) rfl) rfl
set_option maxRecDepth 100000 in
theorem kw_546 : (Jvm.Cond.instanceMethod ({ cls := "LargeBubble", name := "told", desc := "(I)I" } : Jvm.MethodName)) ∈ am_T0 := am_t3 (List.mem_of_getElem? (i := 66) rfl) rfl
set_option maxRecDepth 100000 in
theorem kw_547 : (Jvm.Cond.selects "LargeBubble" ({ cls := "LargeBubble", name := "told", desc := "(I)I" } : Jvm.MethodName) ({ cls := "LargeBubble", name := "told", desc := "(I)I" } : Jvm.MethodName)) ∈ am_T0 := am_t3 (List.mem_of_getElem? (i := 67) rfl) rfl
set_option maxRecDepth 100000 in
theorem kw_548 : (Jvm.Cond.code ({ cls := "LargeBubble", name := "told", desc := "(I)I" } : Jvm.MethodName) prog_1_method_9_code (2 : Nat) (Option.some Jvm.ClassFile.FieldType.int)) ∈ am_T0 := am_t3 (List.mem_of_getElem? (i := 68) rfl) rfl
set_option maxRecDepth 100000 in
theorem kw_549 : (Jvm.Cond.methodLink "LargeBubble" (139 : Nat) ({ cls := "LargeBubble$State", name := "good", desc := "()I" } : Jvm.MethodName)) ∈ am_T0 := am_t3 (List.mem_of_getElem? (i := 69) rfl) rfl
set_option maxRecDepth 100000 in
theorem kw_550 : (Jvm.Cond.instanceMethod ({ cls := "LargeBubble$State", name := "good", desc := "()I" } : Jvm.MethodName)) ∈ am_T0 := am_t3 (List.mem_of_getElem? (i := 70) rfl) rfl
set_option maxRecDepth 100000 in
theorem kw_551 : (Jvm.Cond.selects "LargeBubble$State" ({ cls := "LargeBubble$State", name := "good", desc := "()I" } : Jvm.MethodName) ({ cls := "LargeBubble$State", name := "good", desc := "()I" } : Jvm.MethodName)) ∈ am_T0 := am_t3 (List.mem_of_getElem? (i := 71) rfl) rfl
set_option maxRecDepth 100000 in
theorem kw_552 : (Jvm.Cond.code ({ cls := "LargeBubble$State", name := "good", desc := "()I" } : Jvm.MethodName) prog_9_method_2_code (1 : Nat) (Option.some Jvm.ClassFile.FieldType.int)) ∈ am_T0 := am_t3 (List.mem_of_getElem? (i := 72) rfl) rfl
set_option maxRecDepth 100000 in
theorem kw_553 : (Jvm.Cond.methodLink "LargeBubble$State" (58 : Nat) ({ cls := "LargeBubble$State", name := "goodOf", desc := "(III)I" } : Jvm.MethodName)) ∈ am_T0 := am_t3 (List.mem_of_getElem? (i := 73) rfl) rfl
set_option maxRecDepth 100000 in
theorem kw_554 : (Jvm.Cond.static ({ cls := "LargeBubble$State", name := "goodOf", desc := "(III)I" } : Jvm.MethodName)) ∈ am_T0 := am_t3 (List.mem_of_getElem? (i := 74) rfl) rfl
set_option maxRecDepth 100000 in
theorem kw_555 : (Jvm.Cond.code ({ cls := "LargeBubble$State", name := "goodOf", desc := "(III)I" } : Jvm.MethodName) prog_9_method_3_code (3 : Nat) (Option.some Jvm.ClassFile.FieldType.int)) ∈ am_T0 := am_t3 (List.mem_of_getElem? (i := 75) rfl) rfl
set_option maxRecDepth 100000 in
theorem kw_556 : (Jvm.Cond.methodLink "LargeBubble$State" (62 : Nat) ({ cls := "java/lang/Math", name := "abs", desc := "(I)I" } : Jvm.MethodName)) ∈ am_T0 := am_t3 (List.mem_of_getElem? (i := 76) rfl) rfl
set_option maxRecDepth 100000 in
theorem kw_557 : (Jvm.Cond.static ({ cls := "java/lang/Math", name := "abs", desc := "(I)I" } : Jvm.MethodName)) ∈ am_T0 := am_t3 (List.mem_of_getElem? (i := 77) rfl) rfl
set_option maxRecDepth 100000 in
theorem kw_558 : (Jvm.Cond.code ({ cls := "java/lang/Math", name := "abs", desc := "(I)I" } : Jvm.MethodName) prog_15_method_59_code (1 : Nat) (Option.some Jvm.ClassFile.FieldType.int)) ∈ am_T0 := am_t3 (List.mem_of_getElem? (i := 78) rfl) rfl
set_option maxRecDepth 100000 in
theorem kw_559 : (Jvm.Cond.methodLink "LargeBubble$State" (68 : Nat) ({ cls := "java/lang/Math", name := "max", desc := "(II)I" } : Jvm.MethodName)) ∈ am_T0 := am_t3 (List.mem_of_getElem? (i := 79) rfl) rfl
set_option maxRecDepth 100000 in
theorem kw_560 : (Jvm.Cond.static ({ cls := "java/lang/Math", name := "max", desc := "(II)I" } : Jvm.MethodName)) ∈ am_T0 := am_t3 (List.mem_of_getElem? (i := 80) rfl) rfl
set_option maxRecDepth 100000 in
theorem kw_561 : (Jvm.Cond.code ({ cls := "java/lang/Math", name := "max", desc := "(II)I" } : Jvm.MethodName) prog_15_method_65_code (2 : Nat) (Option.some Jvm.ClassFile.FieldType.int)) ∈ am_T0 := am_t3 (List.mem_of_getElem? (i := 81) rfl) rfl
set_option maxRecDepth 100000 in
theorem kw_562 : (Jvm.Cond.methodLink "LargeBubbleLaw" (50 : Nat) ({ cls := "LargeBubble", name := "pause", desc := "(I)I" } : Jvm.MethodName)) ∈ am_T0 := am_t3 (List.mem_of_getElem? (i := 82) rfl) rfl
set_option maxRecDepth 100000 in
theorem kw_563 : (Jvm.Cond.instanceMethod ({ cls := "LargeBubble", name := "pause", desc := "(I)I" } : Jvm.MethodName)) ∈ am_T0 := am_t3 (List.mem_of_getElem? (i := 83) rfl) rfl
set_option maxRecDepth 100000 in
theorem kw_564 : (Jvm.Cond.selects "LargeBubble" ({ cls := "LargeBubble", name := "pause", desc := "(I)I" } : Jvm.MethodName) ({ cls := "LargeBubble", name := "pause", desc := "(I)I" } : Jvm.MethodName)) ∈ am_T0 := am_t3 (List.mem_of_getElem? (i := 84) rfl) rfl
set_option maxRecDepth 100000 in
theorem kw_565 : (Jvm.Cond.code ({ cls := "LargeBubble", name := "pause", desc := "(I)I" } : Jvm.MethodName) prog_1_method_10_code (2 : Nat) (Option.some Jvm.ClassFile.FieldType.int)) ∈ am_T0 := am_t3 (List.mem_of_getElem? (i := 85) rfl) rfl
set_option maxRecDepth 100000 in
theorem kw_566 : (Jvm.Cond.methodLink "LargeBubbleLaw" (54 : Nat) ({ cls := "LargeBubble", name := "go", desc := "(I)I" } : Jvm.MethodName)) ∈ am_T0 := am_t3 (List.mem_of_getElem? (i := 86) rfl) rfl
set_option maxRecDepth 100000 in
theorem kw_567 : (Jvm.Cond.instanceMethod ({ cls := "LargeBubble", name := "go", desc := "(I)I" } : Jvm.MethodName)) ∈ am_T0 := am_t3 (List.mem_of_getElem? (i := 87) rfl) rfl
set_option maxRecDepth 100000 in
theorem kw_568 : (Jvm.Cond.selects "LargeBubble" ({ cls := "LargeBubble", name := "go", desc := "(I)I" } : Jvm.MethodName) ({ cls := "LargeBubble", name := "go", desc := "(I)I" } : Jvm.MethodName)) ∈ am_T0 := am_t3 (List.mem_of_getElem? (i := 88) rfl) rfl
set_option maxRecDepth 100000 in
theorem kw_569 : (Jvm.Cond.code ({ cls := "LargeBubble", name := "go", desc := "(I)I" } : Jvm.MethodName) prog_1_method_11_code (3 : Nat) (Option.some Jvm.ClassFile.FieldType.int)) ∈ am_T0 := am_t3 (List.mem_of_getElem? (i := 89) rfl) rfl
set_option maxRecDepth 100000 in
theorem kw_570 : (Jvm.Cond.methodLink "LargeBubble" (146 : Nat) ({ cls := "LargeBubble", name := "begin", desc := "(LLargeBubble$Blower;)V" } : Jvm.MethodName)) ∈ am_T0 := am_t3 (List.mem_of_getElem? (i := 90) rfl) rfl
set_option maxRecDepth 100000 in
theorem kw_572 : (Jvm.Cond.instanceMethod ({ cls := "LargeBubble", name := "begin", desc := "(LLargeBubble$Blower;)V" } : Jvm.MethodName)) ∈ am_T0 := am_t3 (List.mem_of_getElem? (i := 92) rfl) rfl
set_option maxRecDepth 100000 in
theorem kw_573 : (Jvm.Cond.code ({ cls := "LargeBubble", name := "begin", desc := "(LLargeBubble$Blower;)V" } : Jvm.MethodName) prog_1_method_42_code (2 : Nat) (Option.none : Option Jvm.ClassFile.FieldType)) ∈ am_T0 := am_t3 (List.mem_of_getElem? (i := 93) rfl) rfl
set_option maxRecDepth 100000 in
theorem kw_574 : (Jvm.Cond.methodLink "LargeBubble" (150 : Nat) ({ cls := "LargeBubble$Course", name := "run", desc := "(LLargeBubble$Blower;)V" } : Jvm.MethodName)) ∈ am_T0 := am_t3 (List.mem_of_getElem? (i := 94) rfl) rfl
set_option maxRecDepth 100000 in
theorem kw_575 : (Jvm.Cond.instanceMethod ({ cls := "LargeBubble$Course", name := "run", desc := "(LLargeBubble$Blower;)V" } : Jvm.MethodName)) ∈ am_T0 := am_t3 (List.mem_of_getElem? (i := 95) rfl) rfl
set_option maxRecDepth 100000 in
theorem kw_576 : (Jvm.Cond.selects "LargeBubble$Course" ({ cls := "LargeBubble$Course", name := "run", desc := "(LLargeBubble$Blower;)V" } : Jvm.MethodName) ({ cls := "LargeBubble$Course", name := "run", desc := "(LLargeBubble$Blower;)V" } : Jvm.MethodName)) ∈ am_T0 := am_t3 (List.mem_of_getElem? (i := 96) rfl) rfl
set_option maxRecDepth 100000 in
theorem kw_577 : (Jvm.Cond.code ({ cls := "LargeBubble$Course", name := "run", desc := "(LLargeBubble$Blower;)V" } : Jvm.MethodName) prog_5_method_2_code (3 : Nat) (Option.none : Option Jvm.ClassFile.FieldType)) ∈ am_T0 := am_t3 (List.mem_of_getElem? (i := 97) rfl) rfl
set_option maxRecDepth 100000 in
theorem kw_578 : (Jvm.Cond.methodLink "LargeBubble$Course" (62 : Nat) ({ cls := "LargeBubble$Blower", name := "tellLetters", desc := "([I)V" } : Jvm.MethodName)) ∈ am_T0 := am_t3 (List.mem_of_getElem? (i := 98) rfl) rfl
set_option maxRecDepth 100000 in
theorem kw_579 : (Jvm.Cond.instanceMethod ({ cls := "LargeBubble$Blower", name := "tellLetters", desc := "([I)V" } : Jvm.MethodName)) ∈ am_T0 := am_t3 (List.mem_of_getElem? (i := 99) rfl) rfl
set_option maxRecDepth 100000 in
theorem kw_580 : (Jvm.Cond.selects "LargeBubble$Blower" ({ cls := "LargeBubble$Blower", name := "tellLetters", desc := "([I)V" } : Jvm.MethodName) ({ cls := "LargeBubble$Blower", name := "tellLetters", desc := "([I)V" } : Jvm.MethodName)) ∈ am_T0 := am_t3 (List.mem_of_getElem? (i := 100) rfl) rfl
set_option maxRecDepth 100000 in
theorem kw_581 : (Jvm.Cond.sameMethod "LargeBubble$Blower" "LargeBubble$Blower" "tellLetters" "([I)V") ∈ am_T0 := am_t3 (List.mem_of_getElem? (i := 101) rfl) rfl
set_option maxRecDepth 100000 in
theorem kw_582 : (Jvm.Cond.selects "LargeBubble$Bold" ({ cls := "LargeBubble$Blower", name := "tellLetters", desc := "([I)V" } : Jvm.MethodName) ({ cls := "LargeBubble$Blower", name := "tellLetters", desc := "([I)V" } : Jvm.MethodName)) ∈ am_T0 := am_t3 (List.mem_of_getElem? (i := 102) rfl) rfl
set_option maxRecDepth 100000 in
theorem kw_583 : (Jvm.Cond.selects "LargeBubble$Careful" ({ cls := "LargeBubble$Blower", name := "tellLetters", desc := "([I)V" } : Jvm.MethodName) ({ cls := "LargeBubble$Blower", name := "tellLetters", desc := "([I)V" } : Jvm.MethodName)) ∈ am_T0 := am_t3 (List.mem_of_getElem? (i := 103) rfl) rfl
set_option maxRecDepth 100000 in
theorem kw_584 : (Jvm.Cond.selects "LargeBubble$Mad" ({ cls := "LargeBubble$Blower", name := "tellLetters", desc := "([I)V" } : Jvm.MethodName) ({ cls := "LargeBubble$Blower", name := "tellLetters", desc := "([I)V" } : Jvm.MethodName)) ∈ am_T0 := am_t3 (List.mem_of_getElem? (i := 104) rfl) rfl
set_option maxRecDepth 100000 in
theorem kw_585 : (Jvm.Cond.selects "LargeBubble$Slow" ({ cls := "LargeBubble$Blower", name := "tellLetters", desc := "([I)V" } : Jvm.MethodName) ({ cls := "LargeBubble$Blower", name := "tellLetters", desc := "([I)V" } : Jvm.MethodName)) ∈ am_T0 := am_t3 (List.mem_of_getElem? (i := 105) rfl) rfl
set_option maxRecDepth 100000 in
theorem kw_586 : (Jvm.Cond.selects "LargeBubble$Told" ({ cls := "LargeBubble$Blower", name := "tellLetters", desc := "([I)V" } : Jvm.MethodName) ({ cls := "LargeBubble$Blower", name := "tellLetters", desc := "([I)V" } : Jvm.MethodName)) ∈ am_T0 := am_t3 (List.mem_of_getElem? (i := 106) rfl) rfl
set_option maxRecDepth 100000 in
theorem kw_587 : (Jvm.Cond.selects "LargeBubble$Wise" ({ cls := "LargeBubble$Blower", name := "tellLetters", desc := "([I)V" } : Jvm.MethodName) ({ cls := "LargeBubble$Blower", name := "tellLetters", desc := "([I)V" } : Jvm.MethodName)) ∈ am_T0 := am_t3 (List.mem_of_getElem? (i := 107) rfl) rfl
set_option maxRecDepth 100000 in
theorem kw_588 : (Jvm.Cond.code ({ cls := "LargeBubble$Blower", name := "tellLetters", desc := "([I)V" } : Jvm.MethodName) prog_2_method_2_code (2 : Nat) (Option.none : Option Jvm.ClassFile.FieldType)) ∈ am_T0 := am_t3 (List.mem_of_getElem? (i := 108) rfl) rfl
set_option maxRecDepth 100000 in
theorem kw_589 : (Jvm.Cond.methodLink "LargeBubble$Course" (68 : Nat) ({ cls := "LargeBubble$Course", name := "walk", desc := "(LLargeBubble$Blower;)V" } : Jvm.MethodName)) ∈ am_T0 := am_t3 (List.mem_of_getElem? (i := 109) rfl) rfl
set_option maxRecDepth 100000 in
theorem kw_591 : (Jvm.Cond.instanceMethod ({ cls := "LargeBubble$Course", name := "walk", desc := "(LLargeBubble$Blower;)V" } : Jvm.MethodName)) ∈ am_T0 := am_t3 (List.mem_of_getElem? (i := 111) rfl) rfl
set_option maxRecDepth 100000 in
theorem kw_592 : (Jvm.Cond.code ({ cls := "LargeBubble$Course", name := "walk", desc := "(LLargeBubble$Blower;)V" } : Jvm.MethodName) prog_5_method_3_code (4 : Nat) (Option.none : Option Jvm.ClassFile.FieldType)) ∈ am_T0 := am_t3 (List.mem_of_getElem? (i := 112) rfl) rfl
set_option maxRecDepth 100000 in
theorem kw_593 : (Jvm.Cond.methodLink "LargeBubble$Course" (82 : Nat) ({ cls := "LargeBubble$Course", name := "look", desc := "(II)I" } : Jvm.MethodName)) ∈ am_T0 := am_t3 (List.mem_of_getElem? (i := 113) rfl) rfl
set_option maxRecDepth 100000 in
theorem kw_595 : (Jvm.Cond.instanceMethod ({ cls := "LargeBubble$Course", name := "look", desc := "(II)I" } : Jvm.MethodName)) ∈ am_T0 := am_t3 (List.mem_of_getElem? (i := 115) rfl) rfl
set_option maxRecDepth 100000 in
theorem kw_596 : (Jvm.Cond.code ({ cls := "LargeBubble$Course", name := "look", desc := "(II)I" } : Jvm.MethodName) prog_5_method_6_code (3 : Nat) (Option.some Jvm.ClassFile.FieldType.int)) ∈ am_T0 := am_t3 (List.mem_of_getElem? (i := 116) rfl) rfl
set_option maxRecDepth 100000 in
theorem kw_597 : (Jvm.Cond.methodLink "LargeBubble$Course" (96 : Nat) ({ cls := "LargeBubble$Square", name := "together", desc := "(I[II)I" } : Jvm.MethodName)) ∈ am_T0 := am_t3 (List.mem_of_getElem? (i := 117) rfl) rfl
set_option maxRecDepth 100000 in
theorem kw_598 : (Jvm.Cond.instanceMethod ({ cls := "LargeBubble$Square", name := "together", desc := "(I[II)I" } : Jvm.MethodName)) ∈ am_T0 := am_t3 (List.mem_of_getElem? (i := 118) rfl) rfl
set_option maxRecDepth 100000 in
theorem kw_599 : (Jvm.Cond.selects "LargeBubble$Square" ({ cls := "LargeBubble$Square", name := "together", desc := "(I[II)I" } : Jvm.MethodName) ({ cls := "LargeBubble$Square", name := "together", desc := "(I[II)I" } : Jvm.MethodName)) ∈ am_T0 := am_t3 (List.mem_of_getElem? (i := 119) rfl) rfl
set_option maxRecDepth 100000 in
theorem kw_600 : (Jvm.Cond.code ({ cls := "LargeBubble$Square", name := "together", desc := "(I[II)I" } : Jvm.MethodName) prog_8_method_5_code (8 : Nat) (Option.some Jvm.ClassFile.FieldType.int)) ∈ am_T0 := am_t3 (List.mem_of_getElem? (i := 120) rfl) rfl
set_option maxRecDepth 100000 in
theorem kw_601 : (Jvm.Cond.methodLink "LargeBubble$Square" (37 : Nat) ({ cls := "LargeBubble$Square", name := "isSo", desc := "(II[I)Z" } : Jvm.MethodName)) ∈ am_T0 := am_t3 (List.mem_of_getElem? (i := 121) rfl) rfl
set_option maxRecDepth 100000 in
theorem kw_603 : (Jvm.Cond.instanceMethod ({ cls := "LargeBubble$Square", name := "isSo", desc := "(II[I)Z" } : Jvm.MethodName)) ∈ am_T0 := am_t3 (List.mem_of_getElem? (i := 123) rfl) rfl
set_option maxRecDepth 100000 in
theorem kw_604 : (Jvm.Cond.code ({ cls := "LargeBubble$Square", name := "isSo", desc := "(II[I)Z" } : Jvm.MethodName) prog_8_method_6_code (9 : Nat) (Option.some Jvm.ClassFile.FieldType.boolean)) ∈ am_T0 := am_t3 (List.mem_of_getElem? (i := 124) rfl) rfl
set_option maxRecDepth 100000 in
theorem kw_605 : (Jvm.Cond.methodLink "LargeBubble$Course" (86 : Nat) ({ cls := "LargeBubble$Blower", name := "pace", desc := "(I)I" } : Jvm.MethodName)) ∈ am_T0 := am_t3 (List.mem_of_getElem? (i := 125) rfl) rfl
set_option maxRecDepth 100000 in
theorem kw_606 : (Jvm.Cond.instanceMethod ({ cls := "LargeBubble$Blower", name := "pace", desc := "(I)I" } : Jvm.MethodName)) ∈ am_T0 := am_t3 (List.mem_of_getElem? (i := 126) rfl) rfl
set_option maxRecDepth 100000 in
theorem kw_607 : (Jvm.Cond.selects "LargeBubble$Blower" ({ cls := "LargeBubble$Blower", name := "pace", desc := "(I)I" } : Jvm.MethodName) ({ cls := "LargeBubble$Blower", name := "pace", desc := "(I)I" } : Jvm.MethodName)) ∈ am_T0 := am_t3 (List.mem_of_getElem? (i := 127) rfl) rfl
set_option maxRecDepth 100000 in
theorem kw_608 : (Jvm.Cond.sameMethod "LargeBubble$Blower" "LargeBubble$Blower" "pace" "(I)I") ∈ am_T0 := am_t3 (List.mem_of_getElem? (i := 128) rfl) rfl
set_option maxRecDepth 100000 in
theorem kw_609 : (Jvm.Cond.selects "LargeBubble$Bold" ({ cls := "LargeBubble$Blower", name := "pace", desc := "(I)I" } : Jvm.MethodName) ({ cls := "LargeBubble$Blower", name := "pace", desc := "(I)I" } : Jvm.MethodName)) ∈ am_T0 := am_t3 (List.mem_of_getElem? (i := 129) rfl) rfl
set_option maxRecDepth 100000 in
theorem kw_610 : (Jvm.Cond.selects "LargeBubble$Careful" ({ cls := "LargeBubble$Blower", name := "pace", desc := "(I)I" } : Jvm.MethodName) ({ cls := "LargeBubble$Blower", name := "pace", desc := "(I)I" } : Jvm.MethodName)) ∈ am_T0 := am_t3 (List.mem_of_getElem? (i := 130) rfl) rfl
set_option maxRecDepth 100000 in
theorem kw_611 : (Jvm.Cond.selects "LargeBubble$Mad" ({ cls := "LargeBubble$Blower", name := "pace", desc := "(I)I" } : Jvm.MethodName) ({ cls := "LargeBubble$Mad", name := "pace", desc := "(I)I" } : Jvm.MethodName)) ∈ am_T0 := am_t3 (List.mem_of_getElem? (i := 131) rfl) rfl
set_option maxRecDepth 100000 in
theorem kw_612 : (Jvm.Cond.instanceMethod ({ cls := "LargeBubble$Mad", name := "pace", desc := "(I)I" } : Jvm.MethodName)) ∈ am_T0 := am_t3 (List.mem_of_getElem? (i := 132) rfl) rfl
set_option maxRecDepth 100000 in
theorem kw_613 : (Jvm.Cond.code ({ cls := "LargeBubble$Mad", name := "pace", desc := "(I)I" } : Jvm.MethodName) prog_6_method_2_code (2 : Nat) (Option.some Jvm.ClassFile.FieldType.int)) ∈ am_T0 := am_t3 (List.mem_of_getElem? (i := 133) rfl) rfl
set_option maxRecDepth 100000 in
theorem kw_614 : (Jvm.Cond.selects "LargeBubble$Slow" ({ cls := "LargeBubble$Blower", name := "pace", desc := "(I)I" } : Jvm.MethodName) ({ cls := "LargeBubble$Slow", name := "pace", desc := "(I)I" } : Jvm.MethodName)) ∈ am_T0 := am_t3 (List.mem_of_getElem? (i := 134) rfl) rfl
set_option maxRecDepth 100000 in
theorem kw_615 : (Jvm.Cond.instanceMethod ({ cls := "LargeBubble$Slow", name := "pace", desc := "(I)I" } : Jvm.MethodName)) ∈ am_T0 := am_t3 (List.mem_of_getElem? (i := 135) rfl) rfl
set_option maxRecDepth 100000 in
theorem kw_616 : (Jvm.Cond.code ({ cls := "LargeBubble$Slow", name := "pace", desc := "(I)I" } : Jvm.MethodName) prog_7_method_2_code (2 : Nat) (Option.some Jvm.ClassFile.FieldType.int)) ∈ am_T0 := am_t3 (List.mem_of_getElem? (i := 136) rfl) rfl
set_option maxRecDepth 100000 in
theorem kw_617 : (Jvm.Cond.selects "LargeBubble$Told" ({ cls := "LargeBubble$Blower", name := "pace", desc := "(I)I" } : Jvm.MethodName) ({ cls := "LargeBubble$Slow", name := "pace", desc := "(I)I" } : Jvm.MethodName)) ∈ am_T0 := am_t3 (List.mem_of_getElem? (i := 137) rfl) rfl
set_option maxRecDepth 100000 in
theorem kw_618 : (Jvm.Cond.selects "LargeBubble$Wise" ({ cls := "LargeBubble$Blower", name := "pace", desc := "(I)I" } : Jvm.MethodName) ({ cls := "LargeBubble$Blower", name := "pace", desc := "(I)I" } : Jvm.MethodName)) ∈ am_T0 := am_t3 (List.mem_of_getElem? (i := 138) rfl) rfl
set_option maxRecDepth 100000 in
theorem kw_619 : (Jvm.Cond.code ({ cls := "LargeBubble$Blower", name := "pace", desc := "(I)I" } : Jvm.MethodName) prog_2_method_5_code (2 : Nat) (Option.some Jvm.ClassFile.FieldType.int)) ∈ am_T0 := am_t3 (List.mem_of_getElem? (i := 139) rfl) rfl
set_option maxRecDepth 100000 in
theorem kw_620 : (Jvm.Cond.methodLink "LargeBubble$Course" (72 : Nat) ({ cls := "LargeBubble$Course", name := "tear", desc := "()V" } : Jvm.MethodName)) ∈ am_T0 := am_t3 (List.mem_of_getElem? (i := 140) rfl) rfl
set_option maxRecDepth 100000 in
theorem kw_622 : (Jvm.Cond.instanceMethod ({ cls := "LargeBubble$Course", name := "tear", desc := "()V" } : Jvm.MethodName)) ∈ am_T0 := am_t3 (List.mem_of_getElem? (i := 142) rfl) rfl
set_option maxRecDepth 100000 in
theorem kw_623 : (Jvm.Cond.code ({ cls := "LargeBubble$Course", name := "tear", desc := "()V" } : Jvm.MethodName) prog_5_method_5_code (1 : Nat) (Option.none : Option Jvm.ClassFile.FieldType)) ∈ am_T0 := am_t3 (List.mem_of_getElem? (i := 143) rfl) rfl
set_option maxRecDepth 100000 in
theorem kw_624 : (Jvm.Cond.methodLink "LargeBubble$Course" (75 : Nat) ({ cls := "LargeBubble$Blower", name := "shuts", desc := "(LLargeBubble$Course;)Z" } : Jvm.MethodName)) ∈ am_T0 := am_t3 (List.mem_of_getElem? (i := 144) rfl) rfl
set_option maxRecDepth 100000 in
theorem kw_625 : (Jvm.Cond.instanceMethod ({ cls := "LargeBubble$Blower", name := "shuts", desc := "(LLargeBubble$Course;)Z" } : Jvm.MethodName)) ∈ am_T0 := am_t3 (List.mem_of_getElem? (i := 145) rfl) rfl
set_option maxRecDepth 100000 in
theorem kw_626 : (Jvm.Cond.selects "LargeBubble$Blower" ({ cls := "LargeBubble$Blower", name := "shuts", desc := "(LLargeBubble$Course;)Z" } : Jvm.MethodName) ({ cls := "LargeBubble$Blower", name := "shuts", desc := "(LLargeBubble$Course;)Z" } : Jvm.MethodName)) ∈ am_T0 := am_t3 (List.mem_of_getElem? (i := 146) rfl) rfl
set_option maxRecDepth 100000 in
theorem kw_627 : (Jvm.Cond.sameMethod "LargeBubble$Blower" "LargeBubble$Blower" "shuts" "(LLargeBubble$Course;)Z") ∈ am_T0 := am_t3 (List.mem_of_getElem? (i := 147) rfl) rfl
set_option maxRecDepth 100000 in
theorem kw_628 : (Jvm.Cond.selects "LargeBubble$Bold" ({ cls := "LargeBubble$Blower", name := "shuts", desc := "(LLargeBubble$Course;)Z" } : Jvm.MethodName) ({ cls := "LargeBubble$Bold", name := "shuts", desc := "(LLargeBubble$Course;)Z" } : Jvm.MethodName)) ∈ am_T0 := am_t3 (List.mem_of_getElem? (i := 148) rfl) rfl
set_option maxRecDepth 100000 in
theorem kw_629 : (Jvm.Cond.instanceMethod ({ cls := "LargeBubble$Bold", name := "shuts", desc := "(LLargeBubble$Course;)Z" } : Jvm.MethodName)) ∈ am_T0 := am_t3 (List.mem_of_getElem? (i := 149) rfl) rfl
set_option maxRecDepth 100000 in
theorem kw_630 : (Jvm.Cond.code ({ cls := "LargeBubble$Bold", name := "shuts", desc := "(LLargeBubble$Course;)Z" } : Jvm.MethodName) prog_3_method_2_code (2 : Nat) (Option.some Jvm.ClassFile.FieldType.boolean)) ∈ am_T0 := am_t3 (List.mem_of_getElem? (i := 150) rfl) rfl
set_option maxRecDepth 100000 in
theorem kw_631 : (Jvm.Cond.selects "LargeBubble$Careful" ({ cls := "LargeBubble$Blower", name := "shuts", desc := "(LLargeBubble$Course;)Z" } : Jvm.MethodName) ({ cls := "LargeBubble$Careful", name := "shuts", desc := "(LLargeBubble$Course;)Z" } : Jvm.MethodName)) ∈ am_T0 := am_t3 (List.mem_of_getElem? (i := 151) rfl) rfl
set_option maxRecDepth 100000 in
theorem kw_632 : (Jvm.Cond.instanceMethod ({ cls := "LargeBubble$Careful", name := "shuts", desc := "(LLargeBubble$Course;)Z" } : Jvm.MethodName)) ∈ am_T0 := am_t3 (List.mem_of_getElem? (i := 152) rfl) rfl
set_option maxRecDepth 100000 in
theorem kw_633 : (Jvm.Cond.code ({ cls := "LargeBubble$Careful", name := "shuts", desc := "(LLargeBubble$Course;)Z" } : Jvm.MethodName) prog_4_method_2_code (2 : Nat) (Option.some Jvm.ClassFile.FieldType.boolean)) ∈ am_T0 := am_t3 (List.mem_of_getElem? (i := 153) rfl) rfl
set_option maxRecDepth 100000 in
theorem kw_634 : (Jvm.Cond.methodLink "LargeBubble$Careful" (7 : Nat) ({ cls := "LargeBubble$Blower", name := "shuts", desc := "(LLargeBubble$Course;)Z" } : Jvm.MethodName)) ∈ am_T0 := am_t3 (List.mem_of_getElem? (i := 154) rfl) rfl
set_option maxRecDepth 100000 in
theorem kw_635 : (Jvm.Cond.selects "LargeBubble$Mad" ({ cls := "LargeBubble$Blower", name := "shuts", desc := "(LLargeBubble$Course;)Z" } : Jvm.MethodName) ({ cls := "LargeBubble$Mad", name := "shuts", desc := "(LLargeBubble$Course;)Z" } : Jvm.MethodName)) ∈ am_T0 := am_t3 (List.mem_of_getElem? (i := 155) rfl) rfl
set_option maxRecDepth 100000 in
theorem kw_636 : (Jvm.Cond.instanceMethod ({ cls := "LargeBubble$Mad", name := "shuts", desc := "(LLargeBubble$Course;)Z" } : Jvm.MethodName)) ∈ am_T0 := am_t3 (List.mem_of_getElem? (i := 156) rfl) rfl
set_option maxRecDepth 100000 in
theorem kw_637 : (Jvm.Cond.code ({ cls := "LargeBubble$Mad", name := "shuts", desc := "(LLargeBubble$Course;)Z" } : Jvm.MethodName) prog_6_method_3_code (2 : Nat) (Option.some Jvm.ClassFile.FieldType.boolean)) ∈ am_T0 := am_t3 (List.mem_of_getElem? (i := 157) rfl) rfl
set_option maxRecDepth 100000 in
theorem kw_638 : (Jvm.Cond.methodLink "LargeBubble$Mad" (13 : Nat) ({ cls := "LargeBubble$Bold", name := "shuts", desc := "(LLargeBubble$Course;)Z" } : Jvm.MethodName)) ∈ am_T0 := am_t3 (List.mem_of_getElem? (i := 158) rfl) rfl
set_option maxRecDepth 100000 in
theorem kw_639 : (Jvm.Cond.selects "LargeBubble$Slow" ({ cls := "LargeBubble$Blower", name := "shuts", desc := "(LLargeBubble$Course;)Z" } : Jvm.MethodName) ({ cls := "LargeBubble$Blower", name := "shuts", desc := "(LLargeBubble$Course;)Z" } : Jvm.MethodName)) ∈ am_T0 := am_t3 (List.mem_of_getElem? (i := 159) rfl) rfl
set_option maxRecDepth 100000 in
theorem kw_640 : (Jvm.Cond.selects "LargeBubble$Told" ({ cls := "LargeBubble$Blower", name := "shuts", desc := "(LLargeBubble$Course;)Z" } : Jvm.MethodName) ({ cls := "LargeBubble$Told", name := "shuts", desc := "(LLargeBubble$Course;)Z" } : Jvm.MethodName)) ∈ am_T0 := am_t3 (List.mem_of_getElem? (i := 160) rfl) rfl
set_option maxRecDepth 100000 in
theorem kw_641 : (Jvm.Cond.instanceMethod ({ cls := "LargeBubble$Told", name := "shuts", desc := "(LLargeBubble$Course;)Z" } : Jvm.MethodName)) ∈ am_T0 := am_t3 (List.mem_of_getElem? (i := 161) rfl) rfl
set_option maxRecDepth 100000 in
theorem kw_642 : (Jvm.Cond.code ({ cls := "LargeBubble$Told", name := "shuts", desc := "(LLargeBubble$Course;)Z" } : Jvm.MethodName) prog_11_method_4_code (2 : Nat) (Option.some Jvm.ClassFile.FieldType.boolean)) ∈ am_T0 := am_t3 (List.mem_of_getElem? (i := 162) rfl) rfl
set_option maxRecDepth 100000 in
theorem kw_643 : (Jvm.Cond.methodLink "LargeBubble$Told" (40 : Nat) ({ cls := "java/lang/Math", name := "floorMod", desc := "(II)I" } : Jvm.MethodName)) ∈ am_T0 := am_t3 (List.mem_of_getElem? (i := 163) rfl) rfl
set_option maxRecDepth 100000 in
theorem kw_644 : (Jvm.Cond.static ({ cls := "java/lang/Math", name := "floorMod", desc := "(II)I" } : Jvm.MethodName)) ∈ am_T0 := am_t3 (List.mem_of_getElem? (i := 164) rfl) rfl
set_option maxRecDepth 100000 in
theorem kw_645 : (Jvm.Cond.code ({ cls := "java/lang/Math", name := "floorMod", desc := "(II)I" } : Jvm.MethodName) prog_15_method_50_code (3 : Nat) (Option.some Jvm.ClassFile.FieldType.int)) ∈ am_T0 := am_t3 (List.mem_of_getElem? (i := 165) rfl) rfl
set_option maxRecDepth 100000 in
theorem kw_646 : (Jvm.Cond.selects "LargeBubble$Wise" ({ cls := "LargeBubble$Blower", name := "shuts", desc := "(LLargeBubble$Course;)Z" } : Jvm.MethodName) ({ cls := "LargeBubble$Wise", name := "shuts", desc := "(LLargeBubble$Course;)Z" } : Jvm.MethodName)) ∈ am_T0 := am_t3 (List.mem_of_getElem? (i := 166) rfl) rfl
set_option maxRecDepth 100000 in
theorem kw_647 : (Jvm.Cond.instanceMethod ({ cls := "LargeBubble$Wise", name := "shuts", desc := "(LLargeBubble$Course;)Z" } : Jvm.MethodName)) ∈ am_T0 := am_t3 (List.mem_of_getElem? (i := 167) rfl) rfl
set_option maxRecDepth 100000 in
theorem kw_648 : (Jvm.Cond.code ({ cls := "LargeBubble$Wise", name := "shuts", desc := "(LLargeBubble$Course;)Z" } : Jvm.MethodName) prog_12_method_2_code (2 : Nat) (Option.some Jvm.ClassFile.FieldType.boolean)) ∈ am_T0 := am_t3 (List.mem_of_getElem? (i := 168) rfl) rfl
set_option maxRecDepth 100000 in
theorem kw_649 : (Jvm.Cond.methodLink "LargeBubble$Wise" (7 : Nat) ({ cls := "LargeBubble$Careful", name := "shuts", desc := "(LLargeBubble$Course;)Z" } : Jvm.MethodName)) ∈ am_T0 := am_t3 (List.mem_of_getElem? (i := 169) rfl) rfl
set_option maxRecDepth 100000 in
theorem kw_650 : (Jvm.Cond.code ({ cls := "LargeBubble$Blower", name := "shuts", desc := "(LLargeBubble$Course;)Z" } : Jvm.MethodName) prog_2_method_6_code (2 : Nat) (Option.some Jvm.ClassFile.FieldType.boolean)) ∈ am_T0 := am_t3 (List.mem_of_getElem? (i := 170) rfl) rfl
set_option maxRecDepth 100000 in
theorem kw_651 : (Jvm.Cond.methodLink "LargeBubble$Course" (79 : Nat) ({ cls := "LargeBubble$Course", name := "free", desc := "()V" } : Jvm.MethodName)) ∈ am_T0 := am_t3 (List.mem_of_getElem? (i := 171) rfl) rfl
set_option maxRecDepth 100000 in
theorem kw_653 : (Jvm.Cond.instanceMethod ({ cls := "LargeBubble$Course", name := "free", desc := "()V" } : Jvm.MethodName)) ∈ am_T0 := am_t3 (List.mem_of_getElem? (i := 173) rfl) rfl
set_option maxRecDepth 100000 in
theorem kw_654 : (Jvm.Cond.code ({ cls := "LargeBubble$Course", name := "free", desc := "()V" } : Jvm.MethodName) prog_5_method_4_code (1 : Nat) (Option.none : Option Jvm.ClassFile.FieldType)) ∈ am_T0 := am_t3 (List.mem_of_getElem? (i := 174) rfl) rfl
set_option maxRecDepth 100000 in
theorem kw_655 : (Jvm.Cond.constant "LargeBubble$Course" (90 : Nat) (99999 : Int32)) ∈ am_T0 := am_t3 (List.mem_of_getElem? (i := 175) rfl) rfl
set_option maxRecDepth 100000 in
theorem kw_656 : (Jvm.Cond.methodLink "LargeBubble$Course" (91 : Nat) ({ cls := "java/lang/Math", name := "min", desc := "(II)I" } : Jvm.MethodName)) ∈ am_T0 := am_t3 (List.mem_of_getElem? (i := 176) rfl) rfl
set_option maxRecDepth 100000 in
theorem kw_657 : (Jvm.Cond.static ({ cls := "java/lang/Math", name := "min", desc := "(II)I" } : Jvm.MethodName)) ∈ am_T0 := am_t3 (List.mem_of_getElem? (i := 177) rfl) rfl
set_option maxRecDepth 100000 in
theorem kw_658 : (Jvm.Cond.code ({ cls := "java/lang/Math", name := "min", desc := "(II)I" } : Jvm.MethodName) prog_15_method_69_code (2 : Nat) (Option.some Jvm.ClassFile.FieldType.int)) ∈ am_T0 := am_t3 (List.mem_of_getElem? (i := 178) rfl) rfl
set_option maxRecDepth 100000 in
theorem kw_659 : (Jvm.Cond.constant "LargeBubble" (157 : Nat) (999999 : Int32)) ∈ am_T0 := am_t3 (List.mem_of_getElem? (i := 179) rfl) rfl
set_option maxRecDepth 100000 in
theorem kw_660 : (Jvm.Cond.methodLink "LargeBubble" (158 : Nat) ({ cls := "java/lang/Math", name := "min", desc := "(II)I" } : Jvm.MethodName)) ∈ am_T0 := am_t3 (List.mem_of_getElem? (i := 180) rfl) rfl
set_option maxRecDepth 100000 in
theorem kw_661 : (Jvm.Cond.methodLink "LargeBubbleLaw" (58 : Nat) ({ cls := "LargeBubble", name := "would", desc := "(II)I" } : Jvm.MethodName)) ∈ am_T0 := am_t3 (List.mem_of_getElem? (i := 181) rfl) rfl
set_option maxRecDepth 100000 in
theorem kw_662 : (Jvm.Cond.instanceMethod ({ cls := "LargeBubble", name := "would", desc := "(II)I" } : Jvm.MethodName)) ∈ am_T0 := am_t3 (List.mem_of_getElem? (i := 182) rfl) rfl
set_option maxRecDepth 100000 in
theorem kw_663 : (Jvm.Cond.selects "LargeBubble" ({ cls := "LargeBubble", name := "would", desc := "(II)I" } : Jvm.MethodName) ({ cls := "LargeBubble", name := "would", desc := "(II)I" } : Jvm.MethodName)) ∈ am_T0 := am_t3 (List.mem_of_getElem? (i := 183) rfl) rfl
set_option maxRecDepth 100000 in
theorem kw_664 : (Jvm.Cond.code ({ cls := "LargeBubble", name := "would", desc := "(II)I" } : Jvm.MethodName) prog_1_method_12_code (4 : Nat) (Option.some Jvm.ClassFile.FieldType.int)) ∈ am_T0 := am_t3 (List.mem_of_getElem? (i := 184) rfl) rfl
set_option maxRecDepth 100000 in
theorem kw_665 : (Jvm.Cond.methodLink "LargeBubbleLaw" (62 : Nat) ({ cls := "LargeBubble", name := "aim", desc := "(II)I" } : Jvm.MethodName)) ∈ am_T0 := am_t3 (List.mem_of_getElem? (i := 185) rfl) rfl
set_option maxRecDepth 100000 in
theorem kw_666 : (Jvm.Cond.instanceMethod ({ cls := "LargeBubble", name := "aim", desc := "(II)I" } : Jvm.MethodName)) ∈ am_T0 := am_t3 (List.mem_of_getElem? (i := 186) rfl) rfl
set_option maxRecDepth 100000 in
theorem kw_667 : (Jvm.Cond.selects "LargeBubble" ({ cls := "LargeBubble", name := "aim", desc := "(II)I" } : Jvm.MethodName) ({ cls := "LargeBubble", name := "aim", desc := "(II)I" } : Jvm.MethodName)) ∈ am_T0 := am_t3 (List.mem_of_getElem? (i := 187) rfl) rfl
set_option maxRecDepth 100000 in
theorem kw_668 : (Jvm.Cond.code ({ cls := "LargeBubble", name := "aim", desc := "(II)I" } : Jvm.MethodName) prog_1_method_13_code (3 : Nat) (Option.some Jvm.ClassFile.FieldType.int)) ∈ am_T0 := am_t3 (List.mem_of_getElem? (i := 188) rfl) rfl
set_option maxRecDepth 100000 in
theorem kw_669 : (Jvm.Cond.methodLink "LargeBubble" (177 : Nat) ({ cls := "LargeBubble", name := "bestBy", desc := "(IIIII)I" } : Jvm.MethodName)) ∈ am_T0 := am_t3 (List.mem_of_getElem? (i := 189) rfl) rfl
set_option maxRecDepth 100000 in
theorem kw_671 : (Jvm.Cond.instanceMethod ({ cls := "LargeBubble", name := "bestBy", desc := "(IIIII)I" } : Jvm.MethodName)) ∈ am_T0 := am_t3 (List.mem_of_getElem? (i := 191) rfl) rfl
set_option maxRecDepth 100000 in
theorem kw_672 : (Jvm.Cond.code ({ cls := "LargeBubble", name := "bestBy", desc := "(IIIII)I" } : Jvm.MethodName) prog_1_method_44_code (10 : Nat) (Option.some Jvm.ClassFile.FieldType.int)) ∈ am_T0 := am_t3 (List.mem_of_getElem? (i := 192) rfl) rfl
set_option maxRecDepth 100000 in
theorem kw_673 : (Jvm.Cond.methodLink "LargeBubble" (295 : Nat) ({ cls := "LargeBubble", name := "vary", desc := "(II)V" } : Jvm.MethodName)) ∈ am_T0 := am_t3 (List.mem_of_getElem? (i := 193) rfl) rfl
set_option maxRecDepth 100000 in
theorem kw_675 : (Jvm.Cond.instanceMethod ({ cls := "LargeBubble", name := "vary", desc := "(II)V" } : Jvm.MethodName)) ∈ am_T0 := am_t3 (List.mem_of_getElem? (i := 195) rfl) rfl
set_option maxRecDepth 100000 in
theorem kw_676 : (Jvm.Cond.code ({ cls := "LargeBubble", name := "vary", desc := "(II)V" } : Jvm.MethodName) prog_1_method_45_code (3 : Nat) (Option.none : Option Jvm.ClassFile.FieldType)) ∈ am_T0 := am_t3 (List.mem_of_getElem? (i := 196) rfl) rfl
set_option maxRecDepth 100000 in
theorem kw_677 : (Jvm.Cond.methodLink "LargeBubble" (299 : Nat) ({ cls := "LargeBubble$State", name := "goodOf", desc := "(III)I" } : Jvm.MethodName)) ∈ am_T0 := am_t3 (List.mem_of_getElem? (i := 197) rfl) rfl
set_option maxRecDepth 100000 in
theorem kw_678 : (Jvm.Cond.methodLink "LargeBubbleLaw" (66 : Nat) ({ cls := "LargeBubble", name := "cord", desc := "(II)I" } : Jvm.MethodName)) ∈ am_T0 := am_t3 (List.mem_of_getElem? (i := 198) rfl) rfl
set_option maxRecDepth 100000 in
theorem kw_679 : (Jvm.Cond.instanceMethod ({ cls := "LargeBubble", name := "cord", desc := "(II)I" } : Jvm.MethodName)) ∈ am_T0 := am_t3 (List.mem_of_getElem? (i := 199) rfl) rfl
set_option maxRecDepth 100000 in
theorem kw_680 : (Jvm.Cond.selects "LargeBubble" ({ cls := "LargeBubble", name := "cord", desc := "(II)I" } : Jvm.MethodName) ({ cls := "LargeBubble", name := "cord", desc := "(II)I" } : Jvm.MethodName)) ∈ am_T0 := am_t3 (List.mem_of_getElem? (i := 200) rfl) rfl
set_option maxRecDepth 100000 in
theorem kw_681 : (Jvm.Cond.code ({ cls := "LargeBubble", name := "cord", desc := "(II)I" } : Jvm.MethodName) prog_1_method_14_code (3 : Nat) (Option.some Jvm.ClassFile.FieldType.int)) ∈ am_T0 := am_t3 (List.mem_of_getElem? (i := 201) rfl) rfl
set_option maxRecDepth 100000 in
theorem kw_682 : (Jvm.Cond.methodLink "LargeBubbleLaw" (70 : Nat) ({ cls := "LargeBubble", name := "best", desc := "(II)I" } : Jvm.MethodName)) ∈ am_T0 := am_t3 (List.mem_of_getElem? (i := 202) rfl) rfl
set_option maxRecDepth 100000 in
theorem kw_683 : (Jvm.Cond.instanceMethod ({ cls := "LargeBubble", name := "best", desc := "(II)I" } : Jvm.MethodName)) ∈ am_T0 := am_t3 (List.mem_of_getElem? (i := 203) rfl) rfl
set_option maxRecDepth 100000 in
theorem kw_684 : (Jvm.Cond.selects "LargeBubble" ({ cls := "LargeBubble", name := "best", desc := "(II)I" } : Jvm.MethodName) ({ cls := "LargeBubble", name := "best", desc := "(II)I" } : Jvm.MethodName)) ∈ am_T0 := am_t3 (List.mem_of_getElem? (i := 204) rfl) rfl
set_option maxRecDepth 100000 in
theorem kw_685 : (Jvm.Cond.code ({ cls := "LargeBubble", name := "best", desc := "(II)I" } : Jvm.MethodName) prog_1_method_15_code (3 : Nat) (Option.some Jvm.ClassFile.FieldType.int)) ∈ am_T0 := am_t3 (List.mem_of_getElem? (i := 205) rfl) rfl
set_option maxRecDepth 100000 in
theorem kw_686 : (Jvm.Cond.methodLink "LargeBubbleLaw" (74 : Nat) ({ cls := "LargeBubble", name := "when", desc := "(II)I" } : Jvm.MethodName)) ∈ am_T0 := am_t3 (List.mem_of_getElem? (i := 206) rfl) rfl
set_option maxRecDepth 100000 in
theorem kw_687 : (Jvm.Cond.instanceMethod ({ cls := "LargeBubble", name := "when", desc := "(II)I" } : Jvm.MethodName)) ∈ am_T0 := am_t3 (List.mem_of_getElem? (i := 207) rfl) rfl
set_option maxRecDepth 100000 in
theorem kw_688 : (Jvm.Cond.selects "LargeBubble" ({ cls := "LargeBubble", name := "when", desc := "(II)I" } : Jvm.MethodName) ({ cls := "LargeBubble", name := "when", desc := "(II)I" } : Jvm.MethodName)) ∈ am_T0 := am_t3 (List.mem_of_getElem? (i := 208) rfl) rfl
set_option maxRecDepth 100000 in
theorem kw_689 : (Jvm.Cond.code ({ cls := "LargeBubble", name := "when", desc := "(II)I" } : Jvm.MethodName) prog_1_method_16_code (3 : Nat) (Option.some Jvm.ClassFile.FieldType.int)) ∈ am_T0 := am_t3 (List.mem_of_getElem? (i := 209) rfl) rfl
set_option maxRecDepth 100000 in
theorem kw_690 : (Jvm.Cond.methodLink "LargeBubbleLaw" (78 : Nat) ({ cls := "LargeBubble", name := "day", desc := "(II)I" } : Jvm.MethodName)) ∈ am_T0 := am_t3 (List.mem_of_getElem? (i := 210) rfl) rfl
set_option maxRecDepth 100000 in
theorem kw_691 : (Jvm.Cond.instanceMethod ({ cls := "LargeBubble", name := "day", desc := "(II)I" } : Jvm.MethodName)) ∈ am_T0 := am_t3 (List.mem_of_getElem? (i := 211) rfl) rfl
set_option maxRecDepth 100000 in
theorem kw_692 : (Jvm.Cond.selects "LargeBubble" ({ cls := "LargeBubble", name := "day", desc := "(II)I" } : Jvm.MethodName) ({ cls := "LargeBubble", name := "day", desc := "(II)I" } : Jvm.MethodName)) ∈ am_T0 := am_t3 (List.mem_of_getElem? (i := 212) rfl) rfl
set_option maxRecDepth 100000 in
theorem kw_693 : (Jvm.Cond.code ({ cls := "LargeBubble", name := "day", desc := "(II)I" } : Jvm.MethodName) prog_1_method_17_code (3 : Nat) (Option.some Jvm.ClassFile.FieldType.int)) ∈ am_T0 := am_t3 (List.mem_of_getElem? (i := 213) rfl) rfl
set_option maxRecDepth 100000 in
theorem kw_694 : (Jvm.Cond.methodLink "LargeBubble" (181 : Nat) ({ cls := "LargeBubble", name := "runDay", desc := "(I)V" } : Jvm.MethodName)) ∈ am_T0 := am_t3 (List.mem_of_getElem? (i := 214) rfl) rfl
set_option maxRecDepth 100000 in
theorem kw_696 : (Jvm.Cond.instanceMethod ({ cls := "LargeBubble", name := "runDay", desc := "(I)V" } : Jvm.MethodName)) ∈ am_T0 := am_t3 (List.mem_of_getElem? (i := 216) rfl) rfl
set_option maxRecDepth 100000 in
theorem kw_697 : (Jvm.Cond.code ({ cls := "LargeBubble", name := "runDay", desc := "(I)V" } : Jvm.MethodName) prog_1_method_46_code (5 : Nat) (Option.none : Option Jvm.ClassFile.FieldType)) ∈ am_T0 := am_t3 (List.mem_of_getElem? (i := 217) rfl) rfl
set_option maxRecDepth 100000 in
theorem kw_698 : (Jvm.Cond.methodLink "LargeBubbleLaw" (82 : Nat) ({ cls := "LargeBubble", name := "most", desc := "(I)I" } : Jvm.MethodName)) ∈ am_T0 := am_t3 (List.mem_of_getElem? (i := 218) rfl) rfl
set_option maxRecDepth 100000 in
theorem kw_699 : (Jvm.Cond.instanceMethod ({ cls := "LargeBubble", name := "most", desc := "(I)I" } : Jvm.MethodName)) ∈ am_T0 := am_t3 (List.mem_of_getElem? (i := 219) rfl) rfl
set_option maxRecDepth 100000 in
theorem kw_700 : (Jvm.Cond.selects "LargeBubble" ({ cls := "LargeBubble", name := "most", desc := "(I)I" } : Jvm.MethodName) ({ cls := "LargeBubble", name := "most", desc := "(I)I" } : Jvm.MethodName)) ∈ am_T0 := am_t3 (List.mem_of_getElem? (i := 220) rfl) rfl
set_option maxRecDepth 100000 in
theorem kw_701 : (Jvm.Cond.code ({ cls := "LargeBubble", name := "most", desc := "(I)I" } : Jvm.MethodName) prog_1_method_18_code (5 : Nat) (Option.some Jvm.ClassFile.FieldType.int)) ∈ am_T0 := am_t3 (List.mem_of_getElem? (i := 221) rfl) rfl
set_option maxRecDepth 100000 in
theorem kw_702 : (Jvm.Cond.methodLink "LargeBubbleLaw" (86 : Nat) ({ cls := "LargeBubble", name := "longest", desc := "(II)I" } : Jvm.MethodName)) ∈ am_T0 := am_t3 (List.mem_of_getElem? (i := 222) rfl) rfl
set_option maxRecDepth 100000 in
theorem kw_703 : (Jvm.Cond.instanceMethod ({ cls := "LargeBubble", name := "longest", desc := "(II)I" } : Jvm.MethodName)) ∈ am_T0 := am_t3 (List.mem_of_getElem? (i := 223) rfl) rfl
set_option maxRecDepth 100000 in
theorem kw_704 : (Jvm.Cond.selects "LargeBubble" ({ cls := "LargeBubble", name := "longest", desc := "(II)I" } : Jvm.MethodName) ({ cls := "LargeBubble", name := "longest", desc := "(II)I" } : Jvm.MethodName)) ∈ am_T0 := am_t3 (List.mem_of_getElem? (i := 224) rfl) rfl
set_option maxRecDepth 100000 in
theorem kw_705 : (Jvm.Cond.code ({ cls := "LargeBubble", name := "longest", desc := "(II)I" } : Jvm.MethodName) prog_1_method_19_code (7 : Nat) (Option.some Jvm.ClassFile.FieldType.int)) ∈ am_T0 := am_t3 (List.mem_of_getElem? (i := 225) rfl) rfl
set_option maxRecDepth 100000 in
theorem kw_706 : (Jvm.Cond.methodLink "LargeBubble" (184 : Nat) ({ cls := "LargeBubble", name := "runAhead", desc := "(LLargeBubble$Blower;I)V" } : Jvm.MethodName)) ∈ am_T0 := am_t3 (List.mem_of_getElem? (i := 226) rfl) rfl
set_option maxRecDepth 100000 in
theorem kw_708 : (Jvm.Cond.instanceMethod ({ cls := "LargeBubble", name := "runAhead", desc := "(LLargeBubble$Blower;I)V" } : Jvm.MethodName)) ∈ am_T0 := am_t3 (List.mem_of_getElem? (i := 228) rfl) rfl
set_option maxRecDepth 100000 in
theorem kw_709 : (Jvm.Cond.code ({ cls := "LargeBubble", name := "runAhead", desc := "(LLargeBubble$Blower;I)V" } : Jvm.MethodName) prog_1_method_43_code (3 : Nat) (Option.none : Option Jvm.ClassFile.FieldType)) ∈ am_T0 := am_t3 (List.mem_of_getElem? (i := 229) rfl) rfl
set_option maxRecDepth 100000 in
theorem kw_710 : (Jvm.Cond.methodLink "LargeBubbleLaw" (90 : Nat) ({ cls := "LargeBubble", name := "see", desc := "(III)I" } : Jvm.MethodName)) ∈ am_T0 := am_t3 (List.mem_of_getElem? (i := 230) rfl) rfl
set_option maxRecDepth 100000 in
theorem kw_711 : (Jvm.Cond.instanceMethod ({ cls := "LargeBubble", name := "see", desc := "(III)I" } : Jvm.MethodName)) ∈ am_T0 := am_t3 (List.mem_of_getElem? (i := 231) rfl) rfl
set_option maxRecDepth 100000 in
theorem kw_712 : (Jvm.Cond.selects "LargeBubble" ({ cls := "LargeBubble", name := "see", desc := "(III)I" } : Jvm.MethodName) ({ cls := "LargeBubble", name := "see", desc := "(III)I" } : Jvm.MethodName)) ∈ am_T0 := am_t3 (List.mem_of_getElem? (i := 232) rfl) rfl
set_option maxRecDepth 100000 in
theorem kw_713 : (Jvm.Cond.code ({ cls := "LargeBubble", name := "see", desc := "(III)I" } : Jvm.MethodName) prog_1_method_20_code (4 : Nat) (Option.some Jvm.ClassFile.FieldType.int)) ∈ am_T0 := am_t3 (List.mem_of_getElem? (i := 233) rfl) rfl
set_option maxRecDepth 100000 in
theorem kw_714 : (Jvm.Cond.methodLink "LargeBubbleLaw" (94 : Nat) ({ cls := "LargeBubble", name := "was", desc := "()I" } : Jvm.MethodName)) ∈ am_T0 := am_t3 (List.mem_of_getElem? (i := 234) rfl) rfl
set_option maxRecDepth 100000 in
theorem kw_715 : (Jvm.Cond.instanceMethod ({ cls := "LargeBubble", name := "was", desc := "()I" } : Jvm.MethodName)) ∈ am_T0 := am_t3 (List.mem_of_getElem? (i := 235) rfl) rfl
set_option maxRecDepth 100000 in
theorem kw_716 : (Jvm.Cond.selects "LargeBubble" ({ cls := "LargeBubble", name := "was", desc := "()I" } : Jvm.MethodName) ({ cls := "LargeBubble", name := "was", desc := "()I" } : Jvm.MethodName)) ∈ am_T0 := am_t3 (List.mem_of_getElem? (i := 236) rfl) rfl
set_option maxRecDepth 100000 in
theorem kw_717 : (Jvm.Cond.code ({ cls := "LargeBubble", name := "was", desc := "()I" } : Jvm.MethodName) prog_1_method_21_code (3 : Nat) (Option.some Jvm.ClassFile.FieldType.int)) ∈ am_T0 := am_t3 (List.mem_of_getElem? (i := 237) rfl) rfl
set_option maxRecDepth 100000 in
theorem kw_718 : (Jvm.Cond.methodLink "LargeBubble" (200 : Nat) ({ cls := "LargeBubble", name := "isAllSeenBy", desc := "(I)Z" } : Jvm.MethodName)) ∈ am_T0 := am_t3 (List.mem_of_getElem? (i := 238) rfl) rfl
set_option maxRecDepth 100000 in
theorem kw_720 : (Jvm.Cond.instanceMethod ({ cls := "LargeBubble", name := "isAllSeenBy", desc := "(I)Z" } : Jvm.MethodName)) ∈ am_T0 := am_t4 (List.mem_of_getElem? (i := 0) rfl) rfl
set_option maxRecDepth 100000 in
theorem kw_721 : (Jvm.Cond.code ({ cls := "LargeBubble", name := "isAllSeenBy", desc := "(I)Z" } : Jvm.MethodName) prog_1_method_47_code (4 : Nat) (Option.some Jvm.ClassFile.FieldType.boolean)) ∈ am_T0 := am_t4 (List.mem_of_getElem? (i := 1) rfl) rfl
set_option maxRecDepth 100000 in
theorem kw_722 : (Jvm.Cond.methodLink "LargeBubbleLaw" (98 : Nat) ({ cls := "LargeBubble", name := "calm", desc := "(I)I" } : Jvm.MethodName)) ∈ am_T0 := am_t4 (List.mem_of_getElem? (i := 2) rfl) rfl
set_option maxRecDepth 100000 in
theorem kw_723 : (Jvm.Cond.instanceMethod ({ cls := "LargeBubble", name := "calm", desc := "(I)I" } : Jvm.MethodName)) ∈ am_T0 := am_t4 (List.mem_of_getElem? (i := 3) rfl) rfl
set_option maxRecDepth 100000 in
theorem kw_724 : (Jvm.Cond.selects "LargeBubble" ({ cls := "LargeBubble", name := "calm", desc := "(I)I" } : Jvm.MethodName) ({ cls := "LargeBubble", name := "calm", desc := "(I)I" } : Jvm.MethodName)) ∈ am_T0 := am_t4 (List.mem_of_getElem? (i := 4) rfl) rfl
set_option maxRecDepth 100000 in
theorem kw_725 : (Jvm.Cond.code ({ cls := "LargeBubble", name := "calm", desc := "(I)I" } : Jvm.MethodName) prog_1_method_22_code (4 : Nat) (Option.some Jvm.ClassFile.FieldType.int)) ∈ am_T0 := am_t4 (List.mem_of_getElem? (i := 5) rfl) rfl
set_option maxRecDepth 100000 in
theorem kw_726 : (Jvm.Cond.constant "LargeBubble" (204 : Nat) (-1000001 : Int32)) ∈ am_T0 := am_t4 (List.mem_of_getElem? (i := 6) rfl) rfl
set_option maxRecDepth 100000 in
theorem kw_727 : (Jvm.Cond.methodLink "LargeBubbleLaw" (102 : Nat) ({ cls := "LargeBubble", name := "odds", desc := "(II)J" } : Jvm.MethodName)) ∈ am_T0 := am_t4 (List.mem_of_getElem? (i := 7) rfl) rfl
set_option maxRecDepth 100000 in
theorem kw_728 : (Jvm.Cond.instanceMethod ({ cls := "LargeBubble", name := "odds", desc := "(II)J" } : Jvm.MethodName)) ∈ am_T0 := am_t4 (List.mem_of_getElem? (i := 8) rfl) rfl
set_option maxRecDepth 100000 in
theorem kw_729 : (Jvm.Cond.selects "LargeBubble" ({ cls := "LargeBubble", name := "odds", desc := "(II)J" } : Jvm.MethodName) ({ cls := "LargeBubble", name := "odds", desc := "(II)J" } : Jvm.MethodName)) ∈ am_T0 := am_t4 (List.mem_of_getElem? (i := 9) rfl) rfl
set_option maxRecDepth 100000 in
theorem kw_730 : (Jvm.Cond.code ({ cls := "LargeBubble", name := "odds", desc := "(II)J" } : Jvm.MethodName) prog_1_method_23_code (6 : Nat) (Option.some Jvm.ClassFile.FieldType.long)) ∈ am_T0 := am_t4 (List.mem_of_getElem? (i := 10) rfl) rfl
set_option maxRecDepth 100000 in
theorem kw_731 : (Jvm.Cond.constantLong "LargeBubble" (208 : Nat) (-9223372036854775808 : Int64)) ∈ am_T0 := am_t4 (List.mem_of_getElem? (i := 11) rfl) rfl
set_option maxRecDepth 100000 in
theorem kw_732 : (Jvm.Cond.methodLink "LargeBubble" (213 : Nat) ({ cls := "LargeBubble", name := "lowest", desc := "(III)I" } : Jvm.MethodName)) ∈ am_T0 := am_t4 (List.mem_of_getElem? (i := 12) rfl) rfl
set_option maxRecDepth 100000 in
theorem kw_733 : (Jvm.Cond.static ({ cls := "LargeBubble", name := "lowest", desc := "(III)I" } : Jvm.MethodName)) ∈ am_T0 := am_t4 (List.mem_of_getElem? (i := 13) rfl) rfl
set_option maxRecDepth 100000 in
theorem kw_734 : (Jvm.Cond.code ({ cls := "LargeBubble", name := "lowest", desc := "(III)I" } : Jvm.MethodName) prog_1_method_48_code (5 : Nat) (Option.some Jvm.ClassFile.FieldType.int)) ∈ am_T0 := am_t4 (List.mem_of_getElem? (i := 14) rfl) rfl
set_option maxRecDepth 100000 in
theorem kw_735 : (Jvm.Cond.methodLink "LargeBubbleLaw" (107 : Nat) ({ cls := "LargeBubble", name := "mean", desc := "(II)J" } : Jvm.MethodName)) ∈ am_T0 := am_t4 (List.mem_of_getElem? (i := 15) rfl) rfl
set_option maxRecDepth 100000 in
theorem kw_736 : (Jvm.Cond.instanceMethod ({ cls := "LargeBubble", name := "mean", desc := "(II)J" } : Jvm.MethodName)) ∈ am_T0 := am_t4 (List.mem_of_getElem? (i := 16) rfl) rfl
set_option maxRecDepth 100000 in
theorem kw_737 : (Jvm.Cond.selects "LargeBubble" ({ cls := "LargeBubble", name := "mean", desc := "(II)J" } : Jvm.MethodName) ({ cls := "LargeBubble", name := "mean", desc := "(II)J" } : Jvm.MethodName)) ∈ am_T0 := am_t4 (List.mem_of_getElem? (i := 17) rfl) rfl
set_option maxRecDepth 100000 in
theorem kw_738 : (Jvm.Cond.code ({ cls := "LargeBubble", name := "mean", desc := "(II)J" } : Jvm.MethodName) prog_1_method_24_code (6 : Nat) (Option.some Jvm.ClassFile.FieldType.long)) ∈ am_T0 := am_t4 (List.mem_of_getElem? (i := 18) rfl) rfl
set_option maxRecDepth 100000 in
theorem kw_739 : (Jvm.Cond.methodLink "LargeBubbleLaw" (111 : Nat) ({ cls := "LargeBubble", name := "book", desc := "(IZ)I" } : Jvm.MethodName)) ∈ am_T0 := am_t4 (List.mem_of_getElem? (i := 19) rfl) rfl
set_option maxRecDepth 100000 in
theorem kw_740 : (Jvm.Cond.instanceMethod ({ cls := "LargeBubble", name := "book", desc := "(IZ)I" } : Jvm.MethodName)) ∈ am_T0 := am_t4 (List.mem_of_getElem? (i := 20) rfl) rfl
set_option maxRecDepth 100000 in
theorem kw_741 : (Jvm.Cond.selects "LargeBubble" ({ cls := "LargeBubble", name := "book", desc := "(IZ)I" } : Jvm.MethodName) ({ cls := "LargeBubble", name := "book", desc := "(IZ)I" } : Jvm.MethodName)) ∈ am_T0 := am_t4 (List.mem_of_getElem? (i := 21) rfl) rfl
set_option maxRecDepth 100000 in
theorem kw_742 : (Jvm.Cond.code ({ cls := "LargeBubble", name := "book", desc := "(IZ)I" } : Jvm.MethodName) prog_1_method_25_code (3 : Nat) (Option.some Jvm.ClassFile.FieldType.int)) ∈ am_T0 := am_t4 (List.mem_of_getElem? (i := 22) rfl) rfl
set_option maxRecDepth 100000 in
theorem kw_743 : (Jvm.Cond.methodLink "LargeBubbleLaw" (116 : Nat) ({ cls := "LargeBubble", name := "looked", desc := "()I" } : Jvm.MethodName)) ∈ am_T0 := am_t4 (List.mem_of_getElem? (i := 23) rfl) rfl
set_option maxRecDepth 100000 in
theorem kw_744 : (Jvm.Cond.instanceMethod ({ cls := "LargeBubble", name := "looked", desc := "()I" } : Jvm.MethodName)) ∈ am_T0 := am_t4 (List.mem_of_getElem? (i := 24) rfl) rfl
set_option maxRecDepth 100000 in
theorem kw_745 : (Jvm.Cond.selects "LargeBubble" ({ cls := "LargeBubble", name := "looked", desc := "()I" } : Jvm.MethodName) ({ cls := "LargeBubble", name := "looked", desc := "()I" } : Jvm.MethodName)) ∈ am_T0 := am_t4 (List.mem_of_getElem? (i := 25) rfl) rfl
set_option maxRecDepth 100000 in
theorem kw_746 : (Jvm.Cond.code ({ cls := "LargeBubble", name := "looked", desc := "()I" } : Jvm.MethodName) prog_1_method_26_code (4 : Nat) (Option.some Jvm.ClassFile.FieldType.int)) ∈ am_T0 := am_t4 (List.mem_of_getElem? (i := 26) rfl) rfl
set_option maxRecDepth 100000 in
theorem kw_747 : (Jvm.Cond.methodLink "LargeBubbleLaw" (120 : Nat) ({ cls := "LargeBubble", name := "judge", desc := "(II)I" } : Jvm.MethodName)) ∈ am_T0 := am_t4 (List.mem_of_getElem? (i := 27) rfl) rfl
set_option maxRecDepth 100000 in
theorem kw_748 : (Jvm.Cond.instanceMethod ({ cls := "LargeBubble", name := "judge", desc := "(II)I" } : Jvm.MethodName)) ∈ am_T0 := am_t4 (List.mem_of_getElem? (i := 28) rfl) rfl
set_option maxRecDepth 100000 in
theorem kw_749 : (Jvm.Cond.selects "LargeBubble" ({ cls := "LargeBubble", name := "judge", desc := "(II)I" } : Jvm.MethodName) ({ cls := "LargeBubble", name := "judge", desc := "(II)I" } : Jvm.MethodName)) ∈ am_T0 := am_t4 (List.mem_of_getElem? (i := 29) rfl) rfl
set_option maxRecDepth 100000 in
theorem kw_750 : (Jvm.Cond.code ({ cls := "LargeBubble", name := "judge", desc := "(II)I" } : Jvm.MethodName) prog_1_method_27_code (7 : Nat) (Option.some Jvm.ClassFile.FieldType.int)) ∈ am_T0 := am_t4 (List.mem_of_getElem? (i := 30) rfl) rfl
set_option maxRecDepth 100000 in
theorem kw_751 : (Jvm.Cond.methodLink "LargeBubble" (227 : Nat) ({ cls := "LargeBubble", name := "isTape", desc := "(I)Z" } : Jvm.MethodName)) ∈ am_T0 := am_t4 (List.mem_of_getElem? (i := 31) rfl) rfl
set_option maxRecDepth 100000 in
theorem kw_752 : (Jvm.Cond.static ({ cls := "LargeBubble", name := "isTape", desc := "(I)Z" } : Jvm.MethodName)) ∈ am_T0 := am_t4 (List.mem_of_getElem? (i := 32) rfl) rfl
set_option maxRecDepth 100000 in
theorem kw_753 : (Jvm.Cond.code ({ cls := "LargeBubble", name := "isTape", desc := "(I)Z" } : Jvm.MethodName) prog_1_method_49_code (1 : Nat) (Option.some Jvm.ClassFile.FieldType.boolean)) ∈ am_T0 := am_t4 (List.mem_of_getElem? (i := 33) rfl) rfl
set_option maxRecDepth 100000 in
theorem kw_754 : (Jvm.Cond.methodLink "LargeBubble" (230 : Nat) ({ cls := "LargeBubble", name := "holds", desc := "(I)Z" } : Jvm.MethodName)) ∈ am_T0 := am_t4 (List.mem_of_getElem? (i := 34) rfl) rfl
set_option maxRecDepth 100000 in
theorem kw_756 : (Jvm.Cond.instanceMethod ({ cls := "LargeBubble", name := "holds", desc := "(I)Z" } : Jvm.MethodName)) ∈ am_T0 := am_t4 (List.mem_of_getElem? (i := 36) rfl) rfl
set_option maxRecDepth 100000 in
theorem kw_757 : (Jvm.Cond.code ({ cls := "LargeBubble", name := "holds", desc := "(I)Z" } : Jvm.MethodName) prog_1_method_50_code (2 : Nat) (Option.some Jvm.ClassFile.FieldType.boolean)) ∈ am_T0 := am_t4 (List.mem_of_getElem? (i := 37) rfl) rfl
set_option maxRecDepth 100000 in
theorem kw_758 : (Jvm.Cond.methodLink "LargeBubbleLaw" (124 : Nat) ({ cls := "LargeBubble", name := "image", desc := "()I" } : Jvm.MethodName)) ∈ am_T0 := am_t4 (List.mem_of_getElem? (i := 38) rfl) rfl
set_option maxRecDepth 100000 in
theorem kw_759 : (Jvm.Cond.instanceMethod ({ cls := "LargeBubble", name := "image", desc := "()I" } : Jvm.MethodName)) ∈ am_T0 := am_t4 (List.mem_of_getElem? (i := 39) rfl) rfl
set_option maxRecDepth 100000 in
theorem kw_760 : (Jvm.Cond.selects "LargeBubble" ({ cls := "LargeBubble", name := "image", desc := "()I" } : Jvm.MethodName) ({ cls := "LargeBubble", name := "image", desc := "()I" } : Jvm.MethodName)) ∈ am_T0 := am_t4 (List.mem_of_getElem? (i := 40) rfl) rfl
set_option maxRecDepth 100000 in
theorem kw_761 : (Jvm.Cond.code ({ cls := "LargeBubble", name := "image", desc := "()I" } : Jvm.MethodName) prog_1_method_28_code (1 : Nat) (Option.some Jvm.ClassFile.FieldType.int)) ∈ am_T0 := am_t4 (List.mem_of_getElem? (i := 41) rfl) rfl
set_option maxRecDepth 100000 in
theorem kw_762 : (Jvm.Cond.methodLink "LargeBubble" (233 : Nat) ({ cls := "LargeBubble$State", name := "copy", desc := "(LLargeBubble$State;)V" } : Jvm.MethodName)) ∈ am_T0 := am_t4 (List.mem_of_getElem? (i := 42) rfl) rfl
set_option maxRecDepth 100000 in
theorem kw_763 : (Jvm.Cond.instanceMethod ({ cls := "LargeBubble$State", name := "copy", desc := "(LLargeBubble$State;)V" } : Jvm.MethodName)) ∈ am_T0 := am_t4 (List.mem_of_getElem? (i := 43) rfl) rfl
set_option maxRecDepth 100000 in
theorem kw_764 : (Jvm.Cond.selects "LargeBubble$State" ({ cls := "LargeBubble$State", name := "copy", desc := "(LLargeBubble$State;)V" } : Jvm.MethodName) ({ cls := "LargeBubble$State", name := "copy", desc := "(LLargeBubble$State;)V" } : Jvm.MethodName)) ∈ am_T0 := am_t4 (List.mem_of_getElem? (i := 44) rfl) rfl
set_option maxRecDepth 100000 in
theorem kw_765 : (Jvm.Cond.code ({ cls := "LargeBubble$State", name := "copy", desc := "(LLargeBubble$State;)V" } : Jvm.MethodName) prog_9_method_4_code (3 : Nat) (Option.none : Option Jvm.ClassFile.FieldType)) ∈ am_T0 := am_t4 (List.mem_of_getElem? (i := 45) rfl) rfl
set_option maxRecDepth 100000 in
theorem kw_766 : (Jvm.Cond.methodLink "LargeBubble$State" (72 : Nat) ({ cls := "java/lang/System", name := "arraycopy", desc := "(Ljava/lang/Object;ILjava/lang/Object;II)V" } : Jvm.MethodName)) ∈ am_T0 := am_t4 (List.mem_of_getElem? (i := 46) rfl) rfl
set_option maxRecDepth 100000 in
theorem kw_767 : (Jvm.Cond.static ({ cls := "java/lang/System", name := "arraycopy", desc := "(Ljava/lang/Object;ILjava/lang/Object;II)V" } : Jvm.MethodName)) ∈ am_T0 := am_t4 (List.mem_of_getElem? (i := 47) rfl) rfl
set_option maxRecDepth 100000 in
theorem kw_768 : (Jvm.Cond.native ({ cls := "java/lang/System", name := "arraycopy", desc := "(Ljava/lang/Object;ILjava/lang/Object;II)V" } : Jvm.MethodName)) ∈ am_T0 := am_t4 (List.mem_of_getElem? (i := 48) rfl) rfl
set_option maxRecDepth 100000 in
theorem kw_769 : (Jvm.Cond.methodLink "LargeBubble" (237 : Nat) ({ cls := "LargeBubble$State", name := "keepBlowers", desc := "()V" } : Jvm.MethodName)) ∈ am_T0 := am_t4 (List.mem_of_getElem? (i := 49) rfl) rfl
set_option maxRecDepth 100000 in
theorem kw_770 : (Jvm.Cond.instanceMethod ({ cls := "LargeBubble$State", name := "keepBlowers", desc := "()V" } : Jvm.MethodName)) ∈ am_T0 := am_t4 (List.mem_of_getElem? (i := 50) rfl) rfl
set_option maxRecDepth 100000 in
theorem kw_771 : (Jvm.Cond.selects "LargeBubble$State" ({ cls := "LargeBubble$State", name := "keepBlowers", desc := "()V" } : Jvm.MethodName) ({ cls := "LargeBubble$State", name := "keepBlowers", desc := "()V" } : Jvm.MethodName)) ∈ am_T0 := am_t4 (List.mem_of_getElem? (i := 51) rfl) rfl
set_option maxRecDepth 100000 in
theorem kw_772 : (Jvm.Cond.code ({ cls := "LargeBubble$State", name := "keepBlowers", desc := "()V" } : Jvm.MethodName) prog_9_method_5_code (3 : Nat) (Option.none : Option Jvm.ClassFile.FieldType)) ∈ am_T0 := am_t4 (List.mem_of_getElem? (i := 52) rfl) rfl
set_option maxRecDepth 100000 in
theorem kw_773 : (Jvm.Cond.methodLink "LargeBubble$State" (78 : Nat) ({ cls := "LargeBubble$Blower", name := "keepIn", desc := "([I)V" } : Jvm.MethodName)) ∈ am_T0 := am_t4 (List.mem_of_getElem? (i := 53) rfl) rfl
set_option maxRecDepth 100000 in
theorem kw_774 : (Jvm.Cond.instanceMethod ({ cls := "LargeBubble$Blower", name := "keepIn", desc := "([I)V" } : Jvm.MethodName)) ∈ am_T0 := am_t4 (List.mem_of_getElem? (i := 54) rfl) rfl
set_option maxRecDepth 100000 in
theorem kw_775 : (Jvm.Cond.selects "LargeBubble$Blower" ({ cls := "LargeBubble$Blower", name := "keepIn", desc := "([I)V" } : Jvm.MethodName) ({ cls := "LargeBubble$Blower", name := "keepIn", desc := "([I)V" } : Jvm.MethodName)) ∈ am_T0 := am_t4 (List.mem_of_getElem? (i := 55) rfl) rfl
set_option maxRecDepth 100000 in
theorem kw_776 : (Jvm.Cond.sameMethod "LargeBubble$Blower" "LargeBubble$Blower" "keepIn" "([I)V") ∈ am_T0 := am_t4 (List.mem_of_getElem? (i := 56) rfl) rfl
set_option maxRecDepth 100000 in
theorem kw_777 : (Jvm.Cond.selects "LargeBubble$Bold" ({ cls := "LargeBubble$Blower", name := "keepIn", desc := "([I)V" } : Jvm.MethodName) ({ cls := "LargeBubble$Blower", name := "keepIn", desc := "([I)V" } : Jvm.MethodName)) ∈ am_T0 := am_t4 (List.mem_of_getElem? (i := 57) rfl) rfl
set_option maxRecDepth 100000 in
theorem kw_778 : (Jvm.Cond.selects "LargeBubble$Careful" ({ cls := "LargeBubble$Blower", name := "keepIn", desc := "([I)V" } : Jvm.MethodName) ({ cls := "LargeBubble$Blower", name := "keepIn", desc := "([I)V" } : Jvm.MethodName)) ∈ am_T0 := am_t4 (List.mem_of_getElem? (i := 58) rfl) rfl
set_option maxRecDepth 100000 in
theorem kw_779 : (Jvm.Cond.selects "LargeBubble$Mad" ({ cls := "LargeBubble$Blower", name := "keepIn", desc := "([I)V" } : Jvm.MethodName) ({ cls := "LargeBubble$Blower", name := "keepIn", desc := "([I)V" } : Jvm.MethodName)) ∈ am_T0 := am_t4 (List.mem_of_getElem? (i := 59) rfl) rfl
set_option maxRecDepth 100000 in
theorem kw_780 : (Jvm.Cond.selects "LargeBubble$Slow" ({ cls := "LargeBubble$Blower", name := "keepIn", desc := "([I)V" } : Jvm.MethodName) ({ cls := "LargeBubble$Blower", name := "keepIn", desc := "([I)V" } : Jvm.MethodName)) ∈ am_T0 := am_t4 (List.mem_of_getElem? (i := 60) rfl) rfl
set_option maxRecDepth 100000 in
theorem kw_781 : (Jvm.Cond.selects "LargeBubble$Told" ({ cls := "LargeBubble$Blower", name := "keepIn", desc := "([I)V" } : Jvm.MethodName) ({ cls := "LargeBubble$Told", name := "keepIn", desc := "([I)V" } : Jvm.MethodName)) ∈ am_T0 := am_t4 (List.mem_of_getElem? (i := 61) rfl) rfl
set_option maxRecDepth 100000 in
theorem kw_782 : (Jvm.Cond.instanceMethod ({ cls := "LargeBubble$Told", name := "keepIn", desc := "([I)V" } : Jvm.MethodName)) ∈ am_T0 := am_t4 (List.mem_of_getElem? (i := 62) rfl) rfl
set_option maxRecDepth 100000 in
theorem kw_783 : (Jvm.Cond.code ({ cls := "LargeBubble$Told", name := "keepIn", desc := "([I)V" } : Jvm.MethodName) prog_11_method_2_code (2 : Nat) (Option.none : Option Jvm.ClassFile.FieldType)) ∈ am_T0 := am_t4 (List.mem_of_getElem? (i := 63) rfl) rfl
set_option maxRecDepth 100000 in
theorem kw_784 : (Jvm.Cond.methodLink "LargeBubble$Told" (15 : Nat) ({ cls := "LargeBubble$Slow", name := "keepIn", desc := "([I)V" } : Jvm.MethodName)) ∈ am_T0 := am_t4 (List.mem_of_getElem? (i := 64) rfl) rfl
set_option maxRecDepth 100000 in
theorem kw_785 : (Jvm.Cond.sameMethod "LargeBubble$Slow" "LargeBubble$Blower" "keepIn" "([I)V") ∈ am_T0 := am_t4 (List.mem_of_getElem? (i := 65) rfl) rfl
set_option maxRecDepth 100000 in
theorem kn_786 : (Jvm.Cond.declares ({ cls := "LargeBubble$Blower", name := "keepIn", desc := "([I)V" } : Jvm.MethodName)) ∈ lw_tbl := am_tl4 (List.mem_of_getElem? (i := 66) rfl)
set_option maxRecDepth 100000 in
theorem kw_787 : (Jvm.Cond.methodLink "LargeBubble$Told" (19 : Nat) ({ cls := "java/lang/System", name := "arraycopy", desc := "(Ljava/lang/Object;ILjava/lang/Object;II)V" } : Jvm.MethodName)) ∈ am_T0 := am_t4 (List.mem_of_getElem? (i := 67) rfl) rfl
set_option maxRecDepth 100000 in
theorem kw_788 : (Jvm.Cond.selects "LargeBubble$Wise" ({ cls := "LargeBubble$Blower", name := "keepIn", desc := "([I)V" } : Jvm.MethodName) ({ cls := "LargeBubble$Blower", name := "keepIn", desc := "([I)V" } : Jvm.MethodName)) ∈ am_T0 := am_t4 (List.mem_of_getElem? (i := 68) rfl) rfl
set_option maxRecDepth 100000 in
theorem kw_789 : (Jvm.Cond.code ({ cls := "LargeBubble$Blower", name := "keepIn", desc := "([I)V" } : Jvm.MethodName) prog_2_method_3_code (2 : Nat) (Option.none : Option Jvm.ClassFile.FieldType)) ∈ am_T0 := am_t4 (List.mem_of_getElem? (i := 69) rfl) rfl
set_option maxRecDepth 100000 in
theorem kw_790 : (Jvm.Cond.methodLink "LargeBubbleLaw" (128 : Nat) ({ cls := "LargeBubble", name := "undo", desc := "()I" } : Jvm.MethodName)) ∈ am_T0 := am_t4 (List.mem_of_getElem? (i := 70) rfl) rfl
set_option maxRecDepth 100000 in
theorem kw_791 : (Jvm.Cond.instanceMethod ({ cls := "LargeBubble", name := "undo", desc := "()I" } : Jvm.MethodName)) ∈ am_T0 := am_t4 (List.mem_of_getElem? (i := 71) rfl) rfl
set_option maxRecDepth 100000 in
theorem kw_792 : (Jvm.Cond.selects "LargeBubble" ({ cls := "LargeBubble", name := "undo", desc := "()I" } : Jvm.MethodName) ({ cls := "LargeBubble", name := "undo", desc := "()I" } : Jvm.MethodName)) ∈ am_T0 := am_t4 (List.mem_of_getElem? (i := 72) rfl) rfl
set_option maxRecDepth 100000 in
theorem kw_793 : (Jvm.Cond.code ({ cls := "LargeBubble", name := "undo", desc := "()I" } : Jvm.MethodName) prog_1_method_29_code (1 : Nat) (Option.some Jvm.ClassFile.FieldType.int)) ∈ am_T0 := am_t4 (List.mem_of_getElem? (i := 73) rfl) rfl
set_option maxRecDepth 100000 in
theorem kw_794 : (Jvm.Cond.methodLink "LargeBubble" (240 : Nat) ({ cls := "LargeBubble$State", name := "giveBackToBlowers", desc := "()V" } : Jvm.MethodName)) ∈ am_T0 := am_t4 (List.mem_of_getElem? (i := 74) rfl) rfl
set_option maxRecDepth 100000 in
theorem kw_795 : (Jvm.Cond.instanceMethod ({ cls := "LargeBubble$State", name := "giveBackToBlowers", desc := "()V" } : Jvm.MethodName)) ∈ am_T0 := am_t4 (List.mem_of_getElem? (i := 75) rfl) rfl
set_option maxRecDepth 100000 in
theorem kw_796 : (Jvm.Cond.selects "LargeBubble$State" ({ cls := "LargeBubble$State", name := "giveBackToBlowers", desc := "()V" } : Jvm.MethodName) ({ cls := "LargeBubble$State", name := "giveBackToBlowers", desc := "()V" } : Jvm.MethodName)) ∈ am_T0 := am_t4 (List.mem_of_getElem? (i := 76) rfl) rfl
set_option maxRecDepth 100000 in
theorem kw_797 : (Jvm.Cond.code ({ cls := "LargeBubble$State", name := "giveBackToBlowers", desc := "()V" } : Jvm.MethodName) prog_9_method_6_code (3 : Nat) (Option.none : Option Jvm.ClassFile.FieldType)) ∈ am_T0 := am_t4 (List.mem_of_getElem? (i := 77) rfl) rfl
set_option maxRecDepth 100000 in
theorem kw_798 : (Jvm.Cond.methodLink "LargeBubble$State" (82 : Nat) ({ cls := "LargeBubble$Blower", name := "takeFrom", desc := "([I)V" } : Jvm.MethodName)) ∈ am_T0 := am_t4 (List.mem_of_getElem? (i := 78) rfl) rfl
set_option maxRecDepth 100000 in
theorem kw_799 : (Jvm.Cond.instanceMethod ({ cls := "LargeBubble$Blower", name := "takeFrom", desc := "([I)V" } : Jvm.MethodName)) ∈ am_T0 := am_t4 (List.mem_of_getElem? (i := 79) rfl) rfl
set_option maxRecDepth 100000 in
theorem kw_800 : (Jvm.Cond.selects "LargeBubble$Blower" ({ cls := "LargeBubble$Blower", name := "takeFrom", desc := "([I)V" } : Jvm.MethodName) ({ cls := "LargeBubble$Blower", name := "takeFrom", desc := "([I)V" } : Jvm.MethodName)) ∈ am_T0 := am_t4 (List.mem_of_getElem? (i := 80) rfl) rfl
set_option maxRecDepth 100000 in
theorem kw_801 : (Jvm.Cond.sameMethod "LargeBubble$Blower" "LargeBubble$Blower" "takeFrom" "([I)V") ∈ am_T0 := am_t4 (List.mem_of_getElem? (i := 81) rfl) rfl
set_option maxRecDepth 100000 in
theorem kw_802 : (Jvm.Cond.selects "LargeBubble$Bold" ({ cls := "LargeBubble$Blower", name := "takeFrom", desc := "([I)V" } : Jvm.MethodName) ({ cls := "LargeBubble$Blower", name := "takeFrom", desc := "([I)V" } : Jvm.MethodName)) ∈ am_T0 := am_t4 (List.mem_of_getElem? (i := 82) rfl) rfl
set_option maxRecDepth 100000 in
theorem kw_803 : (Jvm.Cond.selects "LargeBubble$Careful" ({ cls := "LargeBubble$Blower", name := "takeFrom", desc := "([I)V" } : Jvm.MethodName) ({ cls := "LargeBubble$Blower", name := "takeFrom", desc := "([I)V" } : Jvm.MethodName)) ∈ am_T0 := am_t4 (List.mem_of_getElem? (i := 83) rfl) rfl
set_option maxRecDepth 100000 in
theorem kw_804 : (Jvm.Cond.selects "LargeBubble$Mad" ({ cls := "LargeBubble$Blower", name := "takeFrom", desc := "([I)V" } : Jvm.MethodName) ({ cls := "LargeBubble$Blower", name := "takeFrom", desc := "([I)V" } : Jvm.MethodName)) ∈ am_T0 := am_t4 (List.mem_of_getElem? (i := 84) rfl) rfl
set_option maxRecDepth 100000 in
theorem kw_805 : (Jvm.Cond.selects "LargeBubble$Slow" ({ cls := "LargeBubble$Blower", name := "takeFrom", desc := "([I)V" } : Jvm.MethodName) ({ cls := "LargeBubble$Blower", name := "takeFrom", desc := "([I)V" } : Jvm.MethodName)) ∈ am_T0 := am_t4 (List.mem_of_getElem? (i := 85) rfl) rfl
set_option maxRecDepth 100000 in
theorem kw_806 : (Jvm.Cond.selects "LargeBubble$Told" ({ cls := "LargeBubble$Blower", name := "takeFrom", desc := "([I)V" } : Jvm.MethodName) ({ cls := "LargeBubble$Told", name := "takeFrom", desc := "([I)V" } : Jvm.MethodName)) ∈ am_T0 := am_t4 (List.mem_of_getElem? (i := 86) rfl) rfl
set_option maxRecDepth 100000 in
theorem kw_807 : (Jvm.Cond.instanceMethod ({ cls := "LargeBubble$Told", name := "takeFrom", desc := "([I)V" } : Jvm.MethodName)) ∈ am_T0 := am_t4 (List.mem_of_getElem? (i := 87) rfl) rfl
set_option maxRecDepth 100000 in
theorem kw_808 : (Jvm.Cond.code ({ cls := "LargeBubble$Told", name := "takeFrom", desc := "([I)V" } : Jvm.MethodName) prog_11_method_3_code (2 : Nat) (Option.none : Option Jvm.ClassFile.FieldType)) ∈ am_T0 := am_t4 (List.mem_of_getElem? (i := 88) rfl) rfl
set_option maxRecDepth 100000 in
theorem kw_809 : (Jvm.Cond.methodLink "LargeBubble$Told" (25 : Nat) ({ cls := "LargeBubble$Slow", name := "takeFrom", desc := "([I)V" } : Jvm.MethodName)) ∈ am_T0 := am_t4 (List.mem_of_getElem? (i := 89) rfl) rfl
set_option maxRecDepth 100000 in
theorem kw_810 : (Jvm.Cond.sameMethod "LargeBubble$Slow" "LargeBubble$Blower" "takeFrom" "([I)V") ∈ am_T0 := am_t4 (List.mem_of_getElem? (i := 90) rfl) rfl
set_option maxRecDepth 100000 in
theorem kn_811 : (Jvm.Cond.declares ({ cls := "LargeBubble$Blower", name := "takeFrom", desc := "([I)V" } : Jvm.MethodName)) ∈ lw_tbl := am_tl4 (List.mem_of_getElem? (i := 91) rfl)
set_option maxRecDepth 100000 in
theorem kw_812 : (Jvm.Cond.selects "LargeBubble$Wise" ({ cls := "LargeBubble$Blower", name := "takeFrom", desc := "([I)V" } : Jvm.MethodName) ({ cls := "LargeBubble$Blower", name := "takeFrom", desc := "([I)V" } : Jvm.MethodName)) ∈ am_T0 := am_t4 (List.mem_of_getElem? (i := 92) rfl) rfl
set_option maxRecDepth 100000 in
theorem kw_813 : (Jvm.Cond.code ({ cls := "LargeBubble$Blower", name := "takeFrom", desc := "([I)V" } : Jvm.MethodName) prog_2_method_4_code (2 : Nat) (Option.none : Option Jvm.ClassFile.FieldType)) ∈ am_T0 := am_t4 (List.mem_of_getElem? (i := 93) rfl) rfl
set_option maxRecDepth 100000 in
theorem kw_814 : (Jvm.Cond.methodLink "LargeBubbleLaw" (132 : Nat) ({ cls := "LargeBubble", name := "act", desc := "(III)I" } : Jvm.MethodName)) ∈ am_T0 := am_t4 (List.mem_of_getElem? (i := 94) rfl) rfl
set_option maxRecDepth 100000 in
theorem kw_815 : (Jvm.Cond.instanceMethod ({ cls := "LargeBubble", name := "act", desc := "(III)I" } : Jvm.MethodName)) ∈ am_T0 := am_t4 (List.mem_of_getElem? (i := 95) rfl) rfl
set_option maxRecDepth 100000 in
theorem kw_816 : (Jvm.Cond.selects "LargeBubble" ({ cls := "LargeBubble", name := "act", desc := "(III)I" } : Jvm.MethodName) ({ cls := "LargeBubble", name := "act", desc := "(III)I" } : Jvm.MethodName)) ∈ am_T0 := am_t4 (List.mem_of_getElem? (i := 96) rfl) rfl
set_option maxRecDepth 100000 in
theorem kw_817 : (Jvm.Cond.code ({ cls := "LargeBubble", name := "act", desc := "(III)I" } : Jvm.MethodName) prog_1_method_30_code (5 : Nat) (Option.some Jvm.ClassFile.FieldType.int)) ∈ am_T0 := am_t4 (List.mem_of_getElem? (i := 97) rfl) rfl
set_option maxRecDepth 100000 in
theorem kw_818 : (Jvm.Cond.methodLink "LargeBubble" (243 : Nat) ({ cls := "LargeBubble$Blower", name := "opens", desc := "(I[I)I" } : Jvm.MethodName)) ∈ am_T0 := am_t4 (List.mem_of_getElem? (i := 98) rfl) rfl
set_option maxRecDepth 100000 in
theorem kw_819 : (Jvm.Cond.instanceMethod ({ cls := "LargeBubble$Blower", name := "opens", desc := "(I[I)I" } : Jvm.MethodName)) ∈ am_T0 := am_t4 (List.mem_of_getElem? (i := 99) rfl) rfl
set_option maxRecDepth 100000 in
theorem kw_820 : (Jvm.Cond.selects "LargeBubble$Blower" ({ cls := "LargeBubble$Blower", name := "opens", desc := "(I[I)I" } : Jvm.MethodName) ({ cls := "LargeBubble$Blower", name := "opens", desc := "(I[I)I" } : Jvm.MethodName)) ∈ am_T0 := am_t4 (List.mem_of_getElem? (i := 100) rfl) rfl
set_option maxRecDepth 100000 in
theorem kw_821 : (Jvm.Cond.sameMethod "LargeBubble$Blower" "LargeBubble$Blower" "opens" "(I[I)I") ∈ am_T0 := am_t4 (List.mem_of_getElem? (i := 101) rfl) rfl
set_option maxRecDepth 100000 in
theorem kw_822 : (Jvm.Cond.selects "LargeBubble$Bold" ({ cls := "LargeBubble$Blower", name := "opens", desc := "(I[I)I" } : Jvm.MethodName) ({ cls := "LargeBubble$Blower", name := "opens", desc := "(I[I)I" } : Jvm.MethodName)) ∈ am_T0 := am_t4 (List.mem_of_getElem? (i := 102) rfl) rfl
set_option maxRecDepth 100000 in
theorem kw_823 : (Jvm.Cond.selects "LargeBubble$Careful" ({ cls := "LargeBubble$Blower", name := "opens", desc := "(I[I)I" } : Jvm.MethodName) ({ cls := "LargeBubble$Careful", name := "opens", desc := "(I[I)I" } : Jvm.MethodName)) ∈ am_T0 := am_t4 (List.mem_of_getElem? (i := 103) rfl) rfl
set_option maxRecDepth 100000 in
theorem kw_824 : (Jvm.Cond.instanceMethod ({ cls := "LargeBubble$Careful", name := "opens", desc := "(I[I)I" } : Jvm.MethodName)) ∈ am_T0 := am_t4 (List.mem_of_getElem? (i := 104) rfl) rfl
set_option maxRecDepth 100000 in
theorem kw_825 : (Jvm.Cond.code ({ cls := "LargeBubble$Careful", name := "opens", desc := "(I[I)I" } : Jvm.MethodName) prog_4_method_3_code (3 : Nat) (Option.some Jvm.ClassFile.FieldType.int)) ∈ am_T0 := am_t4 (List.mem_of_getElem? (i := 105) rfl) rfl
set_option maxRecDepth 100000 in
theorem kw_826 : (Jvm.Cond.methodLink "LargeBubble$Careful" (25 : Nat) ({ cls := "LargeBubble$Careful", name := "note", desc := "(I[I)V" } : Jvm.MethodName)) ∈ am_T0 := am_t4 (List.mem_of_getElem? (i := 106) rfl) rfl
set_option maxRecDepth 100000 in
theorem kw_827 : (Jvm.Cond.sameMethod "LargeBubble$Careful" "LargeBubble$Blower" "note" "(I[I)V") ∈ am_T0 := am_t4 (List.mem_of_getElem? (i := 107) rfl) rfl
set_option maxRecDepth 100000 in
theorem kw_828 : (Jvm.Cond.static ({ cls := "LargeBubble$Blower", name := "note", desc := "(I[I)V" } : Jvm.MethodName)) ∈ am_T0 := am_t4 (List.mem_of_getElem? (i := 108) rfl) rfl
set_option maxRecDepth 100000 in
theorem kw_829 : (Jvm.Cond.code ({ cls := "LargeBubble$Blower", name := "note", desc := "(I[I)V" } : Jvm.MethodName) prog_2_method_10_code (3 : Nat) (Option.none : Option Jvm.ClassFile.FieldType)) ∈ am_T0 := am_t4 (List.mem_of_getElem? (i := 109) rfl) rfl
set_option maxRecDepth 100000 in
theorem kw_830 : (Jvm.Cond.methodLink "LargeBubble$Careful" (29 : Nat) ({ cls := "LargeBubble$Blower", name := "opens", desc := "(I[I)I" } : Jvm.MethodName)) ∈ am_T0 := am_t4 (List.mem_of_getElem? (i := 110) rfl) rfl
set_option maxRecDepth 100000 in
theorem kw_831 : (Jvm.Cond.selects "LargeBubble$Mad" ({ cls := "LargeBubble$Blower", name := "opens", desc := "(I[I)I" } : Jvm.MethodName) ({ cls := "LargeBubble$Mad", name := "opens", desc := "(I[I)I" } : Jvm.MethodName)) ∈ am_T0 := am_t4 (List.mem_of_getElem? (i := 111) rfl) rfl
set_option maxRecDepth 100000 in
theorem kw_832 : (Jvm.Cond.instanceMethod ({ cls := "LargeBubble$Mad", name := "opens", desc := "(I[I)I" } : Jvm.MethodName)) ∈ am_T0 := am_t4 (List.mem_of_getElem? (i := 112) rfl) rfl
set_option maxRecDepth 100000 in
theorem kw_833 : (Jvm.Cond.code ({ cls := "LargeBubble$Mad", name := "opens", desc := "(I[I)I" } : Jvm.MethodName) prog_6_method_4_code (3 : Nat) (Option.some Jvm.ClassFile.FieldType.int)) ∈ am_T0 := am_t4 (List.mem_of_getElem? (i := 113) rfl) rfl
set_option maxRecDepth 100000 in
theorem kw_834 : (Jvm.Cond.methodLink "LargeBubble$Mad" (17 : Nat) ({ cls := "LargeBubble$Mad", name := "note", desc := "(I[I)V" } : Jvm.MethodName)) ∈ am_T0 := am_t4 (List.mem_of_getElem? (i := 114) rfl) rfl
set_option maxRecDepth 100000 in
theorem kw_835 : (Jvm.Cond.sameMethod "LargeBubble$Mad" "LargeBubble$Blower" "note" "(I[I)V") ∈ am_T0 := am_t4 (List.mem_of_getElem? (i := 115) rfl) rfl
set_option maxRecDepth 100000 in
theorem kw_836 : (Jvm.Cond.methodLink "LargeBubble$Mad" (23 : Nat) ({ cls := "LargeBubble$Bold", name := "opens", desc := "(I[I)I" } : Jvm.MethodName)) ∈ am_T0 := am_t4 (List.mem_of_getElem? (i := 116) rfl) rfl
set_option maxRecDepth 100000 in
theorem kw_837 : (Jvm.Cond.sameMethod "LargeBubble$Bold" "LargeBubble$Blower" "opens" "(I[I)I") ∈ am_T0 := am_t4 (List.mem_of_getElem? (i := 117) rfl) rfl
set_option maxRecDepth 100000 in
theorem kn_838 : (Jvm.Cond.declares ({ cls := "LargeBubble$Blower", name := "opens", desc := "(I[I)I" } : Jvm.MethodName)) ∈ lw_tbl := am_tl4 (List.mem_of_getElem? (i := 118) rfl)
set_option maxRecDepth 100000 in
theorem kw_839 : (Jvm.Cond.selects "LargeBubble$Slow" ({ cls := "LargeBubble$Blower", name := "opens", desc := "(I[I)I" } : Jvm.MethodName) ({ cls := "LargeBubble$Blower", name := "opens", desc := "(I[I)I" } : Jvm.MethodName)) ∈ am_T0 := am_t4 (List.mem_of_getElem? (i := 119) rfl) rfl
set_option maxRecDepth 100000 in
theorem kw_840 : (Jvm.Cond.selects "LargeBubble$Told" ({ cls := "LargeBubble$Blower", name := "opens", desc := "(I[I)I" } : Jvm.MethodName) ({ cls := "LargeBubble$Told", name := "opens", desc := "(I[I)I" } : Jvm.MethodName)) ∈ am_T0 := am_t4 (List.mem_of_getElem? (i := 120) rfl) rfl
set_option maxRecDepth 100000 in
theorem kw_841 : (Jvm.Cond.instanceMethod ({ cls := "LargeBubble$Told", name := "opens", desc := "(I[I)I" } : Jvm.MethodName)) ∈ am_T0 := am_t4 (List.mem_of_getElem? (i := 121) rfl) rfl
set_option maxRecDepth 100000 in
theorem kw_842 : (Jvm.Cond.code ({ cls := "LargeBubble$Told", name := "opens", desc := "(I[I)I" } : Jvm.MethodName) prog_11_method_6_code (3 : Nat) (Option.some Jvm.ClassFile.FieldType.int)) ∈ am_T0 := am_t4 (List.mem_of_getElem? (i := 122) rfl) rfl
set_option maxRecDepth 100000 in
theorem kw_843 : (Jvm.Cond.methodLink "LargeBubble$Told" (46 : Nat) ({ cls := "LargeBubble$Told", name := "note", desc := "(I[I)V" } : Jvm.MethodName)) ∈ am_T0 := am_t4 (List.mem_of_getElem? (i := 123) rfl) rfl
set_option maxRecDepth 100000 in
theorem kw_844 : (Jvm.Cond.sameMethod "LargeBubble$Told" "LargeBubble$Blower" "note" "(I[I)V") ∈ am_T0 := am_t4 (List.mem_of_getElem? (i := 124) rfl) rfl
set_option maxRecDepth 100000 in
theorem kw_845 : (Jvm.Cond.methodLink "LargeBubble$Told" (54 : Nat) ({ cls := "LargeBubble$Slow", name := "opens", desc := "(I[I)I" } : Jvm.MethodName)) ∈ am_T0 := am_t4 (List.mem_of_getElem? (i := 125) rfl) rfl
set_option maxRecDepth 100000 in
theorem kw_846 : (Jvm.Cond.sameMethod "LargeBubble$Slow" "LargeBubble$Blower" "opens" "(I[I)I") ∈ am_T0 := am_t4 (List.mem_of_getElem? (i := 126) rfl) rfl
set_option maxRecDepth 100000 in
theorem kw_847 : (Jvm.Cond.selects "LargeBubble$Wise" ({ cls := "LargeBubble$Blower", name := "opens", desc := "(I[I)I" } : Jvm.MethodName) ({ cls := "LargeBubble$Careful", name := "opens", desc := "(I[I)I" } : Jvm.MethodName)) ∈ am_T0 := am_t4 (List.mem_of_getElem? (i := 127) rfl) rfl
set_option maxRecDepth 100000 in
theorem kw_848 : (Jvm.Cond.code ({ cls := "LargeBubble$Blower", name := "opens", desc := "(I[I)I" } : Jvm.MethodName) prog_2_method_7_code (3 : Nat) (Option.some Jvm.ClassFile.FieldType.int)) ∈ am_T0 := am_t4 (List.mem_of_getElem? (i := 128) rfl) rfl
set_option maxRecDepth 100000 in
theorem kw_849 : (Jvm.Cond.methodLink "LargeBubble$Blower" (38 : Nat) ({ cls := "LargeBubble$Blower", name := "note", desc := "(I[I)V" } : Jvm.MethodName)) ∈ am_T0 := am_t4 (List.mem_of_getElem? (i := 129) rfl) rfl
set_option maxRecDepth 100000 in
theorem kw_850 : (Jvm.Cond.methodLink "LargeBubble" (247 : Nat) ({ cls := "LargeBubble$Blower", name := "grows", desc := "(I[I)I" } : Jvm.MethodName)) ∈ am_T0 := am_t4 (List.mem_of_getElem? (i := 130) rfl) rfl
set_option maxRecDepth 100000 in
theorem kw_851 : (Jvm.Cond.instanceMethod ({ cls := "LargeBubble$Blower", name := "grows", desc := "(I[I)I" } : Jvm.MethodName)) ∈ am_T0 := am_t4 (List.mem_of_getElem? (i := 131) rfl) rfl
set_option maxRecDepth 100000 in
theorem kw_852 : (Jvm.Cond.selects "LargeBubble$Blower" ({ cls := "LargeBubble$Blower", name := "grows", desc := "(I[I)I" } : Jvm.MethodName) ({ cls := "LargeBubble$Blower", name := "grows", desc := "(I[I)I" } : Jvm.MethodName)) ∈ am_T0 := am_t4 (List.mem_of_getElem? (i := 132) rfl) rfl
set_option maxRecDepth 100000 in
theorem kw_853 : (Jvm.Cond.sameMethod "LargeBubble$Blower" "LargeBubble$Blower" "grows" "(I[I)I") ∈ am_T0 := am_t4 (List.mem_of_getElem? (i := 133) rfl) rfl
set_option maxRecDepth 100000 in
theorem kw_854 : (Jvm.Cond.selects "LargeBubble$Bold" ({ cls := "LargeBubble$Blower", name := "grows", desc := "(I[I)I" } : Jvm.MethodName) ({ cls := "LargeBubble$Bold", name := "grows", desc := "(I[I)I" } : Jvm.MethodName)) ∈ am_T0 := am_t4 (List.mem_of_getElem? (i := 134) rfl) rfl
set_option maxRecDepth 100000 in
theorem kw_855 : (Jvm.Cond.instanceMethod ({ cls := "LargeBubble$Bold", name := "grows", desc := "(I[I)I" } : Jvm.MethodName)) ∈ am_T0 := am_t4 (List.mem_of_getElem? (i := 135) rfl) rfl
set_option maxRecDepth 100000 in
theorem kw_856 : (Jvm.Cond.code ({ cls := "LargeBubble$Bold", name := "grows", desc := "(I[I)I" } : Jvm.MethodName) prog_3_method_3_code (3 : Nat) (Option.some Jvm.ClassFile.FieldType.int)) ∈ am_T0 := am_t4 (List.mem_of_getElem? (i := 136) rfl) rfl
set_option maxRecDepth 100000 in
theorem kw_857 : (Jvm.Cond.methodLink "LargeBubble$Bold" (21 : Nat) ({ cls := "LargeBubble$Bold", name := "note", desc := "(I[I)V" } : Jvm.MethodName)) ∈ am_T0 := am_t4 (List.mem_of_getElem? (i := 137) rfl) rfl
set_option maxRecDepth 100000 in
theorem kw_858 : (Jvm.Cond.sameMethod "LargeBubble$Bold" "LargeBubble$Blower" "note" "(I[I)V") ∈ am_T0 := am_t4 (List.mem_of_getElem? (i := 138) rfl) rfl
set_option maxRecDepth 100000 in
theorem kw_859 : (Jvm.Cond.methodLink "LargeBubble$Bold" (25 : Nat) ({ cls := "LargeBubble$Blower", name := "grows", desc := "(I[I)I" } : Jvm.MethodName)) ∈ am_T0 := am_t4 (List.mem_of_getElem? (i := 139) rfl) rfl
set_option maxRecDepth 100000 in
theorem kw_860 : (Jvm.Cond.selects "LargeBubble$Careful" ({ cls := "LargeBubble$Blower", name := "grows", desc := "(I[I)I" } : Jvm.MethodName) ({ cls := "LargeBubble$Blower", name := "grows", desc := "(I[I)I" } : Jvm.MethodName)) ∈ am_T0 := am_t4 (List.mem_of_getElem? (i := 140) rfl) rfl
set_option maxRecDepth 100000 in
theorem kw_861 : (Jvm.Cond.selects "LargeBubble$Mad" ({ cls := "LargeBubble$Blower", name := "grows", desc := "(I[I)I" } : Jvm.MethodName) ({ cls := "LargeBubble$Mad", name := "grows", desc := "(I[I)I" } : Jvm.MethodName)) ∈ am_T0 := am_t4 (List.mem_of_getElem? (i := 141) rfl) rfl
set_option maxRecDepth 100000 in
theorem kw_862 : (Jvm.Cond.instanceMethod ({ cls := "LargeBubble$Mad", name := "grows", desc := "(I[I)I" } : Jvm.MethodName)) ∈ am_T0 := am_t4 (List.mem_of_getElem? (i := 142) rfl) rfl
set_option maxRecDepth 100000 in
theorem kw_863 : (Jvm.Cond.code ({ cls := "LargeBubble$Mad", name := "grows", desc := "(I[I)I" } : Jvm.MethodName) prog_6_method_5_code (3 : Nat) (Option.some Jvm.ClassFile.FieldType.int)) ∈ am_T0 := am_t4 (List.mem_of_getElem? (i := 143) rfl) rfl
set_option maxRecDepth 100000 in
theorem kw_864 : (Jvm.Cond.methodLink "LargeBubble$Mad" (27 : Nat) ({ cls := "LargeBubble$Bold", name := "grows", desc := "(I[I)I" } : Jvm.MethodName)) ∈ am_T0 := am_t4 (List.mem_of_getElem? (i := 144) rfl) rfl
set_option maxRecDepth 100000 in
theorem kw_865 : (Jvm.Cond.selects "LargeBubble$Slow" ({ cls := "LargeBubble$Blower", name := "grows", desc := "(I[I)I" } : Jvm.MethodName) ({ cls := "LargeBubble$Blower", name := "grows", desc := "(I[I)I" } : Jvm.MethodName)) ∈ am_T0 := am_t4 (List.mem_of_getElem? (i := 145) rfl) rfl
set_option maxRecDepth 100000 in
theorem kw_866 : (Jvm.Cond.selects "LargeBubble$Told" ({ cls := "LargeBubble$Blower", name := "grows", desc := "(I[I)I" } : Jvm.MethodName) ({ cls := "LargeBubble$Told", name := "grows", desc := "(I[I)I" } : Jvm.MethodName)) ∈ am_T0 := am_t4 (List.mem_of_getElem? (i := 146) rfl) rfl
set_option maxRecDepth 100000 in
theorem kw_867 : (Jvm.Cond.instanceMethod ({ cls := "LargeBubble$Told", name := "grows", desc := "(I[I)I" } : Jvm.MethodName)) ∈ am_T0 := am_t4 (List.mem_of_getElem? (i := 147) rfl) rfl
set_option maxRecDepth 100000 in
theorem kw_868 : (Jvm.Cond.code ({ cls := "LargeBubble$Told", name := "grows", desc := "(I[I)I" } : Jvm.MethodName) prog_11_method_5_code (3 : Nat) (Option.some Jvm.ClassFile.FieldType.int)) ∈ am_T0 := am_t4 (List.mem_of_getElem? (i := 148) rfl) rfl
set_option maxRecDepth 100000 in
theorem kw_869 : (Jvm.Cond.methodLink "LargeBubble$Told" (50 : Nat) ({ cls := "LargeBubble$Slow", name := "grows", desc := "(I[I)I" } : Jvm.MethodName)) ∈ am_T0 := am_t4 (List.mem_of_getElem? (i := 149) rfl) rfl
set_option maxRecDepth 100000 in
theorem kw_870 : (Jvm.Cond.sameMethod "LargeBubble$Slow" "LargeBubble$Blower" "grows" "(I[I)I") ∈ am_T0 := am_t4 (List.mem_of_getElem? (i := 150) rfl) rfl
set_option maxRecDepth 100000 in
theorem kn_871 : (Jvm.Cond.declares ({ cls := "LargeBubble$Blower", name := "grows", desc := "(I[I)I" } : Jvm.MethodName)) ∈ lw_tbl := am_tl4 (List.mem_of_getElem? (i := 151) rfl)
set_option maxRecDepth 100000 in
theorem kw_872 : (Jvm.Cond.selects "LargeBubble$Wise" ({ cls := "LargeBubble$Blower", name := "grows", desc := "(I[I)I" } : Jvm.MethodName) ({ cls := "LargeBubble$Blower", name := "grows", desc := "(I[I)I" } : Jvm.MethodName)) ∈ am_T0 := am_t4 (List.mem_of_getElem? (i := 152) rfl) rfl
set_option maxRecDepth 100000 in
theorem kw_873 : (Jvm.Cond.code ({ cls := "LargeBubble$Blower", name := "grows", desc := "(I[I)I" } : Jvm.MethodName) prog_2_method_8_code (3 : Nat) (Option.some Jvm.ClassFile.FieldType.int)) ∈ am_T0 := am_t4 (List.mem_of_getElem? (i := 153) rfl) rfl
set_option maxRecDepth 100000 in
theorem kw_874 : (Jvm.Cond.methodLink "LargeBubble$Blower" (42 : Nat) ({ cls := "LargeBubble$Blower", name := "opens", desc := "(I[I)I" } : Jvm.MethodName)) ∈ am_T0 := am_t4 (List.mem_of_getElem? (i := 154) rfl) rfl
set_option maxRecDepth 100000 in
theorem kw_875 : (Jvm.Cond.methodLink "LargeBubble" (250 : Nat) ({ cls := "LargeBubble$Blower", name := "tells", desc := "(I[I)I" } : Jvm.MethodName)) ∈ am_T0 := am_t4 (List.mem_of_getElem? (i := 155) rfl) rfl
set_option maxRecDepth 100000 in
theorem kw_876 : (Jvm.Cond.instanceMethod ({ cls := "LargeBubble$Blower", name := "tells", desc := "(I[I)I" } : Jvm.MethodName)) ∈ am_T0 := am_t4 (List.mem_of_getElem? (i := 156) rfl) rfl
set_option maxRecDepth 100000 in
theorem kw_877 : (Jvm.Cond.selects "LargeBubble$Blower" ({ cls := "LargeBubble$Blower", name := "tells", desc := "(I[I)I" } : Jvm.MethodName) ({ cls := "LargeBubble$Blower", name := "tells", desc := "(I[I)I" } : Jvm.MethodName)) ∈ am_T0 := am_t4 (List.mem_of_getElem? (i := 157) rfl) rfl
set_option maxRecDepth 100000 in
theorem kw_878 : (Jvm.Cond.sameMethod "LargeBubble$Blower" "LargeBubble$Blower" "tells" "(I[I)I") ∈ am_T0 := am_t4 (List.mem_of_getElem? (i := 158) rfl) rfl
set_option maxRecDepth 100000 in
theorem kw_879 : (Jvm.Cond.selects "LargeBubble$Bold" ({ cls := "LargeBubble$Blower", name := "tells", desc := "(I[I)I" } : Jvm.MethodName) ({ cls := "LargeBubble$Blower", name := "tells", desc := "(I[I)I" } : Jvm.MethodName)) ∈ am_T0 := am_t4 (List.mem_of_getElem? (i := 159) rfl) rfl
set_option maxRecDepth 100000 in
theorem kw_880 : (Jvm.Cond.selects "LargeBubble$Careful" ({ cls := "LargeBubble$Blower", name := "tells", desc := "(I[I)I" } : Jvm.MethodName) ({ cls := "LargeBubble$Blower", name := "tells", desc := "(I[I)I" } : Jvm.MethodName)) ∈ am_T0 := am_t4 (List.mem_of_getElem? (i := 160) rfl) rfl
set_option maxRecDepth 100000 in
theorem kw_881 : (Jvm.Cond.selects "LargeBubble$Mad" ({ cls := "LargeBubble$Blower", name := "tells", desc := "(I[I)I" } : Jvm.MethodName) ({ cls := "LargeBubble$Blower", name := "tells", desc := "(I[I)I" } : Jvm.MethodName)) ∈ am_T0 := am_t4 (List.mem_of_getElem? (i := 161) rfl) rfl
set_option maxRecDepth 100000 in
theorem kw_882 : (Jvm.Cond.selects "LargeBubble$Slow" ({ cls := "LargeBubble$Blower", name := "tells", desc := "(I[I)I" } : Jvm.MethodName) ({ cls := "LargeBubble$Slow", name := "tells", desc := "(I[I)I" } : Jvm.MethodName)) ∈ am_T0 := am_t4 (List.mem_of_getElem? (i := 162) rfl) rfl
set_option maxRecDepth 100000 in
theorem kw_883 : (Jvm.Cond.instanceMethod ({ cls := "LargeBubble$Slow", name := "tells", desc := "(I[I)I" } : Jvm.MethodName)) ∈ am_T0 := am_t4 (List.mem_of_getElem? (i := 163) rfl) rfl
set_option maxRecDepth 100000 in
theorem kw_884 : (Jvm.Cond.code ({ cls := "LargeBubble$Slow", name := "tells", desc := "(I[I)I" } : Jvm.MethodName) prog_7_method_3_code (3 : Nat) (Option.some Jvm.ClassFile.FieldType.int)) ∈ am_T0 := am_t4 (List.mem_of_getElem? (i := 164) rfl) rfl
set_option maxRecDepth 100000 in
theorem kw_885 : (Jvm.Cond.methodLink "LargeBubble$Slow" (7 : Nat) ({ cls := "LargeBubble$Slow", name := "note", desc := "(I[I)V" } : Jvm.MethodName)) ∈ am_T0 := am_t4 (List.mem_of_getElem? (i := 165) rfl) rfl
set_option maxRecDepth 100000 in
theorem kw_886 : (Jvm.Cond.sameMethod "LargeBubble$Slow" "LargeBubble$Blower" "note" "(I[I)V") ∈ am_T0 := am_t4 (List.mem_of_getElem? (i := 166) rfl) rfl
set_option maxRecDepth 100000 in
theorem kw_887 : (Jvm.Cond.methodLink "LargeBubble$Slow" (13 : Nat) ({ cls := "LargeBubble$Blower", name := "tells", desc := "(I[I)I" } : Jvm.MethodName)) ∈ am_T0 := am_t4 (List.mem_of_getElem? (i := 167) rfl) rfl
set_option maxRecDepth 100000 in
theorem kw_888 : (Jvm.Cond.methodLink "LargeBubble$Slow" (17 : Nat) ({ cls := "LargeBubble$Slow", name := "grows", desc := "(I[I)I" } : Jvm.MethodName)) ∈ am_T0 := am_t4 (List.mem_of_getElem? (i := 168) rfl) rfl
set_option maxRecDepth 100000 in
theorem kw_889 : (Jvm.Cond.selects "LargeBubble$Slow" ({ cls := "LargeBubble$Slow", name := "grows", desc := "(I[I)I" } : Jvm.MethodName) ({ cls := "LargeBubble$Blower", name := "grows", desc := "(I[I)I" } : Jvm.MethodName)) ∈ am_T0 := am_t4 (List.mem_of_getElem? (i := 169) rfl) rfl
set_option maxRecDepth 100000 in
theorem kw_890 : (Jvm.Cond.selects "LargeBubble$Told" ({ cls := "LargeBubble$Slow", name := "grows", desc := "(I[I)I" } : Jvm.MethodName) ({ cls := "LargeBubble$Told", name := "grows", desc := "(I[I)I" } : Jvm.MethodName)) ∈ am_T0 := am_t4 (List.mem_of_getElem? (i := 170) rfl) rfl
set_option maxRecDepth 100000 in
theorem kw_891 : (Jvm.Cond.selects "LargeBubble$Told" ({ cls := "LargeBubble$Blower", name := "tells", desc := "(I[I)I" } : Jvm.MethodName) ({ cls := "LargeBubble$Slow", name := "tells", desc := "(I[I)I" } : Jvm.MethodName)) ∈ am_T0 := am_t4 (List.mem_of_getElem? (i := 171) rfl) rfl
set_option maxRecDepth 100000 in
theorem kw_892 : (Jvm.Cond.selects "LargeBubble$Wise" ({ cls := "LargeBubble$Blower", name := "tells", desc := "(I[I)I" } : Jvm.MethodName) ({ cls := "LargeBubble$Wise", name := "tells", desc := "(I[I)I" } : Jvm.MethodName)) ∈ am_T0 := am_t4 (List.mem_of_getElem? (i := 172) rfl) rfl
set_option maxRecDepth 100000 in
theorem kw_893 : (Jvm.Cond.instanceMethod ({ cls := "LargeBubble$Wise", name := "tells", desc := "(I[I)I" } : Jvm.MethodName)) ∈ am_T0 := am_t4 (List.mem_of_getElem? (i := 173) rfl) rfl
set_option maxRecDepth 100000 in
theorem kw_894 : (Jvm.Cond.code ({ cls := "LargeBubble$Wise", name := "tells", desc := "(I[I)I" } : Jvm.MethodName) prog_12_method_3_code (3 : Nat) (Option.some Jvm.ClassFile.FieldType.int)) ∈ am_T0 := am_t4 (List.mem_of_getElem? (i := 174) rfl) rfl
set_option maxRecDepth 100000 in
theorem kw_895 : (Jvm.Cond.methodLink "LargeBubble$Wise" (20 : Nat) ({ cls := "LargeBubble$Wise", name := "note", desc := "(I[I)V" } : Jvm.MethodName)) ∈ am_T0 := am_t4 (List.mem_of_getElem? (i := 175) rfl) rfl
set_option maxRecDepth 100000 in
theorem kw_896 : (Jvm.Cond.sameMethod "LargeBubble$Wise" "LargeBubble$Blower" "note" "(I[I)V") ∈ am_T0 := am_t4 (List.mem_of_getElem? (i := 176) rfl) rfl
set_option maxRecDepth 100000 in
theorem kw_897 : (Jvm.Cond.methodLink "LargeBubble$Wise" (29 : Nat) ({ cls := "LargeBubble$Careful", name := "tells", desc := "(I[I)I" } : Jvm.MethodName)) ∈ am_T0 := am_t4 (List.mem_of_getElem? (i := 177) rfl) rfl
set_option maxRecDepth 100000 in
theorem kw_898 : (Jvm.Cond.sameMethod "LargeBubble$Careful" "LargeBubble$Blower" "tells" "(I[I)I") ∈ am_T0 := am_t4 (List.mem_of_getElem? (i := 178) rfl) rfl
set_option maxRecDepth 100000 in
theorem kn_899 : (Jvm.Cond.declares ({ cls := "LargeBubble$Blower", name := "tells", desc := "(I[I)I" } : Jvm.MethodName)) ∈ lw_tbl := am_tl4 (List.mem_of_getElem? (i := 179) rfl)
set_option maxRecDepth 100000 in
theorem kw_900 : (Jvm.Cond.code ({ cls := "LargeBubble$Blower", name := "tells", desc := "(I[I)I" } : Jvm.MethodName) prog_2_method_9_code (3 : Nat) (Option.some Jvm.ClassFile.FieldType.int)) ∈ am_T0 := am_t4 (List.mem_of_getElem? (i := 180) rfl) rfl
set_option maxRecDepth 100000 in
theorem kw_901 : (Jvm.Cond.methodLink "LargeBubble$Blower" (46 : Nat) ({ cls := "LargeBubble$Blower", name := "grows", desc := "(I[I)I" } : Jvm.MethodName)) ∈ am_T0 := am_t4 (List.mem_of_getElem? (i := 181) rfl) rfl
set_option maxRecDepth 100000 in
theorem kw_902 : (Jvm.Cond.methodLink "LargeBubbleLaw" (136 : Nat) ({ cls := "LargeBubble", name := "trace", desc := "(I)I" } : Jvm.MethodName)) ∈ am_T0 := am_t4 (List.mem_of_getElem? (i := 182) rfl) rfl
set_option maxRecDepth 100000 in
theorem kw_903 : (Jvm.Cond.instanceMethod ({ cls := "LargeBubble", name := "trace", desc := "(I)I" } : Jvm.MethodName)) ∈ am_T0 := am_t4 (List.mem_of_getElem? (i := 183) rfl) rfl
set_option maxRecDepth 100000 in
theorem kw_904 : (Jvm.Cond.selects "LargeBubble" ({ cls := "LargeBubble", name := "trace", desc := "(I)I" } : Jvm.MethodName) ({ cls := "LargeBubble", name := "trace", desc := "(I)I" } : Jvm.MethodName)) ∈ am_T0 := am_t4 (List.mem_of_getElem? (i := 184) rfl) rfl
set_option maxRecDepth 100000 in
theorem kw_905 : (Jvm.Cond.code ({ cls := "LargeBubble", name := "trace", desc := "(I)I" } : Jvm.MethodName) prog_1_method_31_code (2 : Nat) (Option.some Jvm.ClassFile.FieldType.int)) ∈ am_T0 := am_t4 (List.mem_of_getElem? (i := 185) rfl) rfl
set_option maxRecDepth 100000 in
theorem kw_906 : (Jvm.Cond.methodLink "LargeBubbleLaw" (140 : Nat) ({ cls := "LargeBubble", name := "taken", desc := "(II)I" } : Jvm.MethodName)) ∈ am_T0 := am_t4 (List.mem_of_getElem? (i := 186) rfl) rfl
set_option maxRecDepth 100000 in
theorem kw_907 : (Jvm.Cond.instanceMethod ({ cls := "LargeBubble", name := "taken", desc := "(II)I" } : Jvm.MethodName)) ∈ am_T0 := am_t4 (List.mem_of_getElem? (i := 187) rfl) rfl
set_option maxRecDepth 100000 in
theorem kw_908 : (Jvm.Cond.selects "LargeBubble" ({ cls := "LargeBubble", name := "taken", desc := "(II)I" } : Jvm.MethodName) ({ cls := "LargeBubble", name := "taken", desc := "(II)I" } : Jvm.MethodName)) ∈ am_T0 := am_t4 (List.mem_of_getElem? (i := 188) rfl) rfl
set_option maxRecDepth 100000 in
theorem kw_909 : (Jvm.Cond.code ({ cls := "LargeBubble", name := "taken", desc := "(II)I" } : Jvm.MethodName) prog_1_method_32_code (4 : Nat) (Option.some Jvm.ClassFile.FieldType.int)) ∈ am_T0 := am_t4 (List.mem_of_getElem? (i := 189) rfl) rfl
set_option maxRecDepth 100000 in
theorem kw_910 : (Jvm.Cond.methodLink "LargeBubble" (253 : Nat) ({ cls := "LargeBubble", name := "isOfKind", desc := "(LLargeBubble$Blower;I)Z" } : Jvm.MethodName)) ∈ am_T0 := am_t4 (List.mem_of_getElem? (i := 190) rfl) rfl
set_option maxRecDepth 100000 in
theorem kw_911 : (Jvm.Cond.static ({ cls := "LargeBubble", name := "isOfKind", desc := "(LLargeBubble$Blower;I)Z" } : Jvm.MethodName)) ∈ am_T0 := am_t4 (List.mem_of_getElem? (i := 191) rfl) rfl
set_option maxRecDepth 100000 in
theorem kw_912 : (Jvm.Cond.code ({ cls := "LargeBubble", name := "isOfKind", desc := "(LLargeBubble$Blower;I)Z" } : Jvm.MethodName) prog_1_method_41_code (2 : Nat) (Option.some Jvm.ClassFile.FieldType.boolean)) ∈ am_T0 := am_t4 (List.mem_of_getElem? (i := 192) rfl) rfl
set_option maxRecDepth 100000 in
theorem kw_913 : (Jvm.Cond.methodLink "LargeBubbleLaw" (144 : Nat) ({ cls := "LargeBubble", name := "count", desc := "(I)I" } : Jvm.MethodName)) ∈ am_T0 := am_t4 (List.mem_of_getElem? (i := 193) rfl) rfl
set_option maxRecDepth 100000 in
theorem kw_914 : (Jvm.Cond.instanceMethod ({ cls := "LargeBubble", name := "count", desc := "(I)I" } : Jvm.MethodName)) ∈ am_T0 := am_t4 (List.mem_of_getElem? (i := 194) rfl) rfl
set_option maxRecDepth 100000 in
theorem kw_915 : (Jvm.Cond.selects "LargeBubble" ({ cls := "LargeBubble", name := "count", desc := "(I)I" } : Jvm.MethodName) ({ cls := "LargeBubble", name := "count", desc := "(I)I" } : Jvm.MethodName)) ∈ am_T0 := am_t4 (List.mem_of_getElem? (i := 195) rfl) rfl
set_option maxRecDepth 100000 in
theorem kw_916 : (Jvm.Cond.code ({ cls := "LargeBubble", name := "count", desc := "(I)I" } : Jvm.MethodName) prog_1_method_33_code (2 : Nat) (Option.some Jvm.ClassFile.FieldType.int)) ∈ am_T0 := am_t4 (List.mem_of_getElem? (i := 196) rfl) rfl
set_option maxRecDepth 100000 in
theorem kw_917 : (Jvm.Cond.methodLink "LargeBubbleLaw" (148 : Nat) ({ cls := "LargeBubble", name := "tape", desc := "(III)I" } : Jvm.MethodName)) ∈ am_T0 := am_t4 (List.mem_of_getElem? (i := 197) rfl) rfl
set_option maxRecDepth 100000 in
theorem kw_918 : (Jvm.Cond.instanceMethod ({ cls := "LargeBubble", name := "tape", desc := "(III)I" } : Jvm.MethodName)) ∈ am_T0 := am_t4 (List.mem_of_getElem? (i := 198) rfl) rfl
set_option maxRecDepth 100000 in
theorem kw_919 : (Jvm.Cond.selects "LargeBubble" ({ cls := "LargeBubble", name := "tape", desc := "(III)I" } : Jvm.MethodName) ({ cls := "LargeBubble", name := "tape", desc := "(III)I" } : Jvm.MethodName)) ∈ am_T0 := am_t4 (List.mem_of_getElem? (i := 199) rfl) rfl
set_option maxRecDepth 100000 in
theorem kw_920 : (Jvm.Cond.code ({ cls := "LargeBubble", name := "tape", desc := "(III)I" } : Jvm.MethodName) prog_1_method_34_code (6 : Nat) (Option.some Jvm.ClassFile.FieldType.int)) ∈ am_T0 := am_t4 (List.mem_of_getElem? (i := 200) rfl) rfl
set_option maxRecDepth 100000 in
theorem kw_921 : (Jvm.Cond.methodLink "LargeBubbleLaw" (154 : Nat) ({ cls := "LargeBubble", name := "item", desc := "(IIJ)I" } : Jvm.MethodName)) ∈ am_T0 := am_t4 (List.mem_of_getElem? (i := 201) rfl) rfl
set_option maxRecDepth 100000 in
theorem kw_922 : (Jvm.Cond.instanceMethod ({ cls := "LargeBubble", name := "item", desc := "(IIJ)I" } : Jvm.MethodName)) ∈ am_T0 := am_t4 (List.mem_of_getElem? (i := 202) rfl) rfl
set_option maxRecDepth 100000 in
theorem kw_923 : (Jvm.Cond.selects "LargeBubble" ({ cls := "LargeBubble", name := "item", desc := "(IIJ)I" } : Jvm.MethodName) ({ cls := "LargeBubble", name := "item", desc := "(IIJ)I" } : Jvm.MethodName)) ∈ am_T0 := am_t4 (List.mem_of_getElem? (i := 203) rfl) rfl
set_option maxRecDepth 100000 in
theorem kw_924 : (Jvm.Cond.code ({ cls := "LargeBubble", name := "item", desc := "(IIJ)I" } : Jvm.MethodName) prog_1_method_35_code (5 : Nat) (Option.some Jvm.ClassFile.FieldType.int)) ∈ am_T0 := am_t4 (List.mem_of_getElem? (i := 204) rfl) rfl
set_option maxRecDepth 100000 in
theorem kw_925 : (Jvm.Cond.methodLink "LargeBubble" (257 : Nat) ({ cls := "LargeBubble", name := "asItem", desc := "(IJ)J" } : Jvm.MethodName)) ∈ am_T0 := am_t4 (List.mem_of_getElem? (i := 205) rfl) rfl
set_option maxRecDepth 100000 in
theorem kw_926 : (Jvm.Cond.static ({ cls := "LargeBubble", name := "asItem", desc := "(IJ)J" } : Jvm.MethodName)) ∈ am_T0 := am_t4 (List.mem_of_getElem? (i := 206) rfl) rfl
set_option maxRecDepth 100000 in
theorem kw_927 : (Jvm.Cond.code ({ cls := "LargeBubble", name := "asItem", desc := "(IJ)J" } : Jvm.MethodName) prog_1_method_52_code (3 : Nat) (Option.some Jvm.ClassFile.FieldType.long)) ∈ am_T0 := am_t4 (List.mem_of_getElem? (i := 207) rfl) rfl
set_option maxRecDepth 100000 in
theorem kw_928 : (Jvm.Cond.methodLink "LargeBubbleLaw" (159 : Nat) ({ cls := "LargeBubble", name := "read", desc := "(II)J" } : Jvm.MethodName)) ∈ am_T0 := am_t4 (List.mem_of_getElem? (i := 208) rfl) rfl
set_option maxRecDepth 100000 in
theorem kw_929 : (Jvm.Cond.instanceMethod ({ cls := "LargeBubble", name := "read", desc := "(II)J" } : Jvm.MethodName)) ∈ am_T0 := am_t4 (List.mem_of_getElem? (i := 209) rfl) rfl
set_option maxRecDepth 100000 in
theorem kw_930 : (Jvm.Cond.selects "LargeBubble" ({ cls := "LargeBubble", name := "read", desc := "(II)J" } : Jvm.MethodName) ({ cls := "LargeBubble", name := "read", desc := "(II)J" } : Jvm.MethodName)) ∈ am_T0 := am_t4 (List.mem_of_getElem? (i := 210) rfl) rfl
set_option maxRecDepth 100000 in
theorem kw_931 : (Jvm.Cond.code ({ cls := "LargeBubble", name := "read", desc := "(II)J" } : Jvm.MethodName) prog_1_method_36_code (3 : Nat) (Option.some Jvm.ClassFile.FieldType.long)) ∈ am_T0 := am_t4 (List.mem_of_getElem? (i := 211) rfl) rfl
set_option maxRecDepth 100000 in
theorem kw_932 : (Jvm.Cond.methodLink "LargeBubbleLaw" (163 : Nat) ({ cls := "LargeBubble", name := "shift", desc := "(IIIII)I" } : Jvm.MethodName)) ∈ am_T0 := am_t4 (List.mem_of_getElem? (i := 212) rfl) rfl
set_option maxRecDepth 100000 in
theorem kw_933 : (Jvm.Cond.instanceMethod ({ cls := "LargeBubble", name := "shift", desc := "(IIIII)I" } : Jvm.MethodName)) ∈ am_T0 := am_t4 (List.mem_of_getElem? (i := 213) rfl) rfl
set_option maxRecDepth 100000 in
theorem kw_934 : (Jvm.Cond.selects "LargeBubble" ({ cls := "LargeBubble", name := "shift", desc := "(IIIII)I" } : Jvm.MethodName) ({ cls := "LargeBubble", name := "shift", desc := "(IIIII)I" } : Jvm.MethodName)) ∈ am_T0 := am_t4 (List.mem_of_getElem? (i := 214) rfl) rfl
set_option maxRecDepth 100000 in
theorem kw_935 : (Jvm.Cond.code ({ cls := "LargeBubble", name := "shift", desc := "(IIIII)I" } : Jvm.MethodName) prog_1_method_37_code (6 : Nat) (Option.some Jvm.ClassFile.FieldType.int)) ∈ am_T0 := am_t4 (List.mem_of_getElem? (i := 215) rfl) rfl
set_option maxRecDepth 100000 in
theorem kw_936 : (Jvm.Cond.methodLink "LargeBubble" (261 : Nat) ({ cls := "LargeBubble", name := "hasPlaces", desc := "(III)Z" } : Jvm.MethodName)) ∈ am_T0 := am_t4 (List.mem_of_getElem? (i := 216) rfl) rfl
set_option maxRecDepth 100000 in
theorem kw_938 : (Jvm.Cond.instanceMethod ({ cls := "LargeBubble", name := "hasPlaces", desc := "(III)Z" } : Jvm.MethodName)) ∈ am_T0 := am_t4 (List.mem_of_getElem? (i := 218) rfl) rfl
set_option maxRecDepth 100000 in
theorem kw_939 : (Jvm.Cond.code ({ cls := "LargeBubble", name := "hasPlaces", desc := "(III)Z" } : Jvm.MethodName) prog_1_method_51_code (4 : Nat) (Option.some Jvm.ClassFile.FieldType.boolean)) ∈ am_T0 := am_t4 (List.mem_of_getElem? (i := 219) rfl) rfl
set_option maxRecDepth 100000 in
theorem kw_940 : (Jvm.Cond.methodLink "LargeBubble" (264 : Nat) ({ cls := "java/lang/System", name := "arraycopy", desc := "(Ljava/lang/Object;ILjava/lang/Object;II)V" } : Jvm.MethodName)) ∈ am_T0 := am_t4 (List.mem_of_getElem? (i := 220) rfl) rfl
set_option maxRecDepth 100000 in
theorem kw_941 : (Jvm.Cond.classLink "LargeBubbleLaw" (10 : Nat) "LargeBubbleModel") ∈ am_T0 := am_t4 (List.mem_of_getElem? (i := 221) rfl) rfl
set_option maxRecDepth 100000 in
theorem kw_942 : (Jvm.Cond.instantiable "LargeBubbleModel" (71 : Nat)) ∈ am_T0 := am_t4 (List.mem_of_getElem? (i := 222) rfl) rfl
set_option maxRecDepth 100000 in
theorem kw_943 : (Jvm.Cond.methodLink "LargeBubbleLaw" (12 : Nat) ({ cls := "LargeBubbleModel", name := "<init>", desc := "()V" } : Jvm.MethodName)) ∈ am_T0 := am_t4 (List.mem_of_getElem? (i := 223) rfl) rfl
set_option maxRecDepth 100000 in
theorem kw_944 : (Jvm.Cond.instanceMethod ({ cls := "LargeBubbleModel", name := "<init>", desc := "()V" } : Jvm.MethodName)) ∈ am_T0 := am_t4 (List.mem_of_getElem? (i := 224) rfl) rfl
set_option maxRecDepth 100000 in
theorem kw_945 : (Jvm.Cond.code ({ cls := "LargeBubbleModel", name := "<init>", desc := "()V" } : Jvm.MethodName) prog_14_method_1_code (1 : Nat) (Option.none : Option Jvm.ClassFile.FieldType)) ∈ am_T0 := am_t4 (List.mem_of_getElem? (i := 225) rfl) rfl
set_option maxRecDepth 100000 in
theorem kw_946 : (Jvm.Cond.methodLink "LargeBubbleModel" (1 : Nat) ({ cls := "java/lang/Object", name := "<init>", desc := "()V" } : Jvm.MethodName)) ∈ am_T0 := am_t4 (List.mem_of_getElem? (i := 226) rfl) rfl
set_option maxRecDepth 100000 in
theorem kw_947 : (Jvm.Cond.fieldLink "LargeBubbleModel" (7 : Nat) "LargeBubbleModel" "blowers" "I") ∈ am_T0 := am_t4 (List.mem_of_getElem? (i := 227) rfl) rfl
set_option maxRecDepth 100000 in
theorem kw_948 : (Jvm.Cond.fieldLink "LargeBubbleModel" (13 : Nat) "LargeBubbleModel" "minute" "I") ∈ am_T0 := am_t4 (List.mem_of_getElem? (i := 228) rfl) rfl
set_option maxRecDepth 100000 in
theorem kw_949 : (Jvm.Cond.fieldLink "LargeBubbleModel" (16 : Nat) "LargeBubbleModel" "kind" "[I") ∈ am_T0 := am_t4 (List.mem_of_getElem? (i := 229) rfl) rfl
set_option maxRecDepth 100000 in
theorem kw_950 : (Jvm.Cond.fieldLink "LargeBubbleModel" (20 : Nat) "LargeBubbleModel" "v" "[I") ∈ am_T0 := am_t4 (List.mem_of_getElem? (i := 230) rfl) rfl
set_option maxRecDepth 100000 in
theorem kw_951 : (Jvm.Cond.fieldLink "LargeBubbleModel" (23 : Nat) "LargeBubbleModel" "cord" "[I") ∈ am_T0 := am_t4 (List.mem_of_getElem? (i := 231) rfl) rfl
set_option maxRecDepth 100000 in
theorem kw_952 : (Jvm.Cond.fieldLink "LargeBubbleModel" (26 : Nat) "LargeBubbleModel" "aim" "[I") ∈ am_T0 := am_t4 (List.mem_of_getElem? (i := 232) rfl) rfl
set_option maxRecDepth 100000 in
theorem kw_953 : (Jvm.Cond.fieldLink "LargeBubbleModel" (29 : Nat) "LargeBubbleModel" "coins" "[I") ∈ am_T0 := am_t4 (List.mem_of_getElem? (i := 233) rfl) rfl
set_option maxRecDepth 100000 in
theorem kw_954 : (Jvm.Cond.fieldLink "LargeBubbleModel" (32 : Nat) "LargeBubbleModel" "rows" "[I") ∈ am_T0 := am_t4 (List.mem_of_getElem? (i := 234) rfl) rfl
set_option maxRecDepth 100000 in
theorem kw_955 : (Jvm.Cond.fieldLink "LargeBubbleModel" (35 : Nat) "LargeBubbleModel" "bucket" "[I") ∈ am_T0 := am_t4 (List.mem_of_getElem? (i := 235) rfl) rfl
set_option maxRecDepth 100000 in
theorem kw_956 : (Jvm.Cond.fieldLink "LargeBubbleModel" (38 : Nat) "LargeBubbleModel" "squares" "I") ∈ am_T0 := am_t4 (List.mem_of_getElem? (i := 236) rfl) rfl
set_option maxRecDepth 100000 in
theorem kw_957 : (Jvm.Cond.fieldLink "LargeBubbleModel" (41 : Nat) "LargeBubbleModel" "the" "I") ∈ am_T0 := am_t4 (List.mem_of_getElem? (i := 237) rfl) rfl
set_option maxRecDepth 100000 in
theorem kw_958 : (Jvm.Cond.fieldLink "LargeBubbleModel" (44 : Nat) "LargeBubbleModel" "fed" "I") ∈ am_T0 := am_t4 (List.mem_of_getElem? (i := 238) rfl) rfl
set_option maxRecDepth 100000 in
theorem kw_959 : (Jvm.Cond.fieldLink "LargeBubbleModel" (47 : Nat) "LargeBubbleModel" "at" "I") ∈ am_T0 := am_t4 (List.mem_of_getElem? (i := 239) rfl) rfl
set_option maxRecDepth 100000 in
theorem kw_960 : (Jvm.Cond.fieldLink "LargeBubbleModel" (50 : Nat) "LargeBubbleModel" "digits" "I") ∈ am_T0 := am_t5 (List.mem_of_getElem? (i := 0) rfl) rfl
set_option maxRecDepth 100000 in
theorem kw_961 : (Jvm.Cond.fieldLink "LargeBubbleModel" (53 : Nat) "LargeBubbleModel" "text" "[I") ∈ am_T0 := am_t5 (List.mem_of_getElem? (i := 1) rfl) rfl
set_option maxRecDepth 100000 in
theorem kw_962 : (Jvm.Cond.fieldLink "LargeBubbleModel" (56 : Nat) "LargeBubbleModel" "clauses" "[I") ∈ am_T0 := am_t5 (List.mem_of_getElem? (i := 2) rfl) rfl
set_option maxRecDepth 100000 in
theorem kw_963 : (Jvm.Cond.fieldLink "LargeBubbleModel" (59 : Nat) "LargeBubbleModel" "word" "[I") ∈ am_T0 := am_t5 (List.mem_of_getElem? (i := 3) rfl) rfl
set_option maxRecDepth 100000 in
theorem kw_964 : (Jvm.Cond.fieldLink "LargeBubbleModel" (62 : Nat) "LargeBubbleModel" "number" "[I") ∈ am_T0 := am_t5 (List.mem_of_getElem? (i := 4) rfl) rfl
set_option maxRecDepth 100000 in
theorem kw_965 : (Jvm.Cond.fieldLink "LargeBubbleModel" (65 : Nat) "LargeBubbleModel" "from" "[I") ∈ am_T0 := am_t5 (List.mem_of_getElem? (i := 5) rfl) rfl
set_option maxRecDepth 100000 in
theorem kw_966 : (Jvm.Cond.fieldLink "LargeBubbleModel" (68 : Nat) "LargeBubbleModel" "to" "[I") ∈ am_T0 := am_t5 (List.mem_of_getElem? (i := 6) rfl) rfl
set_option maxRecDepth 100000 in
theorem kw_967 : (Jvm.Cond.fieldLink "LargeBubbleModel" (71 : Nat) "LargeBubbleModel" "sign" "[I") ∈ am_T0 := am_t5 (List.mem_of_getElem? (i := 7) rfl) rfl
set_option maxRecDepth 100000 in
theorem kw_968 : (Jvm.Cond.fieldLink "LargeBubbleModel" (74 : Nat) "LargeBubbleModel" "waits" "[I") ∈ am_T0 := am_t5 (List.mem_of_getElem? (i := 8) rfl) rfl
set_option maxRecDepth 100000 in
theorem kw_969 : (Jvm.Cond.fieldLink "LargeBubbleModel" (77 : Nat) "LargeBubbleModel" "signs" "I") ∈ am_T0 := am_t5 (List.mem_of_getElem? (i := 9) rfl) rfl
set_option maxRecDepth 100000 in
theorem kw_970 : (Jvm.Cond.fieldLink "LargeBubbleModel" (80 : Nat) "LargeBubbleModel" "waiting" "I") ∈ am_T0 := am_t5 (List.mem_of_getElem? (i := 10) rfl) rfl
set_option maxRecDepth 100000 in
theorem kw_971 : (Jvm.Cond.fieldLink "LargeBubbleModel" (83 : Nat) "LargeBubbleModel" "open" "I") ∈ am_T0 := am_t5 (List.mem_of_getElem? (i := 11) rfl) rfl
set_option maxRecDepth 100000 in
theorem kw_972 : (Jvm.Cond.fieldLink "LargeBubbleModel" (86 : Nat) "LargeBubbleModel" "letters" "[I") ∈ am_T0 := am_t5 (List.mem_of_getElem? (i := 12) rfl) rfl
set_option maxRecDepth 100000 in
theorem kw_973 : (Jvm.Cond.fieldLink "LargeBubbleModel" (89 : Nat) "LargeBubbleModel" "pile" "[Z") ∈ am_T0 := am_t5 (List.mem_of_getElem? (i := 13) rfl) rfl
set_option maxRecDepth 100000 in
theorem kw_974 : (Jvm.Cond.fieldLink "LargeBubbleModel" (93 : Nat) "LargeBubbleModel" "size" "I") ∈ am_T0 := am_t5 (List.mem_of_getElem? (i := 14) rfl) rfl
set_option maxRecDepth 100000 in
theorem kw_975 : (Jvm.Cond.fieldLink "LargeBubbleModel" (96 : Nat) "LargeBubbleModel" "film" "I") ∈ am_T0 := am_t5 (List.mem_of_getElem? (i := 15) rfl) rfl
set_option maxRecDepth 100000 in
theorem kw_976 : (Jvm.Cond.fieldLink "LargeBubbleModel" (99 : Nat) "LargeBubbleModel" "clock" "I") ∈ am_T0 := am_t5 (List.mem_of_getElem? (i := 16) rfl) rfl
set_option maxRecDepth 100000 in
theorem kw_977 : (Jvm.Cond.fieldLink "LargeBubbleModel" (102 : Nat) "LargeBubbleModel" "goSize" "I") ∈ am_T0 := am_t5 (List.mem_of_getElem? (i := 17) rfl) rfl
set_option maxRecDepth 100000 in
theorem kw_978 : (Jvm.Cond.fieldLink "LargeBubbleModel" (105 : Nat) "LargeBubbleModel" "goLife" "I") ∈ am_T0 := am_t5 (List.mem_of_getElem? (i := 18) rfl) rfl
set_option maxRecDepth 100000 in
theorem kw_979 : (Jvm.Cond.fieldLink "LargeBubbleModel" (108 : Nat) "LargeBubbleModel" "goBrings" "I") ∈ am_T0 := am_t5 (List.mem_of_getElem? (i := 19) rfl) rfl
set_option maxRecDepth 100000 in
theorem kw_980 : (Jvm.Cond.fieldLink "LargeBubbleModel" (111 : Nat) "LargeBubbleModel" "goMinutes" "I") ∈ am_T0 := am_t5 (List.mem_of_getElem? (i := 20) rfl) rfl
set_option maxRecDepth 100000 in
theorem kw_981 : (Jvm.Cond.fieldLink "LargeBubbleModel" (114 : Nat) "LargeBubbleModel" "isTorn" "Z") ∈ am_T0 := am_t5 (List.mem_of_getElem? (i := 21) rfl) rfl
set_option maxRecDepth 100000 in
theorem kw_982 : (Jvm.Cond.fieldLink "LargeBubbleModel" (118 : Nat) "LargeBubbleModel" "isCalm" "Z") ∈ am_T0 := am_t5 (List.mem_of_getElem? (i := 22) rfl) rfl
set_option maxRecDepth 100000 in
theorem kw_983 : (Jvm.Cond.fieldLink "LargeBubbleModel" (121 : Nat) "LargeBubbleModel" "gust" "I") ∈ am_T0 := am_t5 (List.mem_of_getElem? (i := 23) rfl) rfl
set_option maxRecDepth 100000 in
theorem kw_984 : (Jvm.Cond.fieldLink "LargeBubbleModel" (124 : Nat) "LargeBubbleModel" "earned" "[I") ∈ am_T0 := am_t5 (List.mem_of_getElem? (i := 24) rfl) rfl
set_option maxRecDepth 100000 in
theorem kw_985 : (Jvm.Cond.fieldLink "LargeBubbleModel" (127 : Nat) "LargeBubbleModel" "dayTorn" "I") ∈ am_T0 := am_t5 (List.mem_of_getElem? (i := 25) rfl) rfl
set_option maxRecDepth 100000 in
theorem kw_986 : (Jvm.Cond.fieldLink "LargeBubbleModel" (130 : Nat) "LargeBubbleModel" "dayMinute" "I") ∈ am_T0 := am_t5 (List.mem_of_getElem? (i := 26) rfl) rfl
set_option maxRecDepth 100000 in
theorem kw_987 : (Jvm.Cond.fieldLink "LargeBubbleModel" (133 : Nat) "LargeBubbleModel" "seen" "I") ∈ am_T0 := am_t5 (List.mem_of_getElem? (i := 27) rfl) rfl
set_option maxRecDepth 100000 in
theorem kw_988 : (Jvm.Cond.fieldLink "LargeBubbleModel" (136 : Nat) "LargeBubbleModel" "seenWho" "[I") ∈ am_T0 := am_t5 (List.mem_of_getElem? (i := 28) rfl) rfl
set_option maxRecDepth 100000 in
theorem kw_989 : (Jvm.Cond.fieldLink "LargeBubbleModel" (139 : Nat) "LargeBubbleModel" "seenWhen" "[I") ∈ am_T0 := am_t5 (List.mem_of_getElem? (i := 29) rfl) rfl
set_option maxRecDepth 100000 in
theorem kw_990 : (Jvm.Cond.fieldLink "LargeBubbleModel" (142 : Nat) "LargeBubbleModel" "seenSize" "[I") ∈ am_T0 := am_t5 (List.mem_of_getElem? (i := 30) rfl) rfl
set_option maxRecDepth 100000 in
theorem kw_991 : (Jvm.Cond.fieldLink "LargeBubbleModel" (145 : Nat) "LargeBubbleModel" "books" "I") ∈ am_T0 := am_t5 (List.mem_of_getElem? (i := 31) rfl) rfl
set_option maxRecDepth 100000 in
theorem kw_992 : (Jvm.Cond.fieldLink "LargeBubbleModel" (148 : Nat) "LargeBubbleModel" "bookWho" "[I") ∈ am_T0 := am_t5 (List.mem_of_getElem? (i := 32) rfl) rfl
set_option maxRecDepth 100000 in
theorem kw_993 : (Jvm.Cond.fieldLink "LargeBubbleModel" (151 : Nat) "LargeBubbleModel" "bookTorn" "[Z") ∈ am_T0 := am_t5 (List.mem_of_getElem? (i := 33) rfl) rfl
set_option maxRecDepth 100000 in
theorem kw_994 : (Jvm.Cond.fieldLink "LargeBubbleModel" (154 : Nat) "LargeBubbleModel" "hasImage" "Z") ∈ am_T0 := am_t5 (List.mem_of_getElem? (i := 34) rfl) rfl
set_option maxRecDepth 100000 in
theorem kw_995 : (Jvm.Cond.fieldLink "LargeBubbleModel" (157 : Nat) "LargeBubbleModel" "imageThe" "I") ∈ am_T0 := am_t5 (List.mem_of_getElem? (i := 35) rfl) rfl
set_option maxRecDepth 100000 in
theorem kw_996 : (Jvm.Cond.fieldLink "LargeBubbleModel" (160 : Nat) "LargeBubbleModel" "imageBlowers" "I") ∈ am_T0 := am_t5 (List.mem_of_getElem? (i := 36) rfl) rfl
set_option maxRecDepth 100000 in
theorem kw_997 : (Jvm.Cond.fieldLink "LargeBubbleModel" (163 : Nat) "LargeBubbleModel" "imageMinute" "I") ∈ am_T0 := am_t5 (List.mem_of_getElem? (i := 37) rfl) rfl
set_option maxRecDepth 100000 in
theorem kw_998 : (Jvm.Cond.fieldLink "LargeBubbleModel" (166 : Nat) "LargeBubbleModel" "imageSeen" "I") ∈ am_T0 := am_t5 (List.mem_of_getElem? (i := 38) rfl) rfl
set_option maxRecDepth 100000 in
theorem kw_999 : (Jvm.Cond.fieldLink "LargeBubbleModel" (169 : Nat) "LargeBubbleModel" "imageBooks" "I") ∈ am_T0 := am_t5 (List.mem_of_getElem? (i := 39) rfl) rfl
set_option maxRecDepth 100000 in
theorem kw_1000 : (Jvm.Cond.fieldLink "LargeBubbleModel" (172 : Nat) "LargeBubbleModel" "imageKind" "[I") ∈ am_T0 := am_t5 (List.mem_of_getElem? (i := 40) rfl) rfl
set_option maxRecDepth 100000 in
theorem kw_1001 : (Jvm.Cond.fieldLink "LargeBubbleModel" (175 : Nat) "LargeBubbleModel" "imageV" "[I") ∈ am_T0 := am_t5 (List.mem_of_getElem? (i := 41) rfl) rfl
set_option maxRecDepth 100000 in
theorem kw_1002 : (Jvm.Cond.fieldLink "LargeBubbleModel" (178 : Nat) "LargeBubbleModel" "imageCord" "[I") ∈ am_T0 := am_t5 (List.mem_of_getElem? (i := 42) rfl) rfl
set_option maxRecDepth 100000 in
theorem kw_1003 : (Jvm.Cond.fieldLink "LargeBubbleModel" (181 : Nat) "LargeBubbleModel" "imageAim" "[I") ∈ am_T0 := am_t5 (List.mem_of_getElem? (i := 43) rfl) rfl
set_option maxRecDepth 100000 in
theorem kw_1004 : (Jvm.Cond.fieldLink "LargeBubbleModel" (184 : Nat) "LargeBubbleModel" "imageCoins" "[I") ∈ am_T0 := am_t5 (List.mem_of_getElem? (i := 44) rfl) rfl
set_option maxRecDepth 100000 in
theorem kw_1005 : (Jvm.Cond.fieldLink "LargeBubbleModel" (187 : Nat) "LargeBubbleModel" "imageRows" "[I") ∈ am_T0 := am_t5 (List.mem_of_getElem? (i := 45) rfl) rfl
set_option maxRecDepth 100000 in
theorem kw_1006 : (Jvm.Cond.fieldLink "LargeBubbleModel" (190 : Nat) "LargeBubbleModel" "imageBucket" "[I") ∈ am_T0 := am_t5 (List.mem_of_getElem? (i := 46) rfl) rfl
set_option maxRecDepth 100000 in
theorem kw_1007 : (Jvm.Cond.fieldLink "LargeBubbleModel" (193 : Nat) "LargeBubbleModel" "imageWho" "[I") ∈ am_T0 := am_t5 (List.mem_of_getElem? (i := 47) rfl) rfl
set_option maxRecDepth 100000 in
theorem kw_1008 : (Jvm.Cond.fieldLink "LargeBubbleModel" (196 : Nat) "LargeBubbleModel" "imageWhen" "[I") ∈ am_T0 := am_t5 (List.mem_of_getElem? (i := 48) rfl) rfl
set_option maxRecDepth 100000 in
theorem kw_1009 : (Jvm.Cond.fieldLink "LargeBubbleModel" (199 : Nat) "LargeBubbleModel" "imageSize" "[I") ∈ am_T0 := am_t5 (List.mem_of_getElem? (i := 49) rfl) rfl
set_option maxRecDepth 100000 in
theorem kw_1010 : (Jvm.Cond.fieldLink "LargeBubbleModel" (202 : Nat) "LargeBubbleModel" "imageBook" "[I") ∈ am_T0 := am_t5 (List.mem_of_getElem? (i := 50) rfl) rfl
set_option maxRecDepth 100000 in
theorem kw_1011 : (Jvm.Cond.fieldLink "LargeBubbleModel" (205 : Nat) "LargeBubbleModel" "imageTorn" "[Z") ∈ am_T0 := am_t5 (List.mem_of_getElem? (i := 51) rfl) rfl
set_option maxRecDepth 100000 in
theorem kw_1012 : (Jvm.Cond.fieldLink "LargeBubbleModel" (208 : Nat) "LargeBubbleModel" "ran" "I") ∈ am_T0 := am_t5 (List.mem_of_getElem? (i := 52) rfl) rfl
set_option maxRecDepth 100000 in
theorem kw_1013 : (Jvm.Cond.fieldLink "LargeBubbleModel" (211 : Nat) "LargeBubbleModel" "bodies" "[I") ∈ am_T0 := am_t5 (List.mem_of_getElem? (i := 53) rfl) rfl
set_option maxRecDepth 100000 in
theorem kw_1014 : (Jvm.Cond.fieldLink "LargeBubbleModel" (214 : Nat) "LargeBubbleModel" "sort" "[I") ∈ am_T0 := am_t5 (List.mem_of_getElem? (i := 54) rfl) rfl
set_option maxRecDepth 100000 in
theorem kw_1015 : (Jvm.Cond.fieldLink "LargeBubbleModel" (217 : Nat) "LargeBubbleModel" "length" "[I") ∈ am_T0 := am_t5 (List.mem_of_getElem? (i := 55) rfl) rfl
set_option maxRecDepth 100000 in
theorem kw_1016 : (Jvm.Cond.fieldLink "LargeBubbleModel" (220 : Nat) "LargeBubbleModel" "item" "[J") ∈ am_T0 := am_t5 (List.mem_of_getElem? (i := 56) rfl) rfl
set_option maxRecDepth 100000 in
theorem kw_1017 : (Jvm.Cond.fieldLink "LargeBubbleModel" (224 : Nat) "LargeBubbleModel" "aside" "[J") ∈ am_T0 := am_t5 (List.mem_of_getElem? (i := 57) rfl) rfl
set_option maxRecDepth 100000 in
theorem kw_1018 : (Jvm.Cond.lays "LargeBubbleModel" "LargeBubbleModel" "blowers" "I") ∈ am_T0 := am_t5 (List.mem_of_getElem? (i := 58) rfl) rfl
set_option maxRecDepth 100000 in
theorem kw_1020 : (Jvm.Cond.lays "LargeBubbleModel" "LargeBubbleModel" "minute" "I") ∈ am_T0 := am_t5 (List.mem_of_getElem? (i := 60) rfl) rfl
set_option maxRecDepth 100000 in
theorem kw_1022 : (Jvm.Cond.laysFinal "LargeBubbleModel" "LargeBubbleModel" "kind" "[I") ∈ am_T0 := am_t5 (List.mem_of_getElem? (i := 62) rfl) rfl
set_option maxRecDepth 100000 in
theorem kw_1024 : (Jvm.Cond.laysFinal "LargeBubbleModel" "LargeBubbleModel" "v" "[I") ∈ am_T0 := am_t5 (List.mem_of_getElem? (i := 64) rfl) rfl
set_option maxRecDepth 100000 in
theorem kw_1026 : (Jvm.Cond.laysFinal "LargeBubbleModel" "LargeBubbleModel" "cord" "[I") ∈ am_T0 := am_t5 (List.mem_of_getElem? (i := 66) rfl) rfl
set_option maxRecDepth 100000 in
theorem kw_1028 : (Jvm.Cond.laysFinal "LargeBubbleModel" "LargeBubbleModel" "aim" "[I") ∈ am_T0 := am_t5 (List.mem_of_getElem? (i := 68) rfl) rfl
set_option maxRecDepth 100000 in
theorem kw_1030 : (Jvm.Cond.laysFinal "LargeBubbleModel" "LargeBubbleModel" "coins" "[I") ∈ am_T0 := am_t5 (List.mem_of_getElem? (i := 70) rfl) rfl
set_option maxRecDepth 100000 in
theorem kw_1032 : (Jvm.Cond.laysFinal "LargeBubbleModel" "LargeBubbleModel" "rows" "[I") ∈ am_T0 := am_t5 (List.mem_of_getElem? (i := 72) rfl) rfl
set_option maxRecDepth 100000 in
theorem kw_1034 : (Jvm.Cond.laysFinal "LargeBubbleModel" "LargeBubbleModel" "bucket" "[I") ∈ am_T0 := am_t5 (List.mem_of_getElem? (i := 74) rfl) rfl
set_option maxRecDepth 100000 in
theorem kw_1036 : (Jvm.Cond.lays "LargeBubbleModel" "LargeBubbleModel" "squares" "I") ∈ am_T0 := am_t5 (List.mem_of_getElem? (i := 76) rfl) rfl
set_option maxRecDepth 100000 in
theorem kw_1038 : (Jvm.Cond.lays "LargeBubbleModel" "LargeBubbleModel" "the" "I") ∈ am_T0 := am_t5 (List.mem_of_getElem? (i := 78) rfl) rfl
set_option maxRecDepth 100000 in
theorem kw_1040 : (Jvm.Cond.lays "LargeBubbleModel" "LargeBubbleModel" "fed" "I") ∈ am_T0 := am_t5 (List.mem_of_getElem? (i := 80) rfl) rfl
set_option maxRecDepth 100000 in
theorem kw_1042 : (Jvm.Cond.lays "LargeBubbleModel" "LargeBubbleModel" "at" "I") ∈ am_T0 := am_t5 (List.mem_of_getElem? (i := 82) rfl) rfl
set_option maxRecDepth 100000 in
theorem kw_1044 : (Jvm.Cond.lays "LargeBubbleModel" "LargeBubbleModel" "digits" "I") ∈ am_T0 := am_t5 (List.mem_of_getElem? (i := 84) rfl) rfl
set_option maxRecDepth 100000 in
theorem kw_1046 : (Jvm.Cond.laysFinal "LargeBubbleModel" "LargeBubbleModel" "text" "[I") ∈ am_T0 := am_t5 (List.mem_of_getElem? (i := 86) rfl) rfl
set_option maxRecDepth 100000 in
theorem kw_1048 : (Jvm.Cond.laysFinal "LargeBubbleModel" "LargeBubbleModel" "clauses" "[I") ∈ am_T0 := am_t5 (List.mem_of_getElem? (i := 88) rfl) rfl
set_option maxRecDepth 100000 in
theorem kw_1050 : (Jvm.Cond.laysFinal "LargeBubbleModel" "LargeBubbleModel" "word" "[I") ∈ am_T0 := am_t5 (List.mem_of_getElem? (i := 90) rfl) rfl
set_option maxRecDepth 100000 in
theorem kw_1052 : (Jvm.Cond.laysFinal "LargeBubbleModel" "LargeBubbleModel" "number" "[I") ∈ am_T0 := am_t5 (List.mem_of_getElem? (i := 92) rfl) rfl
set_option maxRecDepth 100000 in
theorem kw_1054 : (Jvm.Cond.laysFinal "LargeBubbleModel" "LargeBubbleModel" "from" "[I") ∈ am_T0 := am_t5 (List.mem_of_getElem? (i := 94) rfl) rfl
set_option maxRecDepth 100000 in
theorem kw_1056 : (Jvm.Cond.laysFinal "LargeBubbleModel" "LargeBubbleModel" "to" "[I") ∈ am_T0 := am_t5 (List.mem_of_getElem? (i := 96) rfl) rfl
set_option maxRecDepth 100000 in
theorem kw_1058 : (Jvm.Cond.laysFinal "LargeBubbleModel" "LargeBubbleModel" "sign" "[I") ∈ am_T0 := am_t5 (List.mem_of_getElem? (i := 98) rfl) rfl
set_option maxRecDepth 100000 in
theorem kw_1060 : (Jvm.Cond.laysFinal "LargeBubbleModel" "LargeBubbleModel" "waits" "[I") ∈ am_T0 := am_t5 (List.mem_of_getElem? (i := 100) rfl) rfl
set_option maxRecDepth 100000 in
theorem kw_1062 : (Jvm.Cond.lays "LargeBubbleModel" "LargeBubbleModel" "signs" "I") ∈ am_T0 := am_t5 (List.mem_of_getElem? (i := 102) rfl) rfl
set_option maxRecDepth 100000 in
theorem kw_1064 : (Jvm.Cond.lays "LargeBubbleModel" "LargeBubbleModel" "waiting" "I") ∈ am_T0 := am_t5 (List.mem_of_getElem? (i := 104) rfl) rfl
set_option maxRecDepth 100000 in
theorem kw_1066 : (Jvm.Cond.lays "LargeBubbleModel" "LargeBubbleModel" "open" "I") ∈ am_T0 := am_t5 (List.mem_of_getElem? (i := 106) rfl) rfl
set_option maxRecDepth 100000 in
theorem kw_1068 : (Jvm.Cond.laysFinal "LargeBubbleModel" "LargeBubbleModel" "letters" "[I") ∈ am_T0 := am_t5 (List.mem_of_getElem? (i := 108) rfl) rfl
set_option maxRecDepth 100000 in
theorem kw_1070 : (Jvm.Cond.laysFinal "LargeBubbleModel" "LargeBubbleModel" "pile" "[Z") ∈ am_T0 := am_t5 (List.mem_of_getElem? (i := 110) rfl) rfl
set_option maxRecDepth 100000 in
theorem kw_1072 : (Jvm.Cond.lays "LargeBubbleModel" "LargeBubbleModel" "size" "I") ∈ am_T0 := am_t5 (List.mem_of_getElem? (i := 112) rfl) rfl
set_option maxRecDepth 100000 in
theorem kw_1074 : (Jvm.Cond.lays "LargeBubbleModel" "LargeBubbleModel" "film" "I") ∈ am_T0 := am_t5 (List.mem_of_getElem? (i := 114) rfl) rfl
set_option maxRecDepth 100000 in
theorem kw_1076 : (Jvm.Cond.lays "LargeBubbleModel" "LargeBubbleModel" "clock" "I") ∈ am_T0 := am_t5 (List.mem_of_getElem? (i := 116) rfl) rfl
set_option maxRecDepth 100000 in
theorem kw_1078 : (Jvm.Cond.lays "LargeBubbleModel" "LargeBubbleModel" "goSize" "I") ∈ am_T0 := am_t5 (List.mem_of_getElem? (i := 118) rfl) rfl
set_option maxRecDepth 100000 in
theorem kw_1080 : (Jvm.Cond.lays "LargeBubbleModel" "LargeBubbleModel" "goLife" "I") ∈ am_T0 := am_t5 (List.mem_of_getElem? (i := 120) rfl) rfl
set_option maxRecDepth 100000 in
theorem kw_1082 : (Jvm.Cond.lays "LargeBubbleModel" "LargeBubbleModel" "goBrings" "I") ∈ am_T0 := am_t5 (List.mem_of_getElem? (i := 122) rfl) rfl
set_option maxRecDepth 100000 in
theorem kw_1084 : (Jvm.Cond.lays "LargeBubbleModel" "LargeBubbleModel" "goMinutes" "I") ∈ am_T0 := am_t5 (List.mem_of_getElem? (i := 124) rfl) rfl
set_option maxRecDepth 100000 in
theorem kw_1086 : (Jvm.Cond.lays "LargeBubbleModel" "LargeBubbleModel" "isTorn" "Z") ∈ am_T0 := am_t5 (List.mem_of_getElem? (i := 126) rfl) rfl
set_option maxRecDepth 100000 in
theorem kw_1088 : (Jvm.Cond.lays "LargeBubbleModel" "LargeBubbleModel" "isCalm" "Z") ∈ am_T0 := am_t5 (List.mem_of_getElem? (i := 128) rfl) rfl
set_option maxRecDepth 100000 in
theorem kw_1090 : (Jvm.Cond.lays "LargeBubbleModel" "LargeBubbleModel" "gust" "I") ∈ am_T0 := am_t5 (List.mem_of_getElem? (i := 130) rfl) rfl
set_option maxRecDepth 100000 in
theorem kw_1092 : (Jvm.Cond.laysFinal "LargeBubbleModel" "LargeBubbleModel" "earned" "[I") ∈ am_T0 := am_t5 (List.mem_of_getElem? (i := 132) rfl) rfl
set_option maxRecDepth 100000 in
theorem kw_1094 : (Jvm.Cond.lays "LargeBubbleModel" "LargeBubbleModel" "dayTorn" "I") ∈ am_T0 := am_t5 (List.mem_of_getElem? (i := 134) rfl) rfl
set_option maxRecDepth 100000 in
theorem kw_1096 : (Jvm.Cond.lays "LargeBubbleModel" "LargeBubbleModel" "dayMinute" "I") ∈ am_T0 := am_t5 (List.mem_of_getElem? (i := 136) rfl) rfl
set_option maxRecDepth 100000 in
theorem kw_1098 : (Jvm.Cond.lays "LargeBubbleModel" "LargeBubbleModel" "seen" "I") ∈ am_T0 := am_t5 (List.mem_of_getElem? (i := 138) rfl) rfl
set_option maxRecDepth 100000 in
theorem kw_1100 : (Jvm.Cond.laysFinal "LargeBubbleModel" "LargeBubbleModel" "seenWho" "[I") ∈ am_T0 := am_t5 (List.mem_of_getElem? (i := 140) rfl) rfl
set_option maxRecDepth 100000 in
theorem kw_1102 : (Jvm.Cond.laysFinal "LargeBubbleModel" "LargeBubbleModel" "seenWhen" "[I") ∈ am_T0 := am_t5 (List.mem_of_getElem? (i := 142) rfl) rfl
set_option maxRecDepth 100000 in
theorem kw_1104 : (Jvm.Cond.laysFinal "LargeBubbleModel" "LargeBubbleModel" "seenSize" "[I") ∈ am_T0 := am_t5 (List.mem_of_getElem? (i := 144) rfl) rfl
set_option maxRecDepth 100000 in
theorem kw_1106 : (Jvm.Cond.lays "LargeBubbleModel" "LargeBubbleModel" "books" "I") ∈ am_T0 := am_t5 (List.mem_of_getElem? (i := 146) rfl) rfl
set_option maxRecDepth 100000 in
theorem kw_1108 : (Jvm.Cond.laysFinal "LargeBubbleModel" "LargeBubbleModel" "bookWho" "[I") ∈ am_T0 := am_t5 (List.mem_of_getElem? (i := 148) rfl) rfl
set_option maxRecDepth 100000 in
theorem kw_1110 : (Jvm.Cond.laysFinal "LargeBubbleModel" "LargeBubbleModel" "bookTorn" "[Z") ∈ am_T0 := am_t5 (List.mem_of_getElem? (i := 150) rfl) rfl
set_option maxRecDepth 100000 in
theorem kw_1112 : (Jvm.Cond.lays "LargeBubbleModel" "LargeBubbleModel" "hasImage" "Z") ∈ am_T0 := am_t5 (List.mem_of_getElem? (i := 152) rfl) rfl
set_option maxRecDepth 100000 in
theorem kw_1114 : (Jvm.Cond.lays "LargeBubbleModel" "LargeBubbleModel" "imageThe" "I") ∈ am_T0 := am_t5 (List.mem_of_getElem? (i := 154) rfl) rfl
set_option maxRecDepth 100000 in
theorem kw_1116 : (Jvm.Cond.lays "LargeBubbleModel" "LargeBubbleModel" "imageBlowers" "I") ∈ am_T0 := am_t5 (List.mem_of_getElem? (i := 156) rfl) rfl
set_option maxRecDepth 100000 in
theorem kw_1118 : (Jvm.Cond.lays "LargeBubbleModel" "LargeBubbleModel" "imageMinute" "I") ∈ am_T0 := am_t5 (List.mem_of_getElem? (i := 158) rfl) rfl
set_option maxRecDepth 100000 in
theorem kw_1120 : (Jvm.Cond.lays "LargeBubbleModel" "LargeBubbleModel" "imageSeen" "I") ∈ am_T0 := am_t5 (List.mem_of_getElem? (i := 160) rfl) rfl
set_option maxRecDepth 100000 in
theorem kw_1122 : (Jvm.Cond.lays "LargeBubbleModel" "LargeBubbleModel" "imageBooks" "I") ∈ am_T0 := am_t5 (List.mem_of_getElem? (i := 162) rfl) rfl
set_option maxRecDepth 100000 in
theorem kw_1124 : (Jvm.Cond.laysFinal "LargeBubbleModel" "LargeBubbleModel" "imageKind" "[I") ∈ am_T0 := am_t5 (List.mem_of_getElem? (i := 164) rfl) rfl
set_option maxRecDepth 100000 in
theorem kw_1126 : (Jvm.Cond.laysFinal "LargeBubbleModel" "LargeBubbleModel" "imageV" "[I") ∈ am_T0 := am_t5 (List.mem_of_getElem? (i := 166) rfl) rfl
set_option maxRecDepth 100000 in
theorem kw_1128 : (Jvm.Cond.laysFinal "LargeBubbleModel" "LargeBubbleModel" "imageCord" "[I") ∈ am_T0 := am_t5 (List.mem_of_getElem? (i := 168) rfl) rfl
set_option maxRecDepth 100000 in
theorem kw_1130 : (Jvm.Cond.laysFinal "LargeBubbleModel" "LargeBubbleModel" "imageAim" "[I") ∈ am_T0 := am_t5 (List.mem_of_getElem? (i := 170) rfl) rfl
set_option maxRecDepth 100000 in
theorem kw_1132 : (Jvm.Cond.laysFinal "LargeBubbleModel" "LargeBubbleModel" "imageCoins" "[I") ∈ am_T0 := am_t5 (List.mem_of_getElem? (i := 172) rfl) rfl
set_option maxRecDepth 100000 in
theorem kw_1134 : (Jvm.Cond.laysFinal "LargeBubbleModel" "LargeBubbleModel" "imageRows" "[I") ∈ am_T0 := am_t5 (List.mem_of_getElem? (i := 174) rfl) rfl
set_option maxRecDepth 100000 in
theorem kw_1136 : (Jvm.Cond.laysFinal "LargeBubbleModel" "LargeBubbleModel" "imageBucket" "[I") ∈ am_T0 := am_t5 (List.mem_of_getElem? (i := 176) rfl) rfl
set_option maxRecDepth 100000 in
theorem kw_1138 : (Jvm.Cond.laysFinal "LargeBubbleModel" "LargeBubbleModel" "imageWho" "[I") ∈ am_T0 := am_t5 (List.mem_of_getElem? (i := 178) rfl) rfl
set_option maxRecDepth 100000 in
theorem kw_1140 : (Jvm.Cond.laysFinal "LargeBubbleModel" "LargeBubbleModel" "imageWhen" "[I") ∈ am_T0 := am_t5 (List.mem_of_getElem? (i := 180) rfl) rfl
set_option maxRecDepth 100000 in
theorem kw_1142 : (Jvm.Cond.laysFinal "LargeBubbleModel" "LargeBubbleModel" "imageSize" "[I") ∈ am_T0 := am_t5 (List.mem_of_getElem? (i := 182) rfl) rfl
set_option maxRecDepth 100000 in
theorem kw_1144 : (Jvm.Cond.laysFinal "LargeBubbleModel" "LargeBubbleModel" "imageBook" "[I") ∈ am_T0 := am_t5 (List.mem_of_getElem? (i := 184) rfl) rfl
set_option maxRecDepth 100000 in
theorem kw_1146 : (Jvm.Cond.laysFinal "LargeBubbleModel" "LargeBubbleModel" "imageTorn" "[Z") ∈ am_T0 := am_t5 (List.mem_of_getElem? (i := 186) rfl) rfl
set_option maxRecDepth 100000 in
theorem kw_1148 : (Jvm.Cond.lays "LargeBubbleModel" "LargeBubbleModel" "ran" "I") ∈ am_T0 := am_t5 (List.mem_of_getElem? (i := 188) rfl) rfl
set_option maxRecDepth 100000 in
theorem kw_1150 : (Jvm.Cond.laysFinal "LargeBubbleModel" "LargeBubbleModel" "bodies" "[I") ∈ am_T0 := am_t5 (List.mem_of_getElem? (i := 190) rfl) rfl
set_option maxRecDepth 100000 in
theorem kw_1152 : (Jvm.Cond.laysFinal "LargeBubbleModel" "LargeBubbleModel" "sort" "[I") ∈ am_T0 := am_t5 (List.mem_of_getElem? (i := 192) rfl) rfl
set_option maxRecDepth 100000 in
theorem kw_1154 : (Jvm.Cond.laysFinal "LargeBubbleModel" "LargeBubbleModel" "length" "[I") ∈ am_T0 := am_t5 (List.mem_of_getElem? (i := 194) rfl) rfl
set_option maxRecDepth 100000 in
theorem kw_1156 : (Jvm.Cond.laysFinal "LargeBubbleModel" "LargeBubbleModel" "item" "[J") ∈ am_T0 := am_t5 (List.mem_of_getElem? (i := 196) rfl) rfl
set_option maxRecDepth 100000 in
theorem kw_1158 : (Jvm.Cond.laysFinal "LargeBubbleModel" "LargeBubbleModel" "aside" "[J") ∈ am_T0 := am_t5 (List.mem_of_getElem? (i := 198) rfl) rfl
set_option maxRecDepth 100000 in
theorem kw_1160 : (Jvm.Cond.superclass "LargeBubbleModel" "java/lang/Object") ∈ am_T0 := am_t5 (List.mem_of_getElem? (i := 200) rfl) rfl
set_option maxRecDepth 100000 in
theorem kw_1161 : (Jvm.Cond.methodLink "LargeBubbleLaw" (17 : Nat) ({ cls := "LargeBubbleModel", name := "blower", desc := "(IIII)I" } : Jvm.MethodName)) ∈ am_T0 := am_t5 (List.mem_of_getElem? (i := 201) rfl) rfl
set_option maxRecDepth 100000 in
theorem kw_1162 : (Jvm.Cond.instanceMethod ({ cls := "LargeBubbleModel", name := "blower", desc := "(IIII)I" } : Jvm.MethodName)) ∈ am_T0 := am_t5 (List.mem_of_getElem? (i := 202) rfl) rfl
set_option maxRecDepth 100000 in
theorem kw_1163 : (Jvm.Cond.selects "LargeBubbleModel" ({ cls := "LargeBubbleModel", name := "blower", desc := "(IIII)I" } : Jvm.MethodName) ({ cls := "LargeBubbleModel", name := "blower", desc := "(IIII)I" } : Jvm.MethodName)) ∈ am_T0 := am_t5 (List.mem_of_getElem? (i := 203) rfl) rfl
set_option maxRecDepth 100000 in
theorem kw_1164 : (Jvm.Cond.code ({ cls := "LargeBubbleModel", name := "blower", desc := "(IIII)I" } : Jvm.MethodName) prog_14_method_4_code (6 : Nat) (Option.some Jvm.ClassFile.FieldType.int)) ∈ am_T0 := am_t5 (List.mem_of_getElem? (i := 204) rfl) rfl
set_option maxRecDepth 100000 in
theorem kw_1165 : (Jvm.Cond.methodLink "LargeBubbleModel" (227 : Nat) ({ cls := "LargeBubbleModel", name := "in", desc := "(III)Z" } : Jvm.MethodName)) ∈ am_T0 := am_t5 (List.mem_of_getElem? (i := 205) rfl) rfl
set_option maxRecDepth 100000 in
theorem kw_1167 : (Jvm.Cond.instanceMethod ({ cls := "LargeBubbleModel", name := "in", desc := "(III)Z" } : Jvm.MethodName)) ∈ am_T0 := am_t5 (List.mem_of_getElem? (i := 207) rfl) rfl
set_option maxRecDepth 100000 in
theorem kw_1168 : (Jvm.Cond.code ({ cls := "LargeBubbleModel", name := "in", desc := "(III)Z" } : Jvm.MethodName) prog_14_method_2_code (4 : Nat) (Option.some Jvm.ClassFile.FieldType.boolean)) ∈ am_T0 := am_t5 (List.mem_of_getElem? (i := 208) rfl) rfl
set_option maxRecDepth 100000 in
theorem kw_1169 : (Jvm.Cond.methodLink "LargeBubbleLaw" (22 : Nat) ({ cls := "LargeBubbleModel", name := "of", desc := "(II)I" } : Jvm.MethodName)) ∈ am_T0 := am_t5 (List.mem_of_getElem? (i := 209) rfl) rfl
set_option maxRecDepth 100000 in
theorem kw_1170 : (Jvm.Cond.instanceMethod ({ cls := "LargeBubbleModel", name := "of", desc := "(II)I" } : Jvm.MethodName)) ∈ am_T0 := am_t5 (List.mem_of_getElem? (i := 210) rfl) rfl
set_option maxRecDepth 100000 in
theorem kw_1171 : (Jvm.Cond.selects "LargeBubbleModel" ({ cls := "LargeBubbleModel", name := "of", desc := "(II)I" } : Jvm.MethodName) ({ cls := "LargeBubbleModel", name := "of", desc := "(II)I" } : Jvm.MethodName)) ∈ am_T0 := am_t5 (List.mem_of_getElem? (i := 211) rfl) rfl
set_option maxRecDepth 100000 in
theorem kw_1172 : (Jvm.Cond.code ({ cls := "LargeBubbleModel", name := "of", desc := "(II)I" } : Jvm.MethodName) prog_14_method_5_code (3 : Nat) (Option.some Jvm.ClassFile.FieldType.int)) ∈ am_T0 := am_t5 (List.mem_of_getElem? (i := 212) rfl) rfl
set_option maxRecDepth 100000 in
theorem kw_1173 : (Jvm.Cond.methodLink "LargeBubbleModel" (231 : Nat) ({ cls := "LargeBubbleModel", name := "isBlower", desc := "(I)Z" } : Jvm.MethodName)) ∈ am_T0 := am_t5 (List.mem_of_getElem? (i := 213) rfl) rfl
set_option maxRecDepth 100000 in
theorem kw_1175 : (Jvm.Cond.instanceMethod ({ cls := "LargeBubbleModel", name := "isBlower", desc := "(I)Z" } : Jvm.MethodName)) ∈ am_T0 := am_t5 (List.mem_of_getElem? (i := 215) rfl) rfl
set_option maxRecDepth 100000 in
theorem kw_1176 : (Jvm.Cond.code ({ cls := "LargeBubbleModel", name := "isBlower", desc := "(I)Z" } : Jvm.MethodName) prog_14_method_3_code (2 : Nat) (Option.some Jvm.ClassFile.FieldType.boolean)) ∈ am_T0 := am_t5 (List.mem_of_getElem? (i := 216) rfl) rfl
set_option maxRecDepth 100000 in
theorem kw_1177 : (Jvm.Cond.methodLink "LargeBubbleLaw" (27 : Nat) ({ cls := "LargeBubbleModel", name := "set", desc := "(III)I" } : Jvm.MethodName)) ∈ am_T0 := am_t5 (List.mem_of_getElem? (i := 217) rfl) rfl
set_option maxRecDepth 100000 in
theorem kw_1178 : (Jvm.Cond.instanceMethod ({ cls := "LargeBubbleModel", name := "set", desc := "(III)I" } : Jvm.MethodName)) ∈ am_T0 := am_t5 (List.mem_of_getElem? (i := 218) rfl) rfl
set_option maxRecDepth 100000 in
theorem kw_1179 : (Jvm.Cond.selects "LargeBubbleModel" ({ cls := "LargeBubbleModel", name := "set", desc := "(III)I" } : Jvm.MethodName) ({ cls := "LargeBubbleModel", name := "set", desc := "(III)I" } : Jvm.MethodName)) ∈ am_T0 := am_t5 (List.mem_of_getElem? (i := 219) rfl) rfl
set_option maxRecDepth 100000 in
theorem kw_1180 : (Jvm.Cond.code ({ cls := "LargeBubbleModel", name := "set", desc := "(III)I" } : Jvm.MethodName) prog_14_method_6_code (5 : Nat) (Option.some Jvm.ClassFile.FieldType.int)) ∈ am_T0 := am_t5 (List.mem_of_getElem? (i := 220) rfl) rfl
set_option maxRecDepth 100000 in
theorem kw_1181 : (Jvm.Cond.methodLink "LargeBubbleLaw" (31 : Nat) ({ cls := "LargeBubbleModel", name := "mix", desc := "(II)I" } : Jvm.MethodName)) ∈ am_T0 := am_t5 (List.mem_of_getElem? (i := 221) rfl) rfl
set_option maxRecDepth 100000 in
theorem kw_1182 : (Jvm.Cond.instanceMethod ({ cls := "LargeBubbleModel", name := "mix", desc := "(II)I" } : Jvm.MethodName)) ∈ am_T0 := am_t5 (List.mem_of_getElem? (i := 222) rfl) rfl
set_option maxRecDepth 100000 in
theorem kw_1183 : (Jvm.Cond.selects "LargeBubbleModel" ({ cls := "LargeBubbleModel", name := "mix", desc := "(II)I" } : Jvm.MethodName) ({ cls := "LargeBubbleModel", name := "mix", desc := "(II)I" } : Jvm.MethodName)) ∈ am_T0 := am_t5 (List.mem_of_getElem? (i := 223) rfl) rfl
set_option maxRecDepth 100000 in
theorem kw_1184 : (Jvm.Cond.code ({ cls := "LargeBubbleModel", name := "mix", desc := "(II)I" } : Jvm.MethodName) prog_14_method_7_code (4 : Nat) (Option.some Jvm.ClassFile.FieldType.int)) ∈ am_T0 := am_t5 (List.mem_of_getElem? (i := 224) rfl) rfl
set_option maxRecDepth 100000 in
theorem kw_1185 : (Jvm.Cond.methodLink "LargeBubbleLaw" (35 : Nat) ({ cls := "LargeBubbleModel", name := "row", desc := "(III)I" } : Jvm.MethodName)) ∈ am_T0 := am_t5 (List.mem_of_getElem? (i := 225) rfl) rfl
set_option maxRecDepth 100000 in
theorem kw_1186 : (Jvm.Cond.instanceMethod ({ cls := "LargeBubbleModel", name := "row", desc := "(III)I" } : Jvm.MethodName)) ∈ am_T0 := am_t5 (List.mem_of_getElem? (i := 226) rfl) rfl
set_option maxRecDepth 100000 in
theorem kw_1187 : (Jvm.Cond.selects "LargeBubbleModel" ({ cls := "LargeBubbleModel", name := "row", desc := "(III)I" } : Jvm.MethodName) ({ cls := "LargeBubbleModel", name := "row", desc := "(III)I" } : Jvm.MethodName)) ∈ am_T0 := am_t5 (List.mem_of_getElem? (i := 227) rfl) rfl
set_option maxRecDepth 100000 in
theorem kw_1188 : (Jvm.Cond.code ({ cls := "LargeBubbleModel", name := "row", desc := "(III)I" } : Jvm.MethodName) prog_14_method_8_code (5 : Nat) (Option.some Jvm.ClassFile.FieldType.int)) ∈ am_T0 := am_t5 (List.mem_of_getElem? (i := 228) rfl) rfl
set_option maxRecDepth 100000 in
theorem kw_1189 : (Jvm.Cond.methodLink "LargeBubbleLaw" (40 : Nat) ({ cls := "LargeBubbleModel", name := "feed", desc := "(I)I" } : Jvm.MethodName)) ∈ am_T0 := am_t5 (List.mem_of_getElem? (i := 229) rfl) rfl
set_option maxRecDepth 100000 in
theorem kw_1190 : (Jvm.Cond.instanceMethod ({ cls := "LargeBubbleModel", name := "feed", desc := "(I)I" } : Jvm.MethodName)) ∈ am_T0 := am_t5 (List.mem_of_getElem? (i := 230) rfl) rfl
set_option maxRecDepth 100000 in
theorem kw_1191 : (Jvm.Cond.selects "LargeBubbleModel" ({ cls := "LargeBubbleModel", name := "feed", desc := "(I)I" } : Jvm.MethodName) ({ cls := "LargeBubbleModel", name := "feed", desc := "(I)I" } : Jvm.MethodName)) ∈ am_T0 := am_t5 (List.mem_of_getElem? (i := 231) rfl) rfl
set_option maxRecDepth 100000 in
theorem kw_1192 : (Jvm.Cond.code ({ cls := "LargeBubbleModel", name := "feed", desc := "(I)I" } : Jvm.MethodName) prog_14_method_9_code (2 : Nat) (Option.some Jvm.ClassFile.FieldType.int)) ∈ am_T0 := am_t5 (List.mem_of_getElem? (i := 232) rfl) rfl
set_option maxRecDepth 100000 in
theorem kw_1193 : (Jvm.Cond.methodLink "LargeBubbleLaw" (45 : Nat) ({ cls := "LargeBubbleModel", name := "square", desc := "()I" } : Jvm.MethodName)) ∈ am_T0 := am_t5 (List.mem_of_getElem? (i := 233) rfl) rfl
set_option maxRecDepth 100000 in
theorem kw_1194 : (Jvm.Cond.instanceMethod ({ cls := "LargeBubbleModel", name := "square", desc := "()I" } : Jvm.MethodName)) ∈ am_T0 := am_t5 (List.mem_of_getElem? (i := 234) rfl) rfl
set_option maxRecDepth 100000 in
theorem kw_1195 : (Jvm.Cond.selects "LargeBubbleModel" ({ cls := "LargeBubbleModel", name := "square", desc := "()I" } : Jvm.MethodName) ({ cls := "LargeBubbleModel", name := "square", desc := "()I" } : Jvm.MethodName)) ∈ am_T0 := am_t5 (List.mem_of_getElem? (i := 235) rfl) rfl
set_option maxRecDepth 100000 in
theorem kw_1196 : (Jvm.Cond.code ({ cls := "LargeBubbleModel", name := "square", desc := "()I" } : Jvm.MethodName) prog_14_method_24_code (2 : Nat) (Option.some Jvm.ClassFile.FieldType.int)) ∈ am_T0 := am_t5 (List.mem_of_getElem? (i := 236) rfl) rfl
set_option maxRecDepth 100000 in
theorem kw_1197 : (Jvm.Cond.methodLink "LargeBubbleModel" (279 : Nat) ({ cls := "LargeBubbleModel", name := "goesText", desc := "(I)Z" } : Jvm.MethodName)) ∈ am_T0 := am_t5 (List.mem_of_getElem? (i := 237) rfl) rfl
set_option maxRecDepth 100000 in
theorem kw_1199 : (Jvm.Cond.instanceMethod ({ cls := "LargeBubbleModel", name := "goesText", desc := "(I)Z" } : Jvm.MethodName)) ∈ am_T0 := am_t5 (List.mem_of_getElem? (i := 239) rfl) rfl
set_option maxRecDepth 100000 in
theorem kw_1200 : (Jvm.Cond.code ({ cls := "LargeBubbleModel", name := "goesText", desc := "(I)Z" } : Jvm.MethodName) prog_14_method_23_code (3 : Nat) (Option.some Jvm.ClassFile.FieldType.boolean)) ∈ am_T0 := am_t6 (List.mem_of_getElem? (i := 0) rfl) rfl
set_option maxRecDepth 100000 in
theorem kw_1201 : (Jvm.Cond.methodLink "LargeBubbleModel" (276 : Nat) ({ cls := "LargeBubbleModel", name := "takesClause", desc := "(I)Z" } : Jvm.MethodName)) ∈ am_T0 := am_t6 (List.mem_of_getElem? (i := 1) rfl) rfl
set_option maxRecDepth 100000 in
theorem kw_1203 : (Jvm.Cond.instanceMethod ({ cls := "LargeBubbleModel", name := "takesClause", desc := "(I)Z" } : Jvm.MethodName)) ∈ am_T0 := am_t6 (List.mem_of_getElem? (i := 3) rfl) rfl
set_option maxRecDepth 100000 in
theorem kw_1204 : (Jvm.Cond.code ({ cls := "LargeBubbleModel", name := "takesClause", desc := "(I)Z" } : Jvm.MethodName) prog_14_method_22_code (2 : Nat) (Option.some Jvm.ClassFile.FieldType.boolean)) ∈ am_T0 := am_t6 (List.mem_of_getElem? (i := 4) rfl) rfl
set_option maxRecDepth 100000 in
theorem kw_1205 : (Jvm.Cond.methodLink "LargeBubbleModel" (270 : Nat) ({ cls := "LargeBubbleModel", name := "takesHead", desc := "(I)Z" } : Jvm.MethodName)) ∈ am_T0 := am_t6 (List.mem_of_getElem? (i := 5) rfl) rfl
set_option maxRecDepth 100000 in
theorem kw_1207 : (Jvm.Cond.instanceMethod ({ cls := "LargeBubbleModel", name := "takesHead", desc := "(I)Z" } : Jvm.MethodName)) ∈ am_T0 := am_t6 (List.mem_of_getElem? (i := 7) rfl) rfl
set_option maxRecDepth 100000 in
theorem kw_1208 : (Jvm.Cond.code ({ cls := "LargeBubbleModel", name := "takesHead", desc := "(I)Z" } : Jvm.MethodName) prog_14_method_21_code (2 : Nat) (Option.some Jvm.ClassFile.FieldType.boolean)) ∈ am_T0 := am_t6 (List.mem_of_getElem? (i := 8) rfl) rfl
set_option maxRecDepth 100000 in
theorem kw_1209 : (Jvm.Cond.methodLink "LargeBubbleModel" (235 : Nat) ({ cls := "LargeBubbleModel", name := "next", desc := "()I" } : Jvm.MethodName)) ∈ am_T0 := am_t6 (List.mem_of_getElem? (i := 9) rfl) rfl
set_option maxRecDepth 100000 in
theorem kw_1211 : (Jvm.Cond.instanceMethod ({ cls := "LargeBubbleModel", name := "next", desc := "()I" } : Jvm.MethodName)) ∈ am_T0 := am_t6 (List.mem_of_getElem? (i := 11) rfl) rfl
set_option maxRecDepth 100000 in
theorem kw_1212 : (Jvm.Cond.code ({ cls := "LargeBubbleModel", name := "next", desc := "()I" } : Jvm.MethodName) prog_14_method_10_code (1 : Nat) (Option.some Jvm.ClassFile.FieldType.int)) ∈ am_T0 := am_t6 (List.mem_of_getElem? (i := 12) rfl) rfl
set_option maxRecDepth 100000 in
theorem kw_1213 : (Jvm.Cond.methodLink "LargeBubbleModel" (266 : Nat) ({ cls := "LargeBubbleModel", name := "takesWord", desc := "(II)Z" } : Jvm.MethodName)) ∈ am_T0 := am_t6 (List.mem_of_getElem? (i := 13) rfl) rfl
set_option maxRecDepth 100000 in
theorem kw_1215 : (Jvm.Cond.instanceMethod ({ cls := "LargeBubbleModel", name := "takesWord", desc := "(II)Z" } : Jvm.MethodName)) ∈ am_T0 := am_t6 (List.mem_of_getElem? (i := 15) rfl) rfl
set_option maxRecDepth 100000 in
theorem kw_1216 : (Jvm.Cond.code ({ cls := "LargeBubbleModel", name := "takesWord", desc := "(II)Z" } : Jvm.MethodName) prog_14_method_12_code (4 : Nat) (Option.some Jvm.ClassFile.FieldType.boolean)) ∈ am_T0 := am_t6 (List.mem_of_getElem? (i := 16) rfl) rfl
set_option maxRecDepth 100000 in
theorem kw_1217 : (Jvm.Cond.methodLink "LargeBubbleModel" (239 : Nat) ({ cls := "LargeBubbleModel", name := "takes", desc := "(I)Z" } : Jvm.MethodName)) ∈ am_T0 := am_t6 (List.mem_of_getElem? (i := 17) rfl) rfl
set_option maxRecDepth 100000 in
theorem kw_1219 : (Jvm.Cond.instanceMethod ({ cls := "LargeBubbleModel", name := "takes", desc := "(I)Z" } : Jvm.MethodName)) ∈ am_T0 := am_t6 (List.mem_of_getElem? (i := 19) rfl) rfl
set_option maxRecDepth 100000 in
theorem kw_1220 : (Jvm.Cond.code ({ cls := "LargeBubbleModel", name := "takes", desc := "(I)Z" } : Jvm.MethodName) prog_14_method_11_code (2 : Nat) (Option.some Jvm.ClassFile.FieldType.boolean)) ∈ am_T0 := am_t6 (List.mem_of_getElem? (i := 20) rfl) rfl
set_option maxRecDepth 100000 in
theorem kw_1221 : (Jvm.Cond.methodLink "LargeBubbleModel" (254 : Nat) ({ cls := "LargeBubbleModel", name := "takesNumber", desc := "()Z" } : Jvm.MethodName)) ∈ am_T0 := am_t6 (List.mem_of_getElem? (i := 21) rfl) rfl
set_option maxRecDepth 100000 in
theorem kw_1223 : (Jvm.Cond.instanceMethod ({ cls := "LargeBubbleModel", name := "takesNumber", desc := "()Z" } : Jvm.MethodName)) ∈ am_T0 := am_t6 (List.mem_of_getElem? (i := 23) rfl) rfl
set_option maxRecDepth 100000 in
theorem kw_1224 : (Jvm.Cond.code ({ cls := "LargeBubbleModel", name := "takesNumber", desc := "()Z" } : Jvm.MethodName) prog_14_method_14_code (2 : Nat) (Option.some Jvm.ClassFile.FieldType.boolean)) ∈ am_T0 := am_t6 (List.mem_of_getElem? (i := 24) rfl) rfl
set_option maxRecDepth 100000 in
theorem kw_1225 : (Jvm.Cond.methodLink "LargeBubbleModel" (242 : Nat) ({ cls := "LargeBubbleModel", name := "isDigit", desc := "()Z" } : Jvm.MethodName)) ∈ am_T0 := am_t6 (List.mem_of_getElem? (i := 25) rfl) rfl
set_option maxRecDepth 100000 in
theorem kw_1227 : (Jvm.Cond.instanceMethod ({ cls := "LargeBubbleModel", name := "isDigit", desc := "()Z" } : Jvm.MethodName)) ∈ am_T0 := am_t6 (List.mem_of_getElem? (i := 27) rfl) rfl
set_option maxRecDepth 100000 in
theorem kw_1228 : (Jvm.Cond.code ({ cls := "LargeBubbleModel", name := "isDigit", desc := "()Z" } : Jvm.MethodName) prog_14_method_13_code (1 : Nat) (Option.some Jvm.ClassFile.FieldType.boolean)) ∈ am_T0 := am_t6 (List.mem_of_getElem? (i := 28) rfl) rfl
set_option maxRecDepth 100000 in
theorem kw_1229 : (Jvm.Cond.methodLink "LargeBubbleModel" (273 : Nat) ({ cls := "LargeBubbleModel", name := "takesE", desc := "(I)Z" } : Jvm.MethodName)) ∈ am_T0 := am_t6 (List.mem_of_getElem? (i := 29) rfl) rfl
set_option maxRecDepth 100000 in
theorem kw_1231 : (Jvm.Cond.instanceMethod ({ cls := "LargeBubbleModel", name := "takesE", desc := "(I)Z" } : Jvm.MethodName)) ∈ am_T0 := am_t6 (List.mem_of_getElem? (i := 31) rfl) rfl
set_option maxRecDepth 100000 in
theorem kw_1232 : (Jvm.Cond.code ({ cls := "LargeBubbleModel", name := "takesE", desc := "(I)Z" } : Jvm.MethodName) prog_14_method_20_code (4 : Nat) (Option.some Jvm.ClassFile.FieldType.boolean)) ∈ am_T0 := am_t6 (List.mem_of_getElem? (i := 32) rfl) rfl
set_option maxRecDepth 100000 in
theorem kw_1233 : (Jvm.Cond.methodLink "LargeBubbleModel" (260 : Nat) ({ cls := "LargeBubbleModel", name := "takesTest", desc := "()Z" } : Jvm.MethodName)) ∈ am_T0 := am_t6 (List.mem_of_getElem? (i := 33) rfl) rfl
set_option maxRecDepth 100000 in
theorem kw_1235 : (Jvm.Cond.instanceMethod ({ cls := "LargeBubbleModel", name := "takesTest", desc := "()Z" } : Jvm.MethodName)) ∈ am_T0 := am_t6 (List.mem_of_getElem? (i := 35) rfl) rfl
set_option maxRecDepth 100000 in
theorem kw_1236 : (Jvm.Cond.code ({ cls := "LargeBubbleModel", name := "takesTest", desc := "()Z" } : Jvm.MethodName) prog_14_method_19_code (3 : Nat) (Option.some Jvm.ClassFile.FieldType.boolean)) ∈ am_T0 := am_t6 (List.mem_of_getElem? (i := 36) rfl) rfl
set_option maxRecDepth 100000 in
theorem kw_1237 : (Jvm.Cond.methodLink "LargeBubbleModel" (250 : Nat) ({ cls := "LargeBubbleModel", name := "place", desc := "(I)I" } : Jvm.MethodName)) ∈ am_T0 := am_t6 (List.mem_of_getElem? (i := 37) rfl) rfl
set_option maxRecDepth 100000 in
theorem kw_1239 : (Jvm.Cond.instanceMethod ({ cls := "LargeBubbleModel", name := "place", desc := "(I)I" } : Jvm.MethodName)) ∈ am_T0 := am_t6 (List.mem_of_getElem? (i := 39) rfl) rfl
set_option maxRecDepth 100000 in
theorem kw_1240 : (Jvm.Cond.code ({ cls := "LargeBubbleModel", name := "place", desc := "(I)I" } : Jvm.MethodName) prog_14_method_18_code (2 : Nat) (Option.some Jvm.ClassFile.FieldType.int)) ∈ am_T0 := am_t6 (List.mem_of_getElem? (i := 40) rfl) rfl
set_option maxRecDepth 100000 in
theorem kw_1241 : (Jvm.Cond.methodLink "LargeBubbleModel" (246 : Nat) ({ cls := "LargeBubbleModel", name := "emits", desc := "(I)V" } : Jvm.MethodName)) ∈ am_T0 := am_t6 (List.mem_of_getElem? (i := 41) rfl) rfl
set_option maxRecDepth 100000 in
theorem kw_1243 : (Jvm.Cond.instanceMethod ({ cls := "LargeBubbleModel", name := "emits", desc := "(I)V" } : Jvm.MethodName)) ∈ am_T0 := am_t6 (List.mem_of_getElem? (i := 43) rfl) rfl
set_option maxRecDepth 100000 in
theorem kw_1244 : (Jvm.Cond.code ({ cls := "LargeBubbleModel", name := "emits", desc := "(I)V" } : Jvm.MethodName) prog_14_method_15_code (2 : Nat) (Option.none : Option Jvm.ClassFile.FieldType)) ∈ am_T0 := am_t6 (List.mem_of_getElem? (i := 44) rfl) rfl
set_option maxRecDepth 100000 in
theorem kw_1245 : (Jvm.Cond.methodLink "LargeBubbleModel" (257 : Nat) ({ cls := "LargeBubbleModel", name := "whole", desc := "()V" } : Jvm.MethodName)) ∈ am_T0 := am_t6 (List.mem_of_getElem? (i := 45) rfl) rfl
set_option maxRecDepth 100000 in
theorem kw_1247 : (Jvm.Cond.instanceMethod ({ cls := "LargeBubbleModel", name := "whole", desc := "()V" } : Jvm.MethodName)) ∈ am_T0 := am_t6 (List.mem_of_getElem? (i := 47) rfl) rfl
set_option maxRecDepth 100000 in
theorem kw_1248 : (Jvm.Cond.code ({ cls := "LargeBubbleModel", name := "whole", desc := "()V" } : Jvm.MethodName) prog_14_method_16_code (1 : Nat) (Option.none : Option Jvm.ClassFile.FieldType)) ∈ am_T0 := am_t6 (List.mem_of_getElem? (i := 48) rfl) rfl
set_option maxRecDepth 100000 in
theorem kw_1249 : (Jvm.Cond.methodLink "LargeBubbleModel" (263 : Nat) ({ cls := "LargeBubbleModel", name := "settle", desc := "(I)V" } : Jvm.MethodName)) ∈ am_T0 := am_t6 (List.mem_of_getElem? (i := 49) rfl) rfl
set_option maxRecDepth 100000 in
theorem kw_1251 : (Jvm.Cond.instanceMethod ({ cls := "LargeBubbleModel", name := "settle", desc := "(I)V" } : Jvm.MethodName)) ∈ am_T0 := am_t6 (List.mem_of_getElem? (i := 51) rfl) rfl
set_option maxRecDepth 100000 in
theorem kw_1252 : (Jvm.Cond.code ({ cls := "LargeBubbleModel", name := "settle", desc := "(I)V" } : Jvm.MethodName) prog_14_method_17_code (2 : Nat) (Option.none : Option Jvm.ClassFile.FieldType)) ∈ am_T0 := am_t6 (List.mem_of_getElem? (i := 52) rfl) rfl
set_option maxRecDepth 100000 in
theorem kw_1253 : (Jvm.Cond.methodLink "LargeBubbleLaw" (49 : Nat) ({ cls := "LargeBubbleModel", name := "told", desc := "(I)I" } : Jvm.MethodName)) ∈ am_T0 := am_t6 (List.mem_of_getElem? (i := 53) rfl) rfl
set_option maxRecDepth 100000 in
theorem kw_1254 : (Jvm.Cond.instanceMethod ({ cls := "LargeBubbleModel", name := "told", desc := "(I)I" } : Jvm.MethodName)) ∈ am_T0 := am_t6 (List.mem_of_getElem? (i := 54) rfl) rfl
set_option maxRecDepth 100000 in
theorem kw_1255 : (Jvm.Cond.selects "LargeBubbleModel" ({ cls := "LargeBubbleModel", name := "told", desc := "(I)I" } : Jvm.MethodName) ({ cls := "LargeBubbleModel", name := "told", desc := "(I)I" } : Jvm.MethodName)) ∈ am_T0 := am_t6 (List.mem_of_getElem? (i := 55) rfl) rfl
set_option maxRecDepth 100000 in
theorem kw_1256 : (Jvm.Cond.code ({ cls := "LargeBubbleModel", name := "told", desc := "(I)I" } : Jvm.MethodName) prog_14_method_34_code (2 : Nat) (Option.some Jvm.ClassFile.FieldType.int)) ∈ am_T0 := am_t6 (List.mem_of_getElem? (i := 56) rfl) rfl
set_option maxRecDepth 100000 in
theorem kw_1257 : (Jvm.Cond.methodLink "LargeBubbleModel" (301 : Nat) ({ cls := "LargeBubbleModel", name := "good", desc := "()I" } : Jvm.MethodName)) ∈ am_T0 := am_t6 (List.mem_of_getElem? (i := 57) rfl) rfl
set_option maxRecDepth 100000 in
theorem kw_1259 : (Jvm.Cond.instanceMethod ({ cls := "LargeBubbleModel", name := "good", desc := "()I" } : Jvm.MethodName)) ∈ am_T0 := am_t6 (List.mem_of_getElem? (i := 59) rfl) rfl
set_option maxRecDepth 100000 in
theorem kw_1260 : (Jvm.Cond.code ({ cls := "LargeBubbleModel", name := "good", desc := "()I" } : Jvm.MethodName) prog_14_method_33_code (1 : Nat) (Option.some Jvm.ClassFile.FieldType.int)) ∈ am_T0 := am_t6 (List.mem_of_getElem? (i := 60) rfl) rfl
set_option maxRecDepth 100000 in
theorem kw_1261 : (Jvm.Cond.methodLink "LargeBubbleModel" (295 : Nat) ({ cls := "LargeBubbleModel", name := "apart", desc := "(II)I" } : Jvm.MethodName)) ∈ am_T0 := am_t6 (List.mem_of_getElem? (i := 61) rfl) rfl
set_option maxRecDepth 100000 in
theorem kw_1263 : (Jvm.Cond.instanceMethod ({ cls := "LargeBubbleModel", name := "apart", desc := "(II)I" } : Jvm.MethodName)) ∈ am_T0 := am_t6 (List.mem_of_getElem? (i := 63) rfl) rfl
set_option maxRecDepth 100000 in
theorem kw_1264 : (Jvm.Cond.code ({ cls := "LargeBubbleModel", name := "apart", desc := "(II)I" } : Jvm.MethodName) prog_14_method_30_code (3 : Nat) (Option.some Jvm.ClassFile.FieldType.int)) ∈ am_T0 := am_t6 (List.mem_of_getElem? (i := 64) rfl) rfl
set_option maxRecDepth 100000 in
theorem kw_1265 : (Jvm.Cond.methodLink "LargeBubbleModel" (298 : Nat) ({ cls := "LargeBubbleModel", name := "most", desc := "(II)I" } : Jvm.MethodName)) ∈ am_T0 := am_t6 (List.mem_of_getElem? (i := 65) rfl) rfl
set_option maxRecDepth 100000 in
theorem kw_1267 : (Jvm.Cond.instanceMethod ({ cls := "LargeBubbleModel", name := "most", desc := "(II)I" } : Jvm.MethodName)) ∈ am_T0 := am_t6 (List.mem_of_getElem? (i := 67) rfl) rfl
set_option maxRecDepth 100000 in
theorem kw_1268 : (Jvm.Cond.code ({ cls := "LargeBubbleModel", name := "most", desc := "(II)I" } : Jvm.MethodName) prog_14_method_32_code (3 : Nat) (Option.some Jvm.ClassFile.FieldType.int)) ∈ am_T0 := am_t6 (List.mem_of_getElem? (i := 68) rfl) rfl
set_option maxRecDepth 100000 in
theorem kw_1269 : (Jvm.Cond.methodLink "LargeBubbleLaw" (53 : Nat) ({ cls := "LargeBubbleModel", name := "pause", desc := "(I)I" } : Jvm.MethodName)) ∈ am_T0 := am_t6 (List.mem_of_getElem? (i := 69) rfl) rfl
set_option maxRecDepth 100000 in
theorem kw_1270 : (Jvm.Cond.instanceMethod ({ cls := "LargeBubbleModel", name := "pause", desc := "(I)I" } : Jvm.MethodName)) ∈ am_T0 := am_t6 (List.mem_of_getElem? (i := 70) rfl) rfl
set_option maxRecDepth 100000 in
theorem kw_1271 : (Jvm.Cond.selects "LargeBubbleModel" ({ cls := "LargeBubbleModel", name := "pause", desc := "(I)I" } : Jvm.MethodName) ({ cls := "LargeBubbleModel", name := "pause", desc := "(I)I" } : Jvm.MethodName)) ∈ am_T0 := am_t6 (List.mem_of_getElem? (i := 71) rfl) rfl
set_option maxRecDepth 100000 in
theorem kw_1272 : (Jvm.Cond.code ({ cls := "LargeBubbleModel", name := "pause", desc := "(I)I" } : Jvm.MethodName) prog_14_method_35_code (2 : Nat) (Option.some Jvm.ClassFile.FieldType.int)) ∈ am_T0 := am_t6 (List.mem_of_getElem? (i := 72) rfl) rfl
set_option maxRecDepth 100000 in
theorem kw_1273 : (Jvm.Cond.methodLink "LargeBubbleLaw" (57 : Nat) ({ cls := "LargeBubbleModel", name := "go", desc := "(I)I" } : Jvm.MethodName)) ∈ am_T0 := am_t6 (List.mem_of_getElem? (i := 73) rfl) rfl
set_option maxRecDepth 100000 in
theorem kw_1274 : (Jvm.Cond.instanceMethod ({ cls := "LargeBubbleModel", name := "go", desc := "(I)I" } : Jvm.MethodName)) ∈ am_T0 := am_t6 (List.mem_of_getElem? (i := 74) rfl) rfl
set_option maxRecDepth 100000 in
theorem kw_1275 : (Jvm.Cond.selects "LargeBubbleModel" ({ cls := "LargeBubbleModel", name := "go", desc := "(I)I" } : Jvm.MethodName) ({ cls := "LargeBubbleModel", name := "go", desc := "(I)I" } : Jvm.MethodName)) ∈ am_T0 := am_t6 (List.mem_of_getElem? (i := 75) rfl) rfl
set_option maxRecDepth 100000 in
theorem kw_1276 : (Jvm.Cond.code ({ cls := "LargeBubbleModel", name := "go", desc := "(I)I" } : Jvm.MethodName) prog_14_method_41_code (2 : Nat) (Option.some Jvm.ClassFile.FieldType.int)) ∈ am_T0 := am_t6 (List.mem_of_getElem? (i := 76) rfl) rfl
set_option maxRecDepth 100000 in
theorem kw_1277 : (Jvm.Cond.methodLink "LargeBubbleModel" (323 : Nat) ({ cls := "LargeBubbleModel", name := "goes", desc := "(II)V" } : Jvm.MethodName)) ∈ am_T0 := am_t6 (List.mem_of_getElem? (i := 77) rfl) rfl
set_option maxRecDepth 100000 in
theorem kw_1279 : (Jvm.Cond.instanceMethod ({ cls := "LargeBubbleModel", name := "goes", desc := "(II)V" } : Jvm.MethodName)) ∈ am_T0 := am_t6 (List.mem_of_getElem? (i := 79) rfl) rfl
set_option maxRecDepth 100000 in
theorem kw_1280 : (Jvm.Cond.code ({ cls := "LargeBubbleModel", name := "goes", desc := "(II)V" } : Jvm.MethodName) prog_14_method_40_code (7 : Nat) (Option.none : Option Jvm.ClassFile.FieldType)) ∈ am_T0 := am_t6 (List.mem_of_getElem? (i := 80) rfl) rfl
set_option maxRecDepth 100000 in
theorem kw_1281 : (Jvm.Cond.methodLink "LargeBubbleModel" (304 : Nat) ({ cls := "LargeBubbleModel", name := "sumOf", desc := "(III)I" } : Jvm.MethodName)) ∈ am_T0 := am_t6 (List.mem_of_getElem? (i := 81) rfl) rfl
set_option maxRecDepth 100000 in
theorem kw_1283 : (Jvm.Cond.instanceMethod ({ cls := "LargeBubbleModel", name := "sumOf", desc := "(III)I" } : Jvm.MethodName)) ∈ am_T0 := am_t6 (List.mem_of_getElem? (i := 83) rfl) rfl
set_option maxRecDepth 100000 in
theorem kw_1284 : (Jvm.Cond.code ({ cls := "LargeBubbleModel", name := "sumOf", desc := "(III)I" } : Jvm.MethodName) prog_14_method_29_code (7 : Nat) (Option.some Jvm.ClassFile.FieldType.int)) ∈ am_T0 := am_t6 (List.mem_of_getElem? (i := 84) rfl) rfl
set_option maxRecDepth 100000 in
theorem kw_1285 : (Jvm.Cond.methodLink "LargeBubbleModel" (286 : Nat) ({ cls := "LargeBubbleModel", name := "begin", desc := "()I" } : Jvm.MethodName)) ∈ am_T0 := am_t6 (List.mem_of_getElem? (i := 85) rfl) rfl
set_option maxRecDepth 100000 in
theorem kw_1287 : (Jvm.Cond.instanceMethod ({ cls := "LargeBubbleModel", name := "begin", desc := "()I" } : Jvm.MethodName)) ∈ am_T0 := am_t6 (List.mem_of_getElem? (i := 87) rfl) rfl
set_option maxRecDepth 100000 in
theorem kw_1288 : (Jvm.Cond.code ({ cls := "LargeBubbleModel", name := "begin", desc := "()I" } : Jvm.MethodName) prog_14_method_25_code (1 : Nat) (Option.some Jvm.ClassFile.FieldType.int)) ∈ am_T0 := am_t6 (List.mem_of_getElem? (i := 88) rfl) rfl
set_option maxRecDepth 100000 in
theorem kw_1289 : (Jvm.Cond.methodLink "LargeBubbleModel" (289 : Nat) ({ cls := "LargeBubbleModel", name := "behind", desc := "()I" } : Jvm.MethodName)) ∈ am_T0 := am_t6 (List.mem_of_getElem? (i := 89) rfl) rfl
set_option maxRecDepth 100000 in
theorem kw_1291 : (Jvm.Cond.instanceMethod ({ cls := "LargeBubbleModel", name := "behind", desc := "()I" } : Jvm.MethodName)) ∈ am_T0 := am_t6 (List.mem_of_getElem? (i := 91) rfl) rfl
set_option maxRecDepth 100000 in
theorem kw_1292 : (Jvm.Cond.code ({ cls := "LargeBubbleModel", name := "behind", desc := "()I" } : Jvm.MethodName) prog_14_method_26_code (1 : Nat) (Option.some Jvm.ClassFile.FieldType.int)) ∈ am_T0 := am_t6 (List.mem_of_getElem? (i := 92) rfl) rfl
set_option maxRecDepth 100000 in
theorem kw_1293 : (Jvm.Cond.methodLink "LargeBubbleModel" (292 : Nat) ({ cls := "LargeBubbleModel", name := "holds", desc := "(II)Z" } : Jvm.MethodName)) ∈ am_T0 := am_t6 (List.mem_of_getElem? (i := 93) rfl) rfl
set_option maxRecDepth 100000 in
theorem kw_1295 : (Jvm.Cond.instanceMethod ({ cls := "LargeBubbleModel", name := "holds", desc := "(II)Z" } : Jvm.MethodName)) ∈ am_T0 := am_t6 (List.mem_of_getElem? (i := 95) rfl) rfl
set_option maxRecDepth 100000 in
theorem kw_1296 : (Jvm.Cond.code ({ cls := "LargeBubbleModel", name := "holds", desc := "(II)Z" } : Jvm.MethodName) prog_14_method_28_code (8 : Nat) (Option.some Jvm.ClassFile.FieldType.boolean)) ∈ am_T0 := am_t6 (List.mem_of_getElem? (i := 96) rfl) rfl
set_option maxRecDepth 100000 in
theorem kw_1297 : (Jvm.Cond.methodLink "LargeBubbleModel" (282 : Nat) ({ cls := "LargeBubbleModel", name := "factOf", desc := "(II)I" } : Jvm.MethodName)) ∈ am_T0 := am_t6 (List.mem_of_getElem? (i := 97) rfl) rfl
set_option maxRecDepth 100000 in
theorem kw_1299 : (Jvm.Cond.instanceMethod ({ cls := "LargeBubbleModel", name := "factOf", desc := "(II)I" } : Jvm.MethodName)) ∈ am_T0 := am_t6 (List.mem_of_getElem? (i := 99) rfl) rfl
set_option maxRecDepth 100000 in
theorem kw_1300 : (Jvm.Cond.code ({ cls := "LargeBubbleModel", name := "factOf", desc := "(II)I" } : Jvm.MethodName) prog_14_method_27_code (3 : Nat) (Option.some Jvm.ClassFile.FieldType.int)) ∈ am_T0 := am_t6 (List.mem_of_getElem? (i := 100) rfl) rfl
set_option maxRecDepth 100000 in
theorem kw_1301 : (Jvm.Cond.methodLink "LargeBubbleModel" (314 : Nat) ({ cls := "LargeBubbleModel", name := "paceOf", desc := "(I)I" } : Jvm.MethodName)) ∈ am_T0 := am_t6 (List.mem_of_getElem? (i := 101) rfl) rfl
set_option maxRecDepth 100000 in
theorem kw_1303 : (Jvm.Cond.instanceMethod ({ cls := "LargeBubbleModel", name := "paceOf", desc := "(I)I" } : Jvm.MethodName)) ∈ am_T0 := am_t6 (List.mem_of_getElem? (i := 103) rfl) rfl
set_option maxRecDepth 100000 in
theorem kw_1304 : (Jvm.Cond.code ({ cls := "LargeBubbleModel", name := "paceOf", desc := "(I)I" } : Jvm.MethodName) prog_14_method_36_code (2 : Nat) (Option.some Jvm.ClassFile.FieldType.int)) ∈ am_T0 := am_t6 (List.mem_of_getElem? (i := 104) rfl) rfl
set_option maxRecDepth 100000 in
theorem kw_1305 : (Jvm.Cond.methodLink "LargeBubbleModel" (317 : Nat) ({ cls := "LargeBubbleModel", name := "shuts", desc := "(II)Z" } : Jvm.MethodName)) ∈ am_T0 := am_t6 (List.mem_of_getElem? (i := 105) rfl) rfl
set_option maxRecDepth 100000 in
theorem kw_1307 : (Jvm.Cond.instanceMethod ({ cls := "LargeBubbleModel", name := "shuts", desc := "(II)Z" } : Jvm.MethodName)) ∈ am_T0 := am_t6 (List.mem_of_getElem? (i := 107) rfl) rfl
set_option maxRecDepth 100000 in
theorem kw_1308 : (Jvm.Cond.code ({ cls := "LargeBubbleModel", name := "shuts", desc := "(II)Z" } : Jvm.MethodName) prog_14_method_37_code (3 : Nat) (Option.some Jvm.ClassFile.FieldType.boolean)) ∈ am_T0 := am_t6 (List.mem_of_getElem? (i := 108) rfl) rfl
set_option maxRecDepth 100000 in
theorem kw_1309 : (Jvm.Cond.methodLink "LargeBubbleModel" (320 : Nat) ({ cls := "LargeBubbleModel", name := "ends", desc := "(I)V" } : Jvm.MethodName)) ∈ am_T0 := am_t6 (List.mem_of_getElem? (i := 109) rfl) rfl
set_option maxRecDepth 100000 in
theorem kw_1311 : (Jvm.Cond.instanceMethod ({ cls := "LargeBubbleModel", name := "ends", desc := "(I)V" } : Jvm.MethodName)) ∈ am_T0 := am_t6 (List.mem_of_getElem? (i := 111) rfl) rfl
set_option maxRecDepth 100000 in
theorem kw_1312 : (Jvm.Cond.code ({ cls := "LargeBubbleModel", name := "ends", desc := "(I)V" } : Jvm.MethodName) prog_14_method_38_code (2 : Nat) (Option.none : Option Jvm.ClassFile.FieldType)) ∈ am_T0 := am_t6 (List.mem_of_getElem? (i := 112) rfl) rfl
set_option maxRecDepth 100000 in
theorem kw_1313 : (Jvm.Cond.methodLink "LargeBubbleModel" (308 : Nat) ({ cls := "LargeBubbleModel", name := "least2", desc := "(J)J" } : Jvm.MethodName)) ∈ am_T0 := am_t6 (List.mem_of_getElem? (i := 113) rfl) rfl
set_option maxRecDepth 100000 in
theorem kw_1315 : (Jvm.Cond.instanceMethod ({ cls := "LargeBubbleModel", name := "least2", desc := "(J)J" } : Jvm.MethodName)) ∈ am_T0 := am_t6 (List.mem_of_getElem? (i := 115) rfl) rfl
set_option maxRecDepth 100000 in
theorem kw_1316 : (Jvm.Cond.code ({ cls := "LargeBubbleModel", name := "least2", desc := "(J)J" } : Jvm.MethodName) prog_14_method_39_code (3 : Nat) (Option.some Jvm.ClassFile.FieldType.long)) ∈ am_T0 := am_t6 (List.mem_of_getElem? (i := 116) rfl) rfl
set_option maxRecDepth 100000 in
theorem kw_1317 : (Jvm.Cond.constantLong "LargeBubbleModel" (312 : Nat) (99999 : Int64)) ∈ am_T0 := am_t6 (List.mem_of_getElem? (i := 117) rfl) rfl
set_option maxRecDepth 100000 in
theorem kw_1318 : (Jvm.Cond.constant "LargeBubbleModel" (327 : Nat) (999999 : Int32)) ∈ am_T0 := am_t6 (List.mem_of_getElem? (i := 118) rfl) rfl
set_option maxRecDepth 100000 in
theorem kw_1319 : (Jvm.Cond.methodLink "LargeBubbleModel" (328 : Nat) ({ cls := "LargeBubbleModel", name := "least", desc := "(II)I" } : Jvm.MethodName)) ∈ am_T0 := am_t6 (List.mem_of_getElem? (i := 119) rfl) rfl
set_option maxRecDepth 100000 in
theorem kw_1321 : (Jvm.Cond.instanceMethod ({ cls := "LargeBubbleModel", name := "least", desc := "(II)I" } : Jvm.MethodName)) ∈ am_T0 := am_t6 (List.mem_of_getElem? (i := 121) rfl) rfl
set_option maxRecDepth 100000 in
theorem kw_1322 : (Jvm.Cond.code ({ cls := "LargeBubbleModel", name := "least", desc := "(II)I" } : Jvm.MethodName) prog_14_method_31_code (3 : Nat) (Option.some Jvm.ClassFile.FieldType.int)) ∈ am_T0 := am_t6 (List.mem_of_getElem? (i := 122) rfl) rfl
set_option maxRecDepth 100000 in
theorem kw_1323 : (Jvm.Cond.methodLink "LargeBubbleLaw" (61 : Nat) ({ cls := "LargeBubbleModel", name := "would", desc := "(II)I" } : Jvm.MethodName)) ∈ am_T0 := am_t6 (List.mem_of_getElem? (i := 123) rfl) rfl
set_option maxRecDepth 100000 in
theorem kw_1324 : (Jvm.Cond.instanceMethod ({ cls := "LargeBubbleModel", name := "would", desc := "(II)I" } : Jvm.MethodName)) ∈ am_T0 := am_t6 (List.mem_of_getElem? (i := 124) rfl) rfl
set_option maxRecDepth 100000 in
theorem kw_1325 : (Jvm.Cond.selects "LargeBubbleModel" ({ cls := "LargeBubbleModel", name := "would", desc := "(II)I" } : Jvm.MethodName) ({ cls := "LargeBubbleModel", name := "would", desc := "(II)I" } : Jvm.MethodName)) ∈ am_T0 := am_t6 (List.mem_of_getElem? (i := 125) rfl) rfl
set_option maxRecDepth 100000 in
theorem kw_1326 : (Jvm.Cond.code ({ cls := "LargeBubbleModel", name := "would", desc := "(II)I" } : Jvm.MethodName) prog_14_method_42_code (3 : Nat) (Option.some Jvm.ClassFile.FieldType.int)) ∈ am_T0 := am_t6 (List.mem_of_getElem? (i := 126) rfl) rfl
set_option maxRecDepth 100000 in
theorem kw_1327 : (Jvm.Cond.methodLink "LargeBubbleLaw" (65 : Nat) ({ cls := "LargeBubbleModel", name := "aim", desc := "(II)I" } : Jvm.MethodName)) ∈ am_T0 := am_t6 (List.mem_of_getElem? (i := 127) rfl) rfl
set_option maxRecDepth 100000 in
theorem kw_1328 : (Jvm.Cond.instanceMethod ({ cls := "LargeBubbleModel", name := "aim", desc := "(II)I" } : Jvm.MethodName)) ∈ am_T0 := am_t6 (List.mem_of_getElem? (i := 128) rfl) rfl
set_option maxRecDepth 100000 in
theorem kw_1329 : (Jvm.Cond.selects "LargeBubbleModel" ({ cls := "LargeBubbleModel", name := "aim", desc := "(II)I" } : Jvm.MethodName) ({ cls := "LargeBubbleModel", name := "aim", desc := "(II)I" } : Jvm.MethodName)) ∈ am_T0 := am_t6 (List.mem_of_getElem? (i := 129) rfl) rfl
set_option maxRecDepth 100000 in
theorem kw_1330 : (Jvm.Cond.code ({ cls := "LargeBubbleModel", name := "aim", desc := "(II)I" } : Jvm.MethodName) prog_14_method_44_code (8 : Nat) (Option.some Jvm.ClassFile.FieldType.int)) ∈ am_T0 := am_t6 (List.mem_of_getElem? (i := 130) rfl) rfl
set_option maxRecDepth 100000 in
theorem kw_1331 : (Jvm.Cond.methodLink "LargeBubbleModel" (331 : Nat) ({ cls := "LargeBubbleModel", name := "brings", desc := "(II)I" } : Jvm.MethodName)) ∈ am_T0 := am_t6 (List.mem_of_getElem? (i := 131) rfl) rfl
set_option maxRecDepth 100000 in
theorem kw_1333 : (Jvm.Cond.instanceMethod ({ cls := "LargeBubbleModel", name := "brings", desc := "(II)I" } : Jvm.MethodName)) ∈ am_T0 := am_t6 (List.mem_of_getElem? (i := 133) rfl) rfl
set_option maxRecDepth 100000 in
theorem kw_1334 : (Jvm.Cond.code ({ cls := "LargeBubbleModel", name := "brings", desc := "(II)I" } : Jvm.MethodName) prog_14_method_43_code (3 : Nat) (Option.some Jvm.ClassFile.FieldType.int)) ∈ am_T0 := am_t6 (List.mem_of_getElem? (i := 134) rfl) rfl
set_option maxRecDepth 100000 in
theorem kw_1335 : (Jvm.Cond.methodLink "LargeBubbleLaw" (69 : Nat) ({ cls := "LargeBubbleModel", name := "cord", desc := "(II)I" } : Jvm.MethodName)) ∈ am_T0 := am_t6 (List.mem_of_getElem? (i := 135) rfl) rfl
set_option maxRecDepth 100000 in
theorem kw_1336 : (Jvm.Cond.instanceMethod ({ cls := "LargeBubbleModel", name := "cord", desc := "(II)I" } : Jvm.MethodName)) ∈ am_T0 := am_t6 (List.mem_of_getElem? (i := 136) rfl) rfl
set_option maxRecDepth 100000 in
theorem kw_1337 : (Jvm.Cond.selects "LargeBubbleModel" ({ cls := "LargeBubbleModel", name := "cord", desc := "(II)I" } : Jvm.MethodName) ({ cls := "LargeBubbleModel", name := "cord", desc := "(II)I" } : Jvm.MethodName)) ∈ am_T0 := am_t6 (List.mem_of_getElem? (i := 137) rfl) rfl
set_option maxRecDepth 100000 in
theorem kw_1338 : (Jvm.Cond.code ({ cls := "LargeBubbleModel", name := "cord", desc := "(II)I" } : Jvm.MethodName) prog_14_method_45_code (8 : Nat) (Option.some Jvm.ClassFile.FieldType.int)) ∈ am_T0 := am_t6 (List.mem_of_getElem? (i := 138) rfl) rfl
set_option maxRecDepth 100000 in
theorem kw_1339 : (Jvm.Cond.methodLink "LargeBubbleLaw" (73 : Nat) ({ cls := "LargeBubbleModel", name := "best", desc := "(II)I" } : Jvm.MethodName)) ∈ am_T0 := am_t6 (List.mem_of_getElem? (i := 139) rfl) rfl
set_option maxRecDepth 100000 in
theorem kw_1340 : (Jvm.Cond.instanceMethod ({ cls := "LargeBubbleModel", name := "best", desc := "(II)I" } : Jvm.MethodName)) ∈ am_T0 := am_t6 (List.mem_of_getElem? (i := 140) rfl) rfl
set_option maxRecDepth 100000 in
theorem kw_1341 : (Jvm.Cond.selects "LargeBubbleModel" ({ cls := "LargeBubbleModel", name := "best", desc := "(II)I" } : Jvm.MethodName) ({ cls := "LargeBubbleModel", name := "best", desc := "(II)I" } : Jvm.MethodName)) ∈ am_T0 := am_t6 (List.mem_of_getElem? (i := 141) rfl) rfl
set_option maxRecDepth 100000 in
theorem kw_1342 : (Jvm.Cond.code ({ cls := "LargeBubbleModel", name := "best", desc := "(II)I" } : Jvm.MethodName) prog_14_method_46_code (9 : Nat) (Option.some Jvm.ClassFile.FieldType.int)) ∈ am_T0 := am_t6 (List.mem_of_getElem? (i := 142) rfl) rfl
set_option maxRecDepth 100000 in
theorem kw_1343 : (Jvm.Cond.methodLink "LargeBubbleLaw" (77 : Nat) ({ cls := "LargeBubbleModel", name := "when", desc := "(II)I" } : Jvm.MethodName)) ∈ am_T0 := am_t6 (List.mem_of_getElem? (i := 143) rfl) rfl
set_option maxRecDepth 100000 in
theorem kw_1344 : (Jvm.Cond.instanceMethod ({ cls := "LargeBubbleModel", name := "when", desc := "(II)I" } : Jvm.MethodName)) ∈ am_T0 := am_t6 (List.mem_of_getElem? (i := 144) rfl) rfl
set_option maxRecDepth 100000 in
theorem kw_1345 : (Jvm.Cond.selects "LargeBubbleModel" ({ cls := "LargeBubbleModel", name := "when", desc := "(II)I" } : Jvm.MethodName) ({ cls := "LargeBubbleModel", name := "when", desc := "(II)I" } : Jvm.MethodName)) ∈ am_T0 := am_t6 (List.mem_of_getElem? (i := 145) rfl) rfl
set_option maxRecDepth 100000 in
theorem kw_1346 : (Jvm.Cond.code ({ cls := "LargeBubbleModel", name := "when", desc := "(II)I" } : Jvm.MethodName) prog_14_method_47_code (7 : Nat) (Option.some Jvm.ClassFile.FieldType.int)) ∈ am_T0 := am_t6 (List.mem_of_getElem? (i := 146) rfl) rfl
set_option maxRecDepth 100000 in
theorem kw_1347 : (Jvm.Cond.methodLink "LargeBubbleLaw" (81 : Nat) ({ cls := "LargeBubbleModel", name := "day", desc := "(II)I" } : Jvm.MethodName)) ∈ am_T0 := am_t6 (List.mem_of_getElem? (i := 147) rfl) rfl
set_option maxRecDepth 100000 in
theorem kw_1348 : (Jvm.Cond.instanceMethod ({ cls := "LargeBubbleModel", name := "day", desc := "(II)I" } : Jvm.MethodName)) ∈ am_T0 := am_t6 (List.mem_of_getElem? (i := 148) rfl) rfl
set_option maxRecDepth 100000 in
theorem kw_1349 : (Jvm.Cond.selects "LargeBubbleModel" ({ cls := "LargeBubbleModel", name := "day", desc := "(II)I" } : Jvm.MethodName) ({ cls := "LargeBubbleModel", name := "day", desc := "(II)I" } : Jvm.MethodName)) ∈ am_T0 := am_t6 (List.mem_of_getElem? (i := 149) rfl) rfl
set_option maxRecDepth 100000 in
theorem kw_1350 : (Jvm.Cond.code ({ cls := "LargeBubbleModel", name := "day", desc := "(II)I" } : Jvm.MethodName) prog_14_method_49_code (3 : Nat) (Option.some Jvm.ClassFile.FieldType.int)) ∈ am_T0 := am_t6 (List.mem_of_getElem? (i := 150) rfl) rfl
set_option maxRecDepth 100000 in
theorem kw_1351 : (Jvm.Cond.methodLink "LargeBubbleModel" (334 : Nat) ({ cls := "LargeBubbleModel", name := "layDay", desc := "(I)V" } : Jvm.MethodName)) ∈ am_T0 := am_t6 (List.mem_of_getElem? (i := 151) rfl) rfl
set_option maxRecDepth 100000 in
theorem kw_1353 : (Jvm.Cond.instanceMethod ({ cls := "LargeBubbleModel", name := "layDay", desc := "(I)V" } : Jvm.MethodName)) ∈ am_T0 := am_t6 (List.mem_of_getElem? (i := 153) rfl) rfl
set_option maxRecDepth 100000 in
theorem kw_1354 : (Jvm.Cond.code ({ cls := "LargeBubbleModel", name := "layDay", desc := "(I)V" } : Jvm.MethodName) prog_14_method_48_code (4 : Nat) (Option.none : Option Jvm.ClassFile.FieldType)) ∈ am_T0 := am_t6 (List.mem_of_getElem? (i := 154) rfl) rfl
set_option maxRecDepth 100000 in
theorem kw_1355 : (Jvm.Cond.methodLink "LargeBubbleLaw" (85 : Nat) ({ cls := "LargeBubbleModel", name := "most", desc := "(I)I" } : Jvm.MethodName)) ∈ am_T0 := am_t6 (List.mem_of_getElem? (i := 155) rfl) rfl
set_option maxRecDepth 100000 in
theorem kw_1356 : (Jvm.Cond.instanceMethod ({ cls := "LargeBubbleModel", name := "most", desc := "(I)I" } : Jvm.MethodName)) ∈ am_T0 := am_t6 (List.mem_of_getElem? (i := 156) rfl) rfl
set_option maxRecDepth 100000 in
theorem kw_1357 : (Jvm.Cond.selects "LargeBubbleModel" ({ cls := "LargeBubbleModel", name := "most", desc := "(I)I" } : Jvm.MethodName) ({ cls := "LargeBubbleModel", name := "most", desc := "(I)I" } : Jvm.MethodName)) ∈ am_T0 := am_t6 (List.mem_of_getElem? (i := 157) rfl) rfl
set_option maxRecDepth 100000 in
theorem kw_1358 : (Jvm.Cond.code ({ cls := "LargeBubbleModel", name := "most", desc := "(I)I" } : Jvm.MethodName) prog_14_method_50_code (4 : Nat) (Option.some Jvm.ClassFile.FieldType.int)) ∈ am_T0 := am_t6 (List.mem_of_getElem? (i := 158) rfl) rfl
set_option maxRecDepth 100000 in
theorem kw_1359 : (Jvm.Cond.methodLink "LargeBubbleLaw" (89 : Nat) ({ cls := "LargeBubbleModel", name := "longest", desc := "(II)I" } : Jvm.MethodName)) ∈ am_T0 := am_t6 (List.mem_of_getElem? (i := 159) rfl) rfl
set_option maxRecDepth 100000 in
theorem kw_1360 : (Jvm.Cond.instanceMethod ({ cls := "LargeBubbleModel", name := "longest", desc := "(II)I" } : Jvm.MethodName)) ∈ am_T0 := am_t6 (List.mem_of_getElem? (i := 160) rfl) rfl
set_option maxRecDepth 100000 in
theorem kw_1361 : (Jvm.Cond.selects "LargeBubbleModel" ({ cls := "LargeBubbleModel", name := "longest", desc := "(II)I" } : Jvm.MethodName) ({ cls := "LargeBubbleModel", name := "longest", desc := "(II)I" } : Jvm.MethodName)) ∈ am_T0 := am_t6 (List.mem_of_getElem? (i := 161) rfl) rfl
set_option maxRecDepth 100000 in
theorem kw_1362 : (Jvm.Cond.code ({ cls := "LargeBubbleModel", name := "longest", desc := "(II)I" } : Jvm.MethodName) prog_14_method_51_code (6 : Nat) (Option.some Jvm.ClassFile.FieldType.int)) ∈ am_T0 := am_t6 (List.mem_of_getElem? (i := 162) rfl) rfl
set_option maxRecDepth 100000 in
theorem kw_1363 : (Jvm.Cond.methodLink "LargeBubbleLaw" (93 : Nat) ({ cls := "LargeBubbleModel", name := "see", desc := "(III)I" } : Jvm.MethodName)) ∈ am_T0 := am_t6 (List.mem_of_getElem? (i := 163) rfl) rfl
set_option maxRecDepth 100000 in
theorem kw_1364 : (Jvm.Cond.instanceMethod ({ cls := "LargeBubbleModel", name := "see", desc := "(III)I" } : Jvm.MethodName)) ∈ am_T0 := am_t6 (List.mem_of_getElem? (i := 164) rfl) rfl
set_option maxRecDepth 100000 in
theorem kw_1365 : (Jvm.Cond.selects "LargeBubbleModel" ({ cls := "LargeBubbleModel", name := "see", desc := "(III)I" } : Jvm.MethodName) ({ cls := "LargeBubbleModel", name := "see", desc := "(III)I" } : Jvm.MethodName)) ∈ am_T0 := am_t6 (List.mem_of_getElem? (i := 165) rfl) rfl
set_option maxRecDepth 100000 in
theorem kw_1366 : (Jvm.Cond.code ({ cls := "LargeBubbleModel", name := "see", desc := "(III)I" } : Jvm.MethodName) prog_14_method_52_code (4 : Nat) (Option.some Jvm.ClassFile.FieldType.int)) ∈ am_T0 := am_t6 (List.mem_of_getElem? (i := 166) rfl) rfl
set_option maxRecDepth 100000 in
theorem kw_1367 : (Jvm.Cond.methodLink "LargeBubbleLaw" (97 : Nat) ({ cls := "LargeBubbleModel", name := "was", desc := "()I" } : Jvm.MethodName)) ∈ am_T0 := am_t6 (List.mem_of_getElem? (i := 167) rfl) rfl
set_option maxRecDepth 100000 in
theorem kw_1368 : (Jvm.Cond.instanceMethod ({ cls := "LargeBubbleModel", name := "was", desc := "()I" } : Jvm.MethodName)) ∈ am_T0 := am_t6 (List.mem_of_getElem? (i := 168) rfl) rfl
set_option maxRecDepth 100000 in
theorem kw_1369 : (Jvm.Cond.selects "LargeBubbleModel" ({ cls := "LargeBubbleModel", name := "was", desc := "()I" } : Jvm.MethodName) ({ cls := "LargeBubbleModel", name := "was", desc := "()I" } : Jvm.MethodName)) ∈ am_T0 := am_t6 (List.mem_of_getElem? (i := 169) rfl) rfl
set_option maxRecDepth 100000 in
theorem kw_1370 : (Jvm.Cond.code ({ cls := "LargeBubbleModel", name := "was", desc := "()I" } : Jvm.MethodName) prog_14_method_54_code (6 : Nat) (Option.some Jvm.ClassFile.FieldType.int)) ∈ am_T0 := am_t6 (List.mem_of_getElem? (i := 170) rfl) rfl
set_option maxRecDepth 100000 in
theorem kw_1371 : (Jvm.Cond.methodLink "LargeBubbleModel" (337 : Nat) ({ cls := "LargeBubbleModel", name := "isSeen", desc := "(I)Z" } : Jvm.MethodName)) ∈ am_T0 := am_t6 (List.mem_of_getElem? (i := 171) rfl) rfl
set_option maxRecDepth 100000 in
theorem kw_1373 : (Jvm.Cond.instanceMethod ({ cls := "LargeBubbleModel", name := "isSeen", desc := "(I)Z" } : Jvm.MethodName)) ∈ am_T0 := am_t6 (List.mem_of_getElem? (i := 173) rfl) rfl
set_option maxRecDepth 100000 in
theorem kw_1374 : (Jvm.Cond.code ({ cls := "LargeBubbleModel", name := "isSeen", desc := "(I)Z" } : Jvm.MethodName) prog_14_method_53_code (2 : Nat) (Option.some Jvm.ClassFile.FieldType.boolean)) ∈ am_T0 := am_t6 (List.mem_of_getElem? (i := 174) rfl) rfl
set_option maxRecDepth 100000 in
theorem kw_1375 : (Jvm.Cond.methodLink "LargeBubbleLaw" (101 : Nat) ({ cls := "LargeBubbleModel", name := "calm", desc := "(I)I" } : Jvm.MethodName)) ∈ am_T0 := am_t6 (List.mem_of_getElem? (i := 175) rfl) rfl
set_option maxRecDepth 100000 in
theorem kw_1376 : (Jvm.Cond.instanceMethod ({ cls := "LargeBubbleModel", name := "calm", desc := "(I)I" } : Jvm.MethodName)) ∈ am_T0 := am_t6 (List.mem_of_getElem? (i := 176) rfl) rfl
set_option maxRecDepth 100000 in
theorem kw_1377 : (Jvm.Cond.selects "LargeBubbleModel" ({ cls := "LargeBubbleModel", name := "calm", desc := "(I)I" } : Jvm.MethodName) ({ cls := "LargeBubbleModel", name := "calm", desc := "(I)I" } : Jvm.MethodName)) ∈ am_T0 := am_t6 (List.mem_of_getElem? (i := 177) rfl) rfl
set_option maxRecDepth 100000 in
theorem kw_1378 : (Jvm.Cond.code ({ cls := "LargeBubbleModel", name := "calm", desc := "(I)I" } : Jvm.MethodName) prog_14_method_55_code (3 : Nat) (Option.some Jvm.ClassFile.FieldType.int)) ∈ am_T0 := am_t6 (List.mem_of_getElem? (i := 178) rfl) rfl
set_option maxRecDepth 100000 in
theorem kw_1379 : (Jvm.Cond.constant "LargeBubbleModel" (340 : Nat) (-1000001 : Int32)) ∈ am_T0 := am_t6 (List.mem_of_getElem? (i := 179) rfl) rfl
set_option maxRecDepth 100000 in
theorem kw_1380 : (Jvm.Cond.methodLink "LargeBubbleLaw" (106 : Nat) ({ cls := "LargeBubbleModel", name := "odds", desc := "(II)J" } : Jvm.MethodName)) ∈ am_T0 := am_t6 (List.mem_of_getElem? (i := 180) rfl) rfl
set_option maxRecDepth 100000 in
theorem kw_1381 : (Jvm.Cond.instanceMethod ({ cls := "LargeBubbleModel", name := "odds", desc := "(II)J" } : Jvm.MethodName)) ∈ am_T0 := am_t6 (List.mem_of_getElem? (i := 181) rfl) rfl
set_option maxRecDepth 100000 in
theorem kw_1382 : (Jvm.Cond.selects "LargeBubbleModel" ({ cls := "LargeBubbleModel", name := "odds", desc := "(II)J" } : Jvm.MethodName) ({ cls := "LargeBubbleModel", name := "odds", desc := "(II)J" } : Jvm.MethodName)) ∈ am_T0 := am_t6 (List.mem_of_getElem? (i := 182) rfl) rfl
set_option maxRecDepth 100000 in
theorem kw_1383 : (Jvm.Cond.code ({ cls := "LargeBubbleModel", name := "odds", desc := "(II)J" } : Jvm.MethodName) prog_14_method_58_code (5 : Nat) (Option.some Jvm.ClassFile.FieldType.long)) ∈ am_T0 := am_t6 (List.mem_of_getElem? (i := 183) rfl) rfl
set_option maxRecDepth 100000 in
theorem kw_1384 : (Jvm.Cond.constantLong "LargeBubbleModel" (345 : Nat) (-9223372036854775808 : Int64)) ∈ am_T0 := am_t6 (List.mem_of_getElem? (i := 184) rfl) rfl
set_option maxRecDepth 100000 in
theorem kw_1385 : (Jvm.Cond.constantLong "LargeBubbleModel" (347 : Nat) (10 : Int64)) ∈ am_T0 := am_t6 (List.mem_of_getElem? (i := 185) rfl) rfl
set_option maxRecDepth 100000 in
theorem kw_1386 : (Jvm.Cond.methodLink "LargeBubbleModel" (349 : Nat) ({ cls := "LargeBubbleModel", name := "lowest", desc := "(JJI)J" } : Jvm.MethodName)) ∈ am_T0 := am_t6 (List.mem_of_getElem? (i := 186) rfl) rfl
set_option maxRecDepth 100000 in
theorem kw_1388 : (Jvm.Cond.instanceMethod ({ cls := "LargeBubbleModel", name := "lowest", desc := "(JJI)J" } : Jvm.MethodName)) ∈ am_T0 := am_t6 (List.mem_of_getElem? (i := 188) rfl) rfl
set_option maxRecDepth 100000 in
theorem kw_1389 : (Jvm.Cond.code ({ cls := "LargeBubbleModel", name := "lowest", desc := "(JJI)J" } : Jvm.MethodName) prog_14_method_57_code (8 : Nat) (Option.some Jvm.ClassFile.FieldType.long)) ∈ am_T0 := am_t6 (List.mem_of_getElem? (i := 189) rfl) rfl
set_option maxRecDepth 100000 in
theorem kw_1390 : (Jvm.Cond.methodLink "LargeBubbleModel" (341 : Nat) ({ cls := "LargeBubbleModel", name := "divisor", desc := "(JJ)J" } : Jvm.MethodName)) ∈ am_T0 := am_t6 (List.mem_of_getElem? (i := 190) rfl) rfl
set_option maxRecDepth 100000 in
theorem kw_1392 : (Jvm.Cond.instanceMethod ({ cls := "LargeBubbleModel", name := "divisor", desc := "(JJ)J" } : Jvm.MethodName)) ∈ am_T0 := am_t6 (List.mem_of_getElem? (i := 192) rfl) rfl
set_option maxRecDepth 100000 in
theorem kw_1393 : (Jvm.Cond.code ({ cls := "LargeBubbleModel", name := "divisor", desc := "(JJ)J" } : Jvm.MethodName) prog_14_method_56_code (11 : Nat) (Option.some Jvm.ClassFile.FieldType.long)) ∈ am_T0 := am_t6 (List.mem_of_getElem? (i := 193) rfl) rfl
set_option maxRecDepth 100000 in
theorem kw_1394 : (Jvm.Cond.methodLink "LargeBubbleLaw" (110 : Nat) ({ cls := "LargeBubbleModel", name := "mean", desc := "(II)J" } : Jvm.MethodName)) ∈ am_T0 := am_t6 (List.mem_of_getElem? (i := 194) rfl) rfl
set_option maxRecDepth 100000 in
theorem kw_1395 : (Jvm.Cond.instanceMethod ({ cls := "LargeBubbleModel", name := "mean", desc := "(II)J" } : Jvm.MethodName)) ∈ am_T0 := am_t6 (List.mem_of_getElem? (i := 195) rfl) rfl
set_option maxRecDepth 100000 in
theorem kw_1396 : (Jvm.Cond.selects "LargeBubbleModel" ({ cls := "LargeBubbleModel", name := "mean", desc := "(II)J" } : Jvm.MethodName) ({ cls := "LargeBubbleModel", name := "mean", desc := "(II)J" } : Jvm.MethodName)) ∈ am_T0 := am_t6 (List.mem_of_getElem? (i := 196) rfl) rfl
set_option maxRecDepth 100000 in
theorem kw_1397 : (Jvm.Cond.code ({ cls := "LargeBubbleModel", name := "mean", desc := "(II)J" } : Jvm.MethodName) prog_14_method_59_code (6 : Nat) (Option.some Jvm.ClassFile.FieldType.long)) ∈ am_T0 := am_t6 (List.mem_of_getElem? (i := 197) rfl) rfl
set_option maxRecDepth 100000 in
theorem kw_1398 : (Jvm.Cond.constantLong "LargeBubbleModel" (353 : Nat) (12 : Int64)) ∈ am_T0 := am_t6 (List.mem_of_getElem? (i := 198) rfl) rfl
set_option maxRecDepth 100000 in
theorem kw_1399 : (Jvm.Cond.methodLink "LargeBubbleLaw" (115 : Nat) ({ cls := "LargeBubbleModel", name := "book", desc := "(IZ)I" } : Jvm.MethodName)) ∈ am_T0 := am_t6 (List.mem_of_getElem? (i := 199) rfl) rfl
set_option maxRecDepth 100000 in
theorem kw_1400 : (Jvm.Cond.instanceMethod ({ cls := "LargeBubbleModel", name := "book", desc := "(IZ)I" } : Jvm.MethodName)) ∈ am_T0 := am_t6 (List.mem_of_getElem? (i := 200) rfl) rfl
set_option maxRecDepth 100000 in
theorem kw_1401 : (Jvm.Cond.selects "LargeBubbleModel" ({ cls := "LargeBubbleModel", name := "book", desc := "(IZ)I" } : Jvm.MethodName) ({ cls := "LargeBubbleModel", name := "book", desc := "(IZ)I" } : Jvm.MethodName)) ∈ am_T0 := am_t6 (List.mem_of_getElem? (i := 201) rfl) rfl
set_option maxRecDepth 100000 in
theorem kw_1402 : (Jvm.Cond.code ({ cls := "LargeBubbleModel", name := "book", desc := "(IZ)I" } : Jvm.MethodName) prog_14_method_60_code (3 : Nat) (Option.some Jvm.ClassFile.FieldType.int)) ∈ am_T0 := am_t6 (List.mem_of_getElem? (i := 202) rfl) rfl
set_option maxRecDepth 100000 in
theorem kw_1403 : (Jvm.Cond.methodLink "LargeBubbleLaw" (119 : Nat) ({ cls := "LargeBubbleModel", name := "looked", desc := "()I" } : Jvm.MethodName)) ∈ am_T0 := am_t6 (List.mem_of_getElem? (i := 203) rfl) rfl
set_option maxRecDepth 100000 in
theorem kw_1404 : (Jvm.Cond.instanceMethod ({ cls := "LargeBubbleModel", name := "looked", desc := "()I" } : Jvm.MethodName)) ∈ am_T0 := am_t6 (List.mem_of_getElem? (i := 204) rfl) rfl
set_option maxRecDepth 100000 in
theorem kw_1405 : (Jvm.Cond.selects "LargeBubbleModel" ({ cls := "LargeBubbleModel", name := "looked", desc := "()I" } : Jvm.MethodName) ({ cls := "LargeBubbleModel", name := "looked", desc := "()I" } : Jvm.MethodName)) ∈ am_T0 := am_t6 (List.mem_of_getElem? (i := 205) rfl) rfl
set_option maxRecDepth 100000 in
theorem kw_1406 : (Jvm.Cond.code ({ cls := "LargeBubbleModel", name := "looked", desc := "()I" } : Jvm.MethodName) prog_14_method_61_code (3 : Nat) (Option.some Jvm.ClassFile.FieldType.int)) ∈ am_T0 := am_t6 (List.mem_of_getElem? (i := 206) rfl) rfl
set_option maxRecDepth 100000 in
theorem kw_1407 : (Jvm.Cond.methodLink "LargeBubbleLaw" (123 : Nat) ({ cls := "LargeBubbleModel", name := "judge", desc := "(II)I" } : Jvm.MethodName)) ∈ am_T0 := am_t6 (List.mem_of_getElem? (i := 207) rfl) rfl
set_option maxRecDepth 100000 in
theorem kw_1408 : (Jvm.Cond.instanceMethod ({ cls := "LargeBubbleModel", name := "judge", desc := "(II)I" } : Jvm.MethodName)) ∈ am_T0 := am_t6 (List.mem_of_getElem? (i := 208) rfl) rfl
set_option maxRecDepth 100000 in
theorem kw_1409 : (Jvm.Cond.selects "LargeBubbleModel" ({ cls := "LargeBubbleModel", name := "judge", desc := "(II)I" } : Jvm.MethodName) ({ cls := "LargeBubbleModel", name := "judge", desc := "(II)I" } : Jvm.MethodName)) ∈ am_T0 := am_t6 (List.mem_of_getElem? (i := 209) rfl) rfl
set_option maxRecDepth 100000 in
theorem kw_1410 : (Jvm.Cond.code ({ cls := "LargeBubbleModel", name := "judge", desc := "(II)I" } : Jvm.MethodName) prog_14_method_62_code (4 : Nat) (Option.some Jvm.ClassFile.FieldType.int)) ∈ am_T0 := am_t6 (List.mem_of_getElem? (i := 210) rfl) rfl
set_option maxRecDepth 100000 in
theorem kw_1411 : (Jvm.Cond.methodLink "LargeBubbleModel" (355 : Nat) ({ cls := "LargeBubbleModel", name := "isTape", desc := "(I)Z" } : Jvm.MethodName)) ∈ am_T0 := am_t6 (List.mem_of_getElem? (i := 211) rfl) rfl
set_option maxRecDepth 100000 in
theorem kw_1413 : (Jvm.Cond.instanceMethod ({ cls := "LargeBubbleModel", name := "isTape", desc := "(I)Z" } : Jvm.MethodName)) ∈ am_T0 := am_t6 (List.mem_of_getElem? (i := 213) rfl) rfl
set_option maxRecDepth 100000 in
theorem kw_1414 : (Jvm.Cond.code ({ cls := "LargeBubbleModel", name := "isTape", desc := "(I)Z" } : Jvm.MethodName) prog_14_method_77_code (2 : Nat) (Option.some Jvm.ClassFile.FieldType.boolean)) ∈ am_T0 := am_t6 (List.mem_of_getElem? (i := 214) rfl) rfl
set_option maxRecDepth 100000 in
theorem kw_1415 : (Jvm.Cond.methodLink "LargeBubbleLaw" (127 : Nat) ({ cls := "LargeBubbleModel", name := "image", desc := "()I" } : Jvm.MethodName)) ∈ am_T0 := am_t6 (List.mem_of_getElem? (i := 215) rfl) rfl
set_option maxRecDepth 100000 in
theorem kw_1416 : (Jvm.Cond.instanceMethod ({ cls := "LargeBubbleModel", name := "image", desc := "()I" } : Jvm.MethodName)) ∈ am_T0 := am_t6 (List.mem_of_getElem? (i := 216) rfl) rfl
set_option maxRecDepth 100000 in
theorem kw_1417 : (Jvm.Cond.selects "LargeBubbleModel" ({ cls := "LargeBubbleModel", name := "image", desc := "()I" } : Jvm.MethodName) ({ cls := "LargeBubbleModel", name := "image", desc := "()I" } : Jvm.MethodName)) ∈ am_T0 := am_t6 (List.mem_of_getElem? (i := 217) rfl) rfl
set_option maxRecDepth 100000 in
theorem kw_1418 : (Jvm.Cond.code ({ cls := "LargeBubbleModel", name := "image", desc := "()I" } : Jvm.MethodName) prog_14_method_63_code (2 : Nat) (Option.some Jvm.ClassFile.FieldType.int)) ∈ am_T0 := am_t6 (List.mem_of_getElem? (i := 218) rfl) rfl
set_option maxRecDepth 100000 in
theorem kw_1419 : (Jvm.Cond.methodLink "LargeBubbleLaw" (131 : Nat) ({ cls := "LargeBubbleModel", name := "undo", desc := "()I" } : Jvm.MethodName)) ∈ am_T0 := am_t6 (List.mem_of_getElem? (i := 219) rfl) rfl
set_option maxRecDepth 100000 in
theorem kw_1420 : (Jvm.Cond.instanceMethod ({ cls := "LargeBubbleModel", name := "undo", desc := "()I" } : Jvm.MethodName)) ∈ am_T0 := am_t6 (List.mem_of_getElem? (i := 220) rfl) rfl
set_option maxRecDepth 100000 in
theorem kw_1421 : (Jvm.Cond.selects "LargeBubbleModel" ({ cls := "LargeBubbleModel", name := "undo", desc := "()I" } : Jvm.MethodName) ({ cls := "LargeBubbleModel", name := "undo", desc := "()I" } : Jvm.MethodName)) ∈ am_T0 := am_t6 (List.mem_of_getElem? (i := 221) rfl) rfl
set_option maxRecDepth 100000 in
theorem kw_1422 : (Jvm.Cond.code ({ cls := "LargeBubbleModel", name := "undo", desc := "()I" } : Jvm.MethodName) prog_14_method_64_code (2 : Nat) (Option.some Jvm.ClassFile.FieldType.int)) ∈ am_T0 := am_t6 (List.mem_of_getElem? (i := 222) rfl) rfl
set_option maxRecDepth 100000 in
theorem kw_1423 : (Jvm.Cond.methodLink "LargeBubbleLaw" (135 : Nat) ({ cls := "LargeBubbleModel", name := "act", desc := "(III)I" } : Jvm.MethodName)) ∈ am_T0 := am_t6 (List.mem_of_getElem? (i := 223) rfl) rfl
set_option maxRecDepth 100000 in
theorem kw_1424 : (Jvm.Cond.instanceMethod ({ cls := "LargeBubbleModel", name := "act", desc := "(III)I" } : Jvm.MethodName)) ∈ am_T0 := am_t6 (List.mem_of_getElem? (i := 224) rfl) rfl
set_option maxRecDepth 100000 in
theorem kw_1425 : (Jvm.Cond.selects "LargeBubbleModel" ({ cls := "LargeBubbleModel", name := "act", desc := "(III)I" } : Jvm.MethodName) ({ cls := "LargeBubbleModel", name := "act", desc := "(III)I" } : Jvm.MethodName)) ∈ am_T0 := am_t6 (List.mem_of_getElem? (i := 225) rfl) rfl
set_option maxRecDepth 100000 in
theorem kw_1426 : (Jvm.Cond.code ({ cls := "LargeBubbleModel", name := "act", desc := "(III)I" } : Jvm.MethodName) prog_14_method_73_code (4 : Nat) (Option.some Jvm.ClassFile.FieldType.int)) ∈ am_T0 := am_t6 (List.mem_of_getElem? (i := 226) rfl) rfl
set_option maxRecDepth 100000 in
theorem kw_1427 : (Jvm.Cond.methodLink "LargeBubbleModel" (364 : Nat) ({ cls := "LargeBubbleModel", name := "opensAct", desc := "(II)I" } : Jvm.MethodName)) ∈ am_T0 := am_t6 (List.mem_of_getElem? (i := 227) rfl) rfl
set_option maxRecDepth 100000 in
theorem kw_1429 : (Jvm.Cond.instanceMethod ({ cls := "LargeBubbleModel", name := "opensAct", desc := "(II)I" } : Jvm.MethodName)) ∈ am_T0 := am_t6 (List.mem_of_getElem? (i := 229) rfl) rfl
set_option maxRecDepth 100000 in
theorem kw_1430 : (Jvm.Cond.code ({ cls := "LargeBubbleModel", name := "opensAct", desc := "(II)I" } : Jvm.MethodName) prog_14_method_67_code (3 : Nat) (Option.some Jvm.ClassFile.FieldType.int)) ∈ am_T0 := am_t6 (List.mem_of_getElem? (i := 230) rfl) rfl
set_option maxRecDepth 100000 in
theorem kw_1431 : (Jvm.Cond.methodLink "LargeBubbleModel" (358 : Nat) ({ cls := "LargeBubbleModel", name := "body", desc := "(I)V" } : Jvm.MethodName)) ∈ am_T0 := am_t6 (List.mem_of_getElem? (i := 231) rfl) rfl
set_option maxRecDepth 100000 in
theorem kw_1433 : (Jvm.Cond.instanceMethod ({ cls := "LargeBubbleModel", name := "body", desc := "(I)V" } : Jvm.MethodName)) ∈ am_T0 := am_t6 (List.mem_of_getElem? (i := 233) rfl) rfl
set_option maxRecDepth 100000 in
theorem kw_1434 : (Jvm.Cond.code ({ cls := "LargeBubbleModel", name := "body", desc := "(I)V" } : Jvm.MethodName) prog_14_method_65_code (2 : Nat) (Option.none : Option Jvm.ClassFile.FieldType)) ∈ am_T0 := am_t6 (List.mem_of_getElem? (i := 234) rfl) rfl
set_option maxRecDepth 100000 in
theorem kw_1435 : (Jvm.Cond.methodLink "LargeBubbleModel" (361 : Nat) ({ cls := "LargeBubbleModel", name := "blowerOpens", desc := "(II)I" } : Jvm.MethodName)) ∈ am_T0 := am_t6 (List.mem_of_getElem? (i := 235) rfl) rfl
set_option maxRecDepth 100000 in
theorem kw_1437 : (Jvm.Cond.instanceMethod ({ cls := "LargeBubbleModel", name := "blowerOpens", desc := "(II)I" } : Jvm.MethodName)) ∈ am_T0 := am_t6 (List.mem_of_getElem? (i := 237) rfl) rfl
set_option maxRecDepth 100000 in
theorem kw_1438 : (Jvm.Cond.code ({ cls := "LargeBubbleModel", name := "blowerOpens", desc := "(II)I" } : Jvm.MethodName) prog_14_method_66_code (3 : Nat) (Option.some Jvm.ClassFile.FieldType.int)) ∈ am_T0 := am_t6 (List.mem_of_getElem? (i := 238) rfl) rfl
set_option maxRecDepth 100000 in
theorem kw_1439 : (Jvm.Cond.methodLink "LargeBubbleModel" (373 : Nat) ({ cls := "LargeBubbleModel", name := "growsAct", desc := "(II)I" } : Jvm.MethodName)) ∈ am_T0 := am_t6 (List.mem_of_getElem? (i := 239) rfl) rfl
set_option maxRecDepth 100000 in
theorem kw_1441 : (Jvm.Cond.instanceMethod ({ cls := "LargeBubbleModel", name := "growsAct", desc := "(II)I" } : Jvm.MethodName)) ∈ am_T0 := am_t7 (List.mem_of_getElem? (i := 1) rfl) rfl
set_option maxRecDepth 100000 in
theorem kw_1442 : (Jvm.Cond.code ({ cls := "LargeBubbleModel", name := "growsAct", desc := "(II)I" } : Jvm.MethodName) prog_14_method_70_code (4 : Nat) (Option.some Jvm.ClassFile.FieldType.int)) ∈ am_T0 := am_t7 (List.mem_of_getElem? (i := 2) rfl) rfl
set_option maxRecDepth 100000 in
theorem kw_1443 : (Jvm.Cond.methodLink "LargeBubbleModel" (370 : Nat) ({ cls := "LargeBubbleModel", name := "boldGrows", desc := "(II)I" } : Jvm.MethodName)) ∈ am_T0 := am_t7 (List.mem_of_getElem? (i := 3) rfl) rfl
set_option maxRecDepth 100000 in
theorem kw_1445 : (Jvm.Cond.instanceMethod ({ cls := "LargeBubbleModel", name := "boldGrows", desc := "(II)I" } : Jvm.MethodName)) ∈ am_T0 := am_t7 (List.mem_of_getElem? (i := 5) rfl) rfl
set_option maxRecDepth 100000 in
theorem kw_1446 : (Jvm.Cond.code ({ cls := "LargeBubbleModel", name := "boldGrows", desc := "(II)I" } : Jvm.MethodName) prog_14_method_69_code (3 : Nat) (Option.some Jvm.ClassFile.FieldType.int)) ∈ am_T0 := am_t7 (List.mem_of_getElem? (i := 6) rfl) rfl
set_option maxRecDepth 100000 in
theorem kw_1447 : (Jvm.Cond.methodLink "LargeBubbleModel" (367 : Nat) ({ cls := "LargeBubbleModel", name := "blowerGrows", desc := "(II)I" } : Jvm.MethodName)) ∈ am_T0 := am_t7 (List.mem_of_getElem? (i := 7) rfl) rfl
set_option maxRecDepth 100000 in
theorem kw_1449 : (Jvm.Cond.instanceMethod ({ cls := "LargeBubbleModel", name := "blowerGrows", desc := "(II)I" } : Jvm.MethodName)) ∈ am_T0 := am_t7 (List.mem_of_getElem? (i := 9) rfl) rfl
set_option maxRecDepth 100000 in
theorem kw_1450 : (Jvm.Cond.code ({ cls := "LargeBubbleModel", name := "blowerGrows", desc := "(II)I" } : Jvm.MethodName) prog_14_method_68_code (3 : Nat) (Option.some Jvm.ClassFile.FieldType.int)) ∈ am_T0 := am_t7 (List.mem_of_getElem? (i := 10) rfl) rfl
set_option maxRecDepth 100000 in
theorem kw_1451 : (Jvm.Cond.methodLink "LargeBubbleModel" (379 : Nat) ({ cls := "LargeBubbleModel", name := "tellsAct", desc := "(II)I" } : Jvm.MethodName)) ∈ am_T0 := am_t7 (List.mem_of_getElem? (i := 11) rfl) rfl
set_option maxRecDepth 100000 in
theorem kw_1453 : (Jvm.Cond.instanceMethod ({ cls := "LargeBubbleModel", name := "tellsAct", desc := "(II)I" } : Jvm.MethodName)) ∈ am_T0 := am_t7 (List.mem_of_getElem? (i := 13) rfl) rfl
set_option maxRecDepth 100000 in
theorem kw_1454 : (Jvm.Cond.code ({ cls := "LargeBubbleModel", name := "tellsAct", desc := "(II)I" } : Jvm.MethodName) prog_14_method_72_code (4 : Nat) (Option.some Jvm.ClassFile.FieldType.int)) ∈ am_T0 := am_t7 (List.mem_of_getElem? (i := 14) rfl) rfl
set_option maxRecDepth 100000 in
theorem kw_1455 : (Jvm.Cond.methodLink "LargeBubbleModel" (376 : Nat) ({ cls := "LargeBubbleModel", name := "blowerTells", desc := "(II)I" } : Jvm.MethodName)) ∈ am_T0 := am_t7 (List.mem_of_getElem? (i := 15) rfl) rfl
set_option maxRecDepth 100000 in
theorem kw_1457 : (Jvm.Cond.instanceMethod ({ cls := "LargeBubbleModel", name := "blowerTells", desc := "(II)I" } : Jvm.MethodName)) ∈ am_T0 := am_t7 (List.mem_of_getElem? (i := 17) rfl) rfl
set_option maxRecDepth 100000 in
theorem kw_1458 : (Jvm.Cond.code ({ cls := "LargeBubbleModel", name := "blowerTells", desc := "(II)I" } : Jvm.MethodName) prog_14_method_71_code (3 : Nat) (Option.some Jvm.ClassFile.FieldType.int)) ∈ am_T0 := am_t7 (List.mem_of_getElem? (i := 18) rfl) rfl
set_option maxRecDepth 100000 in
theorem kw_1459 : (Jvm.Cond.methodLink "LargeBubbleLaw" (139 : Nat) ({ cls := "LargeBubbleModel", name := "trace", desc := "(I)I" } : Jvm.MethodName)) ∈ am_T0 := am_t7 (List.mem_of_getElem? (i := 19) rfl) rfl
set_option maxRecDepth 100000 in
theorem kw_1460 : (Jvm.Cond.instanceMethod ({ cls := "LargeBubbleModel", name := "trace", desc := "(I)I" } : Jvm.MethodName)) ∈ am_T0 := am_t7 (List.mem_of_getElem? (i := 20) rfl) rfl
set_option maxRecDepth 100000 in
theorem kw_1461 : (Jvm.Cond.selects "LargeBubbleModel" ({ cls := "LargeBubbleModel", name := "trace", desc := "(I)I" } : Jvm.MethodName) ({ cls := "LargeBubbleModel", name := "trace", desc := "(I)I" } : Jvm.MethodName)) ∈ am_T0 := am_t7 (List.mem_of_getElem? (i := 21) rfl) rfl
set_option maxRecDepth 100000 in
theorem kw_1462 : (Jvm.Cond.code ({ cls := "LargeBubbleModel", name := "trace", desc := "(I)I" } : Jvm.MethodName) prog_14_method_74_code (2 : Nat) (Option.some Jvm.ClassFile.FieldType.int)) ∈ am_T0 := am_t7 (List.mem_of_getElem? (i := 22) rfl) rfl
set_option maxRecDepth 100000 in
theorem kw_1463 : (Jvm.Cond.methodLink "LargeBubbleLaw" (143 : Nat) ({ cls := "LargeBubbleModel", name := "taken", desc := "(II)I" } : Jvm.MethodName)) ∈ am_T0 := am_t7 (List.mem_of_getElem? (i := 23) rfl) rfl
set_option maxRecDepth 100000 in
theorem kw_1464 : (Jvm.Cond.instanceMethod ({ cls := "LargeBubbleModel", name := "taken", desc := "(II)I" } : Jvm.MethodName)) ∈ am_T0 := am_t7 (List.mem_of_getElem? (i := 24) rfl) rfl
set_option maxRecDepth 100000 in
theorem kw_1465 : (Jvm.Cond.selects "LargeBubbleModel" ({ cls := "LargeBubbleModel", name := "taken", desc := "(II)I" } : Jvm.MethodName) ({ cls := "LargeBubbleModel", name := "taken", desc := "(II)I" } : Jvm.MethodName)) ∈ am_T0 := am_t7 (List.mem_of_getElem? (i := 25) rfl) rfl
set_option maxRecDepth 100000 in
theorem kw_1466 : (Jvm.Cond.code ({ cls := "LargeBubbleModel", name := "taken", desc := "(II)I" } : Jvm.MethodName) prog_14_method_75_code (4 : Nat) (Option.some Jvm.ClassFile.FieldType.int)) ∈ am_T0 := am_t7 (List.mem_of_getElem? (i := 26) rfl) rfl
set_option maxRecDepth 100000 in
theorem kw_1467 : (Jvm.Cond.methodLink "LargeBubbleLaw" (147 : Nat) ({ cls := "LargeBubbleModel", name := "count", desc := "(I)I" } : Jvm.MethodName)) ∈ am_T0 := am_t7 (List.mem_of_getElem? (i := 27) rfl) rfl
set_option maxRecDepth 100000 in
theorem kw_1468 : (Jvm.Cond.instanceMethod ({ cls := "LargeBubbleModel", name := "count", desc := "(I)I" } : Jvm.MethodName)) ∈ am_T0 := am_t7 (List.mem_of_getElem? (i := 28) rfl) rfl
set_option maxRecDepth 100000 in
theorem kw_1469 : (Jvm.Cond.selects "LargeBubbleModel" ({ cls := "LargeBubbleModel", name := "count", desc := "(I)I" } : Jvm.MethodName) ({ cls := "LargeBubbleModel", name := "count", desc := "(I)I" } : Jvm.MethodName)) ∈ am_T0 := am_t7 (List.mem_of_getElem? (i := 29) rfl) rfl
set_option maxRecDepth 100000 in
theorem kw_1470 : (Jvm.Cond.code ({ cls := "LargeBubbleModel", name := "count", desc := "(I)I" } : Jvm.MethodName) prog_14_method_76_code (2 : Nat) (Option.some Jvm.ClassFile.FieldType.int)) ∈ am_T0 := am_t7 (List.mem_of_getElem? (i := 30) rfl) rfl
set_option maxRecDepth 100000 in
theorem kw_1471 : (Jvm.Cond.methodLink "LargeBubbleLaw" (151 : Nat) ({ cls := "LargeBubbleModel", name := "tape", desc := "(III)I" } : Jvm.MethodName)) ∈ am_T0 := am_t7 (List.mem_of_getElem? (i := 31) rfl) rfl
set_option maxRecDepth 100000 in
theorem kw_1472 : (Jvm.Cond.instanceMethod ({ cls := "LargeBubbleModel", name := "tape", desc := "(III)I" } : Jvm.MethodName)) ∈ am_T0 := am_t7 (List.mem_of_getElem? (i := 32) rfl) rfl
set_option maxRecDepth 100000 in
theorem kw_1473 : (Jvm.Cond.selects "LargeBubbleModel" ({ cls := "LargeBubbleModel", name := "tape", desc := "(III)I" } : Jvm.MethodName) ({ cls := "LargeBubbleModel", name := "tape", desc := "(III)I" } : Jvm.MethodName)) ∈ am_T0 := am_t7 (List.mem_of_getElem? (i := 33) rfl) rfl
set_option maxRecDepth 100000 in
theorem kw_1474 : (Jvm.Cond.code ({ cls := "LargeBubbleModel", name := "tape", desc := "(III)I" } : Jvm.MethodName) prog_14_method_78_code (5 : Nat) (Option.some Jvm.ClassFile.FieldType.int)) ∈ am_T0 := am_t7 (List.mem_of_getElem? (i := 34) rfl) rfl
set_option maxRecDepth 100000 in
theorem kw_1475 : (Jvm.Cond.methodLink "LargeBubbleLaw" (158 : Nat) ({ cls := "LargeBubbleModel", name := "item", desc := "(IIJ)I" } : Jvm.MethodName)) ∈ am_T0 := am_t7 (List.mem_of_getElem? (i := 35) rfl) rfl
set_option maxRecDepth 100000 in
theorem kw_1476 : (Jvm.Cond.instanceMethod ({ cls := "LargeBubbleModel", name := "item", desc := "(IIJ)I" } : Jvm.MethodName)) ∈ am_T0 := am_t7 (List.mem_of_getElem? (i := 36) rfl) rfl
set_option maxRecDepth 100000 in
theorem kw_1477 : (Jvm.Cond.selects "LargeBubbleModel" ({ cls := "LargeBubbleModel", name := "item", desc := "(IIJ)I" } : Jvm.MethodName) ({ cls := "LargeBubbleModel", name := "item", desc := "(IIJ)I" } : Jvm.MethodName)) ∈ am_T0 := am_t7 (List.mem_of_getElem? (i := 37) rfl) rfl
set_option maxRecDepth 100000 in
theorem kw_1478 : (Jvm.Cond.code ({ cls := "LargeBubbleModel", name := "item", desc := "(IIJ)I" } : Jvm.MethodName) prog_14_method_80_code (5 : Nat) (Option.some Jvm.ClassFile.FieldType.int)) ∈ am_T0 := am_t7 (List.mem_of_getElem? (i := 38) rfl) rfl
set_option maxRecDepth 100000 in
theorem kw_1479 : (Jvm.Cond.methodLink "LargeBubbleModel" (382 : Nat) ({ cls := "LargeBubbleModel", name := "narrow", desc := "(IJ)J" } : Jvm.MethodName)) ∈ am_T0 := am_t7 (List.mem_of_getElem? (i := 39) rfl) rfl
set_option maxRecDepth 100000 in
theorem kw_1481 : (Jvm.Cond.instanceMethod ({ cls := "LargeBubbleModel", name := "narrow", desc := "(IJ)J" } : Jvm.MethodName)) ∈ am_T0 := am_t7 (List.mem_of_getElem? (i := 41) rfl) rfl
set_option maxRecDepth 100000 in
theorem kw_1482 : (Jvm.Cond.code ({ cls := "LargeBubbleModel", name := "narrow", desc := "(IJ)J" } : Jvm.MethodName) prog_14_method_79_code (4 : Nat) (Option.some Jvm.ClassFile.FieldType.long)) ∈ am_T0 := am_t7 (List.mem_of_getElem? (i := 42) rfl) rfl
set_option maxRecDepth 100000 in
theorem kw_1483 : (Jvm.Cond.methodLink "LargeBubbleLaw" (162 : Nat) ({ cls := "LargeBubbleModel", name := "read", desc := "(II)J" } : Jvm.MethodName)) ∈ am_T0 := am_t7 (List.mem_of_getElem? (i := 43) rfl) rfl
set_option maxRecDepth 100000 in
theorem kw_1484 : (Jvm.Cond.instanceMethod ({ cls := "LargeBubbleModel", name := "read", desc := "(II)J" } : Jvm.MethodName)) ∈ am_T0 := am_t7 (List.mem_of_getElem? (i := 44) rfl) rfl
set_option maxRecDepth 100000 in
theorem kw_1485 : (Jvm.Cond.selects "LargeBubbleModel" ({ cls := "LargeBubbleModel", name := "read", desc := "(II)J" } : Jvm.MethodName) ({ cls := "LargeBubbleModel", name := "read", desc := "(II)J" } : Jvm.MethodName)) ∈ am_T0 := am_t7 (List.mem_of_getElem? (i := 45) rfl) rfl
set_option maxRecDepth 100000 in
theorem kw_1486 : (Jvm.Cond.code ({ cls := "LargeBubbleModel", name := "read", desc := "(II)J" } : Jvm.MethodName) prog_14_method_81_code (3 : Nat) (Option.some Jvm.ClassFile.FieldType.long)) ∈ am_T0 := am_t7 (List.mem_of_getElem? (i := 46) rfl) rfl
set_option maxRecDepth 100000 in
theorem kw_1487 : (Jvm.Cond.methodLink "LargeBubbleLaw" (167 : Nat) ({ cls := "LargeBubbleModel", name := "shift", desc := "(IIIII)I" } : Jvm.MethodName)) ∈ am_T0 := am_t7 (List.mem_of_getElem? (i := 47) rfl) rfl
set_option maxRecDepth 100000 in
theorem kw_1488 : (Jvm.Cond.instanceMethod ({ cls := "LargeBubbleModel", name := "shift", desc := "(IIIII)I" } : Jvm.MethodName)) ∈ am_T0 := am_t7 (List.mem_of_getElem? (i := 48) rfl) rfl
set_option maxRecDepth 100000 in
theorem kw_1489 : (Jvm.Cond.selects "LargeBubbleModel" ({ cls := "LargeBubbleModel", name := "shift", desc := "(IIIII)I" } : Jvm.MethodName) ({ cls := "LargeBubbleModel", name := "shift", desc := "(IIIII)I" } : Jvm.MethodName)) ∈ am_T0 := am_t7 (List.mem_of_getElem? (i := 49) rfl) rfl
set_option maxRecDepth 100000 in
theorem kw_1490 : (Jvm.Cond.code ({ cls := "LargeBubbleModel", name := "shift", desc := "(IIIII)I" } : Jvm.MethodName) prog_14_method_82_code (7 : Nat) (Option.some Jvm.ClassFile.FieldType.int)) ∈ am_T0 := am_t7 (List.mem_of_getElem? (i := 50) rfl) rfl
set_option maxRecDepth 100000 in
theorem kw_1491 : (Jvm.Cond.constantLong "LargeBubbleLaw" (152 : Nat) (4294967295 : Int64)) ∈ am_T0 := am_t7 (List.mem_of_getElem? (i := 51) rfl) rfl
set_option maxRecDepth 100000 in
theorem kw_1492 : (Jvm.Cond.sameMethod "LargeBubble$Bold" "LargeBubble$Bold" "shuts" "(LLargeBubble$Course;)Z") ∈ am_T0 := am_t7 (List.mem_of_getElem? (i := 52) rfl) rfl
set_option maxRecDepth 100000 in
theorem kw_1493 : (Jvm.Cond.sameMethod "LargeBubble$Careful" "LargeBubble$Careful" "shuts" "(LLargeBubble$Course;)Z") ∈ am_T0 := am_t7 (List.mem_of_getElem? (i := 53) rfl) rfl
set_option maxRecDepth 100000 in
theorem kw_1494 : (Jvm.Cond.sameMethod "LargeBubble$Bold" "LargeBubble$Bold" "grows" "(I[I)I") ∈ am_T0 := am_t7 (List.mem_of_getElem? (i := 54) rfl) rfl
set_option maxRecDepth 100000 in
theorem kn_1495 : (Jvm.Cond.castable "LargeBubble$Mad" "LargeBubble$Bold") ∈ lw_tbl := am_tl7 (List.mem_of_getElem? (i := 55) rfl)
set_option maxRecDepth 100000 in
theorem kn_1496 : (Jvm.Cond.castable "LargeBubble$Wise" "LargeBubble$Careful") ∈ lw_tbl := am_tl7 (List.mem_of_getElem? (i := 56) rfl)
set_option maxRecDepth 100000 in
theorem kn_1497 : (Jvm.Cond.castable "LargeBubble$Told" "LargeBubble$Slow") ∈ lw_tbl := am_tl7 (List.mem_of_getElem? (i := 57) rfl)
set_option maxRecDepth 100000 in
theorem kn_1498 : (Jvm.Cond.castable "LargeBubble$Bold" "LargeBubble$Blower") ∈ lw_tbl := am_tl7 (List.mem_of_getElem? (i := 58) rfl)
set_option maxRecDepth 100000 in
theorem kn_1499 : (Jvm.Cond.castable "LargeBubble$Careful" "LargeBubble$Blower") ∈ lw_tbl := am_tl7 (List.mem_of_getElem? (i := 59) rfl)
set_option maxRecDepth 100000 in
theorem kn_1500 : (Jvm.Cond.castable "LargeBubble$Slow" "LargeBubble$Blower") ∈ lw_tbl := am_tl7 (List.mem_of_getElem? (i := 60) rfl)
set_option maxRecDepth 100000 in
theorem kn_1501 : (Jvm.Cond.castable "LargeBubble$Mad" "LargeBubble$Blower") ∈ lw_tbl := am_tl7 (List.mem_of_getElem? (i := 61) rfl)
set_option maxRecDepth 100000 in
theorem kn_1502 : (Jvm.Cond.castable "LargeBubble$Wise" "LargeBubble$Blower") ∈ lw_tbl := am_tl7 (List.mem_of_getElem? (i := 62) rfl)
set_option maxRecDepth 100000 in
theorem kn_1503 : (Jvm.Cond.castable "LargeBubble$Told" "LargeBubble$Blower") ∈ lw_tbl := am_tl7 (List.mem_of_getElem? (i := 63) rfl)
set_option maxRecDepth 100000 in
theorem kw_1504 : (Jvm.Cond.fieldLink "java/lang/String" (9 : Nat) "java/lang/String" "value" "[B") ∈ am_T0 := am_t7 (List.mem_of_getElem? (i := 64) rfl) rfl
set_option maxRecDepth 100000 in
theorem kw_1505 : (Jvm.Cond.fieldLink "java/lang/String" (15 : Nat) "java/lang/String" "coder" "B") ∈ am_T0 := am_t7 (List.mem_of_getElem? (i := 65) rfl) rfl
theorem am_tp {q : MethodName × Nat} (h : q ∈ lw_privs) (hg : goodWord (Cond.selects q.1.cls q.1 q.1) = true) : Cond.selects q.1.cls q.1 q.1 ∈ am_T0 := List.mem_filter.mpr ⟨List.mem_append_left _ (List.mem_map_of_mem h), hg⟩
set_option maxRecDepth 100000 in
theorem kp_0 : Cond.selects "LargeBubble" ⟨"LargeBubble", "find", "(I)LLargeBubble$Blower;"⟩ ⟨"LargeBubble", "find", "(I)LLargeBubble$Blower;"⟩ ∈ am_T0 := am_tp (q := (⟨"LargeBubble", "find", "(I)LLargeBubble$Blower;"⟩, 14)) (List.mem_of_getElem? (i := 0) rfl) rfl
set_option maxRecDepth 100000 in
theorem kp_1 : Cond.selects "LargeBubble$Text" ⟨"LargeBubble$Text", "readClause", "(LLargeBubble$Square;)Z"⟩ ⟨"LargeBubble$Text", "readClause", "(LLargeBubble$Square;)Z"⟩ ∈ am_T0 := am_tp (q := (⟨"LargeBubble$Text", "readClause", "(LLargeBubble$Square;)Z"⟩, 3)) (List.mem_of_getElem? (i := 1) rfl) rfl
set_option maxRecDepth 100000 in
theorem kp_2 : Cond.selects "LargeBubble$Text" ⟨"LargeBubble$Text", "readWord", "()I"⟩ ⟨"LargeBubble$Text", "readWord", "()I"⟩ ∈ am_T0 := am_tp (q := (⟨"LargeBubble$Text", "readWord", "()I"⟩, 3)) (List.mem_of_getElem? (i := 2) rfl) rfl
set_option maxRecDepth 100000 in
theorem kp_3 : Cond.selects "LargeBubble$Text" ⟨"LargeBubble$Text", "peek", "()I"⟩ ⟨"LargeBubble$Text", "peek", "()I"⟩ ∈ am_T0 := am_tp (q := (⟨"LargeBubble$Text", "peek", "()I"⟩, 3)) (List.mem_of_getElem? (i := 3) rfl) rfl
set_option maxRecDepth 100000 in
theorem kp_4 : Cond.selects "LargeBubble$Text" ⟨"LargeBubble$Text", "passWord", "(Ljava/lang/String;)Z"⟩ ⟨"LargeBubble$Text", "passWord", "(Ljava/lang/String;)Z"⟩ ∈ am_T0 := am_tp (q := (⟨"LargeBubble$Text", "passWord", "(Ljava/lang/String;)Z"⟩, 3)) (List.mem_of_getElem? (i := 4) rfl) rfl
set_option maxRecDepth 100000 in
theorem kp_5 : Cond.selects "LargeBubble$Text" ⟨"LargeBubble$Text", "passSign", "(I)Z"⟩ ⟨"LargeBubble$Text", "passSign", "(I)Z"⟩ ∈ am_T0 := am_tp (q := (⟨"LargeBubble$Text", "passSign", "(I)Z"⟩, 3)) (List.mem_of_getElem? (i := 5) rfl) rfl
set_option maxRecDepth 100000 in
theorem kp_6 : Cond.selects "LargeBubble$Text" ⟨"LargeBubble$Text", "readNumber", "()I"⟩ ⟨"LargeBubble$Text", "readNumber", "()I"⟩ ∈ am_T0 := am_tp (q := (⟨"LargeBubble$Text", "readNumber", "()I"⟩, 3)) (List.mem_of_getElem? (i := 6) rfl) rfl
set_option maxRecDepth 100000 in
theorem kp_7 : Cond.selects "LargeBubble$Text" ⟨"LargeBubble$Text", "readEither", "(LLargeBubble$Square;I)Z"⟩ ⟨"LargeBubble$Text", "readEither", "(LLargeBubble$Square;I)Z"⟩ ∈ am_T0 := am_tp (q := (⟨"LargeBubble$Text", "readEither", "(LLargeBubble$Square;I)Z"⟩, 3)) (List.mem_of_getElem? (i := 7) rfl) rfl
set_option maxRecDepth 100000 in
theorem kp_8 : Cond.selects "LargeBubble$Text" ⟨"LargeBubble$Text", "readBoth", "(LLargeBubble$Square;I)Z"⟩ ⟨"LargeBubble$Text", "readBoth", "(LLargeBubble$Square;I)Z"⟩ ∈ am_T0 := am_tp (q := (⟨"LargeBubble$Text", "readBoth", "(LLargeBubble$Square;I)Z"⟩, 3)) (List.mem_of_getElem? (i := 8) rfl) rfl
set_option maxRecDepth 100000 in
theorem kp_9 : Cond.selects "LargeBubble$Text" ⟨"LargeBubble$Text", "readPart", "(LLargeBubble$Square;I)Z"⟩ ⟨"LargeBubble$Text", "readPart", "(LLargeBubble$Square;I)Z"⟩ ∈ am_T0 := am_tp (q := (⟨"LargeBubble$Text", "readPart", "(LLargeBubble$Square;I)Z"⟩, 3)) (List.mem_of_getElem? (i := 9) rfl) rfl
set_option maxRecDepth 100000 in
theorem kp_10 : Cond.selects "LargeBubble$Text" ⟨"LargeBubble$Text", "readTest", "(LLargeBubble$Square;)Z"⟩ ⟨"LargeBubble$Text", "readTest", "(LLargeBubble$Square;)Z"⟩ ∈ am_T0 := am_tp (q := (⟨"LargeBubble$Text", "readTest", "(LLargeBubble$Square;)Z"⟩, 3)) (List.mem_of_getElem? (i := 10) rfl) rfl
set_option maxRecDepth 100000 in
theorem kp_11 : Cond.selects "LargeBubble$Text" ⟨"LargeBubble$Text", "readOneOf", "(Ljava/lang/String;)I"⟩ ⟨"LargeBubble$Text", "readOneOf", "(Ljava/lang/String;)I"⟩ ∈ am_T0 := am_tp (q := (⟨"LargeBubble$Text", "readOneOf", "(Ljava/lang/String;)I"⟩, 3)) (List.mem_of_getElem? (i := 11) rfl) rfl
set_option maxRecDepth 100000 in
theorem kp_12 : Cond.selects "LargeBubble" ⟨"LargeBubble", "begin", "(LLargeBubble$Blower;)V"⟩ ⟨"LargeBubble", "begin", "(LLargeBubble$Blower;)V"⟩ ∈ am_T0 := am_tp (q := (⟨"LargeBubble", "begin", "(LLargeBubble$Blower;)V"⟩, 14)) (List.mem_of_getElem? (i := 12) rfl) rfl
set_option maxRecDepth 100000 in
theorem kp_13 : Cond.selects "LargeBubble$Course" ⟨"LargeBubble$Course", "walk", "(LLargeBubble$Blower;)V"⟩ ⟨"LargeBubble$Course", "walk", "(LLargeBubble$Blower;)V"⟩ ∈ am_T0 := am_tp (q := (⟨"LargeBubble$Course", "walk", "(LLargeBubble$Blower;)V"⟩, 15)) (List.mem_of_getElem? (i := 13) rfl) rfl
set_option maxRecDepth 100000 in
theorem kp_14 : Cond.selects "LargeBubble$Course" ⟨"LargeBubble$Course", "look", "(II)I"⟩ ⟨"LargeBubble$Course", "look", "(II)I"⟩ ∈ am_T0 := am_tp (q := (⟨"LargeBubble$Course", "look", "(II)I"⟩, 15)) (List.mem_of_getElem? (i := 14) rfl) rfl
set_option maxRecDepth 100000 in
theorem kp_15 : Cond.selects "LargeBubble$Square" ⟨"LargeBubble$Square", "isSo", "(II[I)Z"⟩ ⟨"LargeBubble$Square", "isSo", "(II[I)Z"⟩ ∈ am_T0 := am_tp (q := (⟨"LargeBubble$Square", "isSo", "(II[I)Z"⟩, 8)) (List.mem_of_getElem? (i := 15) rfl) rfl
set_option maxRecDepth 100000 in
theorem kp_16 : Cond.selects "LargeBubble$Course" ⟨"LargeBubble$Course", "tear", "()V"⟩ ⟨"LargeBubble$Course", "tear", "()V"⟩ ∈ am_T0 := am_tp (q := (⟨"LargeBubble$Course", "tear", "()V"⟩, 15)) (List.mem_of_getElem? (i := 16) rfl) rfl
set_option maxRecDepth 100000 in
theorem kp_17 : Cond.selects "LargeBubble$Course" ⟨"LargeBubble$Course", "free", "()V"⟩ ⟨"LargeBubble$Course", "free", "()V"⟩ ∈ am_T0 := am_tp (q := (⟨"LargeBubble$Course", "free", "()V"⟩, 15)) (List.mem_of_getElem? (i := 17) rfl) rfl
set_option maxRecDepth 100000 in
theorem kp_18 : Cond.selects "LargeBubble" ⟨"LargeBubble", "bestBy", "(IIIII)I"⟩ ⟨"LargeBubble", "bestBy", "(IIIII)I"⟩ ∈ am_T0 := am_tp (q := (⟨"LargeBubble", "bestBy", "(IIIII)I"⟩, 14)) (List.mem_of_getElem? (i := 18) rfl) rfl
set_option maxRecDepth 100000 in
theorem kp_19 : Cond.selects "LargeBubble" ⟨"LargeBubble", "vary", "(II)V"⟩ ⟨"LargeBubble", "vary", "(II)V"⟩ ∈ am_T0 := am_tp (q := (⟨"LargeBubble", "vary", "(II)V"⟩, 14)) (List.mem_of_getElem? (i := 19) rfl) rfl
set_option maxRecDepth 100000 in
theorem kp_20 : Cond.selects "LargeBubble" ⟨"LargeBubble", "runDay", "(I)V"⟩ ⟨"LargeBubble", "runDay", "(I)V"⟩ ∈ am_T0 := am_tp (q := (⟨"LargeBubble", "runDay", "(I)V"⟩, 14)) (List.mem_of_getElem? (i := 20) rfl) rfl
set_option maxRecDepth 100000 in
theorem kp_21 : Cond.selects "LargeBubble" ⟨"LargeBubble", "runAhead", "(LLargeBubble$Blower;I)V"⟩ ⟨"LargeBubble", "runAhead", "(LLargeBubble$Blower;I)V"⟩ ∈ am_T0 := am_tp (q := (⟨"LargeBubble", "runAhead", "(LLargeBubble$Blower;I)V"⟩, 14)) (List.mem_of_getElem? (i := 21) rfl) rfl
set_option maxRecDepth 100000 in
theorem kp_22 : Cond.selects "LargeBubble" ⟨"LargeBubble", "isAllSeenBy", "(I)Z"⟩ ⟨"LargeBubble", "isAllSeenBy", "(I)Z"⟩ ∈ am_T0 := am_tp (q := (⟨"LargeBubble", "isAllSeenBy", "(I)Z"⟩, 14)) (List.mem_of_getElem? (i := 22) rfl) rfl
set_option maxRecDepth 100000 in
theorem kp_23 : Cond.selects "LargeBubble" ⟨"LargeBubble", "holds", "(I)Z"⟩ ⟨"LargeBubble", "holds", "(I)Z"⟩ ∈ am_T0 := am_tp (q := (⟨"LargeBubble", "holds", "(I)Z"⟩, 14)) (List.mem_of_getElem? (i := 23) rfl) rfl
set_option maxRecDepth 100000 in
theorem kp_24 : Cond.selects "LargeBubble" ⟨"LargeBubble", "hasPlaces", "(III)Z"⟩ ⟨"LargeBubble", "hasPlaces", "(III)Z"⟩ ∈ am_T0 := am_tp (q := (⟨"LargeBubble", "hasPlaces", "(III)Z"⟩, 14)) (List.mem_of_getElem? (i := 24) rfl) rfl
set_option maxRecDepth 100000 in
theorem kp_25 : Cond.selects "LargeBubbleModel" ⟨"LargeBubbleModel", "in", "(III)Z"⟩ ⟨"LargeBubbleModel", "in", "(III)Z"⟩ ∈ am_T0 := am_tp (q := (⟨"LargeBubbleModel", "in", "(III)Z"⟩, 71)) (List.mem_of_getElem? (i := 25) rfl) rfl
set_option maxRecDepth 100000 in
theorem kp_26 : Cond.selects "LargeBubbleModel" ⟨"LargeBubbleModel", "isBlower", "(I)Z"⟩ ⟨"LargeBubbleModel", "isBlower", "(I)Z"⟩ ∈ am_T0 := am_tp (q := (⟨"LargeBubbleModel", "isBlower", "(I)Z"⟩, 71)) (List.mem_of_getElem? (i := 26) rfl) rfl
set_option maxRecDepth 100000 in
theorem kp_27 : Cond.selects "LargeBubbleModel" ⟨"LargeBubbleModel", "goesText", "(I)Z"⟩ ⟨"LargeBubbleModel", "goesText", "(I)Z"⟩ ∈ am_T0 := am_tp (q := (⟨"LargeBubbleModel", "goesText", "(I)Z"⟩, 71)) (List.mem_of_getElem? (i := 27) rfl) rfl
set_option maxRecDepth 100000 in
theorem kp_28 : Cond.selects "LargeBubbleModel" ⟨"LargeBubbleModel", "takesClause", "(I)Z"⟩ ⟨"LargeBubbleModel", "takesClause", "(I)Z"⟩ ∈ am_T0 := am_tp (q := (⟨"LargeBubbleModel", "takesClause", "(I)Z"⟩, 71)) (List.mem_of_getElem? (i := 28) rfl) rfl
set_option maxRecDepth 100000 in
theorem kp_29 : Cond.selects "LargeBubbleModel" ⟨"LargeBubbleModel", "takesHead", "(I)Z"⟩ ⟨"LargeBubbleModel", "takesHead", "(I)Z"⟩ ∈ am_T0 := am_tp (q := (⟨"LargeBubbleModel", "takesHead", "(I)Z"⟩, 71)) (List.mem_of_getElem? (i := 29) rfl) rfl
set_option maxRecDepth 100000 in
theorem kp_30 : Cond.selects "LargeBubbleModel" ⟨"LargeBubbleModel", "next", "()I"⟩ ⟨"LargeBubbleModel", "next", "()I"⟩ ∈ am_T0 := am_tp (q := (⟨"LargeBubbleModel", "next", "()I"⟩, 71)) (List.mem_of_getElem? (i := 30) rfl) rfl
set_option maxRecDepth 100000 in
theorem kp_31 : Cond.selects "LargeBubbleModel" ⟨"LargeBubbleModel", "takesWord", "(II)Z"⟩ ⟨"LargeBubbleModel", "takesWord", "(II)Z"⟩ ∈ am_T0 := am_tp (q := (⟨"LargeBubbleModel", "takesWord", "(II)Z"⟩, 71)) (List.mem_of_getElem? (i := 31) rfl) rfl
set_option maxRecDepth 100000 in
theorem kp_32 : Cond.selects "LargeBubbleModel" ⟨"LargeBubbleModel", "takes", "(I)Z"⟩ ⟨"LargeBubbleModel", "takes", "(I)Z"⟩ ∈ am_T0 := am_tp (q := (⟨"LargeBubbleModel", "takes", "(I)Z"⟩, 71)) (List.mem_of_getElem? (i := 32) rfl) rfl
set_option maxRecDepth 100000 in
theorem kp_33 : Cond.selects "LargeBubbleModel" ⟨"LargeBubbleModel", "takesNumber", "()Z"⟩ ⟨"LargeBubbleModel", "takesNumber", "()Z"⟩ ∈ am_T0 := am_tp (q := (⟨"LargeBubbleModel", "takesNumber", "()Z"⟩, 71)) (List.mem_of_getElem? (i := 33) rfl) rfl
set_option maxRecDepth 100000 in
theorem kp_34 : Cond.selects "LargeBubbleModel" ⟨"LargeBubbleModel", "isDigit", "()Z"⟩ ⟨"LargeBubbleModel", "isDigit", "()Z"⟩ ∈ am_T0 := am_tp (q := (⟨"LargeBubbleModel", "isDigit", "()Z"⟩, 71)) (List.mem_of_getElem? (i := 34) rfl) rfl
set_option maxRecDepth 100000 in
theorem kp_35 : Cond.selects "LargeBubbleModel" ⟨"LargeBubbleModel", "takesE", "(I)Z"⟩ ⟨"LargeBubbleModel", "takesE", "(I)Z"⟩ ∈ am_T0 := am_tp (q := (⟨"LargeBubbleModel", "takesE", "(I)Z"⟩, 71)) (List.mem_of_getElem? (i := 35) rfl) rfl
set_option maxRecDepth 100000 in
theorem kp_36 : Cond.selects "LargeBubbleModel" ⟨"LargeBubbleModel", "takesTest", "()Z"⟩ ⟨"LargeBubbleModel", "takesTest", "()Z"⟩ ∈ am_T0 := am_tp (q := (⟨"LargeBubbleModel", "takesTest", "()Z"⟩, 71)) (List.mem_of_getElem? (i := 36) rfl) rfl
set_option maxRecDepth 100000 in
theorem kp_37 : Cond.selects "LargeBubbleModel" ⟨"LargeBubbleModel", "place", "(I)I"⟩ ⟨"LargeBubbleModel", "place", "(I)I"⟩ ∈ am_T0 := am_tp (q := (⟨"LargeBubbleModel", "place", "(I)I"⟩, 71)) (List.mem_of_getElem? (i := 37) rfl) rfl
set_option maxRecDepth 100000 in
theorem kp_38 : Cond.selects "LargeBubbleModel" ⟨"LargeBubbleModel", "emits", "(I)V"⟩ ⟨"LargeBubbleModel", "emits", "(I)V"⟩ ∈ am_T0 := am_tp (q := (⟨"LargeBubbleModel", "emits", "(I)V"⟩, 71)) (List.mem_of_getElem? (i := 38) rfl) rfl
set_option maxRecDepth 100000 in
theorem kp_39 : Cond.selects "LargeBubbleModel" ⟨"LargeBubbleModel", "whole", "()V"⟩ ⟨"LargeBubbleModel", "whole", "()V"⟩ ∈ am_T0 := am_tp (q := (⟨"LargeBubbleModel", "whole", "()V"⟩, 71)) (List.mem_of_getElem? (i := 39) rfl) rfl
set_option maxRecDepth 100000 in
theorem kp_40 : Cond.selects "LargeBubbleModel" ⟨"LargeBubbleModel", "settle", "(I)V"⟩ ⟨"LargeBubbleModel", "settle", "(I)V"⟩ ∈ am_T0 := am_tp (q := (⟨"LargeBubbleModel", "settle", "(I)V"⟩, 71)) (List.mem_of_getElem? (i := 40) rfl) rfl
set_option maxRecDepth 100000 in
theorem kp_41 : Cond.selects "LargeBubbleModel" ⟨"LargeBubbleModel", "good", "()I"⟩ ⟨"LargeBubbleModel", "good", "()I"⟩ ∈ am_T0 := am_tp (q := (⟨"LargeBubbleModel", "good", "()I"⟩, 71)) (List.mem_of_getElem? (i := 41) rfl) rfl
set_option maxRecDepth 100000 in
theorem kp_42 : Cond.selects "LargeBubbleModel" ⟨"LargeBubbleModel", "apart", "(II)I"⟩ ⟨"LargeBubbleModel", "apart", "(II)I"⟩ ∈ am_T0 := am_tp (q := (⟨"LargeBubbleModel", "apart", "(II)I"⟩, 71)) (List.mem_of_getElem? (i := 42) rfl) rfl
set_option maxRecDepth 100000 in
theorem kp_43 : Cond.selects "LargeBubbleModel" ⟨"LargeBubbleModel", "most", "(II)I"⟩ ⟨"LargeBubbleModel", "most", "(II)I"⟩ ∈ am_T0 := am_tp (q := (⟨"LargeBubbleModel", "most", "(II)I"⟩, 71)) (List.mem_of_getElem? (i := 43) rfl) rfl
set_option maxRecDepth 100000 in
theorem kp_44 : Cond.selects "LargeBubbleModel" ⟨"LargeBubbleModel", "goes", "(II)V"⟩ ⟨"LargeBubbleModel", "goes", "(II)V"⟩ ∈ am_T0 := am_tp (q := (⟨"LargeBubbleModel", "goes", "(II)V"⟩, 71)) (List.mem_of_getElem? (i := 44) rfl) rfl
set_option maxRecDepth 100000 in
theorem kp_45 : Cond.selects "LargeBubbleModel" ⟨"LargeBubbleModel", "sumOf", "(III)I"⟩ ⟨"LargeBubbleModel", "sumOf", "(III)I"⟩ ∈ am_T0 := am_tp (q := (⟨"LargeBubbleModel", "sumOf", "(III)I"⟩, 71)) (List.mem_of_getElem? (i := 45) rfl) rfl
set_option maxRecDepth 100000 in
theorem kp_46 : Cond.selects "LargeBubbleModel" ⟨"LargeBubbleModel", "begin", "()I"⟩ ⟨"LargeBubbleModel", "begin", "()I"⟩ ∈ am_T0 := am_tp (q := (⟨"LargeBubbleModel", "begin", "()I"⟩, 71)) (List.mem_of_getElem? (i := 46) rfl) rfl
set_option maxRecDepth 100000 in
theorem kp_47 : Cond.selects "LargeBubbleModel" ⟨"LargeBubbleModel", "behind", "()I"⟩ ⟨"LargeBubbleModel", "behind", "()I"⟩ ∈ am_T0 := am_tp (q := (⟨"LargeBubbleModel", "behind", "()I"⟩, 71)) (List.mem_of_getElem? (i := 47) rfl) rfl
set_option maxRecDepth 100000 in
theorem kp_48 : Cond.selects "LargeBubbleModel" ⟨"LargeBubbleModel", "holds", "(II)Z"⟩ ⟨"LargeBubbleModel", "holds", "(II)Z"⟩ ∈ am_T0 := am_tp (q := (⟨"LargeBubbleModel", "holds", "(II)Z"⟩, 71)) (List.mem_of_getElem? (i := 48) rfl) rfl
set_option maxRecDepth 100000 in
theorem kp_49 : Cond.selects "LargeBubbleModel" ⟨"LargeBubbleModel", "factOf", "(II)I"⟩ ⟨"LargeBubbleModel", "factOf", "(II)I"⟩ ∈ am_T0 := am_tp (q := (⟨"LargeBubbleModel", "factOf", "(II)I"⟩, 71)) (List.mem_of_getElem? (i := 49) rfl) rfl
set_option maxRecDepth 100000 in
theorem kp_50 : Cond.selects "LargeBubbleModel" ⟨"LargeBubbleModel", "paceOf", "(I)I"⟩ ⟨"LargeBubbleModel", "paceOf", "(I)I"⟩ ∈ am_T0 := am_tp (q := (⟨"LargeBubbleModel", "paceOf", "(I)I"⟩, 71)) (List.mem_of_getElem? (i := 50) rfl) rfl
set_option maxRecDepth 100000 in
theorem kp_51 : Cond.selects "LargeBubbleModel" ⟨"LargeBubbleModel", "shuts", "(II)Z"⟩ ⟨"LargeBubbleModel", "shuts", "(II)Z"⟩ ∈ am_T0 := am_tp (q := (⟨"LargeBubbleModel", "shuts", "(II)Z"⟩, 71)) (List.mem_of_getElem? (i := 51) rfl) rfl
set_option maxRecDepth 100000 in
theorem kp_52 : Cond.selects "LargeBubbleModel" ⟨"LargeBubbleModel", "ends", "(I)V"⟩ ⟨"LargeBubbleModel", "ends", "(I)V"⟩ ∈ am_T0 := am_tp (q := (⟨"LargeBubbleModel", "ends", "(I)V"⟩, 71)) (List.mem_of_getElem? (i := 52) rfl) rfl
set_option maxRecDepth 100000 in
theorem kp_53 : Cond.selects "LargeBubbleModel" ⟨"LargeBubbleModel", "least2", "(J)J"⟩ ⟨"LargeBubbleModel", "least2", "(J)J"⟩ ∈ am_T0 := am_tp (q := (⟨"LargeBubbleModel", "least2", "(J)J"⟩, 71)) (List.mem_of_getElem? (i := 53) rfl) rfl
set_option maxRecDepth 100000 in
theorem kp_54 : Cond.selects "LargeBubbleModel" ⟨"LargeBubbleModel", "least", "(II)I"⟩ ⟨"LargeBubbleModel", "least", "(II)I"⟩ ∈ am_T0 := am_tp (q := (⟨"LargeBubbleModel", "least", "(II)I"⟩, 71)) (List.mem_of_getElem? (i := 54) rfl) rfl
set_option maxRecDepth 100000 in
theorem kp_55 : Cond.selects "LargeBubbleModel" ⟨"LargeBubbleModel", "brings", "(II)I"⟩ ⟨"LargeBubbleModel", "brings", "(II)I"⟩ ∈ am_T0 := am_tp (q := (⟨"LargeBubbleModel", "brings", "(II)I"⟩, 71)) (List.mem_of_getElem? (i := 55) rfl) rfl
set_option maxRecDepth 100000 in
theorem kp_56 : Cond.selects "LargeBubbleModel" ⟨"LargeBubbleModel", "layDay", "(I)V"⟩ ⟨"LargeBubbleModel", "layDay", "(I)V"⟩ ∈ am_T0 := am_tp (q := (⟨"LargeBubbleModel", "layDay", "(I)V"⟩, 71)) (List.mem_of_getElem? (i := 56) rfl) rfl
set_option maxRecDepth 100000 in
theorem kp_57 : Cond.selects "LargeBubbleModel" ⟨"LargeBubbleModel", "isSeen", "(I)Z"⟩ ⟨"LargeBubbleModel", "isSeen", "(I)Z"⟩ ∈ am_T0 := am_tp (q := (⟨"LargeBubbleModel", "isSeen", "(I)Z"⟩, 71)) (List.mem_of_getElem? (i := 57) rfl) rfl
set_option maxRecDepth 100000 in
theorem kp_58 : Cond.selects "LargeBubbleModel" ⟨"LargeBubbleModel", "lowest", "(JJI)J"⟩ ⟨"LargeBubbleModel", "lowest", "(JJI)J"⟩ ∈ am_T0 := am_tp (q := (⟨"LargeBubbleModel", "lowest", "(JJI)J"⟩, 71)) (List.mem_of_getElem? (i := 58) rfl) rfl
set_option maxRecDepth 100000 in
theorem kp_59 : Cond.selects "LargeBubbleModel" ⟨"LargeBubbleModel", "divisor", "(JJ)J"⟩ ⟨"LargeBubbleModel", "divisor", "(JJ)J"⟩ ∈ am_T0 := am_tp (q := (⟨"LargeBubbleModel", "divisor", "(JJ)J"⟩, 71)) (List.mem_of_getElem? (i := 59) rfl) rfl
set_option maxRecDepth 100000 in
theorem kp_60 : Cond.selects "LargeBubbleModel" ⟨"LargeBubbleModel", "isTape", "(I)Z"⟩ ⟨"LargeBubbleModel", "isTape", "(I)Z"⟩ ∈ am_T0 := am_tp (q := (⟨"LargeBubbleModel", "isTape", "(I)Z"⟩, 71)) (List.mem_of_getElem? (i := 60) rfl) rfl
set_option maxRecDepth 100000 in
theorem kp_61 : Cond.selects "LargeBubbleModel" ⟨"LargeBubbleModel", "opensAct", "(II)I"⟩ ⟨"LargeBubbleModel", "opensAct", "(II)I"⟩ ∈ am_T0 := am_tp (q := (⟨"LargeBubbleModel", "opensAct", "(II)I"⟩, 71)) (List.mem_of_getElem? (i := 61) rfl) rfl
set_option maxRecDepth 100000 in
theorem kp_62 : Cond.selects "LargeBubbleModel" ⟨"LargeBubbleModel", "body", "(I)V"⟩ ⟨"LargeBubbleModel", "body", "(I)V"⟩ ∈ am_T0 := am_tp (q := (⟨"LargeBubbleModel", "body", "(I)V"⟩, 71)) (List.mem_of_getElem? (i := 62) rfl) rfl
set_option maxRecDepth 100000 in
theorem kp_63 : Cond.selects "LargeBubbleModel" ⟨"LargeBubbleModel", "blowerOpens", "(II)I"⟩ ⟨"LargeBubbleModel", "blowerOpens", "(II)I"⟩ ∈ am_T0 := am_tp (q := (⟨"LargeBubbleModel", "blowerOpens", "(II)I"⟩, 71)) (List.mem_of_getElem? (i := 63) rfl) rfl
set_option maxRecDepth 100000 in
theorem kp_64 : Cond.selects "LargeBubbleModel" ⟨"LargeBubbleModel", "growsAct", "(II)I"⟩ ⟨"LargeBubbleModel", "growsAct", "(II)I"⟩ ∈ am_T0 := am_tp (q := (⟨"LargeBubbleModel", "growsAct", "(II)I"⟩, 71)) (List.mem_of_getElem? (i := 64) rfl) rfl
set_option maxRecDepth 100000 in
theorem kp_65 : Cond.selects "LargeBubbleModel" ⟨"LargeBubbleModel", "boldGrows", "(II)I"⟩ ⟨"LargeBubbleModel", "boldGrows", "(II)I"⟩ ∈ am_T0 := am_tp (q := (⟨"LargeBubbleModel", "boldGrows", "(II)I"⟩, 71)) (List.mem_of_getElem? (i := 65) rfl) rfl
set_option maxRecDepth 100000 in
theorem kp_66 : Cond.selects "LargeBubbleModel" ⟨"LargeBubbleModel", "blowerGrows", "(II)I"⟩ ⟨"LargeBubbleModel", "blowerGrows", "(II)I"⟩ ∈ am_T0 := am_tp (q := (⟨"LargeBubbleModel", "blowerGrows", "(II)I"⟩, 71)) (List.mem_of_getElem? (i := 66) rfl) rfl
set_option maxRecDepth 100000 in
theorem kp_67 : Cond.selects "LargeBubbleModel" ⟨"LargeBubbleModel", "tellsAct", "(II)I"⟩ ⟨"LargeBubbleModel", "tellsAct", "(II)I"⟩ ∈ am_T0 := am_tp (q := (⟨"LargeBubbleModel", "tellsAct", "(II)I"⟩, 71)) (List.mem_of_getElem? (i := 67) rfl) rfl
set_option maxRecDepth 100000 in
theorem kp_68 : Cond.selects "LargeBubbleModel" ⟨"LargeBubbleModel", "blowerTells", "(II)I"⟩ ⟨"LargeBubbleModel", "blowerTells", "(II)I"⟩ ∈ am_T0 := am_tp (q := (⟨"LargeBubbleModel", "blowerTells", "(II)I"⟩, 71)) (List.mem_of_getElem? (i := 68) rfl) rfl
set_option maxRecDepth 100000 in
theorem kp_69 : Cond.selects "LargeBubbleModel" ⟨"LargeBubbleModel", "narrow", "(IJ)J"⟩ ⟨"LargeBubbleModel", "narrow", "(IJ)J"⟩ ∈ am_T0 := am_tp (q := (⟨"LargeBubbleModel", "narrow", "(IJ)J"⟩, 71)) (List.mem_of_getElem? (i := 69) rfl) rfl
