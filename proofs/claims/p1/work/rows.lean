section
-- ===== PART A: goes FIRST, ahead of the names: the tables' words, and 'selects' of the private methods out of them =====
/-- a private method of a class that the tables say can be made, by its rows of tables_1 -/
def lw_okq (q : MethodName × Nat) : Prop := (q.1.cls ≠ "java/lang/invoke/MethodHandle" ∧ q.1.cls ≠ "java/lang/invoke/VarHandle") ∧ Cond.instantiable q.1.cls q.2 ∈ tables_1 ∧ Cond.privateMethod q.1 ∈ tables_1 ∧ Cond.instanceMethod q.1 ∈ tables_1
theorem lw_p0 : lw_okq (⟨"java/lang/Throwable", "fillInStackTrace", "(I)Ljava/lang/Throwable;"⟩, 6) := ⟨⟨by decide +kernel, by decide +kernel⟩, List.mem_of_getElem? (i := 460) (by decide +kernel), List.mem_of_getElem? (i := 458) (by decide +kernel), List.mem_of_getElem? (i := 459) (by decide +kernel)⟩
theorem lw_p1 : lw_okq (⟨"GalleryGuards$Input", "runEnd", "(III)I"⟩, 7) := ⟨⟨by decide +kernel, by decide +kernel⟩, List.mem_of_getElem? (i := 37) (by decide +kernel), List.mem_of_getElem? (i := 506) (by decide +kernel), List.mem_of_getElem? (i := 507) (by decide +kernel)⟩
theorem lw_p2 : lw_okq (⟨"GalleryGuards$Input", "digitsValue", "()I"⟩, 7) := ⟨⟨by decide +kernel, by decide +kernel⟩, List.mem_of_getElem? (i := 37) (by decide +kernel), List.mem_of_getElem? (i := 513) (by decide +kernel), List.mem_of_getElem? (i := 514) (by decide +kernel)⟩
theorem lw_p3 : lw_okq (⟨"GalleryGuards$Parser", "readVertices", "()I"⟩, 5) := ⟨⟨by decide +kernel, by decide +kernel⟩, List.mem_of_getElem? (i := 150) (by decide +kernel), List.mem_of_getElem? (i := 571) (by decide +kernel), List.mem_of_getElem? (i := 572) (by decide +kernel)⟩
theorem lw_p4 : lw_okq (⟨"GalleryGuards$Parser", "checkNumber", "(II)I"⟩, 5) := ⟨⟨by decide +kernel, by decide +kernel⟩, List.mem_of_getElem? (i := 150) (by decide +kernel), List.mem_of_getElem? (i := 622) (by decide +kernel), List.mem_of_getElem? (i := 623) (by decide +kernel)⟩
theorem lw_p5 : lw_okq (⟨"GalleryGuards$Parser", "readPlace", "(Z)I"⟩, 5) := ⟨⟨by decide +kernel, by decide +kernel⟩, List.mem_of_getElem? (i := 150) (by decide +kernel), List.mem_of_getElem? (i := 626) (by decide +kernel), List.mem_of_getElem? (i := 627) (by decide +kernel)⟩
theorem lw_p6 : lw_okq (⟨"GalleryGuards$Parser", "readLines", "()I"⟩, 5) := ⟨⟨by decide +kernel, by decide +kernel⟩, List.mem_of_getElem? (i := 150) (by decide +kernel), List.mem_of_getElem? (i := 638) (by decide +kernel), List.mem_of_getElem? (i := 639) (by decide +kernel)⟩
theorem lw_p7 : lw_okq (⟨"GalleryGuards$Parser", "readGuard", "()I"⟩, 5) := ⟨⟨by decide +kernel, by decide +kernel⟩, List.mem_of_getElem? (i := 150) (by decide +kernel), List.mem_of_getElem? (i := 643) (by decide +kernel), List.mem_of_getElem? (i := 644) (by decide +kernel)⟩
theorem lw_p8 : lw_okq (⟨"GalleryGuards$Parser", "readTreasure", "()I"⟩, 5) := ⟨⟨by decide +kernel, by decide +kernel⟩, List.mem_of_getElem? (i := 150) (by decide +kernel), List.mem_of_getElem? (i := 653) (by decide +kernel), List.mem_of_getElem? (i := 654) (by decide +kernel)⟩
theorem lw_p9 : lw_okq (⟨"GalleryGuards", "replacePlan", "(LGalleryGuards$Plan;)V"⟩, 18) := ⟨⟨by decide +kernel, by decide +kernel⟩, List.mem_of_getElem? (i := 29) (by decide +kernel), List.mem_of_getElem? (i := 682) (by decide +kernel), List.mem_of_getElem? (i := 683) (by decide +kernel)⟩
theorem lw_p10 : lw_okq (⟨"GalleryGuards", "needPolygon", "()V"⟩, 18) := ⟨⟨by decide +kernel, by decide +kernel⟩, List.mem_of_getElem? (i := 29) (by decide +kernel), List.mem_of_getElem? (i := 718) (by decide +kernel), List.mem_of_getElem? (i := 719) (by decide +kernel)⟩
theorem lw_p11 : lw_okq (⟨"GalleryGuards$Sight", "linkPairs", "(Z)V"⟩, 4) := ⟨⟨by decide +kernel, by decide +kernel⟩, List.mem_of_getElem? (i := 172) (by decide +kernel), List.mem_of_getElem? (i := 830) (by decide +kernel), List.mem_of_getElem? (i := 831) (by decide +kernel)⟩
theorem lw_p12 : lw_okq (⟨"GalleryGuards$Sight", "isChained", "(III)Z"⟩, 4) := ⟨⟨by decide +kernel, by decide +kernel⟩, List.mem_of_getElem? (i := 172) (by decide +kernel), List.mem_of_getElem? (i := 839) (by decide +kernel), List.mem_of_getElem? (i := 840) (by decide +kernel)⟩
theorem lw_p13 : lw_okq (⟨"GalleryGuards$Sight", "isClear", "(II)Z"⟩, 4) := ⟨⟨by decide +kernel, by decide +kernel⟩, List.mem_of_getElem? (i := 172) (by decide +kernel), List.mem_of_getElem? (i := 847) (by decide +kernel), List.mem_of_getElem? (i := 848) (by decide +kernel)⟩
theorem lw_p14 : lw_okq (⟨"GalleryGuards$Triangulation", "firstEar", "(Z)I"⟩, 9) := ⟨⟨by decide +kernel, by decide +kernel⟩, List.mem_of_getElem? (i := 192) (by decide +kernel), List.mem_of_getElem? (i := 968) (by decide +kernel), List.mem_of_getElem? (i := 969) (by decide +kernel)⟩
theorem lw_p15 : lw_okq (⟨"GalleryGuards$Triangulation", "ringAt", "(I)I"⟩, 9) := ⟨⟨by decide +kernel, by decide +kernel⟩, List.mem_of_getElem? (i := 192) (by decide +kernel), List.mem_of_getElem? (i := 972) (by decide +kernel), List.mem_of_getElem? (i := 973) (by decide +kernel)⟩
def lw_privs_1 : List (MethodName × Nat) := [(⟨"java/lang/Throwable", "fillInStackTrace", "(I)Ljava/lang/Throwable;"⟩, 6), (⟨"GalleryGuards$Input", "runEnd", "(III)I"⟩, 7), (⟨"GalleryGuards$Input", "digitsValue", "()I"⟩, 7), (⟨"GalleryGuards$Parser", "readVertices", "()I"⟩, 5), (⟨"GalleryGuards$Parser", "checkNumber", "(II)I"⟩, 5), (⟨"GalleryGuards$Parser", "readPlace", "(Z)I"⟩, 5), (⟨"GalleryGuards$Parser", "readLines", "()I"⟩, 5), (⟨"GalleryGuards$Parser", "readGuard", "()I"⟩, 5), (⟨"GalleryGuards$Parser", "readTreasure", "()I"⟩, 5), (⟨"GalleryGuards", "replacePlan", "(LGalleryGuards$Plan;)V"⟩, 18), (⟨"GalleryGuards", "needPolygon", "()V"⟩, 18), (⟨"GalleryGuards$Sight", "linkPairs", "(Z)V"⟩, 4), (⟨"GalleryGuards$Sight", "isChained", "(III)Z"⟩, 4), (⟨"GalleryGuards$Sight", "isClear", "(II)Z"⟩, 4), (⟨"GalleryGuards$Triangulation", "firstEar", "(Z)I"⟩, 9), (⟨"GalleryGuards$Triangulation", "ringAt", "(I)I"⟩, 9)]
theorem lw_r1 : ∀ q ∈ lw_privs_1, lw_okq q := List.forall_mem_cons.mpr ⟨lw_p0, List.forall_mem_cons.mpr ⟨lw_p1, List.forall_mem_cons.mpr ⟨lw_p2, List.forall_mem_cons.mpr ⟨lw_p3, List.forall_mem_cons.mpr ⟨lw_p4, List.forall_mem_cons.mpr ⟨lw_p5, List.forall_mem_cons.mpr ⟨lw_p6, List.forall_mem_cons.mpr ⟨lw_p7, List.forall_mem_cons.mpr ⟨lw_p8, List.forall_mem_cons.mpr ⟨lw_p9, List.forall_mem_cons.mpr ⟨lw_p10, List.forall_mem_cons.mpr ⟨lw_p11, List.forall_mem_cons.mpr ⟨lw_p12, List.forall_mem_cons.mpr ⟨lw_p13, List.forall_mem_cons.mpr ⟨lw_p14, List.forall_mem_cons.mpr ⟨lw_p15, fun _ h => absurd h List.not_mem_nil⟩⟩⟩⟩⟩⟩⟩⟩⟩⟩⟩⟩⟩⟩⟩⟩
theorem lw_p16 : lw_okq (⟨"GalleryGuards$Triangulation", "isFreeOfOthers", "(I)Z"⟩, 9) := ⟨⟨by decide +kernel, by decide +kernel⟩, List.mem_of_getElem? (i := 192) (by decide +kernel), List.mem_of_getElem? (i := 977) (by decide +kernel), List.mem_of_getElem? (i := 978) (by decide +kernel)⟩
theorem lw_p17 : lw_okq (⟨"GalleryGuards$Triangulation", "inTriangle", "(IIII)Z"⟩, 9) := ⟨⟨by decide +kernel, by decide +kernel⟩, List.mem_of_getElem? (i := 192) (by decide +kernel), List.mem_of_getElem? (i := 981) (by decide +kernel), List.mem_of_getElem? (i := 982) (by decide +kernel)⟩
theorem lw_p18 : lw_okq (⟨"GalleryGuards$Triangulation", "clip", "(II)V"⟩, 9) := ⟨⟨by decide +kernel, by decide +kernel⟩, List.mem_of_getElem? (i := 192) (by decide +kernel), List.mem_of_getElem? (i := 985) (by decide +kernel), List.mem_of_getElem? (i := 986) (by decide +kernel)⟩
theorem lw_p19 : lw_okq (⟨"GalleryGuards$Triangulation", "paint", "(I)V"⟩, 9) := ⟨⟨by decide +kernel, by decide +kernel⟩, List.mem_of_getElem? (i := 192) (by decide +kernel), List.mem_of_getElem? (i := 990) (by decide +kernel), List.mem_of_getElem? (i := 991) (by decide +kernel)⟩
theorem lw_p20 : lw_okq (⟨"GalleryGuards$Triangulation", "tint", "(II)V"⟩, 9) := ⟨⟨by decide +kernel, by decide +kernel⟩, List.mem_of_getElem? (i := 192) (by decide +kernel), List.mem_of_getElem? (i := 994) (by decide +kernel), List.mem_of_getElem? (i := 995) (by decide +kernel)⟩
theorem lw_p21 : lw_okq (⟨"GalleryGuards$Triangulation", "tintOf", "(I)I"⟩, 9) := ⟨⟨by decide +kernel, by decide +kernel⟩, List.mem_of_getElem? (i := 192) (by decide +kernel), List.mem_of_getElem? (i := 998) (by decide +kernel), List.mem_of_getElem? (i := 999) (by decide +kernel)⟩
theorem lw_p22 : lw_okq (⟨"GalleryGuards$Triangulation", "colourSet", "(I)I"⟩, 9) := ⟨⟨by decide +kernel, by decide +kernel⟩, List.mem_of_getElem? (i := 192) (by decide +kernel), List.mem_of_getElem? (i := 1041) (by decide +kernel), List.mem_of_getElem? (i := 1042) (by decide +kernel)⟩
theorem lw_p23 : lw_okq (⟨"GalleryGuards$CoverSearch", "fewestViews", "()I"⟩, 9) := ⟨⟨by decide +kernel, by decide +kernel⟩, List.mem_of_getElem? (i := 226) (by decide +kernel), List.mem_of_getElem? (i := 1067) (by decide +kernel), List.mem_of_getElem? (i := 1068) (by decide +kernel)⟩
theorem lw_p24 : lw_okq (⟨"GalleryGuards$CoverSearch", "viewOf", "(I)J"⟩, 9) := ⟨⟨by decide +kernel, by decide +kernel⟩, List.mem_of_getElem? (i := 226) (by decide +kernel), List.mem_of_getElem? (i := 1073) (by decide +kernel), List.mem_of_getElem? (i := 1074) (by decide +kernel)⟩
theorem lw_p25 : lw_okq (⟨"GalleryGuards$CoverSearch", "pick", "(JIII)Z"⟩, 9) := ⟨⟨by decide +kernel, by decide +kernel⟩, List.mem_of_getElem? (i := 226) (by decide +kernel), List.mem_of_getElem? (i := 1102) (by decide +kernel), List.mem_of_getElem? (i := 1103) (by decide +kernel)⟩
theorem lw_p26 : lw_okq (⟨"GalleryGuards$SpreadSearch", "pick", "(JII)Z"⟩, 5) := ⟨⟨by decide +kernel, by decide +kernel⟩, List.mem_of_getElem? (i := 260) (by decide +kernel), List.mem_of_getElem? (i := 1132) (by decide +kernel), List.mem_of_getElem? (i := 1133) (by decide +kernel)⟩
theorem lw_p27 : lw_okq (⟨"GalleryGuards$SpreadSearch", "largestHidden", "(JI)I"⟩, 5) := ⟨⟨by decide +kernel, by decide +kernel⟩, List.mem_of_getElem? (i := 260) (by decide +kernel), List.mem_of_getElem? (i := 1166) (by decide +kernel), List.mem_of_getElem? (i := 1167) (by decide +kernel)⟩
theorem lw_p28 : lw_okq (⟨"GalleryGuards$SpreadSearch", "withoutDominated", "(J)J"⟩, 5) := ⟨⟨by decide +kernel, by decide +kernel⟩, List.mem_of_getElem? (i := 260) (by decide +kernel), List.mem_of_getElem? (i := 1170) (by decide +kernel), List.mem_of_getElem? (i := 1171) (by decide +kernel)⟩
theorem lw_p29 : lw_okq (⟨"GalleryGuards$SpreadSearch", "isDominated", "(IJ)Z"⟩, 5) := ⟨⟨by decide +kernel, by decide +kernel⟩, List.mem_of_getElem? (i := 260) (by decide +kernel), List.mem_of_getElem? (i := 1174) (by decide +kernel), List.mem_of_getElem? (i := 1175) (by decide +kernel)⟩
theorem lw_p30 : lw_okq (⟨"GalleryGuards$SpreadSearch", "leastSeeing", "(J)I"⟩, 5) := ⟨⟨by decide +kernel, by decide +kernel⟩, List.mem_of_getElem? (i := 260) (by decide +kernel), List.mem_of_getElem? (i := 1178) (by decide +kernel), List.mem_of_getElem? (i := 1179) (by decide +kernel)⟩
theorem lw_p31 : lw_okq (⟨"GalleryGuards$Watch", "within", "(II)J"⟩, 3) := ⟨⟨by decide +kernel, by decide +kernel⟩, List.mem_of_getElem? (i := 282) (by decide +kernel), List.mem_of_getElem? (i := 1227) (by decide +kernel), List.mem_of_getElem? (i := 1228) (by decide +kernel)⟩
def lw_privs_2 : List (MethodName × Nat) := [(⟨"GalleryGuards$Triangulation", "isFreeOfOthers", "(I)Z"⟩, 9), (⟨"GalleryGuards$Triangulation", "inTriangle", "(IIII)Z"⟩, 9), (⟨"GalleryGuards$Triangulation", "clip", "(II)V"⟩, 9), (⟨"GalleryGuards$Triangulation", "paint", "(I)V"⟩, 9), (⟨"GalleryGuards$Triangulation", "tint", "(II)V"⟩, 9), (⟨"GalleryGuards$Triangulation", "tintOf", "(I)I"⟩, 9), (⟨"GalleryGuards$Triangulation", "colourSet", "(I)I"⟩, 9), (⟨"GalleryGuards$CoverSearch", "fewestViews", "()I"⟩, 9), (⟨"GalleryGuards$CoverSearch", "viewOf", "(I)J"⟩, 9), (⟨"GalleryGuards$CoverSearch", "pick", "(JIII)Z"⟩, 9), (⟨"GalleryGuards$SpreadSearch", "pick", "(JII)Z"⟩, 5), (⟨"GalleryGuards$SpreadSearch", "largestHidden", "(JI)I"⟩, 5), (⟨"GalleryGuards$SpreadSearch", "withoutDominated", "(J)J"⟩, 5), (⟨"GalleryGuards$SpreadSearch", "isDominated", "(IJ)Z"⟩, 5), (⟨"GalleryGuards$SpreadSearch", "leastSeeing", "(J)I"⟩, 5), (⟨"GalleryGuards$Watch", "within", "(II)J"⟩, 3)]
theorem lw_r2 : ∀ q ∈ lw_privs_2, lw_okq q := List.forall_mem_cons.mpr ⟨lw_p16, List.forall_mem_cons.mpr ⟨lw_p17, List.forall_mem_cons.mpr ⟨lw_p18, List.forall_mem_cons.mpr ⟨lw_p19, List.forall_mem_cons.mpr ⟨lw_p20, List.forall_mem_cons.mpr ⟨lw_p21, List.forall_mem_cons.mpr ⟨lw_p22, List.forall_mem_cons.mpr ⟨lw_p23, List.forall_mem_cons.mpr ⟨lw_p24, List.forall_mem_cons.mpr ⟨lw_p25, List.forall_mem_cons.mpr ⟨lw_p26, List.forall_mem_cons.mpr ⟨lw_p27, List.forall_mem_cons.mpr ⟨lw_p28, List.forall_mem_cons.mpr ⟨lw_p29, List.forall_mem_cons.mpr ⟨lw_p30, List.forall_mem_cons.mpr ⟨lw_p31, fun _ h => absurd h List.not_mem_nil⟩⟩⟩⟩⟩⟩⟩⟩⟩⟩⟩⟩⟩⟩⟩⟩
theorem lw_p32 : lw_okq (⟨"GalleryGuards", "signAt", "(IIJ)I"⟩, 18) := ⟨⟨by decide +kernel, by decide +kernel⟩, List.mem_of_getElem? (i := 29) (by decide +kernel), List.mem_of_getElem? (i := 1353) (by decide +kernel), List.mem_of_getElem? (i := 1354) (by decide +kernel)⟩
theorem lw_p33 : lw_okq (⟨"GalleryGuards", "adoptDraft", "()I"⟩, 18) := ⟨⟨by decide +kernel, by decide +kernel⟩, List.mem_of_getElem? (i := 29) (by decide +kernel), List.mem_of_getElem? (i := 1434) (by decide +kernel), List.mem_of_getElem? (i := 1435) (by decide +kernel)⟩
theorem lw_p34 : lw_okq (⟨"GalleryGuards", "savedIn", "(I)LGalleryGuards$Plan;"⟩, 18) := ⟨⟨by decide +kernel, by decide +kernel⟩, List.mem_of_getElem? (i := 29) (by decide +kernel), List.mem_of_getElem? (i := 1488) (by decide +kernel), List.mem_of_getElem? (i := 1489) (by decide +kernel)⟩
theorem lw_p35 : lw_okq (⟨"GalleryGuardsModel", "refuse", "(ZI)Z"⟩, 41) := ⟨⟨by decide +kernel, by decide +kernel⟩, List.mem_of_getElem? (i := 1500) (by decide +kernel), List.mem_of_getElem? (i := 1658) (by decide +kernel), List.mem_of_getElem? (i := 1659) (by decide +kernel)⟩
theorem lw_p36 : lw_okq (⟨"GalleryGuardsModel", "reads", "(I)V"⟩, 41) := ⟨⟨by decide +kernel, by decide +kernel⟩, List.mem_of_getElem? (i := 1500) (by decide +kernel), List.mem_of_getElem? (i := 1662) (by decide +kernel), List.mem_of_getElem? (i := 1663) (by decide +kernel)⟩
theorem lw_p37 : lw_okq (⟨"GalleryGuardsModel", "token", "()V"⟩, 41) := ⟨⟨by decide +kernel, by decide +kernel⟩, List.mem_of_getElem? (i := 1500) (by decide +kernel), List.mem_of_getElem? (i := 1666) (by decide +kernel), List.mem_of_getElem? (i := 1667) (by decide +kernel)⟩
theorem lw_p38 : lw_okq (⟨"GalleryGuardsModel", "seen", "(I)I"⟩, 41) := ⟨⟨by decide +kernel, by decide +kernel⟩, List.mem_of_getElem? (i := 1500) (by decide +kernel), List.mem_of_getElem? (i := 1670) (by decide +kernel), List.mem_of_getElem? (i := 1671) (by decide +kernel)⟩
theorem lw_p39 : lw_okq (⟨"GalleryGuardsModel", "polygonLine", "()V"⟩, 41) := ⟨⟨by decide +kernel, by decide +kernel⟩, List.mem_of_getElem? (i := 1500) (by decide +kernel), List.mem_of_getElem? (i := 1680) (by decide +kernel), List.mem_of_getElem? (i := 1681) (by decide +kernel)⟩
theorem lw_p40 : lw_okq (⟨"GalleryGuardsModel", "isWord", "(Ljava/lang/String;)Z"⟩, 41) := ⟨⟨by decide +kernel, by decide +kernel⟩, List.mem_of_getElem? (i := 1500) (by decide +kernel), List.mem_of_getElem? (i := 1685) (by decide +kernel), List.mem_of_getElem? (i := 1686) (by decide +kernel)⟩
theorem lw_p41 : lw_okq (⟨"GalleryGuardsModel", "fails", "(I)V"⟩, 41) := ⟨⟨by decide +kernel, by decide +kernel⟩, List.mem_of_getElem? (i := 1500) (by decide +kernel), List.mem_of_getElem? (i := 1691) (by decide +kernel), List.mem_of_getElem? (i := 1692) (by decide +kernel)⟩
theorem lw_p42 : lw_okq (⟨"GalleryGuardsModel", "goesOn", "()V"⟩, 41) := ⟨⟨by decide +kernel, by decide +kernel⟩, List.mem_of_getElem? (i := 1500) (by decide +kernel), List.mem_of_getElem? (i := 1695) (by decide +kernel), List.mem_of_getElem? (i := 1696) (by decide +kernel)⟩
theorem lw_p43 : lw_okq (⟨"GalleryGuardsModel", "numberHere", "(II)I"⟩, 41) := ⟨⟨by decide +kernel, by decide +kernel⟩, List.mem_of_getElem? (i := 1500) (by decide +kernel), List.mem_of_getElem? (i := 1699) (by decide +kernel), List.mem_of_getElem? (i := 1700) (by decide +kernel)⟩
theorem lw_p44 : lw_okq (⟨"GalleryGuardsModel", "takes", "(II)I"⟩, 41) := ⟨⟨by decide +kernel, by decide +kernel⟩, List.mem_of_getElem? (i := 1500) (by decide +kernel), List.mem_of_getElem? (i := 1703) (by decide +kernel), List.mem_of_getElem? (i := 1704) (by decide +kernel)⟩
theorem lw_p45 : lw_okq (⟨"GalleryGuardsModel", "thingLine", "(Z)V"⟩, 41) := ⟨⟨by decide +kernel, by decide +kernel⟩, List.mem_of_getElem? (i := 1500) (by decide +kernel), List.mem_of_getElem? (i := 1745) (by decide +kernel), List.mem_of_getElem? (i := 1746) (by decide +kernel)⟩
theorem lw_p46 : lw_okq (⟨"GalleryGuardsModel", "laysPoints", "()V"⟩, 41) := ⟨⟨by decide +kernel, by decide +kernel⟩, List.mem_of_getElem? (i := 1500) (by decide +kernel), List.mem_of_getElem? (i := 1750) (by decide +kernel), List.mem_of_getElem? (i := 1751) (by decide +kernel)⟩
theorem lw_p47 : lw_okq (⟨"GalleryGuardsModel", "told", "(I)I"⟩, 41) := ⟨⟨by decide +kernel, by decide +kernel⟩, List.mem_of_getElem? (i := 1500) (by decide +kernel), List.mem_of_getElem? (i := 1758) (by decide +kernel), List.mem_of_getElem? (i := 1759) (by decide +kernel)⟩
def lw_privs_3 : List (MethodName × Nat) := [(⟨"GalleryGuards", "signAt", "(IIJ)I"⟩, 18), (⟨"GalleryGuards", "adoptDraft", "()I"⟩, 18), (⟨"GalleryGuards", "savedIn", "(I)LGalleryGuards$Plan;"⟩, 18), (⟨"GalleryGuardsModel", "refuse", "(ZI)Z"⟩, 41), (⟨"GalleryGuardsModel", "reads", "(I)V"⟩, 41), (⟨"GalleryGuardsModel", "token", "()V"⟩, 41), (⟨"GalleryGuardsModel", "seen", "(I)I"⟩, 41), (⟨"GalleryGuardsModel", "polygonLine", "()V"⟩, 41), (⟨"GalleryGuardsModel", "isWord", "(Ljava/lang/String;)Z"⟩, 41), (⟨"GalleryGuardsModel", "fails", "(I)V"⟩, 41), (⟨"GalleryGuardsModel", "goesOn", "()V"⟩, 41), (⟨"GalleryGuardsModel", "numberHere", "(II)I"⟩, 41), (⟨"GalleryGuardsModel", "takes", "(II)I"⟩, 41), (⟨"GalleryGuardsModel", "thingLine", "(Z)V"⟩, 41), (⟨"GalleryGuardsModel", "laysPoints", "()V"⟩, 41), (⟨"GalleryGuardsModel", "told", "(I)I"⟩, 41)]
theorem lw_r3 : ∀ q ∈ lw_privs_3, lw_okq q := List.forall_mem_cons.mpr ⟨lw_p32, List.forall_mem_cons.mpr ⟨lw_p33, List.forall_mem_cons.mpr ⟨lw_p34, List.forall_mem_cons.mpr ⟨lw_p35, List.forall_mem_cons.mpr ⟨lw_p36, List.forall_mem_cons.mpr ⟨lw_p37, List.forall_mem_cons.mpr ⟨lw_p38, List.forall_mem_cons.mpr ⟨lw_p39, List.forall_mem_cons.mpr ⟨lw_p40, List.forall_mem_cons.mpr ⟨lw_p41, List.forall_mem_cons.mpr ⟨lw_p42, List.forall_mem_cons.mpr ⟨lw_p43, List.forall_mem_cons.mpr ⟨lw_p44, List.forall_mem_cons.mpr ⟨lw_p45, List.forall_mem_cons.mpr ⟨lw_p46, List.forall_mem_cons.mpr ⟨lw_p47, fun _ h => absurd h List.not_mem_nil⟩⟩⟩⟩⟩⟩⟩⟩⟩⟩⟩⟩⟩⟩⟩⟩
theorem lw_p48 : lw_okq (⟨"GalleryGuardsModel", "noVertex", "(I)Z"⟩, 41) := ⟨⟨by decide +kernel, by decide +kernel⟩, List.mem_of_getElem? (i := 1500) (by decide +kernel), List.mem_of_getElem? (i := 1782) (by decide +kernel), List.mem_of_getElem? (i := 1783) (by decide +kernel)⟩
theorem lw_p49 : lw_okq (⟨"GalleryGuardsModel", "noPolygon", "()Z"⟩, 41) := ⟨⟨by decide +kernel, by decide +kernel⟩, List.mem_of_getElem? (i := 1500) (by decide +kernel), List.mem_of_getElem? (i := 1786) (by decide +kernel), List.mem_of_getElem? (i := 1787) (by decide +kernel)⟩
theorem lw_p50 : lw_okq (⟨"GalleryGuardsModel", "noPoint", "(I)Z"⟩, 41) := ⟨⟨by decide +kernel, by decide +kernel⟩, List.mem_of_getElem? (i := 1500) (by decide +kernel), List.mem_of_getElem? (i := 1798) (by decide +kernel), List.mem_of_getElem? (i := 1799) (by decide +kernel)⟩
theorem lw_p51 : lw_okq (⟨"GalleryGuardsModel", "at", "(II)I"⟩, 41) := ⟨⟨by decide +kernel, by decide +kernel⟩, List.mem_of_getElem? (i := 1500) (by decide +kernel), List.mem_of_getElem? (i := 1810) (by decide +kernel), List.mem_of_getElem? (i := 1811) (by decide +kernel)⟩
theorem lw_p52 : lw_okq (⟨"GalleryGuardsModel", "turned", "()I"⟩, 41) := ⟨⟨by decide +kernel, by decide +kernel⟩, List.mem_of_getElem? (i := 1500) (by decide +kernel), List.mem_of_getElem? (i := 1818) (by decide +kernel), List.mem_of_getElem? (i := 1819) (by decide +kernel)⟩
theorem lw_p53 : lw_okq (⟨"GalleryGuardsModel", "turn", "(III)I"⟩, 41) := ⟨⟨by decide +kernel, by decide +kernel⟩, List.mem_of_getElem? (i := 1500) (by decide +kernel), List.mem_of_getElem? (i := 1826) (by decide +kernel), List.mem_of_getElem? (i := 1827) (by decide +kernel)⟩
theorem lw_p54 : lw_okq (⟨"GalleryGuardsModel", "laysSight", "()V"⟩, 41) := ⟨⟨by decide +kernel, by decide +kernel⟩, List.mem_of_getElem? (i := 1500) (by decide +kernel), List.mem_of_getElem? (i := 1838) (by decide +kernel), List.mem_of_getElem? (i := 1839) (by decide +kernel)⟩
theorem lw_p55 : lw_okq (⟨"GalleryGuardsModel", "isFree", "(JJJJJ)Z"⟩, 41) := ⟨⟨by decide +kernel, by decide +kernel⟩, List.mem_of_getElem? (i := 1500) (by decide +kernel), List.mem_of_getElem? (i := 1842) (by decide +kernel), List.mem_of_getElem? (i := 1843) (by decide +kernel)⟩
theorem lw_p56 : lw_okq (⟨"GalleryGuardsModel", "all", "()J"⟩, 41) := ⟨⟨by decide +kernel, by decide +kernel⟩, List.mem_of_getElem? (i := 1500) (by decide +kernel), List.mem_of_getElem? (i := 1858) (by decide +kernel), List.mem_of_getElem? (i := 1859) (by decide +kernel)⟩
theorem lw_p57 : lw_okq (⟨"GalleryGuardsModel", "laysLinks", "(I)I"⟩, 41) := ⟨⟨by decide +kernel, by decide +kernel⟩, List.mem_of_getElem? (i := 1500) (by decide +kernel), List.mem_of_getElem? (i := 1867) (by decide +kernel), List.mem_of_getElem? (i := 1868) (by decide +kernel)⟩
theorem lw_p58 : lw_okq (⟨"GalleryGuardsModel", "noTriangle", "(I)Z"⟩, 41) := ⟨⟨by decide +kernel, by decide +kernel⟩, List.mem_of_getElem? (i := 1500) (by decide +kernel), List.mem_of_getElem? (i := 1887) (by decide +kernel), List.mem_of_getElem? (i := 1888) (by decide +kernel)⟩
theorem lw_p59 : lw_okq (⟨"GalleryGuardsModel", "laysTriangles", "()V"⟩, 41) := ⟨⟨by decide +kernel, by decide +kernel⟩, List.mem_of_getElem? (i := 1500) (by decide +kernel), List.mem_of_getElem? (i := 1891) (by decide +kernel), List.mem_of_getElem? (i := 1892) (by decide +kernel)⟩
theorem lw_p60 : lw_okq (⟨"GalleryGuardsModel", "isEar", "(II)Z"⟩, 41) := ⟨⟨by decide +kernel, by decide +kernel⟩, List.mem_of_getElem? (i := 1500) (by decide +kernel), List.mem_of_getElem? (i := 1895) (by decide +kernel), List.mem_of_getElem? (i := 1896) (by decide +kernel)⟩
theorem lw_p61 : lw_okq (⟨"GalleryGuardsModel", "laysTriangle", "(IIII)V"⟩, 41) := ⟨⟨by decide +kernel, by decide +kernel⟩, List.mem_of_getElem? (i := 1500) (by decide +kernel), List.mem_of_getElem? (i := 1899) (by decide +kernel), List.mem_of_getElem? (i := 1900) (by decide +kernel)⟩
theorem lw_p62 : lw_okq (⟨"GalleryGuardsModel", "laysColours", "()V"⟩, 41) := ⟨⟨by decide +kernel, by decide +kernel⟩, List.mem_of_getElem? (i := 1500) (by decide +kernel), List.mem_of_getElem? (i := 1911) (by decide +kernel), List.mem_of_getElem? (i := 1912) (by decide +kernel)⟩
theorem lw_p63 : lw_okq (⟨"GalleryGuardsModel", "ofColour", "(I)I"⟩, 41) := ⟨⟨by decide +kernel, by decide +kernel⟩, List.mem_of_getElem? (i := 1500) (by decide +kernel), List.mem_of_getElem? (i := 1919) (by decide +kernel), List.mem_of_getElem? (i := 1920) (by decide +kernel)⟩
def lw_privs_4 : List (MethodName × Nat) := [(⟨"GalleryGuardsModel", "noVertex", "(I)Z"⟩, 41), (⟨"GalleryGuardsModel", "noPolygon", "()Z"⟩, 41), (⟨"GalleryGuardsModel", "noPoint", "(I)Z"⟩, 41), (⟨"GalleryGuardsModel", "at", "(II)I"⟩, 41), (⟨"GalleryGuardsModel", "turned", "()I"⟩, 41), (⟨"GalleryGuardsModel", "turn", "(III)I"⟩, 41), (⟨"GalleryGuardsModel", "laysSight", "()V"⟩, 41), (⟨"GalleryGuardsModel", "isFree", "(JJJJJ)Z"⟩, 41), (⟨"GalleryGuardsModel", "all", "()J"⟩, 41), (⟨"GalleryGuardsModel", "laysLinks", "(I)I"⟩, 41), (⟨"GalleryGuardsModel", "noTriangle", "(I)Z"⟩, 41), (⟨"GalleryGuardsModel", "laysTriangles", "()V"⟩, 41), (⟨"GalleryGuardsModel", "isEar", "(II)Z"⟩, 41), (⟨"GalleryGuardsModel", "laysTriangle", "(IIII)V"⟩, 41), (⟨"GalleryGuardsModel", "laysColours", "()V"⟩, 41), (⟨"GalleryGuardsModel", "ofColour", "(I)I"⟩, 41)]
theorem lw_r4 : ∀ q ∈ lw_privs_4, lw_okq q := List.forall_mem_cons.mpr ⟨lw_p48, List.forall_mem_cons.mpr ⟨lw_p49, List.forall_mem_cons.mpr ⟨lw_p50, List.forall_mem_cons.mpr ⟨lw_p51, List.forall_mem_cons.mpr ⟨lw_p52, List.forall_mem_cons.mpr ⟨lw_p53, List.forall_mem_cons.mpr ⟨lw_p54, List.forall_mem_cons.mpr ⟨lw_p55, List.forall_mem_cons.mpr ⟨lw_p56, List.forall_mem_cons.mpr ⟨lw_p57, List.forall_mem_cons.mpr ⟨lw_p58, List.forall_mem_cons.mpr ⟨lw_p59, List.forall_mem_cons.mpr ⟨lw_p60, List.forall_mem_cons.mpr ⟨lw_p61, List.forall_mem_cons.mpr ⟨lw_p62, List.forall_mem_cons.mpr ⟨lw_p63, fun _ h => absurd h List.not_mem_nil⟩⟩⟩⟩⟩⟩⟩⟩⟩⟩⟩⟩⟩⟩⟩⟩
theorem lw_p64 : lw_okq (⟨"GalleryGuardsModel", "fewest", "(Z)I"⟩, 41) := ⟨⟨by decide +kernel, by decide +kernel⟩, List.mem_of_getElem? (i := 1500) (by decide +kernel), List.mem_of_getElem? (i := 1930) (by decide +kernel), List.mem_of_getElem? (i := 1931) (by decide +kernel)⟩
theorem lw_p65 : lw_okq (⟨"GalleryGuardsModel", "pointOf", "(I)I"⟩, 41) := ⟨⟨by decide +kernel, by decide +kernel⟩, List.mem_of_getElem? (i := 1500) (by decide +kernel), List.mem_of_getElem? (i := 1934) (by decide +kernel), List.mem_of_getElem? (i := 1935) (by decide +kernel)⟩
theorem lw_p66 : lw_okq (⟨"GalleryGuardsModel", "laysGuards", "()V"⟩, 41) := ⟨⟨by decide +kernel, by decide +kernel⟩, List.mem_of_getElem? (i := 1500) (by decide +kernel), List.mem_of_getElem? (i := 1946) (by decide +kernel), List.mem_of_getElem? (i := 1947) (by decide +kernel)⟩
theorem lw_p67 : lw_okq (⟨"GalleryGuardsModel", "laysGuards", "(IIIJ)Z"⟩, 41) := ⟨⟨by decide +kernel, by decide +kernel⟩, List.mem_of_getElem? (i := 1500) (by decide +kernel), List.mem_of_getElem? (i := 1950) (by decide +kernel), List.mem_of_getElem? (i := 1951) (by decide +kernel)⟩
theorem lw_p68 : lw_okq (⟨"GalleryGuardsModel", "laysWitnesses", "()V"⟩, 41) := ⟨⟨by decide +kernel, by decide +kernel⟩, List.mem_of_getElem? (i := 1500) (by decide +kernel), List.mem_of_getElem? (i := 1962) (by decide +kernel), List.mem_of_getElem? (i := 1963) (by decide +kernel)⟩
theorem lw_p69 : lw_okq (⟨"GalleryGuardsModel", "laysWitnesses", "(IIIJ)Z"⟩, 41) := ⟨⟨by decide +kernel, by decide +kernel⟩, List.mem_of_getElem? (i := 1500) (by decide +kernel), List.mem_of_getElem? (i := 1966) (by decide +kernel), List.mem_of_getElem? (i := 1967) (by decide +kernel)⟩
theorem lw_p70 : lw_okq (⟨"GalleryGuardsModel", "hides", "(JI)V"⟩, 41) := ⟨⟨by decide +kernel, by decide +kernel⟩, List.mem_of_getElem? (i := 1500) (by decide +kernel), List.mem_of_getElem? (i := 1978) (by decide +kernel), List.mem_of_getElem? (i := 1979) (by decide +kernel)⟩
theorem lw_p71 : lw_okq (⟨"GalleryGuardsModel", "groups", "(J)I"⟩, 41) := ⟨⟨by decide +kernel, by decide +kernel⟩, List.mem_of_getElem? (i := 1500) (by decide +kernel), List.mem_of_getElem? (i := 1982) (by decide +kernel), List.mem_of_getElem? (i := 1983) (by decide +kernel)⟩
theorem lw_p72 : lw_okq (⟨"GalleryGuardsModel", "noGuard", "(I)Z"⟩, 41) := ⟨⟨by decide +kernel, by decide +kernel⟩, List.mem_of_getElem? (i := 1500) (by decide +kernel), List.mem_of_getElem? (i := 1993) (by decide +kernel), List.mem_of_getElem? (i := 1994) (by decide +kernel)⟩
theorem lw_p73 : lw_okq (⟨"GalleryGuardsModel", "guard", "(II)I"⟩, 41) := ⟨⟨by decide +kernel, by decide +kernel⟩, List.mem_of_getElem? (i := 1500) (by decide +kernel), List.mem_of_getElem? (i := 1997) (by decide +kernel), List.mem_of_getElem? (i := 1998) (by decide +kernel)⟩
theorem lw_p74 : lw_okq (⟨"GalleryGuardsModel", "watchOf", "(I)J"⟩, 41) := ⟨⟨by decide +kernel, by decide +kernel⟩, List.mem_of_getElem? (i := 1500) (by decide +kernel), List.mem_of_getElem? (i := 2009) (by decide +kernel), List.mem_of_getElem? (i := 2010) (by decide +kernel)⟩
theorem lw_p75 : lw_okq (⟨"GalleryGuardsModel", "watchOf", "(III)J"⟩, 41) := ⟨⟨by decide +kernel, by decide +kernel⟩, List.mem_of_getElem? (i := 1500) (by decide +kernel), List.mem_of_getElem? (i := 2013) (by decide +kernel), List.mem_of_getElem? (i := 2014) (by decide +kernel)⟩
theorem lw_p76 : lw_okq (⟨"GalleryGuardsModel", "watchBut", "(I)J"⟩, 41) := ⟨⟨by decide +kernel, by decide +kernel⟩, List.mem_of_getElem? (i := 1500) (by decide +kernel), List.mem_of_getElem? (i := 2021) (by decide +kernel), List.mem_of_getElem? (i := 2022) (by decide +kernel)⟩
theorem lw_p77 : lw_okq (⟨"GalleryGuardsModel", "bestFor", "(J)I"⟩, 41) := ⟨⟨by decide +kernel, by decide +kernel⟩, List.mem_of_getElem? (i := 1500) (by decide +kernel), List.mem_of_getElem? (i := 2037) (by decide +kernel), List.mem_of_getElem? (i := 2038) (by decide +kernel)⟩
theorem lw_p78 : lw_okq (⟨"GalleryGuardsModel", "treasure", "(II)I"⟩, 41) := ⟨⟨by decide +kernel, by decide +kernel⟩, List.mem_of_getElem? (i := 1500) (by decide +kernel), List.mem_of_getElem? (i := 2049) (by decide +kernel), List.mem_of_getElem? (i := 2050) (by decide +kernel)⟩
theorem lw_p79 : lw_okq (⟨"GalleryGuardsModel", "worthOf", "(J)I"⟩, 41) := ⟨⟨by decide +kernel, by decide +kernel⟩, List.mem_of_getElem? (i := 1500) (by decide +kernel), List.mem_of_getElem? (i := 2057) (by decide +kernel), List.mem_of_getElem? (i := 2058) (by decide +kernel)⟩
def lw_privs_5 : List (MethodName × Nat) := [(⟨"GalleryGuardsModel", "fewest", "(Z)I"⟩, 41), (⟨"GalleryGuardsModel", "pointOf", "(I)I"⟩, 41), (⟨"GalleryGuardsModel", "laysGuards", "()V"⟩, 41), (⟨"GalleryGuardsModel", "laysGuards", "(IIIJ)Z"⟩, 41), (⟨"GalleryGuardsModel", "laysWitnesses", "()V"⟩, 41), (⟨"GalleryGuardsModel", "laysWitnesses", "(IIIJ)Z"⟩, 41), (⟨"GalleryGuardsModel", "hides", "(JI)V"⟩, 41), (⟨"GalleryGuardsModel", "groups", "(J)I"⟩, 41), (⟨"GalleryGuardsModel", "noGuard", "(I)Z"⟩, 41), (⟨"GalleryGuardsModel", "guard", "(II)I"⟩, 41), (⟨"GalleryGuardsModel", "watchOf", "(I)J"⟩, 41), (⟨"GalleryGuardsModel", "watchOf", "(III)J"⟩, 41), (⟨"GalleryGuardsModel", "watchBut", "(I)J"⟩, 41), (⟨"GalleryGuardsModel", "bestFor", "(J)I"⟩, 41), (⟨"GalleryGuardsModel", "treasure", "(II)I"⟩, 41), (⟨"GalleryGuardsModel", "worthOf", "(J)I"⟩, 41)]
theorem lw_r5 : ∀ q ∈ lw_privs_5, lw_okq q := List.forall_mem_cons.mpr ⟨lw_p64, List.forall_mem_cons.mpr ⟨lw_p65, List.forall_mem_cons.mpr ⟨lw_p66, List.forall_mem_cons.mpr ⟨lw_p67, List.forall_mem_cons.mpr ⟨lw_p68, List.forall_mem_cons.mpr ⟨lw_p69, List.forall_mem_cons.mpr ⟨lw_p70, List.forall_mem_cons.mpr ⟨lw_p71, List.forall_mem_cons.mpr ⟨lw_p72, List.forall_mem_cons.mpr ⟨lw_p73, List.forall_mem_cons.mpr ⟨lw_p74, List.forall_mem_cons.mpr ⟨lw_p75, List.forall_mem_cons.mpr ⟨lw_p76, List.forall_mem_cons.mpr ⟨lw_p77, List.forall_mem_cons.mpr ⟨lw_p78, List.forall_mem_cons.mpr ⟨lw_p79, fun _ h => absurd h List.not_mem_nil⟩⟩⟩⟩⟩⟩⟩⟩⟩⟩⟩⟩⟩⟩⟩⟩
theorem lw_p80 : lw_okq (⟨"GalleryGuardsModel", "isGuardAt", "(II)Z"⟩, 41) := ⟨⟨by decide +kernel, by decide +kernel⟩, List.mem_of_getElem? (i := 1500) (by decide +kernel), List.mem_of_getElem? (i := 2069) (by decide +kernel), List.mem_of_getElem? (i := 2070) (by decide +kernel)⟩
theorem lw_p81 : lw_okq (⟨"GalleryGuardsModel", "isTreasureAt", "(II)Z"⟩, 41) := ⟨⟨by decide +kernel, by decide +kernel⟩, List.mem_of_getElem? (i := 1500) (by decide +kernel), List.mem_of_getElem? (i := 2073) (by decide +kernel), List.mem_of_getElem? (i := 2074) (by decide +kernel)⟩
theorem lw_p82 : lw_okq (⟨"GalleryGuardsModel", "isVertexAt", "(II)Z"⟩, 41) := ⟨⟨by decide +kernel, by decide +kernel⟩, List.mem_of_getElem? (i := 1500) (by decide +kernel), List.mem_of_getElem? (i := 2077) (by decide +kernel), List.mem_of_getElem? (i := 2078) (by decide +kernel)⟩
theorem lw_p83 : lw_okq (⟨"GalleryGuardsModel", "keeps", "()V"⟩, 41) := ⟨⟨by decide +kernel, by decide +kernel⟩, List.mem_of_getElem? (i := 1500) (by decide +kernel), List.mem_of_getElem? (i := 2089) (by decide +kernel), List.mem_of_getElem? (i := 2090) (by decide +kernel)⟩
theorem lw_p84 : lw_okq (⟨"GalleryGuardsModel", "lays", "(I)V"⟩, 41) := ⟨⟨by decide +kernel, by decide +kernel⟩, List.mem_of_getElem? (i := 1500) (by decide +kernel), List.mem_of_getElem? (i := 2093) (by decide +kernel), List.mem_of_getElem? (i := 2094) (by decide +kernel)⟩
theorem lw_p85 : lw_okq (⟨"GalleryGuardsModel", "isOff", "(II)Z"⟩, 41) := ⟨⟨by decide +kernel, by decide +kernel⟩, List.mem_of_getElem? (i := 1500) (by decide +kernel), List.mem_of_getElem? (i := 2113) (by decide +kernel), List.mem_of_getElem? (i := 2114) (by decide +kernel)⟩
theorem lw_p86 : lw_okq (⟨"GalleryGuardsModel", "laysAside", "()V"⟩, 41) := ⟨⟨by decide +kernel, by decide +kernel⟩, List.mem_of_getElem? (i := 1500) (by decide +kernel), List.mem_of_getElem? (i := 2117) (by decide +kernel), List.mem_of_getElem? (i := 2118) (by decide +kernel)⟩
theorem lw_p87 : lw_okq (⟨"GalleryGuardsModel", "becomes", "()I"⟩, 41) := ⟨⟨by decide +kernel, by decide +kernel⟩, List.mem_of_getElem? (i := 1500) (by decide +kernel), List.mem_of_getElem? (i := 2121) (by decide +kernel), List.mem_of_getElem? (i := 2122) (by decide +kernel)⟩
theorem lw_p88 : lw_okq (⟨"GalleryGuardsModel", "fetches", "(I)V"⟩, 41) := ⟨⟨by decide +kernel, by decide +kernel⟩, List.mem_of_getElem? (i := 1500) (by decide +kernel), List.mem_of_getElem? (i := 2137) (by decide +kernel), List.mem_of_getElem? (i := 2138) (by decide +kernel)⟩
def lw_privs_6 : List (MethodName × Nat) := [(⟨"GalleryGuardsModel", "isGuardAt", "(II)Z"⟩, 41), (⟨"GalleryGuardsModel", "isTreasureAt", "(II)Z"⟩, 41), (⟨"GalleryGuardsModel", "isVertexAt", "(II)Z"⟩, 41), (⟨"GalleryGuardsModel", "keeps", "()V"⟩, 41), (⟨"GalleryGuardsModel", "lays", "(I)V"⟩, 41), (⟨"GalleryGuardsModel", "isOff", "(II)Z"⟩, 41), (⟨"GalleryGuardsModel", "laysAside", "()V"⟩, 41), (⟨"GalleryGuardsModel", "becomes", "()I"⟩, 41), (⟨"GalleryGuardsModel", "fetches", "(I)V"⟩, 41)]
theorem lw_r6 : ∀ q ∈ lw_privs_6, lw_okq q := List.forall_mem_cons.mpr ⟨lw_p80, List.forall_mem_cons.mpr ⟨lw_p81, List.forall_mem_cons.mpr ⟨lw_p82, List.forall_mem_cons.mpr ⟨lw_p83, List.forall_mem_cons.mpr ⟨lw_p84, List.forall_mem_cons.mpr ⟨lw_p85, List.forall_mem_cons.mpr ⟨lw_p86, List.forall_mem_cons.mpr ⟨lw_p87, List.forall_mem_cons.mpr ⟨lw_p88, fun _ h => absurd h List.not_mem_nil⟩⟩⟩⟩⟩⟩⟩⟩⟩
def lw_privs : List (MethodName × Nat) := lw_privs_1 ++ (lw_privs_2 ++ (lw_privs_3 ++ (lw_privs_4 ++ (lw_privs_5 ++ (lw_privs_6)))))
def lw_tbl : List Cond := k2_sels lw_privs ++ tables_1
theorem lw_privs_ok : ∀ q ∈ lw_privs, lw_okq q := by
  show ∀ q ∈ lw_privs_1 ++ (lw_privs_2 ++ (lw_privs_3 ++ (lw_privs_4 ++ (lw_privs_5 ++ (lw_privs_6))))), lw_okq q
  exact List.forall_mem_append.mpr ⟨lw_r1, List.forall_mem_append.mpr ⟨lw_r2, List.forall_mem_append.mpr ⟨lw_r3, List.forall_mem_append.mpr ⟨lw_r4, List.forall_mem_append.mpr ⟨lw_r5, lw_r6⟩⟩⟩⟩⟩
end
section
/-! ===== BEGIN words of one list among another's, by their places ===== -/
theorem goodIn_r {big : List Cond} (ws : List Cond) (ps : List Nat) (hp : ws = ps.filterMap (fun i => big[i]?)) (h : ws.all goodWord = true) : GoodIn big ws := by
  intro w hw
  have h1 := List.all_eq_true.mp h w hw
  rw [hp] at hw
  obtain ⟨i, -, hi⟩ := List.mem_filterMap.mp hw
  have hm : w ∈ big := by first | exact List.mem_of_getElem? hi | exact List.getElem?_mem hi
  exact ⟨hm, good_of_word h1⟩
theorem goodIn_app {big a b : List Cond} (ha : GoodIn big a) (hb : GoodIn big b) : GoodIn big (a ++ b) := fun w h => (List.mem_append.mp h).elim (ha w) (hb w)
theorem goodIn_ca {big a b : List Cond} {c : Cond} (ha : GoodIn big (c :: a)) (hb : GoodIn big b) : GoodIn big (c :: (a ++ b)) := fun w h => (List.mem_cons.mp h).elim (fun e => ha w (List.mem_cons.mpr (Or.inl e))) (fun h => (List.mem_append.mp h).elim (fun h => ha w (List.mem_cons.mpr (Or.inr h))) (hb w))
theorem goodIn_sub {big ws : List Cond} (hm : ∀ w ∈ ws, w ∈ big) (h : ws.all goodWord = true) : GoodIn big ws := fun w hw => ⟨hm w hw, good_of_word (List.all_eq_true.mp h w hw)⟩
/-! ===== END ===== -/

/-! ===== BEGIN exceptions that leave a method, and their catching by the caller (launches without stack traces) ===== -/
section VXA
/-! The laws vx_back, vx_callV, vx_callS, vx_callSW, vx_throw0, vx_throwS follow proofs of the library, with one case more: JvmDerived/Free/Laws.lean (Back.of_free), Shelf42/LK1.lean (callV, callS), Shelf/KitTraced.lean (throwNew0V, throwNewS). -/
/-- where a method has thrown q: the class by its name, the cell, what was written, the world -/
def vx_T (XC : String → State → State → Prop) (st : State) (q : Addr) (t : State) (mc ms : Nat) (free : Addr → Prop) : Prop :=
  ∃ (E : String) (ce : Cell) (L : List Loc), XC E st t ∧ t.heap[q]? = some ce ∧ ce.vm = .none ∧ st.vm.findClass E = some ce.cls ∧ st.WarmedH t.vm ∧ st.sameButNew ({ t with vm := st.vm } : State) L mc ms ∧ ∀ z ∈ L, free z.base
def vx_Q (Qc : Array Value → State → Outcome → State → Prop) (XC : String → State → State → Prop) (mc ms : Nat) (free : Addr → Prop) : Array Value → State → Outcome → State → Prop := fun a st o t =>
  (Qc a st o t ∧ ∃ L, FrameEnd st o t L mc ms ∧ ∀ q ∈ L, free q.base) ∨ ∃ q, o = .threw q ∧ vx_T XC st q t mc ms free
/-- a callee that returns or throws -/
def vx_Met (l : Launch) (y : MethodName) (ws : List Cond) (rm : Room) (Pc : Array Value → State → Prop) (Qc : Array Value → State → Outcome → State → Prop) (XC : String → State → State → Prop) (mc ms : Nat) (free : Addr → Prop) : Prop :=
  MetFree l y (headSpec ws rm) Pc (fun _ _ _ _ _ => True) (vx_Q Qc XC mc ms free)
def vx_Post (XC : String → State → State → Prop) (mc ms : Nat) (free : Addr → Prop) : Pt → Array Value → Addr → Pt → Prop := fun A a q B =>
  ∃ (g : JFrame) (mk : MethodId) (t : State) (L : List Loc) (E : String) (ce : Cell), B.U.heap = t.heap ∧ B.U.vm = t.vm ∧ XC E (A.U.calling g mk a) t ∧ t.heap[q]? = some ce ∧ ce.vm = .none ∧ A.U.vm.findClass E = some ce.cls ∧ B.locs = A.locs ++ L ∧ (∀ z ∈ L, free z.base) ∧ B.cells = A.cells + mc ∧ B.slots = A.slots + ms
def vx_Back (l : Launch) (R : Room) (p : Program) (e : Env) (below : List Frame) (s : State) (sargs : Array Value) (y : MethodName) (len W9 : Nat)
    (Pre : Pt → Array Value → Prop) (Post : Pt → Array Value → Option Value → Pt → Prop) (PostX : Pt → Array Value → Addr → Pt → Prop) : Prop :=
  ∀ (m : MethodId) (meth : Method) (c : Code) (A : Pt) (g : JFrame) (ig : Instr) (mk : MethodId) (a : Array Value),
    Stand p l e R s m sargs below meth c A.U A.locs A.cells A.slots → g.method = m → g.locals.size = c.maxLocals → decode c.code g.pc = .ok (ig, len) →
    2 * g.monitorRoom + (g.stack.map fun v => v.category).sum ≤ W9 → A.U.methodNamed? y = some mk → Pre A a →
    (∃ (v : Option Value) (B : Pt), Stand p l e R s m sargs below meth c B.U B.locs B.cells B.slots ∧ Post A a v B ∧
      Steps p.tables e below (doInvoke e (A.U.setTop g) [] mk a).1 (B.U.setTop { g with pc := g.pc + len, stack := v.toList ++ g.stack })) ∨
    (∃ (q : Addr) (B : Pt), Stand p l e R s m sargs below meth c B.U B.locs B.cells B.slots ∧ PostX A a q B ∧
      Steps p.tables e below (doInvoke e (A.U.setTop g) [] mk a).1 ((B.U.setTop g).pushFrame (.throwing q)))
section Payer
variable {l : Launch} {R : Room} {p : Program} {e : Env} {below : List Frame} {s : State} {sargs : Array Value} {y : MethodName} {len W9 : Nat}
theorem vx_back {ws : List Cond} {rm : Room} {Pc : Array Value → State → Prop} {Qc : Array Value → State → Outcome → State → Prop} {XC : String → State → State → Prop} {mc ms : Nat} {free : Addr → Prop} {bytes : ByteArray} {maxL : Nat} {ret : Option FieldType}
    (hM : vx_Met l y ws rm Pc Qc XC mc ms free) (hblind : FrameBlind Pc) (hrc : rm.cells = mc) (hrs : rm.slots = ms)
    (hframes : rm.frames + 1 ≤ R.frames) (hlocals : W9 + (maxL + 11) + rm.locals ≤ R.locals)
    (hws : ∀ w ∈ ws, ∀ a' U, s.WarmedH U.vm → w.before a' U = true) (hcode : Cond.code y bytes maxL ret ∈ ws) (hinit : ∀ a' U, s.WarmedH U.vm → (Cond.initialized y.cls).before a' U = true) :
    vx_Back l R p e below s sargs y len W9 (PreOf R mc ms Pc) (PostOf Qc mc ms free) (vx_Post XC mc ms free) := by
  intro m meth c A g ig mk a X hg hsize hdg hW hn hp
  have h1 : (headSpec ws rm).pre.before a A.U = true := atoms_intro fun w hw => hws w hw _ _ X.warmed
  have h2 : (Cond.code y bytes maxL ret).before a A.U = true := hws _ hcode _ _ X.warmed
  have h3 : (Cond.initialized y.cls).before a A.U = true := hinit _ _ X.warmed
  have h4 : A.cells + (headSpec ws rm).room.cells ≤ R.cells := by rw [show (headSpec ws rm).room.cells = mc from hrc]; exact hp.1
  have h5 : A.slots + (headSpec ws rm).room.slots ≤ R.slots := by rw [show (headSpec ws rm).room.slots = ms from hrs]; exact hp.2.1
  have hPc : Pc a (A.U.calling g mk a) := hblind _ _ _ _ hp.2.2
  obtain ⟨U, Ls, c0, s0⟩ := A
  dsimp only [Pt.U, Pt.locs, Pt.cells, Pt.slots] at h1 h2 h3 h4 h5 X hn hPc ⊢
  obtain ⟨methY, cY, hmY, hcY, -, hlY, -, -, -, -⟩ := Cond.code_spec hn h2
  obtain ⟨kY, hkY, -⟩ := className_of_methodNamed hn
  have hinitY : kY.init = .initialized := Cond.initialized_spec (findClass_of_methodNamed hn) hkY h3
  have h : At U g.method c below := by rw [hg]; exact X.here
  have hlocals9 : W9 + (maxL + 11) + (headSpec ws rm).room.locals ≤ R.locals := hlocals
  have happ : (headSpec ws rm).appliesLoose y e.platform (U.calling g mk a) = true :=
    Spec.appliesLoose_calling (g := g) h hdg hn hkY hinitY
      (X.room_calling (g := g) (R' := (headSpec ws rm).room) hsize hmY hcY hframes (by rw [hlY]; omega) h4 h5) h1
  obtain ⟨mid, hmid⟩ := h.above
  have hfr : (U.setTop g).frames = (.java g :: mid) ++ below := by rw [State.frames_setTop' g h.top, hmid]; rfl
  obtain ⟨o, s₂, hsteps, -, hend, hq⟩ := Steps.callFree hM p X.admits X.cas X.clock (acts := []) hfr happ hPc trivial
  have hq' : vx_Q Qc XC mc ms free a (U.calling g mk a) o s₂ := hq
  rw [State.frames_setTop' g h.top] at hend
  obtain ⟨g₀, hg0⟩ := Option.isSome_iff_exists.mp h.top
  obtain ⟨r, hr⟩ := State.topJava?_eq_some.mp hg0
  have hr' : (({ U with heap := s₂.heap, slotsUsed := s₂.slotsUsed } : State).setVm s₂.vm).frames = .java g₀ :: r := hr
  rcases hq' with ⟨hqc, L, hfe, hL⟩ | ⟨q, rfl, E, ce, L, hx, hce, hcv, hcl, hW₂, hsm, hL⟩
  · obtain ⟨⟨v, rfl⟩, hW₂, e2, q2, q3, q4, q5, q6⟩ := id hfe
    have e3 : s₂ = ({ (U.calling g mk a).setFrames s₂.frames with heap := s₂.heap, slotsUsed := s₂.slotsUsed } : State).setVm s₂.vm := by
      have : s₂ = ({ s₂ with vm := (U.calling g mk a).vm } : State).setVm s₂.vm := rfl
      rw [e2] at this
      exact this
    obtain ⟨c₂, i₂, len₂, hc₂, hd₂, hf₂⟩ := hend
    have hW' : U.WarmedH s₂.vm := hW₂
    have hcc : c₂ = c := by
      have h1 : s₂.code? g.method = U.code? g.method := by
        rw [State.code?_eq, State.code?_eq, hW'.alike.method?]
      exact Option.some.inj (hc₂.symm.trans (h1.trans h.code))
    subst hcc
    have hlen : len₂ = len := by rw [hdg] at hd₂; cases hd₂; rfl
    subst hlen
    have hs₂ : s₂ = (({ U with heap := s₂.heap, slotsUsed := s₂.slotsUsed } : State).setVm s₂.vm).setTop { g with pc := g.pc + len₂, stack := v.toList ++ g.stack } := by
      refine e3.trans ?_
      rw [hf₂, State.calling_eq h.top, State.setFrames_setFrames, State.setTop_of_frames _ hr', hr]
      rfl
    have hsame : U.sameButNew ({ U with heap := s₂.heap, slotsUsed := s₂.slotsUsed } : State) L mc ms := by
      refine ⟨?_, q2, q3, q4, q5, q6⟩
      obtain ⟨t, ht, -⟩ := State.frames_cons hr
      show ({ U with heap := s₂.heap, slotsUsed := s₂.slotsUsed } : State) = { U.setFrames U.frames with heap := s₂.heap, slotsUsed := s₂.slotsUsed }
      rw [State.setFrames_self ht]
    subst hg
    refine Or.inl ⟨v, ⟨(({ U with heap := s₂.heap, slotsUsed := s₂.slotsUsed } : State).setVm s₂.vm), Ls ++ L, c0 + mc, s0 + ms⟩,
      ⟨X.admits, X.cas, X.clock, X.frames, X.room, X.hears, X.method, X.code, (X.here.setHeapUsed s₂.heap s₂.slotsUsed).setVm hW'.alike, X.tail, State.WarmedH.trans X.warmed hW', X.limits, X.bytes, X.same.trans (hsame.setVm s.vm)⟩,
      ⟨g, mk, s₂, L, rfl, rfl, hqc, rfl, hL, rfl, rfl⟩, ?_⟩
    show Steps p.tables e below _ ((({ U with heap := s₂.heap, slotsUsed := s₂.slotsUsed } : State).setVm s₂.vm).setTop { g with pc := g.pc + len₂, stack := v.toList ++ g.stack })
    rw [← hs₂]
    exact hsteps
  · obtain ⟨e2, q2, q3, q4, q5, q6⟩ := id hsm
    have e3 : s₂ = ({ (U.calling g mk a).setFrames s₂.frames with heap := s₂.heap, slotsUsed := s₂.slotsUsed } : State).setVm s₂.vm := by
      have : s₂ = ({ s₂ with vm := (U.calling g mk a).vm } : State).setVm s₂.vm := rfl
      rw [e2] at this
      exact this
    have hf₂ : s₂.frames = .throwing q :: .java g :: U.frames.tail := hend
    have hW' : U.WarmedH s₂.vm := hW₂
    have hs₂ : s₂ = ((({ U with heap := s₂.heap, slotsUsed := s₂.slotsUsed } : State).setVm s₂.vm).setTop g).pushFrame (.throwing q) := by
      refine e3.trans ?_
      rw [hf₂, State.calling_eq h.top, State.setFrames_setFrames, State.pushFrame, State.frames_setTop _ hr', State.setTop_of_frames _ hr', State.setFrames_setFrames, hr]
      rfl
    have hsame : U.sameButNew ({ U with heap := s₂.heap, slotsUsed := s₂.slotsUsed } : State) L mc ms := by
      refine ⟨?_, q2, q3, q4, q5, q6⟩
      obtain ⟨t, ht, -⟩ := State.frames_cons hr
      show ({ U with heap := s₂.heap, slotsUsed := s₂.slotsUsed } : State) = { U.setFrames U.frames with heap := s₂.heap, slotsUsed := s₂.slotsUsed }
      rw [State.setFrames_self ht]
    subst hg
    refine Or.inr ⟨q, ⟨(({ U with heap := s₂.heap, slotsUsed := s₂.slotsUsed } : State).setVm s₂.vm), Ls ++ L, c0 + mc, s0 + ms⟩,
      ⟨X.admits, X.cas, X.clock, X.frames, X.room, X.hears, X.method, X.code, (X.here.setHeapUsed s₂.heap s₂.slotsUsed).setVm hW'.alike, X.tail, State.WarmedH.trans X.warmed hW', X.limits, X.bytes, X.same.trans (hsame.setVm s.vm)⟩,
      ⟨g, mk, s₂, L, E, ce, rfl, rfl, hx, hce, hcv, hcl, rfl, hL, rfl, rfl⟩, ?_⟩
    show Steps p.tables e below _ (((({ U with heap := s₂.heap, slotsUsed := s₂.slotsUsed } : State).setVm s₂.vm).setTop g).pushFrame (.throwing q))
    rw [← hs₂]
    exact hsteps
end Payer
section Calls
variable {p : Program} {l : Launch} {e : Env} {R : Room} {s : State} {m : MethodId} {args : Array Value} {below : List Frame} {meth : Method} {c : Code} {T : State} {locs : List Loc} {cells slots : Nat}
theorem vx_callV (X : Stand p l e R s m args below meth c T locs cells slots) (hexec : p.tables.exec = Jvm.exec) {own C : String} {index : Nat} {y : MethodName} {bytes : ByteArray} {maxL : Nat} {ret : Option FieldType}
    (hown : s.vm.findClass own = some m.cls) (hlink : (Cond.methodLink own index y).before args s = true) (hinst : (Cond.instanceMethod y).before args s = true) (hsel : (Cond.selects C y y).before args s = true)
    (hcode : (Cond.code y bytes maxL ret).before args s = true) (hy : y.cls ≠ "java/lang/invoke/MethodHandle" ∧ y.cls ≠ "java/lang/invoke/VarHandle")
    {W9 : Nat} {Pre : Pt → Array Value → Prop} {Post : Pt → Array Value → Option Value → Pt → Prop} {PostX : Pt → Array Value → Addr → Pt → Prop} (hK : vx_Back l R p e below s args y 3 W9 Pre Post PostX)
    {b : Addr} {cellB : Cell} (hcell : T.heap[b]? = some cellB) (hobj : cellB.vm.isStatics = false) (hcls : s.vm.findClass C = some cellB.cls)
    {g : JFrame} (hg : g.method = m) (hsize : g.locals.size = c.maxLocals) {argsL rest : List Value} (hlen : ∀ sig, parseMethodDescriptor y.desc = some sig → argsL.length = sig.parameters.length)
    (hstack : g.stack = argsL.reverse ++ .ref b :: rest) (hW : 2 * g.monitorRoom + (rest.map fun v => v.category).sum ≤ W9) (hdg : decode c.code g.pc = .ok (.invokevirtual index, 3))
    (hpre : ∀ vm₁, s.WarmedH vm₁ → Pre ⟨T.setVm vm₁, locs, cells, slots⟩ (Value.ref b :: argsL).toArray) :
    (∃ (v : Option Value) (vm₁ : Vm) (B : Pt), s.WarmedH vm₁ ∧ Stand p l e R s m args below meth c B.U B.locs B.cells B.slots ∧ Post ⟨T.setVm vm₁, locs, cells, slots⟩ (Value.ref b :: argsL).toArray v B ∧
      ∀ target, Steps p.tables e below (B.U.setTop { g with pc := g.pc + 3, stack := v.toList ++ rest }) target → Steps p.tables e below (T.setTop g) target) ∨
    (∃ (q : Addr) (vm₁ : Vm) (B : Pt), s.WarmedH vm₁ ∧ Stand p l e R s m args below meth c B.U B.locs B.cells B.slots ∧ PostX ⟨T.setVm vm₁, locs, cells, slots⟩ (Value.ref b :: argsL).toArray q B ∧
      Steps p.tables e below (T.setTop g) ((B.U.setTop { g with stack := rest }).pushFrame (.throwing q))) := by
  obtain ⟨mk, methM, hnamed, hmethM, hstM, habM⟩ := Cond.instanceMethod_spec hinst
  obtain ⟨methM', cM, hmethM', -, -, -, -, -, -, hsigM⟩ := Cond.code_spec hnamed hcode
  cases hmethM.symm.trans hmethM'
  obtain ⟨c2, r2, m2, q1, q2, q3, q4, kP, hkP, hkPi⟩ := Cond.selects_spec hsel
  cases hcls.symm.trans q1
  cases (State.methodFound?_of_named hnamed hy).symm.trans q2
  cases hnamed.symm.trans q3
  have hselP : selectMethod e.platform s.vm cellB.cls mk = .method mk := by rw [Launch.admits_selectMethod X.admits]; exact q4
  obtain ⟨vm₁, X₁, hstep₁⟩ := X.invokevirtual hexec hown hlink hnamed hmethM hstM hkP hkPi hy (a := b) (cell := cellB) hcell
    (fun z h => by rw [h] at hobj; cases hobj) hselP hmethM habM hkP hkPi (g := g) hg (argsL := argsL) (rest := rest) (hlen _ hsigM) hstack hdg
  rcases hK m meth c ⟨T.setVm vm₁, locs, cells, slots⟩ { g with stack := rest } (.invokevirtual index) mk (Value.ref b :: argsL).toArray X₁ hg hsize hdg hW (X₁.named hnamed) (hpre vm₁ X₁.warmed) with ⟨v, B, X', hpost, hsteps⟩ | ⟨q, B, X', hpost, hsteps⟩
  · exact Or.inl ⟨v, vm₁, B, X₁.warmed, X', hpost, fun target h => hstep₁ _ fun acts => by rw [doInvoke_state]; exact hsteps.trans h⟩
  · exact Or.inr ⟨q, vm₁, B, X₁.warmed, X', hpost, hstep₁ _ fun acts => by rw [doInvoke_state]; exact hsteps⟩
theorem vx_callS (X : Stand p l e R s m args below meth c T locs cells slots) (hexec : p.tables.exec = Jvm.exec) {own : String} {index : Nat} {y : MethodName} {bytes : ByteArray} {maxL : Nat} {ret : Option FieldType}
    (hown : s.vm.findClass own = some m.cls) (hlink : (Cond.methodLink own index y).before args s = true) (hstat : (Cond.static y).before args s = true) (hinit : (Cond.initialized y.cls).before args s = true)
    (hcode : (Cond.code y bytes maxL ret).before args s = true) (hy : y.cls ≠ "java/lang/invoke/MethodHandle" ∧ y.cls ≠ "java/lang/invoke/VarHandle")
    {W9 : Nat} {Pre : Pt → Array Value → Prop} {Post : Pt → Array Value → Option Value → Pt → Prop} {PostX : Pt → Array Value → Addr → Pt → Prop} (hK : vx_Back l R p e below s args y 3 W9 Pre Post PostX)
    {g : JFrame} (hg : g.method = m) (hsize : g.locals.size = c.maxLocals) {argsL rest : List Value} (hlen : ∀ sig, parseMethodDescriptor y.desc = some sig → argsL.length = sig.parameters.length)
    (hstack : g.stack = argsL.reverse ++ rest) (hW : 2 * g.monitorRoom + (rest.map fun v => v.category).sum ≤ W9) (hdg : decode c.code g.pc = .ok (.invokestatic index, 3))
    (hpre : ∀ vm₁, s.WarmedH vm₁ → Pre ⟨T.setVm vm₁, locs, cells, slots⟩ argsL.toArray) :
    (∃ (v : Option Value) (vm₁ : Vm) (B : Pt), s.WarmedH vm₁ ∧ Stand p l e R s m args below meth c B.U B.locs B.cells B.slots ∧ Post ⟨T.setVm vm₁, locs, cells, slots⟩ argsL.toArray v B ∧
      ∀ target, Steps p.tables e below (B.U.setTop { g with pc := g.pc + 3, stack := v.toList ++ rest }) target → Steps p.tables e below (T.setTop g) target) ∨
    (∃ (q : Addr) (vm₁ : Vm) (B : Pt), s.WarmedH vm₁ ∧ Stand p l e R s m args below meth c B.U B.locs B.cells B.slots ∧ PostX ⟨T.setVm vm₁, locs, cells, slots⟩ argsL.toArray q B ∧
      Steps p.tables e below (T.setTop g) ((B.U.setTop { g with stack := rest }).pushFrame (.throwing q))) := by
  obtain ⟨mk, hnamed⟩ := Cond.code_named hcode
  obtain ⟨methM, cM, hmethM, -, -, -, -, -, -, hsigM⟩ := Cond.code_spec hnamed hcode
  have hstatic : methM.isStatic = true := Cond.static_spec hnamed hmethM hstat
  obtain ⟨kP, hkP, -⟩ := className_of_methodNamed hnamed
  have hinitP : kP.init = .initialized := Cond.initialized_spec (findClass_of_methodNamed hnamed) hkP hinit
  obtain ⟨vm₁, X₁, hstep₁⟩ := X.invokestatic hexec hown hlink hnamed hmethM hstatic hkP hinitP hy (g := g) hg (argsL := argsL) (rest := rest) (hlen _ hsigM) hstack hdg
  rcases hK m meth c ⟨T.setVm vm₁, locs, cells, slots⟩ { g with stack := rest } (.invokestatic index) mk argsL.toArray X₁ hg hsize hdg hW (X₁.named hnamed) (hpre vm₁ X₁.warmed) with ⟨v, B, X', hpost, hsteps⟩ | ⟨q, B, X', hpost, hsteps⟩
  · exact Or.inl ⟨v, vm₁, B, X₁.warmed, X', hpost, fun target h => hstep₁ _ fun acts => by rw [doInvoke_state]; exact hsteps.trans h⟩
  · exact Or.inr ⟨q, vm₁, B, X₁.warmed, X', hpost, hstep₁ _ fun acts => by rw [doInvoke_state]; exact hsteps⟩
end Calls
theorem vx_cls {s : State} {T : State} {vm₁ : Vm} {E : String} {k : ClassId} (hW : s.WarmedH vm₁) (h : (T.setVm vm₁).vm.findClass E = some k) : s.vm.findClass E = some k := by
  have h1 : vm₁.findClass E = some k := h
  rw [hW.alike.findClass] at h1
  exact h1
/-- the method's frame g, with q thrown over it -/
def vx_W (p : Program) (l : Launch) (e : Env) (R : Room) (s : State) (m : MethodId) (args : Array Value) (below : List Frame) (meth : Method) (c : Code) (H : Heap) (locs : List Loc) (cells slots : Nat) (Q : State → Prop) (g : JFrame) (q : Addr) : Prop :=
  ∀ T : State, T.heap = H → Stand p l e R s m args below meth c T locs cells slots → ∃ t, Steps p.tables e below ((T.setTop g).pushFrame (.throwing q)) t ∧ Q t
def vx_Run (p : Program) (l : Launch) (e : Env) (R : Room) (s : State) (m : MethodId) (args : Array Value) (below : List Frame) (meth : Method) (c : Code) (H : Heap) (locs : List Loc) (cells slots mc ms : Nat) (g : JFrame) (rest : List Value) (Qa : State → Outcome → State → Prop) (XC : String → State → State → Prop) (free : Addr → Prop) : Prop :=
  ∀ T : State, T.heap = H → Stand p l e R s m args below meth c T locs cells slots →
    (∃ (v : Option Value) (st₀ t T' : State) (L : List Loc), st₀.heap = H ∧ Stand p l e R s m args below meth c T' (locs ++ L) (cells + mc) (slots + ms) ∧ (∀ q ∈ L, free q.base) ∧ T'.heap = t.heap ∧ T'.vm = t.vm ∧ Qa st₀ (.returned v) t ∧
      Goes p e below T g T' { g with pc := g.pc + 3, stack := v.toList ++ rest }) ∨
    (∃ (q : Addr) (st₀ t T' : State) (L : List Loc) (E : String) (ce : Cell), st₀.heap = H ∧ Stand p l e R s m args below meth c T' (locs ++ L) (cells + mc) (slots + ms) ∧ (∀ z ∈ L, free z.base) ∧ T'.heap = t.heap ∧ T'.vm = t.vm ∧ XC E st₀ t ∧ t.heap[q]? = some ce ∧ ce.vm = .none ∧ s.vm.findClass E = some ce.cls ∧
      Steps p.tables e below (T.setTop g) ((T'.setTop { g with stack := rest }).pushFrame (.throwing q)))
def vx_X {S : Type} (px : S → Prop) (B : String → S → State → Prop) (A : Nat → Prop) : String → State → State → Prop := fun E st t => ∃ u : S, px u ∧ B E u t ∧ va_F A st t
section Runs
variable {p : Program} {l : Launch} {e : Env} {R : Room} {s : State} {m : MethodId} {args : Array Value} {below : List Frame} {meth : Method} {c : Code} {H : Heap} {locs : List Loc} {cells slots : Nat}
variable {y : MethodName} {bytes cc : ByteArray} {maxL nL mc ms n index : Nat} {ret : Option FieldType} {ws : List Cond} {rm : Room} {Pc : Array Value → State → Prop} {Qc : Array Value → State → Outcome → State → Prop} {XC : String → State → State → Prop} {free : Addr → Prop} {Ts : List Cond} {own C : String} {b : Addr} {As rest : List Value} {g : JFrame}
theorem vx_callBack (cb : CallB R s args own index y bytes maxL ret ws rm mc ms n) (hM : vx_Met l y ws rm Pc Qc XC mc ms free) (hbl : FrameBlind Pc) : vx_Back l R p e below s args y 3 8 (PreOf R mc ms Pc) (PostOf Qc mc ms free) (vx_Post XC mc ms free) := by
  obtain ⟨hrc, hrs, hfr, hlo, hws, hcw, -, hini, -⟩ := cb
  exact vx_back (bytes := bytes) (maxL := maxL) (ret := ret) hM hbl hrc hrs hfr hlo hws hcw (fun a' U hW => word_at hW (Or.inl (by first | rfl | simp [Cond.onTables, Cond.keeps, Cond.steady])) hini)
theorem vx_runV (S : CallFix p m c cc nL s args Ts own) (hM : vx_Met l y ws rm Pc Qc XC mc ms free) (cw : CallW R s args own C index y bytes maxL ret ws rm mc ms n) (hp : PreV s H C b Pc As)
    (hg : g.method = m) (hn : As.length = n) (hsize : g.locals.size = nL) (hstack : g.stack = As.reverse ++ .ref b :: rest) (hW : 2 * g.monitorRoom + (rest.map fun v => v.category).sum ≤ 8) (hdg : decode cc g.pc = .ok (.invokevirtual index, 3)) (hf : cells + mc ≤ R.cells ∧ slots + ms ≤ R.slots) :
    vx_Run p l e R s m args below meth c H locs cells slots mc ms g rest (Qc (Value.ref b :: As).toArray) XC free := by
  have hK : vx_Back l R p e below s args y 3 8 (PreOf R mc ms Pc) (PostOf Qc mc ms free) (vx_Post XC mc ms free) := vx_callBack cw.1 hM hp.1
  obtain ⟨⟨-, -, -, -, -, -, hcode, -, hy, hlen, hl⟩, hin, hse⟩ := cw
  obtain ⟨hx, hb, hml, ho, -⟩ := S
  obtain ⟨-, ⟨cellB, hcB, hoB, hclB⟩, hPc⟩ := hp
  intro T hT X
  rcases vx_callV X hx (C := C) (bytes := bytes) (maxL := maxL) (ret := ret) ho hl hin hse hcode hy hK (by rw [hT]; exact hcB) hoB hclB hg (hsize.trans hml.symm) (argsL := As) (rest := rest) (fun sig h => hn.trans (hlen sig h)) hstack hW (by rw [hb]; exact hdg)
    (fun vm₁ hW₁ => ⟨hf.1, hf.2, hPc (T.setVm vm₁) hT hW₁⟩) with ⟨v, vm₁, ⟨U', l2, c2, s2⟩, hW₁, X', ⟨g', mk, t, L, e1, e2, hq, h1, hL, h2, h3⟩, st⟩ | ⟨q, vm₁, ⟨U', l2, c2, s2⟩, hW₁, X', ⟨g', mk, t, L, E, ce, e1, e2, hq, hce, hcv, hcl, h1, hL, h2, h3⟩, st⟩
  · dsimp only [Pt.U, Pt.locs, Pt.cells, Pt.slots] at X' e1 e2 h1 h2 h3 st
    subst h1; subst h2; subst h3
    exact Or.inl ⟨v, (T.setVm vm₁).calling g' mk (Value.ref b :: As).toArray, t, U', L, hT, X', hL, e1, e2, hq, st⟩
  · dsimp only [Pt.U, Pt.locs, Pt.cells, Pt.slots] at X' e1 e2 h1 h2 h3 st hcl
    subst h1; subst h2; subst h3
    exact Or.inr ⟨q, (T.setVm vm₁).calling g' mk (Value.ref b :: As).toArray, t, U', L, E, ce, hT, X', hL, e1, e2, hq, hce, hcv, vx_cls hW₁ hcl, st⟩
theorem vx_runS (S : CallFix p m c cc nL s args Ts own) (hM : vx_Met l y ws rm Pc Qc XC mc ms free) (cw : CallB R s args own index y bytes maxL ret ws rm mc ms n ∧ (Cond.static y).before args s = true) (hp : PreS s H Pc As)
    (hg : g.method = m) (hn : As.length = n) (hsize : g.locals.size = nL) (hstack : g.stack = As.reverse ++ rest) (hW : 2 * g.monitorRoom + (rest.map fun v => v.category).sum ≤ 8) (hdg : decode cc g.pc = .ok (.invokestatic index, 3)) (hf : cells + mc ≤ R.cells ∧ slots + ms ≤ R.slots) :
    vx_Run p l e R s m args below meth c H locs cells slots mc ms g rest (Qc As.toArray) XC free := by
  have hK : vx_Back l R p e below s args y 3 8 (PreOf R mc ms Pc) (PostOf Qc mc ms free) (vx_Post XC mc ms free) := vx_callBack cw.1 hM hp.1
  obtain ⟨⟨-, -, -, -, -, -, hcode, hini, hy, hlen, hl⟩, hstt⟩ := cw
  obtain ⟨hx, hb, hml, ho, -⟩ := S
  intro T hT X
  rcases vx_callS X hx (bytes := bytes) (maxL := maxL) (ret := ret) ho hl hstt hini hcode hy hK hg (hsize.trans hml.symm) (argsL := As) (rest := rest) (fun sig h => hn.trans (hlen sig h)) hstack hW (by rw [hb]; exact hdg)
    (fun vm₁ hW₁ => ⟨hf.1, hf.2, hp.2 (T.setVm vm₁) hT hW₁⟩) with ⟨v, vm₁, ⟨U', l2, c2, s2⟩, hW₁, X', ⟨g', mk, t, L, e1, e2, hq, h1, hL, h2, h3⟩, st⟩ | ⟨q, vm₁, ⟨U', l2, c2, s2⟩, hW₁, X', ⟨g', mk, t, L, E, ce, e1, e2, hq, hce, hcv, hcl, h1, hL, h2, h3⟩, st⟩
  · dsimp only [Pt.U, Pt.locs, Pt.cells, Pt.slots] at X' e1 e2 h1 h2 h3 st
    subst h1; subst h2; subst h3
    exact Or.inl ⟨v, (T.setVm vm₁).calling g' mk As.toArray, t, U', L, hT, X', hL, e1, e2, hq, st⟩
  · dsimp only [Pt.U, Pt.locs, Pt.cells, Pt.slots] at X' e1 e2 h1 h2 h3 st hcl
    subst h1; subst h2; subst h3
    exact Or.inr ⟨q, (T.setVm vm₁).calling g' mk As.toArray, t, U', L, E, ce, hT, X', hL, e1, e2, hq, hce, hcv, vx_cls hW₁ hcl, st⟩
end Runs
section Rows
variable {p : Program} {l : Launch} {e : Env} {R : Room} {s : State} {m : MethodId} {args : Array Value} {below : List Frame} {meth : Method} {c : Code} {H : Heap} {locs : List Loc} {cells slots : Nat} {Q : State → Prop}
variable {mc ms : Nat} {free : Addr → Prop} {A0 A1 : Nat → Prop} {H0 : Heap} {a : Array Value} {pc : Nat} {ls : Array Slot} {st0 rest : List Value}
theorem vx_keep {st₀ t T' : State} {L : List Loc} (h0 : st₀.heap = H) (e1 : T'.heap = t.heap) (hS : va_S A0 H0 H locs) (hA : ∀ q, q < H.size → A1 q → A0 q) (hf : ∀ q, free q → A0 q) (hL : ∀ q ∈ L, free q.base) (hF : va_F A1 st₀ t) :
    H.size ≤ T'.heap.size ∧ (∀ q : Nat, q < H.size → ¬ A1 q → T'.heap[q]? = H[q]?) ∧ va_S A0 H0 T'.heap (locs ++ L) := by
  obtain ⟨hz, hk⟩ := hF
  rw [h0] at hz hk
  exact ⟨by rw [e1]; exact hz, fun q h1 h2 => by rw [e1]; exact hk q h1 h2,
    ⟨Nat.le_trans hS.1 (by rw [e1]; exact hz), fun q h1 h2 => by rw [e1, hk q (Nat.lt_of_lt_of_le h1 hS.1) (fun z => h2 (hA q (Nat.lt_of_lt_of_le h1 hS.1) z))]; exact hS.2.1 q h1 h2, fun q hq => by
      rcases List.mem_append.mp hq with h | h
      · exact hS.2.2 q h
      · exact hf _ (hL q h)⟩⟩
theorem vx_calli {S SX : Type} {post : Int32 → S → Prop} {px : SX → Prop} {B : S → State → Prop} {BX : String → SX → State → Prop} {AX : Nat → Prop} (hr : vx_Run p l e R s m args below meth c H locs cells slots mc ms (F0 m pc ls st0) rest (va_Qi post B A1 a) (vx_X px BX AX) free) (hS : va_S A0 H0 H locs) (hA : ∀ q, q < H.size → A1 q → A0 q) (hf : ∀ q, free q → A0 q) (hAX : ∀ q, q < H.size → AX q → A0 q)
    (kx : ∀ (E : String) (ce : Cell) (q9 : Addr) (u : SX) (t : State) (H1 : Heap) (locs1 : List Loc), t.heap = H1 → s.vm.Alike t.vm → px u → BX E u t → H.size ≤ H1.size → (∀ q : Nat, q < H.size → ¬ AX q → H1[q]? = H[q]?) → va_S A0 H0 H1 locs1 → H1[q9]? = some ce → ce.vm = .none → s.vm.findClass E = some ce.cls → vx_W p l e R s m args below meth c H1 locs1 (cells + mc) (slots + ms) Q (F0 m pc ls rest) q9)
    (kk : ∀ (r : Int32) (u : S) (t : State) (H1 : Heap) (locs1 : List Loc), t.heap = H1 → s.vm.Alike t.vm → post r u → B u t → H.size ≤ H1.size → (∀ q : Nat, q < H.size → ¬ A1 q → H1[q]? = H[q]?) → va_S A0 H0 H1 locs1 → W p l e R s m args below meth c H1 locs1 (cells + mc) (slots + ms) Q (F0 m (pc + 3) ls (.int r :: rest))) : W p l e R s m args below meth c H locs cells slots Q (F0 m pc ls st0) := by
  intro T hT X
  rcases hr T hT X with ⟨v, st₀, t, T', L, h0, X', hL, e1, e2, ⟨⟨r, u, hv, hp, hb⟩, hF⟩, st⟩ | ⟨q, st₀, t, T', L, E, ce, h0, X', hL, e1, e2, ⟨u, hp, hb, hF⟩, hce, hcv, hcl, st⟩
  · cases hv
    obtain ⟨k1, k2, k3⟩ := vx_keep h0 e1 hS hA hf hL hF
    obtain ⟨t2, a1, b1⟩ := kk r u t T'.heap (locs ++ L) e1.symm (by rw [← e2]; exact X'.warmed.alike) hp hb k1 k2 k3 T' rfl X'
    exact ⟨t2, st t2 a1, b1⟩
  · obtain ⟨k1, k2, k3⟩ := vx_keep h0 e1 hS hAX hf hL hF
    obtain ⟨t2, a1, b1⟩ := kx E ce q u t T'.heap (locs ++ L) e1.symm (by rw [← e2]; exact X'.warmed.alike) hp hb k1 k2 k3 (by rw [e1]; exact hce) hcv hcl T' rfl X'
    exact ⟨t2, st.trans a1, b1⟩
theorem vx_calll {S SX : Type} {post : Int64 → S → Prop} {px : SX → Prop} {B : S → State → Prop} {BX : String → SX → State → Prop} {AX : Nat → Prop} (hr : vx_Run p l e R s m args below meth c H locs cells slots mc ms (F0 m pc ls st0) rest (va_Ql post B A1 a) (vx_X px BX AX) free) (hS : va_S A0 H0 H locs) (hA : ∀ q, q < H.size → A1 q → A0 q) (hf : ∀ q, free q → A0 q) (hAX : ∀ q, q < H.size → AX q → A0 q)
    (kx : ∀ (E : String) (ce : Cell) (q9 : Addr) (u : SX) (t : State) (H1 : Heap) (locs1 : List Loc), t.heap = H1 → s.vm.Alike t.vm → px u → BX E u t → H.size ≤ H1.size → (∀ q : Nat, q < H.size → ¬ AX q → H1[q]? = H[q]?) → va_S A0 H0 H1 locs1 → H1[q9]? = some ce → ce.vm = .none → s.vm.findClass E = some ce.cls → vx_W p l e R s m args below meth c H1 locs1 (cells + mc) (slots + ms) Q (F0 m pc ls rest) q9)
    (kk : ∀ (r : Int64) (u : S) (t : State) (H1 : Heap) (locs1 : List Loc), t.heap = H1 → s.vm.Alike t.vm → post r u → B u t → H.size ≤ H1.size → (∀ q : Nat, q < H.size → ¬ A1 q → H1[q]? = H[q]?) → va_S A0 H0 H1 locs1 → W p l e R s m args below meth c H1 locs1 (cells + mc) (slots + ms) Q (F0 m (pc + 3) ls (.long r :: rest))) : W p l e R s m args below meth c H locs cells slots Q (F0 m pc ls st0) := by
  intro T hT X
  rcases hr T hT X with ⟨v, st₀, t, T', L, h0, X', hL, e1, e2, ⟨⟨r, u, hv, hp, hb⟩, hF⟩, st⟩ | ⟨q, st₀, t, T', L, E, ce, h0, X', hL, e1, e2, ⟨u, hp, hb, hF⟩, hce, hcv, hcl, st⟩
  · cases hv
    obtain ⟨k1, k2, k3⟩ := vx_keep h0 e1 hS hA hf hL hF
    obtain ⟨t2, a1, b1⟩ := kk r u t T'.heap (locs ++ L) e1.symm (by rw [← e2]; exact X'.warmed.alike) hp hb k1 k2 k3 T' rfl X'
    exact ⟨t2, st t2 a1, b1⟩
  · obtain ⟨k1, k2, k3⟩ := vx_keep h0 e1 hS hAX hf hL hF
    obtain ⟨t2, a1, b1⟩ := kx E ce q u t T'.heap (locs ++ L) e1.symm (by rw [← e2]; exact X'.warmed.alike) hp hb k1 k2 k3 (by rw [e1]; exact hce) hcv hcl T' rfl X'
    exact ⟨t2, st.trans a1, b1⟩
theorem vx_callf {S SX : Type} {post : UInt32 → S → Prop} {px : SX → Prop} {B : S → State → Prop} {BX : String → SX → State → Prop} {AX : Nat → Prop} (hr : vx_Run p l e R s m args below meth c H locs cells slots mc ms (F0 m pc ls st0) rest (va_Qf post B A1 a) (vx_X px BX AX) free) (hS : va_S A0 H0 H locs) (hA : ∀ q, q < H.size → A1 q → A0 q) (hf : ∀ q, free q → A0 q) (hAX : ∀ q, q < H.size → AX q → A0 q)
    (kx : ∀ (E : String) (ce : Cell) (q9 : Addr) (u : SX) (t : State) (H1 : Heap) (locs1 : List Loc), t.heap = H1 → s.vm.Alike t.vm → px u → BX E u t → H.size ≤ H1.size → (∀ q : Nat, q < H.size → ¬ AX q → H1[q]? = H[q]?) → va_S A0 H0 H1 locs1 → H1[q9]? = some ce → ce.vm = .none → s.vm.findClass E = some ce.cls → vx_W p l e R s m args below meth c H1 locs1 (cells + mc) (slots + ms) Q (F0 m pc ls rest) q9)
    (kk : ∀ (r : UInt32) (u : S) (t : State) (H1 : Heap) (locs1 : List Loc), t.heap = H1 → s.vm.Alike t.vm → post r u → B u t → H.size ≤ H1.size → (∀ q : Nat, q < H.size → ¬ A1 q → H1[q]? = H[q]?) → va_S A0 H0 H1 locs1 → W p l e R s m args below meth c H1 locs1 (cells + mc) (slots + ms) Q (F0 m (pc + 3) ls (.float r :: rest))) : W p l e R s m args below meth c H locs cells slots Q (F0 m pc ls st0) := by
  intro T hT X
  rcases hr T hT X with ⟨v, st₀, t, T', L, h0, X', hL, e1, e2, ⟨⟨r, u, hv, hp, hb⟩, hF⟩, st⟩ | ⟨q, st₀, t, T', L, E, ce, h0, X', hL, e1, e2, ⟨u, hp, hb, hF⟩, hce, hcv, hcl, st⟩
  · cases hv
    obtain ⟨k1, k2, k3⟩ := vx_keep h0 e1 hS hA hf hL hF
    obtain ⟨t2, a1, b1⟩ := kk r u t T'.heap (locs ++ L) e1.symm (by rw [← e2]; exact X'.warmed.alike) hp hb k1 k2 k3 T' rfl X'
    exact ⟨t2, st t2 a1, b1⟩
  · obtain ⟨k1, k2, k3⟩ := vx_keep h0 e1 hS hAX hf hL hF
    obtain ⟨t2, a1, b1⟩ := kx E ce q u t T'.heap (locs ++ L) e1.symm (by rw [← e2]; exact X'.warmed.alike) hp hb k1 k2 k3 (by rw [e1]; exact hce) hcv hcl T' rfl X'
    exact ⟨t2, st.trans a1, b1⟩
theorem vx_calld {S SX : Type} {post : UInt64 → S → Prop} {px : SX → Prop} {B : S → State → Prop} {BX : String → SX → State → Prop} {AX : Nat → Prop} (hr : vx_Run p l e R s m args below meth c H locs cells slots mc ms (F0 m pc ls st0) rest (va_Qd post B A1 a) (vx_X px BX AX) free) (hS : va_S A0 H0 H locs) (hA : ∀ q, q < H.size → A1 q → A0 q) (hf : ∀ q, free q → A0 q) (hAX : ∀ q, q < H.size → AX q → A0 q)
    (kx : ∀ (E : String) (ce : Cell) (q9 : Addr) (u : SX) (t : State) (H1 : Heap) (locs1 : List Loc), t.heap = H1 → s.vm.Alike t.vm → px u → BX E u t → H.size ≤ H1.size → (∀ q : Nat, q < H.size → ¬ AX q → H1[q]? = H[q]?) → va_S A0 H0 H1 locs1 → H1[q9]? = some ce → ce.vm = .none → s.vm.findClass E = some ce.cls → vx_W p l e R s m args below meth c H1 locs1 (cells + mc) (slots + ms) Q (F0 m pc ls rest) q9)
    (kk : ∀ (r : UInt64) (u : S) (t : State) (H1 : Heap) (locs1 : List Loc), t.heap = H1 → s.vm.Alike t.vm → post r u → B u t → H.size ≤ H1.size → (∀ q : Nat, q < H.size → ¬ A1 q → H1[q]? = H[q]?) → va_S A0 H0 H1 locs1 → W p l e R s m args below meth c H1 locs1 (cells + mc) (slots + ms) Q (F0 m (pc + 3) ls (.double r :: rest))) : W p l e R s m args below meth c H locs cells slots Q (F0 m pc ls st0) := by
  intro T hT X
  rcases hr T hT X with ⟨v, st₀, t, T', L, h0, X', hL, e1, e2, ⟨⟨r, u, hv, hp, hb⟩, hF⟩, st⟩ | ⟨q, st₀, t, T', L, E, ce, h0, X', hL, e1, e2, ⟨u, hp, hb, hF⟩, hce, hcv, hcl, st⟩
  · cases hv
    obtain ⟨k1, k2, k3⟩ := vx_keep h0 e1 hS hA hf hL hF
    obtain ⟨t2, a1, b1⟩ := kk r u t T'.heap (locs ++ L) e1.symm (by rw [← e2]; exact X'.warmed.alike) hp hb k1 k2 k3 T' rfl X'
    exact ⟨t2, st t2 a1, b1⟩
  · obtain ⟨k1, k2, k3⟩ := vx_keep h0 e1 hS hAX hf hL hF
    obtain ⟨t2, a1, b1⟩ := kx E ce q u t T'.heap (locs ++ L) e1.symm (by rw [← e2]; exact X'.warmed.alike) hp hb k1 k2 k3 (by rw [e1]; exact hce) hcv hcl T' rfl X'
    exact ⟨t2, st.trans a1, b1⟩
theorem vx_callv {S SX : Type} {post : S → Prop} {px : SX → Prop} {B : S → State → Prop} {BX : String → SX → State → Prop} {AX : Nat → Prop} (hr : vx_Run p l e R s m args below meth c H locs cells slots mc ms (F0 m pc ls st0) rest (va_Qv post B A1 a) (vx_X px BX AX) free) (hS : va_S A0 H0 H locs) (hA : ∀ q, q < H.size → A1 q → A0 q) (hf : ∀ q, free q → A0 q) (hAX : ∀ q, q < H.size → AX q → A0 q)
    (kx : ∀ (E : String) (ce : Cell) (q9 : Addr) (u : SX) (t : State) (H1 : Heap) (locs1 : List Loc), t.heap = H1 → s.vm.Alike t.vm → px u → BX E u t → H.size ≤ H1.size → (∀ q : Nat, q < H.size → ¬ AX q → H1[q]? = H[q]?) → va_S A0 H0 H1 locs1 → H1[q9]? = some ce → ce.vm = .none → s.vm.findClass E = some ce.cls → vx_W p l e R s m args below meth c H1 locs1 (cells + mc) (slots + ms) Q (F0 m pc ls rest) q9)
    (kk : ∀ (u : S) (t : State) (H1 : Heap) (locs1 : List Loc), t.heap = H1 → s.vm.Alike t.vm → post u → B u t → H.size ≤ H1.size → (∀ q : Nat, q < H.size → ¬ A1 q → H1[q]? = H[q]?) → va_S A0 H0 H1 locs1 → W p l e R s m args below meth c H1 locs1 (cells + mc) (slots + ms) Q (F0 m (pc + 3) ls (rest))) : W p l e R s m args below meth c H locs cells slots Q (F0 m pc ls st0) := by
  intro T hT X
  rcases hr T hT X with ⟨v, st₀, t, T', L, h0, X', hL, e1, e2, ⟨⟨u, hv, hp, hb⟩, hF⟩, st⟩ | ⟨q, st₀, t, T', L, E, ce, h0, X', hL, e1, e2, ⟨u, hp, hb, hF⟩, hce, hcv, hcl, st⟩
  · cases hv
    obtain ⟨k1, k2, k3⟩ := vx_keep h0 e1 hS hA hf hL hF
    obtain ⟨t2, a1, b1⟩ := kk u t T'.heap (locs ++ L) e1.symm (by rw [← e2]; exact X'.warmed.alike) hp hb k1 k2 k3 T' rfl X'
    exact ⟨t2, st t2 a1, b1⟩
  · obtain ⟨k1, k2, k3⟩ := vx_keep h0 e1 hS hAX hf hL hF
    obtain ⟨t2, a1, b1⟩ := kx E ce q u t T'.heap (locs ++ L) e1.symm (by rw [← e2]; exact X'.warmed.alike) hp hb k1 k2 k3 (by rw [e1]; exact hce) hcv hcl T' rfl X'
    exact ⟨t2, st.trans a1, b1⟩
/-- caught by the row x of this method's table; the rows ahead don't take it -/
theorem vx_catch {own name : String} {E : String} {ce : Cell} {q : Addr} (hown : s.vm.findClass own = some m.cls) (pre : List ExceptionTableEntry) (x : ExceptionTableEntry) (suf : List ExceptionTableEntry) (hsplit : c.exceptionTable.toList = pre ++ x :: suf)
    (hpass : ∀ z ∈ pre, covers z pc = false ∨ (z.catchType ≠ 0 ∧ ∃ nm : String, (Cond.classLink own z.catchType nm).before args s = true ∧ va_Nc E nm s)) (hx : covers x pc = true) (h0 : x.catchType ≠ 0)
    (hlink : (Cond.classLink own x.catchType name).before args s = true) (hcast : (Cond.castable E name).before args s = true) (hcell : H[q]? = some ce) (hv : ce.vm = .none) (hcl : s.vm.findClass E = some ce.cls)
    (kk : W p l e R s m args below meth c H locs cells slots Q (F0 m x.handlerPc ls [.ref q])) : vx_W p l e R s m args below meth c H locs cells slots Q (F0 m pc ls rest) q := by
  intro T hT X
  have hpl : e.platform.magicAccessors = ({} : Platform).magicAccessors := by rw [X.admits.platform]
  obtain ⟨c3, c4, hc3, hc4, hasg⟩ := Cond.castable_spec hcast
  cases Option.some.inj (hc3.symm.trans hcl)
  obtain ⟨c5, hc5, hcl5⟩ := Cond.classLink_spec hown hlink e.platform hpl
  cases Option.some.inj (hc4.symm.trans hc5)
  obtain ⟨vm', X', st⟩ := X.thenCaughtThrough q (g := F0 m pc ls rest) rfl (Steps.refl _) (by rw [hT]; exact hcell) (by rw [hv]; rfl) (by obtain ⟨k9, h9, -⟩ := Vm.findClass_spec hcl; exact ⟨k9, h9⟩) pre x suf hsplit
    (fun z hz => by
      rcases hpass z hz with h | ⟨hz0, nm, hl1, hn1⟩
      · exact Or.inl h
      · obtain ⟨c6, hc6, hcl6⟩ := Cond.classLink_spec hown hl1 e.platform hpl
        obtain ⟨a8, b8, h1, h2, h3⟩ := hn1
        cases Option.some.inj (h1.symm.trans hcl)
        cases Option.some.inj (h2.symm.trans hc6)
        exact Or.inr ⟨hz0, _, hcl6, h3⟩) hx (Or.inr ⟨h0, c4, hcl5, hasg⟩)
  obtain ⟨t, a1, b1⟩ := kk (T.setVm vm') hT X'
  exact ⟨t, st.trans a1, b1⟩
end Rows
section Ends
variable {p : Program} {l : Launch} {e : Env} {R : Room} {s : State} {m : MethodId} {args : Array Value} {below : List Frame} {meth : Method} {c : Code} {H : Heap} {locs : List Loc} {cells slots : Nat} {Q : State → Prop}
variable {mc ms : Nat} {free : Addr → Prop} {A0 A1 : Nat → Prop} {H0 : Heap} {a : Array Value} {ls : Array Slot} {st0 rest : List Value}
variable {Qc : Array Value → State → Outcome → State → Prop} {XC : String → State → State → Prop}
/-- what a body that may throw owes at its end -/
def vx_MQ (below : List Frame) (Qc : Array Value → State → Outcome → State → Prop) (XC : String → State → State → Prop) (a : Array Value) (s : State) (mc ms : Nat) (free : Addr → Prop) : State → Prop := fun t =>
  ∃ o, t.status = .running ∧ Ended t below o ∧ vx_Q Qc XC mc ms free a s o t
theorem vx_ret {g : JFrame} {mc ms : Nat} (k : W p l e R s m args below meth c H locs cells slots (MQ below Qc args s mc ms free) g) : W p l e R s m args below meth c H locs cells slots (vx_MQ below Qc XC args s mc ms free) g := by
  intro T hT X
  obtain ⟨t, a1, o, b1, b2, b3, b4⟩ := k T hT X
  exact ⟨t, a1, o, b1, b2, Or.inl ⟨b3, b4⟩⟩
/-- not caught here: it goes on to the caller -/
theorem vx_widen {g : JFrame} {q : Addr} {k n : Nat} (h1 : cells ≤ k) (h2 : slots ≤ n) (kk : vx_W p l e R s m args below meth c H locs k n Q g q) : vx_W p l e R s m args below meth c H locs cells slots Q g q := fun T hT X => kk T hT (stand_widen X h1 h2)
theorem vx_out {pc : Nat} {E : String} {ce : Cell} {q : Addr} {mc ms : Nat} (hout : ∀ x ∈ c.exceptionTable.toList, covers x pc = false) (hlocks : meth.locks = false) (hcell : H[q]? = some ce) (hv : ce.vm = .none) (hcl : s.vm.findClass E = some ce.cls)
    (hx : ∀ t : State, t.heap = H → s.vm.Alike t.vm → XC E s t) (hf : ∀ z ∈ locs, free z.base) (hc : cells ≤ mc) (hs : slots ≤ ms) :
    vx_W p l e R s m args below meth c H locs cells slots (vx_MQ below Qc XC args s mc ms free) (F0 m pc ls rest) q := by
  intro T hT X
  obtain ⟨st1, hrun, hend, hW, hsm⟩ := X.leaveThrown q (g := F0 m pc ls rest) rfl rfl rfl hout hlocks
  have hcell9 : (T.setFrames (.throwing q :: below)).heap[q]? = some ce := by
    show T.heap[q]? = some ce
    rw [hT]; exact hcell
  exact ⟨_, st1, .threw q, hrun, hend, Or.inr ⟨q, rfl, E, ce, locs, hx _ hT hW.alike, hcell9, hv, hcl, hW, hsm.mono hc hs, hf⟩⟩
theorem vx_frame {U : State} {k n : Nat} (h : s.sameButNew ({ U with vm := s.vm } : State) locs k n) : s.heap.size ≤ U.heap.size ∧ ∀ q : Nat, q < s.heap.size → (∀ z ∈ locs, z.base ≠ q) → U.heap[q]? = s.heap[q]? := by
  obtain ⟨-, h2, -, -, -, h6⟩ := h
  refine ⟨h2, fun q hq hz => ?_⟩
  obtain ⟨c9, e1, e2, e3, e4⟩ := h6 q _ (Array.getElem?_eq_getElem hq)
  have hs : c9.slots = (s.heap[q]).slots := Array.ext_getElem? fun i => e4 i fun hm => hz _ hm rfl
  have h9 : c9 = s.heap[q] := by
    rw [hs] at e2
    exact e2
  have e5 : U.heap[q]? = some c9 := e1
  rw [e5, h9, Array.getElem?_eq_getElem hq]
/-- the words of a throw but the four that speak of the heap -/
def vx_no (w : Cond) : Bool := decide (w ≠ .isRef (.static Bundle.tN "UNASSIGNED_STACK" Bundle.steD)) && decide (w ≠ .isRef (.static Bundle.tN "SUPPRESSED_SENTINEL" Bundle.listD)) && decide (w ≠ .laysStatic Bundle.tN "UNASSIGNED_STACK" Bundle.steD) && decide (w ≠ .laysStatic Bundle.tN "SUPPRESSED_SENTINEL" Bundle.listD)
def vx_at0 (own : String) (ic : Nat) (X : String) (names : List String) : List Cond := (Bundle.ownAtoms0 own ic X names).filter vx_no
def vx_atS (own : String) (ic : Nat) (X : String) (names : List String) : List Cond := (Bundle.ownAtoms own ic X names).filter vx_no
/-- a word that the tables alone decide, or a good one -/
def vx_ot (w : Cond) : Bool := w.onTables || goodWord w
theorem vx_ot_at {args a' : Array Value} {s U : State} {w : Cond} (hW : s.WarmedH U.vm) (hvm : s.vm = U.vm) (hg : vx_ot w = true) (h : w.before args s = true) : w.before a' U = true := by
  simp only [vx_ot, Bool.or_eq_true] at hg
  rcases hg with hg | hg
  · exact va_tabs hg hvm h
  · exact word_at hW (good_of_word hg) h
/-- a list's words: the good ones out of the method's own list, the others by premises of their own -/
theorem vx_hat {args : Array Value} {s : State} {L B : List Cond} (h1 : ∀ w ∈ L.filter goodWord, w.before args s = true) (h2 : ∀ w ∈ L.filter (fun w => !goodWord w), w ∈ B) (h3 : ∀ w ∈ B, w.before args s = true) : ∀ w ∈ L, w.before args s = true := by
  intro w hw
  by_cases g : goodWord w = true
  · exact h1 w (List.mem_filter.mpr ⟨hw, g⟩)
  · refine h3 w (h2 w (List.mem_filter.mpr ⟨hw, ?_⟩))
    show (!goodWord w) = true
    cases hgw : goodWord w
    · rfl
    · exact absurd hgw g
theorem vx_c {args : Array Value} {s : State} {w : Cond} {B : List Cond} (h : w.before args s = true) (t : ∀ w ∈ B, w.before args s = true) : ∀ w' ∈ w :: B, w'.before args s = true := fun w' h' => (List.mem_cons.mp h').elim (fun e => by rw [e]; exact h) (t w')
theorem vx_n {args : Array Value} {s : State} : ∀ w ∈ ([] : List Cond), w.before args s = true := fun _ h => nomatch h
theorem vx_own {args : Array Value} {s : State} {L : List Cond} (h1 : ∀ w ∈ L.filter vx_no, w.before args s = true)
    (hU : (Cond.isRef (.static Bundle.tN "UNASSIGNED_STACK" Bundle.steD)).before args s = true) (hN : (Cond.isRef (.static Bundle.tN "SUPPRESSED_SENTINEL" Bundle.listD)).before args s = true)
    (lU : (Cond.laysStatic Bundle.tN "UNASSIGNED_STACK" Bundle.steD).before args s = true) (lN : (Cond.laysStatic Bundle.tN "SUPPRESSED_SENTINEL" Bundle.listD).before args s = true) : ∀ w ∈ L, w.before args s = true := by
  intro w hw
  by_cases e1 : w = .isRef (.static Bundle.tN "UNASSIGNED_STACK" Bundle.steD)
  · rw [e1]; exact hU
  · by_cases e2 : w = .isRef (.static Bundle.tN "SUPPRESSED_SENTINEL" Bundle.listD)
    · rw [e2]; exact hN
    · by_cases e3 : w = .laysStatic Bundle.tN "UNASSIGNED_STACK" Bundle.steD
      · rw [e3]; exact lU
      · by_cases e4 : w = .laysStatic Bundle.tN "SUPPRESSED_SENTINEL" Bundle.listD
        · rw [e4]; exact lN
        · exact h1 w (List.mem_filter.mpr ⟨hw, by unfold vx_no; rw [decide_eq_true e1, decide_eq_true e2, decide_eq_true e3, decide_eq_true e4]; rfl⟩)
/-- where a static field lies, its class's statics cell in H -/
def vx_L (C n d : String) (A : Nat → Prop) (U : State) (H : Heap) : Prop := ∃ (c : ClassId) (k : Class) (i : Nat) (f : Field) (a : Nat) (cell : Cell), U.vm.findClass C = some c ∧ U.fieldFound? C n d = some (c, k, i, f) ∧ f.isStatic = true ∧ k.statics = some a ∧ H[a]? = some cell ∧ cell.vm.isStatics = true ∧ cell.cls = c ∧ f.slot < cell.slots.size ∧ k.staticTypes[f.slot]? = some f.type ∧ ¬ A a
theorem vx_L.moved {C n d : String} {A : Nat → Prop} {u U : State} {H : Heap} (hvm : u.vm.Alike U.vm) (h : vx_L C n d A u H) : vx_L C n d A U H := by
  obtain ⟨c, k, i, f, a, cell, h1, h2, h3, h4, h5, h6, h7, h8, h9, h10⟩ := h
  obtain ⟨k', hi', he⟩ := State.fieldFound?_setVm hvm h2
  exact ⟨c, k', i, f, a, cell, by rw [hvm.findClass]; exact h1, hi', h3, by rw [he]; exact h4, h5, h6, h7, h8, by rw [he]; exact h9, h10⟩
theorem vx_L.kept {C n d : String} {A : Nat → Prop} {U : State} {H H1 : Heap} (h : vx_L C n d A U H) (hq : ∀ a : Nat, a < H.size → ¬ A a → H1[a]? = H[a]?) : vx_L C n d A U H1 := by
  obtain ⟨c, k, i, f, a, cell, h1, h2, h3, h4, h5, h6, h7, h8, h9, h10⟩ := h
  exact ⟨c, k, i, f, a, cell, h1, h2, h3, h4, by rw [hq a (Array.getElem?_eq_some_iff.mp h5).1 h10]; exact h5, h6, h7, h8, h9, h10⟩
theorem vx_L.narrow {C n d : String} {A B : Nat → Prop} {U : State} {H : Heap} (h : vx_L C n d A U H) (hAB : ∀ q, B q → A q) : vx_L C n d B U H := by
  obtain ⟨c, k, i, f, a, cell, h1, h2, h3, h4, h5, h6, h7, h8, h9, h10⟩ := h
  exact ⟨c, k, i, f, a, cell, h1, h2, h3, h4, h5, h6, h7, h8, h9, fun z => h10 (hAB _ z)⟩
theorem vx_L.word {C n d : String} {A : Nat → Prop} {s : State} {args : Array Value} (h : vx_L C n d A s s.heap) : (Cond.laysStatic C n d).before args s = true := by
  obtain ⟨c, k, i, f, a, cell, h1, h2, h3, h4, h5, h6, h7, h8, h9, -⟩ := h
  show (Cond.laysStatic C n d).holds args s none s [] = true
  exact Cond.laysStatic_of h1 h2 h3 h4 h5 h6 h7 h8 h9
/-- .. and what it holds: null or some reference -/
def vx_Zq (C n d : String) (A : Nat → Prop) (U : State) (H : Heap) : Prop := va_Zq C n d A U H ∧ vx_L C n d A U H
theorem vx_Zq.moved {C n d : String} {A : Nat → Prop} {u U : State} {H : Heap} (hvm : u.vm.Alike U.vm) (h : vx_Zq C n d A u H) : vx_Zq C n d A U H := ⟨va_Zq.moved hvm h.1, vx_L.moved hvm h.2⟩
theorem vx_Zq.kept {C n d : String} {A : Nat → Prop} {U : State} {H H1 : Heap} (h : vx_Zq C n d A U H) (hq : ∀ a : Nat, a < H.size → ¬ A a → H1[a]? = H[a]?) : vx_Zq C n d A U H1 := ⟨va_Zq.kept h.1 hq, vx_L.kept h.2 hq⟩
theorem vx_Zq.narrow {C n d : String} {A B : Nat → Prop} {U : State} {H : Heap} (h : vx_Zq C n d A U H) (hAB : ∀ q, B q → A q) : vx_Zq C n d B U H := ⟨va_Zq.narrow h.1 hAB, vx_L.narrow h.2 hAB⟩
theorem vx_Zqof {args : Array Value} {s : State} {C n d : String} {A : Nat → Prop} (hl : (Cond.laysStatic C n d).before args s = true) (hini : (Cond.initialized C).before args s = true) (h : (Cond.isRef (.static C n d)).before args s = true) (hA : ∀ a : Nat, a < s.heap.size → ¬ A a) : vx_Zq C n d A s s.heap := by
  refine ⟨va_Zqof hl hini h hA, ?_⟩
  obtain ⟨c, k, i, f, a, cell, h1, h2, h3, h4, h5, h6, h7, h8, h9⟩ := Cond.laysStatic_spec hl
  exact ⟨c, k, i, f, a, cell, h1, h2, h3, h4, h5, h6, h7, h8, h9, hA a (Array.getElem?_eq_some_iff.mp h5).1⟩
theorem vx_isRef {C n d : String} {v : Value} {A : Nat → Prop} {s : State} {args : Array Value} (h : va_Z C n d v A s s.heap) (hv : v.isRef = true) : (Cond.isRef (.static C n d)).before args s = true := by
  obtain ⟨cf, kf, fi, f, a, cell, h1, h2, h3, h4, h5, h6, h7, -⟩ := h
  have he : (Term.static C n d).eval args s none [] s = some v := by
    simp [Term.eval, State.fieldNamed?, h1, h2, h4, h5, h6, h7]
  simp only [Cond.before, Cond.holds, Cond.value, he]
  cases v <;> simp_all [Value.isRef]
theorem vx_isRefq {C n d : String} {A : Nat → Prop} {s : State} {args : Array Value} (h : va_Zq C n d A s s.heap) : (Cond.isRef (.static C n d)).before args s = true := by
  rcases h with h | ⟨t, h⟩
  · exact vx_isRef h rfl
  · exact vx_isRef h rfl
/-- the same frame, seen from here: as if the method were called anew in this heap -/
theorem vx_rebase {T : State} (X : Stand p l e R s m args below meth c T locs cells slots) {R' : Room} (hf : R'.frames ≤ R.frames) (hl : R'.locals ≤ R.locals) (hc : cells + R'.cells ≤ R.cells) (hs : slots + R'.slots ≤ R.slots) :
    Stand p l e R' ((T.setVm s.vm).setFrames (.invoking m args :: below)) m args below meth c T [] 0 0 := by
  have htop : (T.setVm s.vm).topJava?.isSome := X.here.top
  have hF : ((T.setVm s.vm).setFrames (.invoking m args :: below)).frames = .invoking m args :: below := State.frames_setFrames _ (State.cur_lt_of_top htop)
  obtain ⟨g₀, hg0⟩ := Option.isSome_iff_exists.mp htop
  obtain ⟨r, hr⟩ := State.topJava?_eq_some.mp hg0
  have hl9 : e.platform.stackLimits (T.setVm s.vm).me = e.platform.stackLimits s.me := X.limits
  have hb9 : (T.setVm s.vm).me.stackBytes = s.me.stackBytes := X.bytes
  refine ⟨X.admits, X.cas, X.clock, hF, ?_, X.hears, X.method, X.code, X.here, X.tail, X.warmed, ?_, ?_, ?_⟩
  · have h := X.room
    have hU : ((T.setVm s.vm).setFrames (.invoking m args :: below)).localsInUse = s.localsInUse := by
      rw [State.localsInUse_invoking hF (meth := meth) (c := c) X.method X.code, State.localsInUse_invoking X.frames X.method X.code]
    simp only [State.hasRoom, Bool.and_eq_true, decide_eq_true_eq] at h ⊢
    obtain ⟨⟨⟨⟨h1, h2, h3, h4, h5, h6⟩, h7⟩, h8⟩, h9⟩ := h
    rw [X.frames, List.length_cons] at h2 h3
    have q1 := X.heapSize
    have q2 := X.used
    simp only [hF, hU, List.length_cons, State.stackLimits_setFrames, State.stackBytes_setFrames, hl9, hb9]
    refine ⟨⟨⟨⟨by omega, by omega, by omega, by omega, by omega, h6⟩, ?_⟩, ?_⟩, X.book⟩
    · show T.heap.size + R'.cells ≤ e.platform.maxCells
      omega
    · show T.slotsUsed + R'.slots ≤ e.platform.maxSlots
      omega
  · rw [State.stackLimits_setFrames]; rfl
  · rw [State.stackBytes_setFrames]; rfl
  · refine ⟨?_, Nat.le_refl _, Nat.le_refl _, ?_, ?_, fun a c9 h9 => ⟨c9, h9, rfl, rfl, fun _ _ => rfl⟩⟩
    · obtain ⟨t, ht, -⟩ := State.frames_cons hr
      show T.setVm s.vm = { ((T.setVm s.vm).setFrames (.invoking m args :: below)).setFrames (T.setVm s.vm).frames with heap := T.heap, slotsUsed := T.slotsUsed }
      rw [State.setFrames_setFrames, State.setFrames_self ht]
      rfl
    · show T.slotsUsed = T.slotsUsed + ((T.heap.toList.drop T.heap.size).map (·.slots.size)).sum
      rw [List.drop_eq_nil_of_le (Nat.le_of_eq Array.length_toList)]
      rfl
    · show ((T.heap.toList.drop T.heap.size).map (·.slots.size)).sum ≤ 0
      rw [List.drop_eq_nil_of_le (Nat.le_of_eq Array.length_toList)]
      exact Nat.le_refl _
/-- 'throw new E()': new; dup; invokespecial; athrow -/
theorem vx_throw0 {cc : ByteArray} {pc : Nat} (hexec : p.tables.exec = Jvm.exec) (hb : c.code = cc) (hl : l.stackTraces = false) {own cls : String} {names : List String} {ik ic mc ms : Nat} {A : Nat → Prop}
    (hown : s.vm.findClass own = some m.cls) (hcls : Bundle.fit cls = true) (hnames : ∀ n ∈ names, Bundle.fit n = true)
    (hk : (Cond.classLink own ik cls).before args s = true) (hini : (Cond.initialized cls).before args s = true) (hat : ∀ w ∈ vx_at0 own ic cls names, w.before args s = true)
    (hgood : ∀ w ∈ Cond.classLink own ik cls :: Cond.initialized cls :: vx_at0 own ic cls names, vx_ot w = true)
    (hU : vx_Zq Bundle.tN "UNASSIGNED_STACK" Bundle.steD A s s.heap) (hN : vx_Zq Bundle.tN "SUPPRESSED_SENTINEL" Bundle.listD A s s.heap) (hS : va_S A s.heap H locs) (hsize : ls.size = c.maxLocals)
    (d0 : decode cc pc = .ok (.new ik, 3)) (d3 : decode cc (pc + 3) = .ok (.dup, 1)) (d4 : decode cc (pc + 4) = .ok (.invokespecial ic, 3)) (d7 : decode cc (pc + 7) = .ok (.athrow, 1))
    (hout : ∀ x ∈ c.exceptionTable.toList, covers x (pc + 7) = false)
    (hRframes : names.length + 3 < R.frames) (hRlocals : (rest.map fun v => v.category).sum + (13 * (names.length + 1) + 42) ≤ R.locals) (hRcells : cells + 1 ≤ R.cells) (hRslots : slots + 6 ≤ R.slots) (hlocks : meth.locks = false)
    (hx : ∀ t : State, s.vm.Alike t.vm → H.size ≤ t.heap.size → (∀ q : Nat, q < H.size → t.heap[q]? = H[q]?) → XC cls s t)
    (hf : ∀ z ∈ locs, free z.base) (hc : cells + 1 ≤ mc) (hs : slots + 6 ≤ ms) :
    W p l e R s m args below meth c H locs cells slots (vx_MQ below Qc XC args s mc ms free) (F0 m pc ls rest) := by
  intro T hT X
  have htr : e.platform.stackTraces = false := (show e.platform.stackTraces = l.stackTraces by rw [X.admits.platform]).trans hl
  have Y := vx_rebase X (R' := { frames := R.frames, locals := R.locals, cells := 1, slots := 6 }) (Nat.le_refl _) (Nat.le_refl _) hRcells hRslots
  obtain ⟨s', hA⟩ : ∃ z, z = (T.setVm s.vm).setFrames (.invoking m args :: below) := ⟨_, rfl⟩
  rw [← hA] at Y
  have hvm : s'.vm = s.vm := by rw [hA]; rfl
  have hhp : s'.heap = H := by rw [hA]; exact hT
  have hW0 : s.WarmedH s'.vm := by rw [hvm]; exact State.WarmedH.refl s
  have hat' : ∀ w ∈ vx_at0 own ic cls names, w.before args s' = true := fun w hw => vx_ot_at hW0 hvm.symm (hgood w (List.mem_cons_of_mem _ (List.mem_cons_of_mem _ hw))) (hat w hw)
  have hk' : (Cond.classLink own ik cls).before args s' = true := vx_ot_at hW0 hvm.symm (hgood _ List.mem_cons_self) hk
  have hini' : (Cond.initialized cls).before args s' = true := vx_ot_at hW0 hvm.symm (hgood _ (List.mem_cons_of_mem _ List.mem_cons_self)) hini
  have hU' : vx_Zq Bundle.tN "UNASSIGNED_STACK" Bundle.steD A s' s'.heap := by rw [hhp]; exact vx_Zq.moved hW0.alike (hU.kept hS.2.1)
  have hN' : vx_Zq Bundle.tN "SUPPRESSED_SENTINEL" Bundle.listD A s' s'.heap := by rw [hhp]; exact vx_Zq.moved hW0.alike (hN.kept hS.2.1)
  have h : ∀ w ∈ Bundle.ownAtoms0 own ic cls names, w.before args s' = true := vx_own hat' (vx_isRefq hU'.1) (vx_isRefq hN'.1) hU'.2.word hN'.2.word
  have hown' : s'.vm.findClass own = some m.cls := by rw [hvm]; exact hown
  have hins : (Cond.instantiable cls 6).before args s' = true := h _ (by simp [Bundle.ownAtoms0])
  obtain ⟨vm₁, cX, kX, hfX, hkX, -, -, X₁, st1⟩ := Y.newCold hexec (own := own) (C := cls) (index := ik) (n := 6) hown' hk' hins hini'
    (g := F0 m pc ls rest) rfl (by rw [hb]; exact d0) (Nat.le_refl _) (Nat.le_refl _)
  generalize hT1 : (T.setVm vm₁).pushCell { cls := cX, slots := kX.instanceTypes.map defaultValue, vm := .none } = T1 at X₁ st1
  have hcat : (Value.ref T.heap.size).category = 1 := rfl
  have hcellA : T1.heap[T.heap.size]? = some (freshCell cX kX) := by rw [← hT1]; exact State.heap_pushCell_size _ _
  have d3' : decode c.code (pc + 3) = .ok (.dup, 1) := by rw [hb]; exact d3
  obtain ⟨U, hsteps, hrun, hend, hW, hsame, ce, hce, hO⟩ := X₁.ctorThrow0 hexec htr (own := own) (cls := cls) (names := names) (ic := ic) hown' hcls hnames h (fun x hx => nomatch hx) hfX hkX hcellA (by rw [hhp, hT]; exact Nat.le_refl _)
    (g := { method := m, pc := pc + 4, locals := ls, stack := .ref T.heap.size :: .ref T.heap.size :: rest, locked := none }) rfl hsize rfl rfl (rest := rest) rfl
    (by rw [hb]; exact d4) (by rw [hb]; exact d7) hout hRframes (by simp only [List.map_cons, List.sum_cons, hcat]; omega) hlocks
  obtain ⟨f1, f2⟩ := vx_frame hsame
  rw [hhp] at f1 f2
  have hWs : s.WarmedH U.vm := State.WarmedH.trans hW0 hW
  have hcl : s.vm.findClass cls = some ce.cls := by
    have h9 := hO.cls
    rw [hvm] at h9
    exact h9
  have hall : s.sameButNew ({ U with vm := s.vm } : State) locs mc ms := by
    subst hA
    obtain ⟨e1, e2⟩ := hsame
    rw [State.setFrames_setFrames] at e1
    have h2 : (T.setVm s.vm).sameButNew ({ U with vm := s.vm } : State) [] (0 + 1) (0 + 6) := ⟨e1, e2⟩
    have h3 := X.same.trans h2
    rw [List.append_nil] at h3
    exact h3.mono hc hs
  refine ⟨U, ?_, .threw T.heap.size, hrun, hend, Or.inr ⟨T.heap.size, rfl, cls, ce, locs, hx U hWs.alike f1 (fun q hq => f2 q hq (fun z hz => nomatch hz)), hce, hO.vm, hcl, hWs, hall, hf⟩⟩
  refine st1 _ ?_
  show Steps p.tables e below (T1.setTop { method := m, pc := pc + 3, locals := ls, stack := .ref T.heap.size :: rest, locked := none }) _
  jvm_step X₁.here [X₁.here.top, hexec, d3', Value.category]
  exact hsteps
/-- 'throw new E("text")': new; dup; ldc; invokespecial; athrow -/
theorem vx_throwS {cc : ByteArray} {pc : Nat} (hexec : p.tables.exec = Jvm.exec) (hb : c.code = cc) (hl : l.stackTraces = false) {own cls text : String} {names : List String} {ik is ic mc ms sa : Nat} {A : Nat → Prop}
    (hown : s.vm.findClass own = some m.cls) (hcls : Bundle.fit cls = true) (hnames : ∀ n ∈ names, Bundle.fit n = true)
    (hk : (Cond.classLink own ik cls).before args s = true) (hini : (Cond.initialized cls).before args s = true) (hstr : vk_R own is text sa s) (hat : ∀ w ∈ vx_atS own ic cls names, w.before args s = true)
    (hgood : ∀ w ∈ Cond.classLink own ik cls :: Cond.initialized cls :: vx_atS own ic cls names, vx_ot w = true)
    (hU : vx_Zq Bundle.tN "UNASSIGNED_STACK" Bundle.steD A s s.heap) (hN : vx_Zq Bundle.tN "SUPPRESSED_SENTINEL" Bundle.listD A s s.heap) (hS : va_S A s.heap H locs) (hsize : ls.size = c.maxLocals)
    (d0 : decode cc pc = .ok (.new ik, 3)) (d3 : decode cc (pc + 3) = .ok (.dup, 1)) (d4 : decode cc (pc + 4) = .ok (.ldc is, 2)) (d6 : decode cc (pc + 6) = .ok (.invokespecial ic, 3)) (d9 : decode cc (pc + 9) = .ok (.athrow, 1))
    (hout : ∀ x ∈ c.exceptionTable.toList, covers x (pc + 9) = false)
    (hRframes : names.length + 3 < R.frames) (hRlocals : (rest.map fun v => v.category).sum + (13 * (names.length + 1) + 43) ≤ R.locals) (hRcells : cells + 1 ≤ R.cells) (hRslots : slots + 6 ≤ R.slots) (hlocks : meth.locks = false)
    (hx : ∀ t : State, s.vm.Alike t.vm → H.size ≤ t.heap.size → (∀ q : Nat, q < H.size → t.heap[q]? = H[q]?) → XC cls s t)
    (hf : ∀ z ∈ locs, free z.base) (hc : cells + 1 ≤ mc) (hs : slots + 6 ≤ ms) :
    W p l e R s m args below meth c H locs cells slots (vx_MQ below Qc XC args s mc ms free) (F0 m pc ls rest) := by
  intro T hT X
  have htr : e.platform.stackTraces = false := (show e.platform.stackTraces = l.stackTraces by rw [X.admits.platform]).trans hl
  have Y := vx_rebase X (R' := { frames := R.frames, locals := R.locals, cells := 1, slots := 6 }) (Nat.le_refl _) (Nat.le_refl _) hRcells hRslots
  obtain ⟨s', hA⟩ : ∃ z, z = (T.setVm s.vm).setFrames (.invoking m args :: below) := ⟨_, rfl⟩
  rw [← hA] at Y
  have hvm : s'.vm = s.vm := by rw [hA]; rfl
  have hhp : s'.heap = H := by rw [hA]; exact hT
  have hW0 : s.WarmedH s'.vm := by rw [hvm]; exact State.WarmedH.refl s
  have hat' : ∀ w ∈ vx_atS own ic cls names, w.before args s' = true := fun w hw => vx_ot_at hW0 hvm.symm (hgood w (List.mem_cons_of_mem _ (List.mem_cons_of_mem _ hw))) (hat w hw)
  have hk' : (Cond.classLink own ik cls).before args s' = true := vx_ot_at hW0 hvm.symm (hgood _ List.mem_cons_self) hk
  have hini' : (Cond.initialized cls).before args s' = true := vx_ot_at hW0 hvm.symm (hgood _ (List.mem_cons_of_mem _ List.mem_cons_self)) hini
  have hU' : vx_Zq Bundle.tN "UNASSIGNED_STACK" Bundle.steD A s' s'.heap := by rw [hhp]; exact vx_Zq.moved hW0.alike (hU.kept hS.2.1)
  have hN' : vx_Zq Bundle.tN "SUPPRESSED_SENTINEL" Bundle.listD A s' s'.heap := by rw [hhp]; exact vx_Zq.moved hW0.alike (hN.kept hS.2.1)
  have h : ∀ w ∈ Bundle.ownAtoms own ic cls names, w.before args s' = true := vx_own hat' (vx_isRefq hU'.1) (vx_isRefq hN'.1) hU'.2.word hN'.2.word
  have hown' : s'.vm.findClass own = some m.cls := by rw [hvm]; exact hown
  have hins : (Cond.instantiable cls 6).before args s' = true := h _ (by simp [Bundle.ownAtoms])
  obtain ⟨vm₁, cX, kX, hfX, hkX, -, -, X₁, st1⟩ := Y.newCold hexec (own := own) (C := cls) (index := ik) (n := 6) hown' hk' hins hini'
    (g := F0 m pc ls rest) rfl (by rw [hb]; exact d0) (Nat.le_refl _) (Nat.le_refl _)
  generalize hT1 : (T.setVm vm₁).pushCell { cls := cX, slots := kX.instanceTypes.map defaultValue, vm := .none } = T1 at X₁ st1
  have hcat : (Value.ref T.heap.size).category = 1 := rfl
  have hcellA : T1.heap[T.heap.size]? = some (freshCell cX kX) := by rw [← hT1]; exact State.heap_pushCell_size _ _
  have d3' : decode c.code (pc + 3) = .ok (.dup, 1) := by rw [hb]; exact d3
  have d4' : decode c.code (pc + 4) = .ok (.ldc is, 2) := by rw [hb]; exact d4
  have hstr' : vk_R own is text sa s' := vk_R.warm hW0 hstr
  obtain ⟨U, hsteps, hrun, hend, hW, hsame, ce, hce, hO⟩ := X₁.ctorThrowS hexec htr (own := own) (cls := cls) (names := names) (ic := ic) hown' hcls hnames h (fun x hx => nomatch hx) hfX hkX hcellA (by rw [hhp, hT]; exact Nat.le_refl _) (msg := .ref sa) rfl
    (g := { method := m, pc := pc + 6, locals := ls, stack := .ref sa :: .ref T.heap.size :: .ref T.heap.size :: rest, locked := none }) rfl hsize rfl rfl (rest := rest) rfl
    (by rw [hb]; exact d6) (by rw [hb]; exact d9) hout hRframes (by simp only [List.map_cons, List.sum_cons, hcat]; omega) hlocks
  obtain ⟨f1, f2⟩ := vx_frame hsame
  rw [hhp] at f1 f2
  have hWs : s.WarmedH U.vm := State.WarmedH.trans hW0 hW
  have hcl : s.vm.findClass cls = some ce.cls := by
    have h9 := hO.cls
    rw [hvm] at h9
    exact h9
  have hall : s.sameButNew ({ U with vm := s.vm } : State) locs mc ms := by
    subst hA
    obtain ⟨e1, e2⟩ := hsame
    rw [State.setFrames_setFrames] at e1
    have h2 : (T.setVm s.vm).sameButNew ({ U with vm := s.vm } : State) [] (0 + 1) (0 + 6) := ⟨e1, e2⟩
    have h3 := X.same.trans h2
    rw [List.append_nil] at h3
    exact h3.mono hc hs
  refine ⟨U, ?_, .threw T.heap.size, hrun, hend, Or.inr ⟨T.heap.size, rfl, cls, ce, locs, hx U hWs.alike f1 (fun q hq => f2 q hq (fun z hz => nomatch hz)), hce, hO.vm, hcl, hWs, hall, hf⟩⟩
  refine st1 _ ?_
  show Steps p.tables e below (T1.setTop { method := m, pc := pc + 3, locals := ls, stack := .ref T.heap.size :: rest, locked := none }) _
  jvm_step X₁.here [X₁.here.top, hexec, d3', Value.category]
  exact X₁.ldcString hexec (own := own) (text := text) (index := is) (a := sa) hown' hstr'.1 hstr'.2
    (g := { method := m, pc := pc + 4, locals := ls, stack := .ref T.heap.size :: .ref T.heap.size :: rest, locked := none }) rfl d4' _ hsteps
/-- 'throw new E("text")', the text by a wide index -/
theorem vx_throwSW {cc : ByteArray} {pc : Nat} (hexec : p.tables.exec = Jvm.exec) (hb : c.code = cc) (hl : l.stackTraces = false) {own cls text : String} {names : List String} {ik is ic mc ms sa : Nat} {A : Nat → Prop}
    (hown : s.vm.findClass own = some m.cls) (hcls : Bundle.fit cls = true) (hnames : ∀ n ∈ names, Bundle.fit n = true)
    (hk : (Cond.classLink own ik cls).before args s = true) (hini : (Cond.initialized cls).before args s = true) (hstr : vk_R own is text sa s) (hat : ∀ w ∈ vx_atS own ic cls names, w.before args s = true)
    (hgood : ∀ w ∈ Cond.classLink own ik cls :: Cond.initialized cls :: vx_atS own ic cls names, vx_ot w = true)
    (hU : vx_Zq Bundle.tN "UNASSIGNED_STACK" Bundle.steD A s s.heap) (hN : vx_Zq Bundle.tN "SUPPRESSED_SENTINEL" Bundle.listD A s s.heap) (hS : va_S A s.heap H locs) (hsize : ls.size = c.maxLocals)
    (d0 : decode cc pc = .ok (.new ik, 3)) (d3 : decode cc (pc + 3) = .ok (.dup, 1)) (d4 : decode cc (pc + 4) = .ok (.ldc_w is, 3)) (d7 : decode cc (pc + 7) = .ok (.invokespecial ic, 3)) (d10 : decode cc (pc + 10) = .ok (.athrow, 1))
    (hout : ∀ x ∈ c.exceptionTable.toList, covers x (pc + 10) = false)
    (hRframes : names.length + 3 < R.frames) (hRlocals : (rest.map fun v => v.category).sum + (13 * (names.length + 1) + 43) ≤ R.locals) (hRcells : cells + 1 ≤ R.cells) (hRslots : slots + 6 ≤ R.slots) (hlocks : meth.locks = false)
    (hx : ∀ t : State, s.vm.Alike t.vm → H.size ≤ t.heap.size → (∀ q : Nat, q < H.size → t.heap[q]? = H[q]?) → XC cls s t)
    (hf : ∀ z ∈ locs, free z.base) (hc : cells + 1 ≤ mc) (hs : slots + 6 ≤ ms) :
    W p l e R s m args below meth c H locs cells slots (vx_MQ below Qc XC args s mc ms free) (F0 m pc ls rest) := by
  intro T hT X
  have htr : e.platform.stackTraces = false := (show e.platform.stackTraces = l.stackTraces by rw [X.admits.platform]).trans hl
  have Y := vx_rebase X (R' := { frames := R.frames, locals := R.locals, cells := 1, slots := 6 }) (Nat.le_refl _) (Nat.le_refl _) hRcells hRslots
  obtain ⟨s', hA⟩ : ∃ z, z = (T.setVm s.vm).setFrames (.invoking m args :: below) := ⟨_, rfl⟩
  rw [← hA] at Y
  have hvm : s'.vm = s.vm := by rw [hA]; rfl
  have hhp : s'.heap = H := by rw [hA]; exact hT
  have hW0 : s.WarmedH s'.vm := by rw [hvm]; exact State.WarmedH.refl s
  have hat' : ∀ w ∈ vx_atS own ic cls names, w.before args s' = true := fun w hw => vx_ot_at hW0 hvm.symm (hgood w (List.mem_cons_of_mem _ (List.mem_cons_of_mem _ hw))) (hat w hw)
  have hk' : (Cond.classLink own ik cls).before args s' = true := vx_ot_at hW0 hvm.symm (hgood _ List.mem_cons_self) hk
  have hini' : (Cond.initialized cls).before args s' = true := vx_ot_at hW0 hvm.symm (hgood _ (List.mem_cons_of_mem _ List.mem_cons_self)) hini
  have hU' : vx_Zq Bundle.tN "UNASSIGNED_STACK" Bundle.steD A s' s'.heap := by rw [hhp]; exact vx_Zq.moved hW0.alike (hU.kept hS.2.1)
  have hN' : vx_Zq Bundle.tN "SUPPRESSED_SENTINEL" Bundle.listD A s' s'.heap := by rw [hhp]; exact vx_Zq.moved hW0.alike (hN.kept hS.2.1)
  have h : ∀ w ∈ Bundle.ownAtoms own ic cls names, w.before args s' = true := vx_own hat' (vx_isRefq hU'.1) (vx_isRefq hN'.1) hU'.2.word hN'.2.word
  have hown' : s'.vm.findClass own = some m.cls := by rw [hvm]; exact hown
  have hins : (Cond.instantiable cls 6).before args s' = true := h _ (by simp [Bundle.ownAtoms])
  obtain ⟨vm₁, cX, kX, hfX, hkX, -, -, X₁, st1⟩ := Y.newCold hexec (own := own) (C := cls) (index := ik) (n := 6) hown' hk' hins hini'
    (g := F0 m pc ls rest) rfl (by rw [hb]; exact d0) (Nat.le_refl _) (Nat.le_refl _)
  generalize hT1 : (T.setVm vm₁).pushCell { cls := cX, slots := kX.instanceTypes.map defaultValue, vm := .none } = T1 at X₁ st1
  have hcat : (Value.ref T.heap.size).category = 1 := rfl
  have hcellA : T1.heap[T.heap.size]? = some (freshCell cX kX) := by rw [← hT1]; exact State.heap_pushCell_size _ _
  have d3' : decode c.code (pc + 3) = .ok (.dup, 1) := by rw [hb]; exact d3
  have d4' : decode c.code (pc + 4) = .ok (.ldc_w is, 3) := by rw [hb]; exact d4
  have hstr' : vk_R own is text sa s' := vk_R.warm hW0 hstr
  obtain ⟨U, hsteps, hrun, hend, hW, hsame, ce, hce, hO⟩ := X₁.ctorThrowS hexec htr (own := own) (cls := cls) (names := names) (ic := ic) hown' hcls hnames h (fun x hx => nomatch hx) hfX hkX hcellA (by rw [hhp, hT]; exact Nat.le_refl _) (msg := .ref sa) rfl
    (g := { method := m, pc := pc + 7, locals := ls, stack := .ref sa :: .ref T.heap.size :: .ref T.heap.size :: rest, locked := none }) rfl hsize rfl rfl (rest := rest) rfl
    (by rw [hb]; exact d7) (by rw [hb]; exact d10) hout hRframes (by simp only [List.map_cons, List.sum_cons, hcat]; omega) hlocks
  obtain ⟨f1, f2⟩ := vx_frame hsame
  rw [hhp] at f1 f2
  have hWs : s.WarmedH U.vm := State.WarmedH.trans hW0 hW
  have hcl : s.vm.findClass cls = some ce.cls := by
    have h9 := hO.cls
    rw [hvm] at h9
    exact h9
  have hall : s.sameButNew ({ U with vm := s.vm } : State) locs mc ms := by
    subst hA
    obtain ⟨e1, e2⟩ := hsame
    rw [State.setFrames_setFrames] at e1
    have h2 : (T.setVm s.vm).sameButNew ({ U with vm := s.vm } : State) [] (0 + 1) (0 + 6) := ⟨e1, e2⟩
    have h3 := X.same.trans h2
    rw [List.append_nil] at h3
    exact h3.mono hc hs
  refine ⟨U, ?_, .threw T.heap.size, hrun, hend, Or.inr ⟨T.heap.size, rfl, cls, ce, locs, hx U hWs.alike f1 (fun q hq => f2 q hq (fun z hz => nomatch hz)), hce, hO.vm, hcl, hWs, hall, hf⟩⟩
  refine st1 _ ?_
  show Steps p.tables e below (T1.setTop { method := m, pc := pc + 3, locals := ls, stack := .ref T.heap.size :: rest, locked := none }) _
  jvm_step X₁.here [X₁.here.top, hexec, d3', Value.category]
  exact X₁.ldcStringW hexec (own := own) (text := text) (index := is) (a := sa) hown' hstr'.1 hstr'.2
    (g := { method := m, pc := pc + 4, locals := ls, stack := .ref T.heap.size :: .ref T.heap.size :: rest, locked := none }) rfl d4' _ hsteps
end Ends
section Bodies
variable {l : Launch}
theorem vx_ofW {y : MethodName} {ws ws' : List Cond} {rm : Room} {Pc : Array Value → State → Prop} {Qc : Array Value → State → Outcome → State → Prop} {XC : String → State → State → Prop} {mc ms : Nat} {free : Addr → Prop} {cc : ByteArray} {maxL : Nat} {ret : Option FieldType}
    (hy : plainName y.cls = true) (hw : ws = Cond.code y cc maxL ret :: ws')
    (body : ∀ p e s m args below meth c s₁, BodyLoose p l y (headSpec ws rm) cc maxL ret e s m args below meth c s₁ → c.maxLocals = maxL → (∀ x ∈ c.exceptionTable.toList, False) → Pc args s →
      W p l e (headSpec ws rm).room s m args below meth c s.heap [] 0 0 (vx_MQ below Qc XC args s mc ms free) (entryFrame m args maxL)) : vx_Met l y ws rm Pc Qc XC mc ms free := by
  refine MetFree.of_bodyS (code := cc) (maxLocals := maxL) (ret := ret) hy ?_ ?_
  · intro args s m h hn
    obtain ⟨meth, c, h1, h2, h3, h4, h5, h6, -, -⟩ := Cond.code_spec hn (atoms_spec (ws := ws) h _ (by rw [hw]; exact List.mem_cons_self))
    exact ⟨meth, c, h1, h2, h3, h4, h5, h6⟩
  · intro p e s m args below meth c s₁ B hml hP _
    have hh0 : s₁.heap = s.heap := by rw [B.state]; rfl
    have ht : ∀ x ∈ c.exceptionTable.toList, False := by
      obtain ⟨meth9, c9, h1, h2, -, -, -, -, h7, -⟩ := Cond.code_spec B.named (atoms_spec (ws := ws) B.pre _ (by rw [hw]; exact List.mem_cons_self))
      cases Option.some.inj (h1.symm.trans B.method)
      cases Option.some.inj (h2.symm.trans (Stand.of_body B).code)
      intro x hx
      rw [Array.isEmpty_iff.mp h7] at hx
      cases hx
    obtain ⟨t, a1, o, b1, b2, b3⟩ := body p e s m args below meth c s₁ B hml ht hP s₁ hh0 (Stand.of_body B)
    exact ⟨t, o, a1, b1, b2, b3⟩
/-- the table of a body with handlers -/
theorem vx_table {p : Program} {x y : MethodName} {S : Spec} {cc bytes : ByteArray} {maxL maxL' : Nat} {ret ret' : Option FieldType} {e : Env} {s s₁ : State} {m : MethodId} {args : Array Value} {below : List Frame} {meth : Method} {c : Code} {hh : List (Nat × Nat × Nat × Nat)}
    (B : BodyLoose p l y S cc maxL ret e s m args below meth c s₁) (h : (Cond.codeWith y bytes maxL' ret' hh).before args s = true) : c.exceptionTable.toList = tableOf hh := by
  obtain ⟨m9, meth9, c9, hn9, h1, h2, -, -, h6, -⟩ := Cond.codeWith_spec h
  cases Option.some.inj (hn9.symm.trans B.named)
  cases Option.some.inj (h1.symm.trans B.method)
  cases Option.some.inj (h2.symm.trans (Stand.of_body B).code)
  rw [← h6, table_eq]
end Bodies
end VXA
/-! ===== END ===== -/
/-! ===== BEGIN a static call of a method with an exception table ===== -/
section VXS
variable {p : Program} {l : Launch} {e : Env} {R : Room} {s : State} {m : MethodId} {args : Array Value} {below : List Frame} {meth : Method} {c : Code} {T : State} {H : Heap} {locs : List Loc} {cells slots : Nat}
abbrev vx_CSW (R : Room) (s : State) (args : Array Value) (own : String) (index : Nat) (y : MethodName) (bytes : ByteArray) (maxL : Nat) (ret : Option FieldType) (hh : List (Nat × Nat × Nat × Nat)) (ws : List Cond) (rm : Room) (mc ms n : Nat) : Prop :=
  (rm.cells = mc ∧ rm.slots = ms ∧ rm.frames + 1 ≤ R.frames ∧ 8 + (maxL + 11) + rm.locals ≤ R.locals ∧ (∀ w ∈ ws, ∀ (a' : Array Value) (U : State), s.WarmedH U.vm → w.before a' U = true) ∧ Cond.codeWith y bytes maxL ret hh ∈ ws) ∧
  (Cond.codeWith y bytes maxL ret hh).before args s = true ∧ (Cond.initialized y.cls).before args s = true ∧ (y.cls ≠ "java/lang/invoke/MethodHandle" ∧ y.cls ≠ "java/lang/invoke/VarHandle") ∧
  (∀ sig, parseMethodDescriptor y.desc = some sig → n = sig.parameters.length) ∧ (Cond.methodLink own index y).before args s = true ∧ (Cond.static y).before args s = true
theorem vx_cwSW {own : String} {index maxL mc ms : Nat} {y : MethodName} {bytes : ByteArray} {ret : Option FieldType} {hh : List (Nat × Nat × Nat × Nat)} {Ts ws ws' : List Cond} {rm : Room} (n : Nat) (ht : ∀ w ∈ Ts, w.before args s = true) (hT : GoodIn Ts (va_wsS own index y ws)) (hw : ws = Cond.codeWith y bytes maxL ret hh :: ws') (hrc : rm.cells = mc) (hrs : rm.slots = ms)
    (hd : y.cls ≠ "java/lang/invoke/MethodHandle" ∧ y.cls ≠ "java/lang/invoke/VarHandle" ∧ (parseMethodDescriptor y.desc).map (fun d => d.parameters.length) = some n) (hR : rm.frames + 1 ≤ R.frames ∧ 8 + (maxL + 11) + rm.locals ≤ R.locals) :
    vx_CSW R s args own index y bytes maxL ret hh ws rm mc ms n := by
  have ok : ∀ w ∈ va_wsS own index y ws, w.before args s = true := fun w h => ht w (hT w h).1
  have hG : GoodIn Ts ws := fun w h => hT w (by unfold va_wsS; exact List.mem_append_right _ h)
  have hc : Cond.codeWith y bytes maxL ret hh ∈ ws := by rw [hw]; exact List.mem_cons_self
  refine ⟨⟨hrc, hrs, hR.1, hR.2, pay_in ht hG, hc⟩, ht _ (hG _ hc).1, ok _ (by simp [va_wsS]), ⟨hd.1, hd.2.1⟩, fun sig h => ?_, ok _ (by simp [va_wsS]), ok _ (by simp [va_wsS])⟩
  have h2 := hd.2.2
  rw [h] at h2
  exact (Option.some.inj h2).symm
theorem vx_callSW (X : Stand p l e R s m args below meth c T locs cells slots) (hexec : p.tables.exec = Jvm.exec) {own : String} {index : Nat} {y : MethodName} {bytes : ByteArray} {maxL : Nat} {ret : Option FieldType} {hh : List (Nat × Nat × Nat × Nat)}
    (hown : s.vm.findClass own = some m.cls) (hlink : (Cond.methodLink own index y).before args s = true) (hstat : (Cond.static y).before args s = true) (hinit : (Cond.initialized y.cls).before args s = true)
    (hcode : (Cond.codeWith y bytes maxL ret hh).before args s = true) (hy : y.cls ≠ "java/lang/invoke/MethodHandle" ∧ y.cls ≠ "java/lang/invoke/VarHandle")
    {W9 : Nat} {Pre : Pt → Array Value → Prop} {Post : Pt → Array Value → Option Value → Pt → Prop} (hK : Back l R p e below s args y 3 W9 Pre Post)
    {g : JFrame} (hg : g.method = m) (hsize : g.locals.size = c.maxLocals) {argsL rest : List Value} (hlen : ∀ sig, parseMethodDescriptor y.desc = some sig → argsL.length = sig.parameters.length)
    (hstack : g.stack = argsL.reverse ++ rest) (hW : 2 * g.monitorRoom + (rest.map fun v => v.category).sum ≤ W9) (hdg : decode c.code g.pc = .ok (.invokestatic index, 3))
    (hpre : ∀ vm₁, s.WarmedH vm₁ → Pre ⟨T.setVm vm₁, locs, cells, slots⟩ argsL.toArray) :
    ∃ (v : Option Value) (vm₁ : Vm) (B : Pt), s.WarmedH vm₁ ∧ Stand p l e R s m args below meth c B.U B.locs B.cells B.slots ∧ Post ⟨T.setVm vm₁, locs, cells, slots⟩ argsL.toArray v B ∧
      ∀ target, Steps p.tables e below (B.U.setTop { g with pc := g.pc + 3, stack := v.toList ++ rest }) target → Steps p.tables e below (T.setTop g) target := by
  obtain ⟨mk, methM, cM, hnamed, hmethM, -, -, -, -, -, -, hsigM⟩ := Cond.codeWith_spec hcode
  have hstatic : methM.isStatic = true := Cond.static_spec hnamed hmethM hstat
  obtain ⟨kP, hkP, -⟩ := className_of_methodNamed hnamed
  have hinitP : kP.init = .initialized := Cond.initialized_spec (findClass_of_methodNamed hnamed) hkP hinit
  obtain ⟨vm₁, X₁, hstep₁⟩ := X.invokestatic hexec hown hlink hnamed hmethM hstatic hkP hinitP hy (g := g) hg (argsL := argsL) (rest := rest) (hlen _ hsigM) hstack hdg
  obtain ⟨v, B, X', hpost, hsteps⟩ := hK m meth c ⟨T.setVm vm₁, locs, cells, slots⟩ { g with stack := rest } (.invokestatic index) mk argsL.toArray X₁ hg hsize hdg hW (X₁.named hnamed) (hpre vm₁ X₁.warmed)
  exact ⟨v, vm₁, B, X₁.warmed, X', hpost, fun target h => hstep₁ _ fun acts => by rw [doInvoke_state]; exact hsteps.trans h⟩
theorem vx_runSW {y : MethodName} {bytes cc : ByteArray} {maxL nL mc ms n index : Nat} {ret : Option FieldType} {hh : List (Nat × Nat × Nat × Nat)} {ws : List Cond} {rm : Room} {Pc : Array Value → State → Prop} {Qc : Array Value → State → Outcome → State → Prop} {free : Addr → Prop} {Ts : List Cond} {own : String} {As rest : List Value} {g : JFrame}
    (S : CallFix p m c cc nL s args Ts own) (hM : Met l y ws rm Pc Qc mc ms free) (cw : vx_CSW R s args own index y bytes maxL ret hh ws rm mc ms n) (hp : PreS s H Pc As)
    (hg : g.method = m) (hn : As.length = n) (hsize : g.locals.size = nL) (hstack : g.stack = As.reverse ++ rest) (hW : 2 * g.monitorRoom + (rest.map fun v => v.category).sum ≤ 8) (hdg : decode cc g.pc = .ok (.invokestatic index, 3)) (hf : cells + mc ≤ R.cells ∧ slots + ms ≤ R.slots) :
    va_Run p l e R s m args below meth c H locs cells slots mc ms g rest (Qc As.toArray) (free) := by
  obtain ⟨⟨hrc, hrs, hfr, hlo, hws, hcw⟩, hcode, hini, hy, hlen, hl, hstt⟩ := cw
  have hK : Back l R p e below s args y 3 8 (PreOf R mc ms Pc) (PostOf Qc mc ms free) := va_backW (hh := hh) (bytes := bytes) (maxL := maxL) (ret := ret) hM hp.1 hrc hrs hfr hlo hws hcw (fun a' U hW => word_at hW (Or.inl (by first | rfl | simp [Cond.onTables, Cond.keeps, Cond.steady])) hini)
  obtain ⟨hx, hb, hml, ho, -⟩ := S
  intro T hT X
  obtain ⟨v, vm₁, ⟨U', l2, c2, s2⟩, hW₁, X', ⟨g', mk, t, L, e1, e2, hq, h1, hL, h2, h3⟩, st⟩ := vx_callSW X hx (hh := hh) (bytes := bytes) (maxL := maxL) (ret := ret) ho hl hstt hini hcode hy hK hg (hsize.trans hml.symm) (argsL := As) (rest := rest) (fun sig h => hn.trans (hlen sig h)) hstack hW (by rw [hb]; exact hdg)
    (fun vm₁ hW₁ => ⟨hf.1, hf.2, hp.2 (T.setVm vm₁) hT hW₁⟩)
  dsimp only [Pt.U, Pt.locs, Pt.cells, Pt.slots] at X' e1 e2 h1 h2 h3 st
  subst h1; subst h2; subst h3
  exact ⟨v, (T.setVm vm₁).calling g' mk As.toArray, t, U', L, hT, X', hL, e1, e2, hq, st⟩
/-- not caught here, past rows that name other classes: it goes on to the caller -/
theorem vx_outP {p : Program} {l : Launch} {e : Env} {R : Room} {s : State} {m : MethodId} {args : Array Value} {below : List Frame} {meth : Method} {c : Code} {H : Heap} {locs : List Loc} {cells slots : Nat} {free : Addr → Prop} {ls : Array Slot} {rest : List Value} {Qc : Array Value → State → Outcome → State → Prop} {XC : String → State → State → Prop}
    {pc : Nat} {own E : String} {ce : Cell} {q : Addr} {mc ms : Nat} (hown : s.vm.findClass own = some m.cls) (hlocks : meth.locks = false)
    (hpass : ∀ z ∈ c.exceptionTable.toList, covers z pc = false ∨ (z.catchType ≠ 0 ∧ ∃ nm : String, (Cond.classLink own z.catchType nm).before args s = true ∧ va_Nc E nm s)) (hcell : H[q]? = some ce) (hv : ce.vm = .none) (hcl : s.vm.findClass E = some ce.cls)
    (hx : ∀ t : State, t.heap = H → s.vm.Alike t.vm → XC E s t) (hf : ∀ z ∈ locs, free z.base) (hc : cells ≤ mc) (hs : slots ≤ ms) :
    vx_W p l e R s m args below meth c H locs cells slots (vx_MQ below Qc XC args s mc ms free) (F0 m pc ls rest) q := by
  intro T hT X
  have hpl : e.platform.magicAccessors = ({} : Platform).magicAccessors := by rw [X.admits.platform]
  obtain ⟨vm', hW', X', st⟩ := X.outThrough hlocks q (g := F0 m pc ls rest) rfl rfl rfl (cell := ce) (by rw [hT]; exact hcell) (by rw [hv]; rfl)
    (by obtain ⟨k9, h9, -⟩ := Vm.findClass_spec hcl; exact ⟨k9, h9⟩) (fun z hz => by
      rcases hpass z hz with h | ⟨hz0, nm, hl1, hn1⟩
      · exact Or.inl h
      · obtain ⟨c6, hc6, hcl6⟩ := Cond.classLink_spec hown hl1 e.platform hpl
        obtain ⟨a8, b8, h1, h2, h3⟩ := hn1
        cases Option.some.inj (h1.symm.trans hcl)
        cases Option.some.inj (h2.symm.trans hc6)
        exact Or.inr ⟨hz0, _, hcl6, h3⟩)
  obtain ⟨g₀, hfr⟩ := X'.frames_eq
  have hcell9 : ((T.setVm vm').setFrames (.throwing q :: below)).heap[q]? = some ce := by
    show T.heap[q]? = some ce
    rw [hT]; exact hcell
  have hend : Ended ((T.setVm vm').setFrames (.throwing q :: below)) below (.threw q) := State.frames_setFrames _ (State.cur_lt_of_frames hfr)
  refine ⟨(T.setVm vm').setFrames (.throwing q :: below), ?_, .threw q, X'.here.running, hend, Or.inr ⟨q, rfl, E, ce, locs, hx _ hT (X'.ends _).1.alike, hcell9, hv, hcl, (X'.ends _).1, (X'.ends _).2.mono hc hs, hf⟩⟩
  rw [X.pushThrowing_eq]
  exact st
/-- a thing of a world lies in the heap -/
theorem vx_lt {D : va_G} {cl : List vw_C} {ws : va_W} {H1 : Heap} (h : va_P D cl ws H1) {k : Nat} {q : Nat × va_E} (hk : ws[k]? = some q) : q.1 < H1.size := (h k q hk).lt
end VXS
/-! ===== END ===== -/
/-! ===== BEGIN methods with a table of their own: called by a name, returning or throwing ===== -/
section VXH
/-! vx_backW, vx_callVX, vx_callSX, vx_callVW, vx_runVW, vx_runVX, vx_runSX, vx_ofWH follow the same proofs as their sisters above (Free/Laws.lean, Shelf42/LK1.lean); vx_outP calls Shelf42/NT130.lean (outThrough). -/
section
variable {l : Launch} {R : Room} {p : Program} {e : Env} {below : List Frame} {s : State} {sargs : Array Value} {y : MethodName} {len W9 : Nat}
theorem vx_backW {ws : List Cond} {rm : Room} {Pc : Array Value → State → Prop} {Qc : Array Value → State → Outcome → State → Prop} {XC : String → State → State → Prop} {mc ms : Nat} {free : Addr → Prop} {bytes : ByteArray} {maxL : Nat} {ret : Option FieldType} {hh : List (Nat × Nat × Nat × Nat)}
    (hM : vx_Met l y ws rm Pc Qc XC mc ms free) (hblind : FrameBlind Pc) (hrc : rm.cells = mc) (hrs : rm.slots = ms)
    (hframes : rm.frames + 1 ≤ R.frames) (hlocals : W9 + (maxL + 11) + rm.locals ≤ R.locals)
    (hws : ∀ w ∈ ws, ∀ a' U, s.WarmedH U.vm → w.before a' U = true) (hcode : Cond.codeWith y bytes maxL ret hh ∈ ws) (hinit : ∀ a' U, s.WarmedH U.vm → (Cond.initialized y.cls).before a' U = true) :
    vx_Back l R p e below s sargs y len W9 (PreOf R mc ms Pc) (PostOf Qc mc ms free) (vx_Post XC mc ms free) := by
  intro m meth c A g ig mk a X hg hsize hdg hW hn hp
  have h1 : (headSpec ws rm).pre.before a A.U = true := atoms_intro fun w hw => hws w hw _ _ X.warmed
  have h2 : (Cond.codeWith y bytes maxL ret hh).before a A.U = true := hws _ hcode _ _ X.warmed
  have h3 : (Cond.initialized y.cls).before a A.U = true := hinit _ _ X.warmed
  have h4 : A.cells + (headSpec ws rm).room.cells ≤ R.cells := by rw [show (headSpec ws rm).room.cells = mc from hrc]; exact hp.1
  have h5 : A.slots + (headSpec ws rm).room.slots ≤ R.slots := by rw [show (headSpec ws rm).room.slots = ms from hrs]; exact hp.2.1
  have hPc : Pc a (A.U.calling g mk a) := hblind _ _ _ _ hp.2.2
  obtain ⟨U, Ls, c0, s0⟩ := A
  dsimp only [Pt.U, Pt.locs, Pt.cells, Pt.slots] at h1 h2 h3 h4 h5 X hn hPc ⊢
  obtain ⟨m9, methY, cY, hn9, hmY, hcY, -, hlY, -⟩ := Cond.codeWith_spec h2
  cases Option.some.inj (hn9.symm.trans hn)
  obtain ⟨kY, hkY, -⟩ := className_of_methodNamed hn
  have hinitY : kY.init = .initialized := Cond.initialized_spec (findClass_of_methodNamed hn) hkY h3
  have h : At U g.method c below := by rw [hg]; exact X.here
  have hlocals9 : W9 + (maxL + 11) + (headSpec ws rm).room.locals ≤ R.locals := hlocals
  have happ : (headSpec ws rm).appliesLoose y e.platform (U.calling g mk a) = true :=
    Spec.appliesLoose_calling (g := g) h hdg hn hkY hinitY
      (X.room_calling (g := g) (R' := (headSpec ws rm).room) hsize hmY hcY hframes (by rw [hlY]; omega) h4 h5) h1
  obtain ⟨mid, hmid⟩ := h.above
  have hfr : (U.setTop g).frames = (.java g :: mid) ++ below := by rw [State.frames_setTop' g h.top, hmid]; rfl
  obtain ⟨o, s₂, hsteps, -, hend, hq⟩ := Steps.callFree hM p X.admits X.cas X.clock (acts := []) hfr happ hPc trivial
  have hq' : vx_Q Qc XC mc ms free a (U.calling g mk a) o s₂ := hq
  rw [State.frames_setTop' g h.top] at hend
  obtain ⟨g₀, hg0⟩ := Option.isSome_iff_exists.mp h.top
  obtain ⟨r, hr⟩ := State.topJava?_eq_some.mp hg0
  have hr' : (({ U with heap := s₂.heap, slotsUsed := s₂.slotsUsed } : State).setVm s₂.vm).frames = .java g₀ :: r := hr
  rcases hq' with ⟨hqc, L, hfe, hL⟩ | ⟨q, rfl, E, ce, L, hx, hce, hcv, hcl, hW₂, hsm, hL⟩
  · obtain ⟨⟨v, rfl⟩, hW₂, e2, q2, q3, q4, q5, q6⟩ := id hfe
    have e3 : s₂ = ({ (U.calling g mk a).setFrames s₂.frames with heap := s₂.heap, slotsUsed := s₂.slotsUsed } : State).setVm s₂.vm := by
      have : s₂ = ({ s₂ with vm := (U.calling g mk a).vm } : State).setVm s₂.vm := rfl
      rw [e2] at this
      exact this
    obtain ⟨c₂, i₂, len₂, hc₂, hd₂, hf₂⟩ := hend
    have hW' : U.WarmedH s₂.vm := hW₂
    have hcc : c₂ = c := by
      have h1 : s₂.code? g.method = U.code? g.method := by
        rw [State.code?_eq, State.code?_eq, hW'.alike.method?]
      exact Option.some.inj (hc₂.symm.trans (h1.trans h.code))
    subst hcc
    have hlen : len₂ = len := by rw [hdg] at hd₂; cases hd₂; rfl
    subst hlen
    have hs₂ : s₂ = (({ U with heap := s₂.heap, slotsUsed := s₂.slotsUsed } : State).setVm s₂.vm).setTop { g with pc := g.pc + len₂, stack := v.toList ++ g.stack } := by
      refine e3.trans ?_
      rw [hf₂, State.calling_eq h.top, State.setFrames_setFrames, State.setTop_of_frames _ hr', hr]
      rfl
    have hsame : U.sameButNew ({ U with heap := s₂.heap, slotsUsed := s₂.slotsUsed } : State) L mc ms := by
      refine ⟨?_, q2, q3, q4, q5, q6⟩
      obtain ⟨t, ht, -⟩ := State.frames_cons hr
      show ({ U with heap := s₂.heap, slotsUsed := s₂.slotsUsed } : State) = { U.setFrames U.frames with heap := s₂.heap, slotsUsed := s₂.slotsUsed }
      rw [State.setFrames_self ht]
    subst hg
    refine Or.inl ⟨v, ⟨(({ U with heap := s₂.heap, slotsUsed := s₂.slotsUsed } : State).setVm s₂.vm), Ls ++ L, c0 + mc, s0 + ms⟩,
      ⟨X.admits, X.cas, X.clock, X.frames, X.room, X.hears, X.method, X.code, (X.here.setHeapUsed s₂.heap s₂.slotsUsed).setVm hW'.alike, X.tail, State.WarmedH.trans X.warmed hW', X.limits, X.bytes, X.same.trans (hsame.setVm s.vm)⟩,
      ⟨g, mk, s₂, L, rfl, rfl, hqc, rfl, hL, rfl, rfl⟩, ?_⟩
    show Steps p.tables e below _ ((({ U with heap := s₂.heap, slotsUsed := s₂.slotsUsed } : State).setVm s₂.vm).setTop { g with pc := g.pc + len₂, stack := v.toList ++ g.stack })
    rw [← hs₂]
    exact hsteps
  · obtain ⟨e2, q2, q3, q4, q5, q6⟩ := id hsm
    have e3 : s₂ = ({ (U.calling g mk a).setFrames s₂.frames with heap := s₂.heap, slotsUsed := s₂.slotsUsed } : State).setVm s₂.vm := by
      have : s₂ = ({ s₂ with vm := (U.calling g mk a).vm } : State).setVm s₂.vm := rfl
      rw [e2] at this
      exact this
    have hf₂ : s₂.frames = .throwing q :: .java g :: U.frames.tail := hend
    have hW' : U.WarmedH s₂.vm := hW₂
    have hs₂ : s₂ = ((({ U with heap := s₂.heap, slotsUsed := s₂.slotsUsed } : State).setVm s₂.vm).setTop g).pushFrame (.throwing q) := by
      refine e3.trans ?_
      rw [hf₂, State.calling_eq h.top, State.setFrames_setFrames, State.pushFrame, State.frames_setTop _ hr', State.setTop_of_frames _ hr', State.setFrames_setFrames, hr]
      rfl
    have hsame : U.sameButNew ({ U with heap := s₂.heap, slotsUsed := s₂.slotsUsed } : State) L mc ms := by
      refine ⟨?_, q2, q3, q4, q5, q6⟩
      obtain ⟨t, ht, -⟩ := State.frames_cons hr
      show ({ U with heap := s₂.heap, slotsUsed := s₂.slotsUsed } : State) = { U.setFrames U.frames with heap := s₂.heap, slotsUsed := s₂.slotsUsed }
      rw [State.setFrames_self ht]
    subst hg
    refine Or.inr ⟨q, ⟨(({ U with heap := s₂.heap, slotsUsed := s₂.slotsUsed } : State).setVm s₂.vm), Ls ++ L, c0 + mc, s0 + ms⟩,
      ⟨X.admits, X.cas, X.clock, X.frames, X.room, X.hears, X.method, X.code, (X.here.setHeapUsed s₂.heap s₂.slotsUsed).setVm hW'.alike, X.tail, State.WarmedH.trans X.warmed hW', X.limits, X.bytes, X.same.trans (hsame.setVm s.vm)⟩,
      ⟨g, mk, s₂, L, E, ce, rfl, rfl, hx, hce, hcv, hcl, rfl, hL, rfl, rfl⟩, ?_⟩
    show Steps p.tables e below _ (((({ U with heap := s₂.heap, slotsUsed := s₂.slotsUsed } : State).setVm s₂.vm).setTop g).pushFrame (.throwing q))
    rw [← hs₂]
    exact hsteps
end
variable {p : Program} {l : Launch} {e : Env} {R : Room} {s : State} {m : MethodId} {args : Array Value} {below : List Frame} {meth : Method} {c : Code} {T : State} {H : Heap} {locs : List Loc} {cells slots : Nat}
theorem vx_callVX (X : Stand p l e R s m args below meth c T locs cells slots) (hexec : p.tables.exec = Jvm.exec) {own C : String} {index : Nat} {y : MethodName} {bytes : ByteArray} {maxL : Nat} {ret : Option FieldType} {hh : List (Nat × Nat × Nat × Nat)}
    (hown : s.vm.findClass own = some m.cls) (hlink : (Cond.methodLink own index y).before args s = true) (hinst : (Cond.instanceMethod y).before args s = true) (hsel : (Cond.selects C y y).before args s = true)
    (hcode : (Cond.codeWith y bytes maxL ret hh).before args s = true) (hy : y.cls ≠ "java/lang/invoke/MethodHandle" ∧ y.cls ≠ "java/lang/invoke/VarHandle")
    {W9 : Nat} {Pre : Pt → Array Value → Prop} {Post : Pt → Array Value → Option Value → Pt → Prop} {PostX : Pt → Array Value → Addr → Pt → Prop} (hK : vx_Back l R p e below s args y 3 W9 Pre Post PostX)
    {b : Addr} {cellB : Cell} (hcell : T.heap[b]? = some cellB) (hobj : cellB.vm.isStatics = false) (hcls : s.vm.findClass C = some cellB.cls)
    {g : JFrame} (hg : g.method = m) (hsize : g.locals.size = c.maxLocals) {argsL rest : List Value} (hlen : ∀ sig, parseMethodDescriptor y.desc = some sig → argsL.length = sig.parameters.length)
    (hstack : g.stack = argsL.reverse ++ .ref b :: rest) (hW : 2 * g.monitorRoom + (rest.map fun v => v.category).sum ≤ W9) (hdg : decode c.code g.pc = .ok (.invokevirtual index, 3))
    (hpre : ∀ vm₁, s.WarmedH vm₁ → Pre ⟨T.setVm vm₁, locs, cells, slots⟩ (Value.ref b :: argsL).toArray) :
    (∃ (v : Option Value) (vm₁ : Vm) (B : Pt), s.WarmedH vm₁ ∧ Stand p l e R s m args below meth c B.U B.locs B.cells B.slots ∧ Post ⟨T.setVm vm₁, locs, cells, slots⟩ (Value.ref b :: argsL).toArray v B ∧
      ∀ target, Steps p.tables e below (B.U.setTop { g with pc := g.pc + 3, stack := v.toList ++ rest }) target → Steps p.tables e below (T.setTop g) target) ∨
    (∃ (q : Addr) (vm₁ : Vm) (B : Pt), s.WarmedH vm₁ ∧ Stand p l e R s m args below meth c B.U B.locs B.cells B.slots ∧ PostX ⟨T.setVm vm₁, locs, cells, slots⟩ (Value.ref b :: argsL).toArray q B ∧
      Steps p.tables e below (T.setTop g) ((B.U.setTop { g with stack := rest }).pushFrame (.throwing q))) := by
  obtain ⟨mk, methM, hnamed, hmethM, hstM, habM⟩ := Cond.instanceMethod_spec hinst
  obtain ⟨m8, methM', cM, hn8, hmethM', -, -, -, -, -, -, hsigM⟩ := Cond.codeWith_spec hcode
  cases Option.some.inj (hn8.symm.trans hnamed)
  cases hmethM.symm.trans hmethM'
  obtain ⟨c2, r2, m2, q1, q2, q3, q4, kP, hkP, hkPi⟩ := Cond.selects_spec hsel
  cases hcls.symm.trans q1
  cases (State.methodFound?_of_named hnamed hy).symm.trans q2
  cases hnamed.symm.trans q3
  have hselP : selectMethod e.platform s.vm cellB.cls mk = .method mk := by rw [Launch.admits_selectMethod X.admits]; exact q4
  obtain ⟨vm₁, X₁, hstep₁⟩ := X.invokevirtual hexec hown hlink hnamed hmethM hstM hkP hkPi hy (a := b) (cell := cellB) hcell
    (fun z h => by rw [h] at hobj; cases hobj) hselP hmethM habM hkP hkPi (g := g) hg (argsL := argsL) (rest := rest) (hlen _ hsigM) hstack hdg
  rcases hK m meth c ⟨T.setVm vm₁, locs, cells, slots⟩ { g with stack := rest } (.invokevirtual index) mk (Value.ref b :: argsL).toArray X₁ hg hsize hdg hW (X₁.named hnamed) (hpre vm₁ X₁.warmed) with ⟨v, B, X', hpost, hsteps⟩ | ⟨q, B, X', hpost, hsteps⟩
  · exact Or.inl ⟨v, vm₁, B, X₁.warmed, X', hpost, fun target h => hstep₁ _ fun acts => by rw [doInvoke_state]; exact hsteps.trans h⟩
  · exact Or.inr ⟨q, vm₁, B, X₁.warmed, X', hpost, hstep₁ _ fun acts => by rw [doInvoke_state]; exact hsteps⟩
theorem vx_callSX (X : Stand p l e R s m args below meth c T locs cells slots) (hexec : p.tables.exec = Jvm.exec) {own : String} {index : Nat} {y : MethodName} {bytes : ByteArray} {maxL : Nat} {ret : Option FieldType} {hh : List (Nat × Nat × Nat × Nat)}
    (hown : s.vm.findClass own = some m.cls) (hlink : (Cond.methodLink own index y).before args s = true) (hstat : (Cond.static y).before args s = true) (hinit : (Cond.initialized y.cls).before args s = true)
    (hcode : (Cond.codeWith y bytes maxL ret hh).before args s = true) (hy : y.cls ≠ "java/lang/invoke/MethodHandle" ∧ y.cls ≠ "java/lang/invoke/VarHandle")
    {W9 : Nat} {Pre : Pt → Array Value → Prop} {Post : Pt → Array Value → Option Value → Pt → Prop} {PostX : Pt → Array Value → Addr → Pt → Prop} (hK : vx_Back l R p e below s args y 3 W9 Pre Post PostX)
    {g : JFrame} (hg : g.method = m) (hsize : g.locals.size = c.maxLocals) {argsL rest : List Value} (hlen : ∀ sig, parseMethodDescriptor y.desc = some sig → argsL.length = sig.parameters.length)
    (hstack : g.stack = argsL.reverse ++ rest) (hW : 2 * g.monitorRoom + (rest.map fun v => v.category).sum ≤ W9) (hdg : decode c.code g.pc = .ok (.invokestatic index, 3))
    (hpre : ∀ vm₁, s.WarmedH vm₁ → Pre ⟨T.setVm vm₁, locs, cells, slots⟩ argsL.toArray) :
    (∃ (v : Option Value) (vm₁ : Vm) (B : Pt), s.WarmedH vm₁ ∧ Stand p l e R s m args below meth c B.U B.locs B.cells B.slots ∧ Post ⟨T.setVm vm₁, locs, cells, slots⟩ argsL.toArray v B ∧
      ∀ target, Steps p.tables e below (B.U.setTop { g with pc := g.pc + 3, stack := v.toList ++ rest }) target → Steps p.tables e below (T.setTop g) target) ∨
    (∃ (q : Addr) (vm₁ : Vm) (B : Pt), s.WarmedH vm₁ ∧ Stand p l e R s m args below meth c B.U B.locs B.cells B.slots ∧ PostX ⟨T.setVm vm₁, locs, cells, slots⟩ argsL.toArray q B ∧
      Steps p.tables e below (T.setTop g) ((B.U.setTop { g with stack := rest }).pushFrame (.throwing q))) := by
  obtain ⟨mk, methM, cM, hnamed, hmethM, -, -, -, -, -, -, hsigM⟩ := Cond.codeWith_spec hcode
  have hstatic : methM.isStatic = true := Cond.static_spec hnamed hmethM hstat
  obtain ⟨kP, hkP, -⟩ := className_of_methodNamed hnamed
  have hinitP : kP.init = .initialized := Cond.initialized_spec (findClass_of_methodNamed hnamed) hkP hinit
  obtain ⟨vm₁, X₁, hstep₁⟩ := X.invokestatic hexec hown hlink hnamed hmethM hstatic hkP hinitP hy (g := g) hg (argsL := argsL) (rest := rest) (hlen _ hsigM) hstack hdg
  rcases hK m meth c ⟨T.setVm vm₁, locs, cells, slots⟩ { g with stack := rest } (.invokestatic index) mk argsL.toArray X₁ hg hsize hdg hW (X₁.named hnamed) (hpre vm₁ X₁.warmed) with ⟨v, B, X', hpost, hsteps⟩ | ⟨q, B, X', hpost, hsteps⟩
  · exact Or.inl ⟨v, vm₁, B, X₁.warmed, X', hpost, fun target h => hstep₁ _ fun acts => by rw [doInvoke_state]; exact hsteps.trans h⟩
  · exact Or.inr ⟨q, vm₁, B, X₁.warmed, X', hpost, hstep₁ _ fun acts => by rw [doInvoke_state]; exact hsteps⟩
theorem vx_callVW (X : Stand p l e R s m args below meth c T locs cells slots) (hexec : p.tables.exec = Jvm.exec) {own C : String} {index : Nat} {y : MethodName} {bytes : ByteArray} {maxL : Nat} {ret : Option FieldType} {hh : List (Nat × Nat × Nat × Nat)}
    (hown : s.vm.findClass own = some m.cls) (hlink : (Cond.methodLink own index y).before args s = true) (hinst : (Cond.instanceMethod y).before args s = true) (hsel : (Cond.selects C y y).before args s = true)
    (hcode : (Cond.codeWith y bytes maxL ret hh).before args s = true) (hy : y.cls ≠ "java/lang/invoke/MethodHandle" ∧ y.cls ≠ "java/lang/invoke/VarHandle")
    {W9 : Nat} {Pre : Pt → Array Value → Prop} {Post : Pt → Array Value → Option Value → Pt → Prop} (hK : Back l R p e below s args y 3 W9 Pre Post)
    {b : Addr} {cellB : Cell} (hcell : T.heap[b]? = some cellB) (hobj : cellB.vm.isStatics = false) (hcls : s.vm.findClass C = some cellB.cls)
    {g : JFrame} (hg : g.method = m) (hsize : g.locals.size = c.maxLocals) {argsL rest : List Value} (hlen : ∀ sig, parseMethodDescriptor y.desc = some sig → argsL.length = sig.parameters.length)
    (hstack : g.stack = argsL.reverse ++ .ref b :: rest) (hW : 2 * g.monitorRoom + (rest.map fun v => v.category).sum ≤ W9) (hdg : decode c.code g.pc = .ok (.invokevirtual index, 3))
    (hpre : ∀ vm₁, s.WarmedH vm₁ → Pre ⟨T.setVm vm₁, locs, cells, slots⟩ (Value.ref b :: argsL).toArray) :
    ∃ (v : Option Value) (vm₁ : Vm) (B : Pt), s.WarmedH vm₁ ∧ Stand p l e R s m args below meth c B.U B.locs B.cells B.slots ∧ Post ⟨T.setVm vm₁, locs, cells, slots⟩ (Value.ref b :: argsL).toArray v B ∧
      ∀ target, Steps p.tables e below (B.U.setTop { g with pc := g.pc + 3, stack := v.toList ++ rest }) target → Steps p.tables e below (T.setTop g) target := by
  obtain ⟨mk, methM, hnamed, hmethM, hstM, habM⟩ := Cond.instanceMethod_spec hinst
  obtain ⟨m8, methM', cM, hn8, hmethM', -, -, -, -, -, -, hsigM⟩ := Cond.codeWith_spec hcode
  cases Option.some.inj (hn8.symm.trans hnamed)
  cases hmethM.symm.trans hmethM'
  obtain ⟨c2, r2, m2, q1, q2, q3, q4, kP, hkP, hkPi⟩ := Cond.selects_spec hsel
  cases hcls.symm.trans q1
  cases (State.methodFound?_of_named hnamed hy).symm.trans q2
  cases hnamed.symm.trans q3
  have hselP : selectMethod e.platform s.vm cellB.cls mk = .method mk := by rw [Launch.admits_selectMethod X.admits]; exact q4
  obtain ⟨vm₁, X₁, hstep₁⟩ := X.invokevirtual hexec hown hlink hnamed hmethM hstM hkP hkPi hy (a := b) (cell := cellB) hcell
    (fun z h => by rw [h] at hobj; cases hobj) hselP hmethM habM hkP hkPi (g := g) hg (argsL := argsL) (rest := rest) (hlen _ hsigM) hstack hdg
  obtain ⟨v, B, X', hpost, hsteps⟩ := hK m meth c ⟨T.setVm vm₁, locs, cells, slots⟩ { g with stack := rest } (.invokevirtual index) mk (Value.ref b :: argsL).toArray X₁ hg hsize hdg hW (X₁.named hnamed) (hpre vm₁ X₁.warmed)
  exact ⟨v, vm₁, B, X₁.warmed, X', hpost, fun target h => hstep₁ _ fun acts => by rw [doInvoke_state]; exact hsteps.trans h⟩
abbrev vx_CVW (R : Room) (s : State) (args : Array Value) (own C : String) (index : Nat) (y : MethodName) (bytes : ByteArray) (maxL : Nat) (ret : Option FieldType) (hh : List (Nat × Nat × Nat × Nat)) (ws : List Cond) (rm : Room) (mc ms n : Nat) : Prop :=
  (rm.cells = mc ∧ rm.slots = ms ∧ rm.frames + 1 ≤ R.frames ∧ 8 + (maxL + 11) + rm.locals ≤ R.locals ∧ (∀ w ∈ ws, ∀ (a' : Array Value) (U : State), s.WarmedH U.vm → w.before a' U = true) ∧ Cond.codeWith y bytes maxL ret hh ∈ ws) ∧
  (Cond.codeWith y bytes maxL ret hh).before args s = true ∧ (Cond.initialized y.cls).before args s = true ∧ (y.cls ≠ "java/lang/invoke/MethodHandle" ∧ y.cls ≠ "java/lang/invoke/VarHandle") ∧
  (∀ sig, parseMethodDescriptor y.desc = some sig → n = sig.parameters.length) ∧ (Cond.methodLink own index y).before args s = true ∧ (Cond.instanceMethod y).before args s = true ∧ (Cond.selects C y y).before args s = true
theorem vx_cwVW {own C : String} {index maxL mc ms : Nat} {y : MethodName} {bytes : ByteArray} {ret : Option FieldType} {hh : List (Nat × Nat × Nat × Nat)} {Ts ws ws' : List Cond} {rm : Room} (n : Nat) (ht : ∀ w ∈ Ts, w.before args s = true) (hT : GoodIn Ts (wsV own index C y ws)) (hw : ws = Cond.codeWith y bytes maxL ret hh :: ws') (hrc : rm.cells = mc) (hrs : rm.slots = ms)
    (hd : y.cls = C ∧ y.cls ≠ "java/lang/invoke/MethodHandle" ∧ y.cls ≠ "java/lang/invoke/VarHandle" ∧ (parseMethodDescriptor y.desc).map (fun d => d.parameters.length) = some n) (hR : rm.frames + 1 ≤ R.frames ∧ 8 + (maxL + 11) + rm.locals ≤ R.locals) :
    vx_CVW R s args own C index y bytes maxL ret hh ws rm mc ms n := by
  obtain ⟨hC, hd⟩ := hd
  subst hC
  have ok : ∀ w ∈ wsV own index y.cls y ws, w.before args s = true := fun w h => ht w (hT w h).1
  have hG : GoodIn Ts ws := fun w h => hT w (by unfold wsV; exact List.mem_append_right _ h)
  have hc : Cond.codeWith y bytes maxL ret hh ∈ ws := by rw [hw]; exact List.mem_cons_self
  refine ⟨⟨hrc, hrs, hR.1, hR.2, pay_in ht hG, hc⟩, ht _ (hG _ hc).1, ok _ (by simp [wsV]), ⟨hd.1, hd.2.1⟩, fun sig h => ?_, ok _ (by simp [wsV]), ok _ (by simp [wsV]), ok _ (by simp [wsV])⟩
  have h2 := hd.2.2
  rw [h] at h2
  exact (Option.some.inj h2).symm
theorem vx_runVW {y : MethodName} {bytes cc : ByteArray} {maxL nL mc ms n index : Nat} {ret : Option FieldType} {hh : List (Nat × Nat × Nat × Nat)} {ws : List Cond} {rm : Room} {Pc : Array Value → State → Prop} {Qc : Array Value → State → Outcome → State → Prop} {free : Addr → Prop} {Ts : List Cond} {own C : String} {b : Addr} {As rest : List Value} {g : JFrame}
    (S : CallFix p m c cc nL s args Ts own) (hM : Met l y ws rm Pc Qc mc ms free) (cw : vx_CVW R s args own C index y bytes maxL ret hh ws rm mc ms n) (hp : PreV s H C b Pc As)
    (hg : g.method = m) (hn : As.length = n) (hsize : g.locals.size = nL) (hstack : g.stack = As.reverse ++ .ref b :: rest) (hW : 2 * g.monitorRoom + (rest.map fun v => v.category).sum ≤ 8) (hdg : decode cc g.pc = .ok (.invokevirtual index, 3)) (hf : cells + mc ≤ R.cells ∧ slots + ms ≤ R.slots) :
    va_Run p l e R s m args below meth c H locs cells slots mc ms g rest (Qc (Value.ref b :: As).toArray) free := by
  obtain ⟨⟨hrc, hrs, hfr, hlo, hws, hcw⟩, hcode, hini, hy, hlen, hl, hin, hse⟩ := cw
  have hK : Back l R p e below s args y 3 8 (PreOf R mc ms Pc) (PostOf Qc mc ms free) := va_backW (hh := hh) (bytes := bytes) (maxL := maxL) (ret := ret) hM hp.1 hrc hrs hfr hlo hws hcw (fun a' U hW => word_at hW (Or.inl (by first | rfl | simp [Cond.onTables, Cond.keeps, Cond.steady])) hini)
  obtain ⟨hx, hb, hml, ho, -⟩ := S
  obtain ⟨-, ⟨cellB, hcB, hoB, hclB⟩, hPc⟩ := hp
  intro T hT X
  obtain ⟨v, vm₁, ⟨U', l2, c2, s2⟩, hW₁, X', ⟨g', mk, t, L, e1, e2, hq, h1, hL, h2, h3⟩, st⟩ := vx_callVW X hx (C := C) (hh := hh) (bytes := bytes) (maxL := maxL) (ret := ret) ho hl hin hse hcode hy hK (by rw [hT]; exact hcB) hoB hclB hg (hsize.trans hml.symm) (argsL := As) (rest := rest) (fun sig h => hn.trans (hlen sig h)) hstack hW (by rw [hb]; exact hdg)
    (fun vm₁ hW₁ => ⟨hf.1, hf.2, hPc (T.setVm vm₁) hT hW₁⟩)
  dsimp only [Pt.U, Pt.locs, Pt.cells, Pt.slots] at X' e1 e2 h1 h2 h3 st
  subst h1; subst h2; subst h3
  exact ⟨v, (T.setVm vm₁).calling g' mk (Value.ref b :: As).toArray, t, U', L, hT, X', hL, e1, e2, hq, st⟩
section
variable {y : MethodName} {bytes cc : ByteArray} {maxL nL mc ms n index : Nat} {ret : Option FieldType} {ws : List Cond} {rm : Room} {Pc : Array Value → State → Prop} {Qc : Array Value → State → Outcome → State → Prop} {XC : String → State → State → Prop} {free : Addr → Prop} {Ts : List Cond} {own C : String} {b : Addr} {As rest : List Value} {g : JFrame}
theorem vx_runVX {hh : List (Nat × Nat × Nat × Nat)} (S : CallFix p m c cc nL s args Ts own) (hM : vx_Met l y ws rm Pc Qc XC mc ms free) (cw : vx_CVW R s args own C index y bytes maxL ret hh ws rm mc ms n) (hp : PreV s H C b Pc As)
    (hg : g.method = m) (hn : As.length = n) (hsize : g.locals.size = nL) (hstack : g.stack = As.reverse ++ .ref b :: rest) (hW : 2 * g.monitorRoom + (rest.map fun v => v.category).sum ≤ 8) (hdg : decode cc g.pc = .ok (.invokevirtual index, 3)) (hf : cells + mc ≤ R.cells ∧ slots + ms ≤ R.slots) :
    vx_Run p l e R s m args below meth c H locs cells slots mc ms g rest (Qc (Value.ref b :: As).toArray) XC free := by
  obtain ⟨⟨hrc, hrs, hfr, hlo, hws, hcw⟩, hcode, hini, hy, hlen, hl, hin, hse⟩ := cw
  have hK : vx_Back l R p e below s args y 3 8 (PreOf R mc ms Pc) (PostOf Qc mc ms free) (vx_Post XC mc ms free) := vx_backW (hh := hh) (bytes := bytes) (maxL := maxL) (ret := ret) hM hp.1 hrc hrs hfr hlo hws hcw (fun a' U hW => word_at hW (Or.inl (by first | rfl | simp [Cond.onTables, Cond.keeps, Cond.steady])) hini)
  obtain ⟨hx, hb, hml, ho, -⟩ := S
  obtain ⟨-, ⟨cellB, hcB, hoB, hclB⟩, hPc⟩ := hp
  intro T hT X
  rcases vx_callVX X hx (C := C) (hh := hh) (bytes := bytes) (maxL := maxL) (ret := ret) ho hl hin hse hcode hy hK (by rw [hT]; exact hcB) hoB hclB hg (hsize.trans hml.symm) (argsL := As) (rest := rest) (fun sig h => hn.trans (hlen sig h)) hstack hW (by rw [hb]; exact hdg)
    (fun vm₁ hW₁ => ⟨hf.1, hf.2, hPc (T.setVm vm₁) hT hW₁⟩) with ⟨v, vm₁, ⟨U', l2, c2, s2⟩, hW₁, X', ⟨g', mk, t, L, e1, e2, hq, h1, hL, h2, h3⟩, st⟩ | ⟨q, vm₁, ⟨U', l2, c2, s2⟩, hW₁, X', ⟨g', mk, t, L, E, ce, e1, e2, hq, hce, hcv, hcl, h1, hL, h2, h3⟩, st⟩
  · dsimp only [Pt.U, Pt.locs, Pt.cells, Pt.slots] at X' e1 e2 h1 h2 h3 st
    subst h1; subst h2; subst h3
    exact Or.inl ⟨v, (T.setVm vm₁).calling g' mk (Value.ref b :: As).toArray, t, U', L, hT, X', hL, e1, e2, hq, st⟩
  · dsimp only [Pt.U, Pt.locs, Pt.cells, Pt.slots] at X' e1 e2 h1 h2 h3 st hcl
    subst h1; subst h2; subst h3
    exact Or.inr ⟨q, (T.setVm vm₁).calling g' mk (Value.ref b :: As).toArray, t, U', L, E, ce, hT, X', hL, e1, e2, hq, hce, hcv, vx_cls hW₁ hcl, st⟩
theorem vx_runSX {hh : List (Nat × Nat × Nat × Nat)} (S : CallFix p m c cc nL s args Ts own) (hM : vx_Met l y ws rm Pc Qc XC mc ms free) (cw : vx_CSW R s args own index y bytes maxL ret hh ws rm mc ms n) (hp : PreS s H Pc As)
    (hg : g.method = m) (hn : As.length = n) (hsize : g.locals.size = nL) (hstack : g.stack = As.reverse ++ rest) (hW : 2 * g.monitorRoom + (rest.map fun v => v.category).sum ≤ 8) (hdg : decode cc g.pc = .ok (.invokestatic index, 3)) (hf : cells + mc ≤ R.cells ∧ slots + ms ≤ R.slots) :
    vx_Run p l e R s m args below meth c H locs cells slots mc ms g rest (Qc As.toArray) XC free := by
  obtain ⟨⟨hrc, hrs, hfr, hlo, hws, hcw⟩, hcode, hini, hy, hlen, hl, hstt⟩ := cw
  have hK : vx_Back l R p e below s args y 3 8 (PreOf R mc ms Pc) (PostOf Qc mc ms free) (vx_Post XC mc ms free) := vx_backW (hh := hh) (bytes := bytes) (maxL := maxL) (ret := ret) hM hp.1 hrc hrs hfr hlo hws hcw (fun a' U hW => word_at hW (Or.inl (by first | rfl | simp [Cond.onTables, Cond.keeps, Cond.steady])) hini)
  obtain ⟨hx, hb, hml, ho, -⟩ := S
  intro T hT X
  rcases vx_callSX X hx (hh := hh) (bytes := bytes) (maxL := maxL) (ret := ret) ho hl hstt hini hcode hy hK hg (hsize.trans hml.symm) (argsL := As) (rest := rest) (fun sig h => hn.trans (hlen sig h)) hstack hW (by rw [hb]; exact hdg)
    (fun vm₁ hW₁ => ⟨hf.1, hf.2, hp.2 (T.setVm vm₁) hT hW₁⟩) with ⟨v, vm₁, ⟨U', l2, c2, s2⟩, hW₁, X', ⟨g', mk, t, L, e1, e2, hq, h1, hL, h2, h3⟩, st⟩ | ⟨q, vm₁, ⟨U', l2, c2, s2⟩, hW₁, X', ⟨g', mk, t, L, E, ce, e1, e2, hq, hce, hcv, hcl, h1, hL, h2, h3⟩, st⟩
  · dsimp only [Pt.U, Pt.locs, Pt.cells, Pt.slots] at X' e1 e2 h1 h2 h3 st
    subst h1; subst h2; subst h3
    exact Or.inl ⟨v, (T.setVm vm₁).calling g' mk As.toArray, t, U', L, hT, X', hL, e1, e2, hq, st⟩
  · dsimp only [Pt.U, Pt.locs, Pt.cells, Pt.slots] at X' e1 e2 h1 h2 h3 st hcl
    subst h1; subst h2; subst h3
    exact Or.inr ⟨q, (T.setVm vm₁).calling g' mk As.toArray, t, U', L, E, ce, hT, X', hL, e1, e2, hq, hce, hcv, vx_cls hW₁ hcl, st⟩
end
end VXH
theorem vx_ofWH {l : Launch} {y : MethodName} {ws ws' : List Cond} {rm : Room} {Pc : Array Value → State → Prop} {Qc : Array Value → State → Outcome → State → Prop} {XC : String → State → State → Prop} {mc ms : Nat} {free : Addr → Prop} {cc : ByteArray} {maxL : Nat} {ret : Option FieldType} {hh : List (Nat × Nat × Nat × Nat)}
    (hy : plainName y.cls = true) (hw : ws = Cond.codeWith y cc maxL ret hh :: ws')
    (body : ∀ p e s m args below meth c s₁, BodyLoose p l y (headSpec ws rm) cc maxL ret e s m args below meth c s₁ → c.maxLocals = maxL → Pc args s →
      W p l e (headSpec ws rm).room s m args below meth c s.heap [] 0 0 (vx_MQ below Qc XC args s mc ms free) (entryFrame m args maxL)) : vx_Met l y ws rm Pc Qc XC mc ms free := by
  refine MetFree.of_bodyS (code := cc) (maxLocals := maxL) (ret := ret) hy ?_ ?_
  · intro args s m h hn
    obtain ⟨m9, meth, c, hn9, h1, h2, h3, h4, -, h5, h6, -⟩ := Cond.codeWith_spec (atoms_spec (ws := ws) h _ (by rw [hw]; exact List.mem_cons_self))
    cases hn.symm.trans hn9
    exact ⟨meth, c, h1, h2, h3, h4, h5, h6⟩
  · intro p e s m args below meth c s₁ B hml hP _
    have hh0 : s₁.heap = s.heap := by rw [B.state]; rfl
    obtain ⟨t, a1, o, b1, b2, b3⟩ := body p e s m args below meth c s₁ B hml hP s₁ hh0 (Stand.of_body B)
    exact ⟨t, o, a1, b1, b2, b3⟩
/-! ===== END ===== -/
end
section
def RX0 : String := "GalleryGuards$CoverSearch"
def TX0 : u_T := fun k => match k with
  | 0 => ("GalleryGuards$CoverSearch", "plan", "LGalleryGuards$Plan;", true)
  | 1 => ("GalleryGuards$CoverSearch", "lattice", "LGalleryGuards$Lattice;", true)
  | 2 => ("GalleryGuards$CoverSearch", "sight", "LGalleryGuards$Sight;", true)
  | 3 => ("GalleryGuards$CoverSearch", "views", "[J", true)
  | 4 => ("GalleryGuards$CoverSearch", "fromHereOn", "[J", true)
  | 5 => ("GalleryGuards$CoverSearch", "picked", "[I", true)
  | 6 => ("GalleryGuards$CoverSearch", "vertexSet", "I", false)
  | 7 => ("GalleryGuards$CoverSearch", "edgeSet", "I", false)
  | _ => ("GalleryGuards$CoverSearch", "pickedCount", "I", false)
def tyX0 : Nat → FieldType := fun k => match k with
  | 0 => .object "GalleryGuards$Plan"
  | 1 => .object "GalleryGuards$Lattice"
  | 2 => .object "GalleryGuards$Sight"
  | 3 => .array .long
  | 4 => .array .long
  | 5 => .array .int
  | 6 => .int
  | 7 => .int
  | _ => .int
abbrev wsX00 : List Cond := u_ws RX0 TX0 9
theorem nmX0 : ∀ a, a < 9 → ∀ b, b < 9 → a ≠ b → (TX0 a).2.1 ≠ (TX0 b).2.1 := by decide +kernel
theorem tyX0_ok : ∀ k, k < 9 → parseFieldDescriptor (TX0 k).2.2.1 = some (tyX0 k) := by decide +kernel
abbrev cX0_init : ByteArray := prog_2_method_1_code
def yX0_init : MethodName := ⟨RX0, "<init>", "(LGalleryGuards$Plan;LGalleryGuards$Lattice;LGalleryGuards$Sight;)V"⟩
abbrev cX0_forget : ByteArray := prog_2_method_2_code
def yX0_forget : MethodName := ⟨RX0, "forget", "()V"⟩
abbrev cX0_fewestVertices : ByteArray := prog_2_method_3_code
def yX0_fewestVertices : MethodName := ⟨RX0, "fewestVertices", "()I"⟩
abbrev cX0_fewestEdges : ByteArray := prog_2_method_4_code
def yX0_fewestEdges : MethodName := ⟨RX0, "fewestEdges", "()I"⟩
abbrev cX0_fewestViews : ByteArray := prog_2_method_5_code
def yX0_fewestViews : MethodName := ⟨RX0, "fewestViews", "()I"⟩
abbrev cX0_viewOf : ByteArray := prog_2_method_6_code
def yX0_viewOf : MethodName := ⟨RX0, "viewOf", "(I)J"⟩
abbrev cX0_pointsNeeded : ByteArray := prog_2_method_7_code
def yX0_pointsNeeded : MethodName := ⟨RX0, "pointsNeeded", "()I"⟩
abbrev cX0_pickedPoint : ByteArray := prog_2_method_8_code
def yX0_pickedPoint : MethodName := ⟨RX0, "pickedPoint", "(I)I"⟩
abbrev cX0_pick : ByteArray := prog_2_method_9_code
def yX0_pick : MethodName := ⟨RX0, "pick", "(JIII)Z"⟩
def RX1 : String := "GalleryGuards$History"
def TX1 : u_T := fun k => match k with
  | 0 => ("GalleryGuards$History", "size", "I", false)
  | 1 => ("GalleryGuards$History", "oldest", "I", false)
  | _ => ("GalleryGuards$History", "past", "[LGalleryGuards$Plan;", true)
def tyX1 : Nat → FieldType := fun k => match k with
  | 0 => .int
  | 1 => .int
  | _ => .array (.object "GalleryGuards$Plan")
abbrev wsX10 : List Cond := u_ws RX1 TX1 3
theorem nmX1 : ∀ a, a < 3 → ∀ b, b < 3 → a ≠ b → (TX1 a).2.1 ≠ (TX1 b).2.1 := by decide +kernel
theorem tyX1_ok : ∀ k, k < 3 → parseFieldDescriptor (TX1 k).2.2.1 = some (tyX1 k) := by decide +kernel
abbrev cX1_init : ByteArray := prog_3_method_1_code
def yX1_init : MethodName := ⟨RX1, "<init>", "()V"⟩
abbrev cX1_clear : ByteArray := prog_3_method_2_code
def yX1_clear : MethodName := ⟨RX1, "clea\x72", "()V"⟩
abbrev cX1_keep : ByteArray := prog_3_method_3_code
def yX1_keep : MethodName := ⟨RX1, "keep", "(LGalleryGuards$Plan;)V"⟩
abbrev cX1_takeInto : ByteArray := prog_3_method_4_code
def yX1_takeInto : MethodName := ⟨RX1, "takeInto", "(LGalleryGuards$Plan;)V"⟩
def RX2 : String := "GalleryGuards$Input"
def TX2 : u_T := fun k => match k with
  | 0 => ("GalleryGuards$Input", "size", "I", false)
  | 1 => ("GalleryGuards$Input", "tokenKind", "I", false)
  | 2 => ("GalleryGuards$Input", "tokenStart", "I", false)
  | 3 => ("GalleryGuards$Input", "numbe\x72", "I", false)
  | 4 => ("GalleryGuards$Input", "tokenEnd", "I", false)
  | 5 => ("GalleryGuards$Input", "textEnd", "I", false)
  | _ => ("GalleryGuards$Input", "bytes", "[I", true)
def tyX2 : Nat → FieldType := fun k => match k with
  | 0 => .int
  | 1 => .int
  | 2 => .int
  | 3 => .int
  | 4 => .int
  | 5 => .int
  | _ => .array .int
abbrev wsX20 : List Cond := u_ws RX2 TX2 7
theorem nmX2 : ∀ a, a < 7 → ∀ b, b < 7 → a ≠ b → (TX2 a).2.1 ≠ (TX2 b).2.1 := by decide +kernel
theorem tyX2_ok : ∀ k, k < 7 → parseFieldDescriptor (TX2 k).2.2.1 = some (tyX2 k) := by decide +kernel
abbrev cX2_init : ByteArray := prog_4_method_1_code
def yX2_init : MethodName := ⟨RX2, "<init>", "()V"⟩
abbrev cX2_addWord : ByteArray := prog_4_method_2_code
def yX2_addWord : MethodName := ⟨RX2, "addWord", "(I)V"⟩
abbrev cX2_startText : ByteArray := prog_4_method_3_code
def yX2_startText : MethodName := ⟨RX2, "startText", "(I)V"⟩
abbrev cX2_readToken : ByteArray := prog_4_method_4_code
def yX2_readToken : MethodName := ⟨RX2, "readToken", "()V"⟩
abbrev cX2_runEnd : ByteArray := prog_4_method_5_code
def yX2_runEnd : MethodName := ⟨RX2, "runEnd", "(III)I"⟩
abbrev cX2_digitsValue : ByteArray := prog_4_method_6_code
def yX2_digitsValue : MethodName := ⟨RX2, "digitsValue", "()I"⟩
abbrev cX2_isWord : ByteArray := prog_4_method_7_code
def yX2_isWord : MethodName := ⟨RX2, "isWord", "(Ljava/lang/String;)Z"⟩
def RX3 : String := "GalleryGuards$Lattice"
def TX3 : u_T := fun k => match k with
  | 0 => ("GalleryGuards$Lattice", "count", "I", false)
  | 1 => ("GalleryGuards$Lattice", "rim", "J", false)
  | 2 => ("GalleryGuards$Lattice", "xs", "[I", true)
  | 3 => ("GalleryGuards$Lattice", "ys", "[I", true)
  | _ => ("GalleryGuards$Lattice", "numbers", "[I", true)
def tyX3 : Nat → FieldType := fun k => match k with
  | 0 => .int
  | 1 => .long
  | 2 => .array .int
  | 3 => .array .int
  | _ => .array .int
abbrev wsX30 : List Cond := u_ws RX3 TX3 5
theorem nmX3 : ∀ a, a < 5 → ∀ b, b < 5 → a ≠ b → (TX3 a).2.1 ≠ (TX3 b).2.1 := by decide +kernel
theorem tyX3_ok : ∀ k, k < 5 → parseFieldDescriptor (TX3 k).2.2.1 = some (tyX3 k) := by decide +kernel
abbrev cX3_init : ByteArray := prog_5_method_1_code
def yX3_init : MethodName := ⟨RX3, "<init>", "()V"⟩
abbrev cX3_fill : ByteArray := prog_5_method_2_code
def yX3_fill : MethodName := ⟨RX3, "fill", "(LGalleryGuards$Plan;)Z"⟩
abbrev cX3_numberAt : ByteArray := prog_5_method_3_code
def yX3_numberAt : MethodName := ⟨RX3, "numberAt", "(II)I"⟩
abbrev cX3_xOf : ByteArray := prog_5_method_4_code
def yX3_xOf : MethodName := ⟨RX3, "xOf", "(I)I"⟩
abbrev cX3_yOf : ByteArray := prog_5_method_5_code
def yX3_yOf : MethodName := ⟨RX3, "yOf", "(I)I"⟩
abbrev cX3_everyPoint : ByteArray := prog_5_method_6_code
def yX3_everyPoint : MethodName := ⟨RX3, "everyPoint", "()J"⟩
abbrev cX3_holdsAllOf : ByteArray := prog_5_method_7_code
def yX3_holdsAllOf : MethodName := ⟨RX3, "holdsAllOf", "(LGalleryGuards$Plan;)Z"⟩
def RX4 : String := "GalleryGuards$Outline"
def TX4 : u_T := fun k => match k with
  | _ => ("", "", "", false)
def tyX4 : Nat → FieldType := fun k => match k with
  | _ => .int
abbrev wsX40 : List Cond := u_ws RX4 TX4 0
theorem nmX4 : ∀ a, a < 0 → ∀ b, b < 0 → a ≠ b → (TX4 a).2.1 ≠ (TX4 b).2.1 := by decide +kernel
theorem tyX4_ok : ∀ k, k < 0 → parseFieldDescriptor (TX4 k).2.2.1 = some (tyX4 k) := by decide +kernel
abbrev cX4_turn : ByteArray := prog_6_method_2_code
def yX4_turn : MethodName := ⟨RX4, "turn", "(IIIIII)I"⟩
abbrev cX4_turnOf : ByteArray := prog_6_method_3_code
def yX4_turnOf : MethodName := ⟨RX4, "turnOf", "(LGalleryGuards$Plan;III)I"⟩
abbrev cX4_signedArea : ByteArray := prog_6_method_4_code
def yX4_signedArea : MethodName := ⟨RX4, "signedArea", "(LGalleryGuards$Plan;)I"⟩
abbrev cX4_reflexSet : ByteArray := prog_6_method_5_code
def yX4_reflexSet : MethodName := ⟨RX4, "reflexSet", "(LGalleryGuards$Plan;)I"⟩
abbrev cX4_isSimple : ByteArray := prog_6_method_6_code
def yX4_isSimple : MethodName := ⟨RX4, "isSimple", "(LGalleryGuards$Plan;)Z"⟩
abbrev cX4_foldsBack : ByteArray := prog_6_method_7_code
def yX4_foldsBack : MethodName := ⟨RX4, "foldsBack", "(LGalleryGuards$Plan;I)Z"⟩
abbrev cX4_edgesMeet : ByteArray := prog_6_method_8_code
def yX4_edgesMeet : MethodName := ⟨RX4, "edgesMeet", "(LGalleryGuards$Plan;II)Z"⟩
abbrev cX4_crosses : ByteArray := prog_6_method_9_code
def yX4_crosses : MethodName := ⟨RX4, "crosses", "(LGalleryGuards$Plan;IIIII)Z"⟩
abbrev cX4_opposite : ByteArray := prog_6_method_10_code
def yX4_opposite : MethodName := ⟨RX4, "opposite", "(II)Z"⟩
abbrev cX4_liesOn : ByteArray := prog_6_method_11_code
def yX4_liesOn : MethodName := ⟨RX4, "liesOn", "(LGalleryGuards$Plan;IIII)Z"⟩
abbrev cX4_placeOf : ByteArray := prog_6_method_12_code
def yX4_placeOf : MethodName := ⟨RX4, "placeOf", "(LGalleryGuards$Plan;II)I"⟩
abbrev cX4_passesRightOf : ByteArray := prog_6_method_13_code
def yX4_passesRightOf : MethodName := ⟨RX4, "passesRightOf", "(LGalleryGuards$Plan;III)Z"⟩
def RX5 : String := "GalleryGuards$Parse\x72"
def TX5 : u_T := fun k => match k with
  | 0 => ("GalleryGuards$Parse\x72", "input", "LGalleryGuards$Input;", true)
  | 1 => ("GalleryGuards$Parse\x72", "draft", "LGalleryGuards$Plan;", true)
  | 2 => ("GalleryGuards$Parse\x72", "lattice", "LGalleryGuards$Lattice;", true)
  | 3 => ("GalleryGuards$Parse\x72", "readX", "I", false)
  | _ => ("GalleryGuards$Parse\x72", "readY", "I", false)
def tyX5 : Nat → FieldType := fun k => match k with
  | 0 => .object "GalleryGuards$Input"
  | 1 => .object "GalleryGuards$Plan"
  | 2 => .object "GalleryGuards$Lattice"
  | 3 => .int
  | _ => .int
abbrev wsX50 : List Cond := u_ws RX5 TX5 5
theorem nmX5 : ∀ a, a < 5 → ∀ b, b < 5 → a ≠ b → (TX5 a).2.1 ≠ (TX5 b).2.1 := by decide +kernel
theorem tyX5_ok : ∀ k, k < 5 → parseFieldDescriptor (TX5 k).2.2.1 = some (tyX5 k) := by decide +kernel
abbrev cX5_init : ByteArray := prog_7_method_1_code
def yX5_init : MethodName := ⟨RX5, "<init>", "(LGalleryGuards$Input;LGalleryGuards$Plan;LGalleryGuards$Lattice;)V"⟩
abbrev cX5_parse : ByteArray := prog_7_method_2_code
def yX5_parse : MethodName := ⟨RX5, "parse", "(I)I"⟩
abbrev cX5_readVertices : ByteArray := prog_7_method_3_code
def yX5_readVertices : MethodName := ⟨RX5, "readVertices", "()I"⟩
abbrev cX5_readLines : ByteArray := prog_7_method_4_code
def yX5_readLines : MethodName := ⟨RX5, "readLines", "()I"⟩
abbrev cX5_readGuard : ByteArray := prog_7_method_5_code
def yX5_readGuard : MethodName := ⟨RX5, "readGuard", "()I"⟩
abbrev cX5_readTreasure : ByteArray := prog_7_method_6_code
def yX5_readTreasure : MethodName := ⟨RX5, "readTreasure", "()I"⟩
abbrev cX5_readPlace : ByteArray := prog_7_method_7_code
def yX5_readPlace : MethodName := ⟨RX5, "readPlace", "(Z)I"⟩
abbrev cX5_checkNumber : ByteArray := prog_7_method_8_code
def yX5_checkNumber : MethodName := ⟨RX5, "checkNumbe\x72", "(II)I"⟩
def RX6 : String := "GalleryGuards$Plan"
def TX6 : u_T := fun k => match k with
  | 0 => ("GalleryGuards$Plan", "vertexCount", "I", false)
  | 1 => ("GalleryGuards$Plan", "guardCount", "I", false)
  | 2 => ("GalleryGuards$Plan", "treasureCount", "I", false)
  | 3 => ("GalleryGuards$Plan", "vertexXs", "[I", true)
  | 4 => ("GalleryGuards$Plan", "vertexYs", "[I", true)
  | 5 => ("GalleryGuards$Plan", "guardXs", "[I", true)
  | 6 => ("GalleryGuards$Plan", "guardYs", "[I", true)
  | 7 => ("GalleryGuards$Plan", "guardReaches", "[I", true)
  | 8 => ("GalleryGuards$Plan", "treasureXs", "[I", true)
  | 9 => ("GalleryGuards$Plan", "treasureYs", "[I", true)
  | _ => ("GalleryGuards$Plan", "treasureValues", "[I", true)
def tyX6 : Nat → FieldType := fun k => match k with
  | 0 => .int
  | 1 => .int
  | 2 => .int
  | 3 => .array .int
  | 4 => .array .int
  | 5 => .array .int
  | 6 => .array .int
  | 7 => .array .int
  | 8 => .array .int
  | 9 => .array .int
  | _ => .array .int
abbrev wsX60 : List Cond := u_ws RX6 TX6 11
theorem nmX6 : ∀ a, a < 11 → ∀ b, b < 11 → a ≠ b → (TX6 a).2.1 ≠ (TX6 b).2.1 := by decide +kernel
theorem tyX6_ok : ∀ k, k < 11 → parseFieldDescriptor (TX6 k).2.2.1 = some (tyX6 k) := by decide +kernel
abbrev cX6_init : ByteArray := prog_8_method_1_code
def yX6_init : MethodName := ⟨RX6, "<init>", "()V"⟩
abbrev cX6_clear : ByteArray := prog_8_method_2_code
def yX6_clear : MethodName := ⟨RX6, "clea\x72", "()V"⟩
abbrev cX6_copyFrom : ByteArray := prog_8_method_3_code
def yX6_copyFrom : MethodName := ⟨RX6, "copyFrom", "(LGalleryGuards$Plan;)V"⟩
abbrev cX6_cornerX : ByteArray := prog_8_method_4_code
def yX6_cornerX : MethodName := ⟨RX6, "cornerX", "(I)I"⟩
abbrev cX6_cornerY : ByteArray := prog_8_method_5_code
def yX6_cornerY : MethodName := ⟨RX6, "cornerY", "(I)I"⟩
abbrev cX6_after : ByteArray := prog_8_method_6_code
def yX6_after : MethodName := ⟨RX6, "afte\x72", "(I)I"⟩
abbrev cX6_before : ByteArray := prog_8_method_7_code
def yX6_before : MethodName := ⟨RX6, "before", "(I)I"⟩
abbrev cX6_putCorner : ByteArray := prog_8_method_8_code
def yX6_putCorner : MethodName := ⟨RX6, "putCorne\x72", "(III)V"⟩
abbrev cX6_shiftCorner : ByteArray := prog_8_method_9_code
def yX6_shiftCorner : MethodName := ⟨RX6, "shiftCorne\x72", "(III)V"⟩
abbrev cX6_dropCorner : ByteArray := prog_8_method_10_code
def yX6_dropCorner : MethodName := ⟨RX6, "dropCorne\x72", "(I)V"⟩
abbrev cX6_hasCornerAt : ByteArray := prog_8_method_11_code
def yX6_hasCornerAt : MethodName := ⟨RX6, "hasCornerAt", "(II)Z"⟩
abbrev cX6_guardX : ByteArray := prog_8_method_12_code
def yX6_guardX : MethodName := ⟨RX6, "guardX", "(I)I"⟩
abbrev cX6_guardY : ByteArray := prog_8_method_13_code
def yX6_guardY : MethodName := ⟨RX6, "guardY", "(I)I"⟩
abbrev cX6_reachOf : ByteArray := prog_8_method_14_code
def yX6_reachOf : MethodName := ⟨RX6, "reachOf", "(I)I"⟩
abbrev cX6_putGuard : ByteArray := prog_8_method_15_code
def yX6_putGuard : MethodName := ⟨RX6, "putGuard", "(III)V"⟩
abbrev cX6_postGuard : ByteArray := prog_8_method_16_code
def yX6_postGuard : MethodName := ⟨RX6, "postGuard", "(III)V"⟩
abbrev cX6_giveReach : ByteArray := prog_8_method_17_code
def yX6_giveReach : MethodName := ⟨RX6, "giveReach", "(II)V"⟩
abbrev cX6_dropGuard : ByteArray := prog_8_method_18_code
def yX6_dropGuard : MethodName := ⟨RX6, "dropGuard", "(I)V"⟩
abbrev cX6_hasGuardAt : ByteArray := prog_8_method_19_code
def yX6_hasGuardAt : MethodName := ⟨RX6, "hasGuardAt", "(II)Z"⟩
abbrev cX6_treasureX : ByteArray := prog_8_method_20_code
def yX6_treasureX : MethodName := ⟨RX6, "treasureX", "(I)I"⟩
abbrev cX6_treasureY : ByteArray := prog_8_method_21_code
def yX6_treasureY : MethodName := ⟨RX6, "treasureY", "(I)I"⟩
abbrev cX6_worthOf : ByteArray := prog_8_method_22_code
def yX6_worthOf : MethodName := ⟨RX6, "worthOf", "(I)I"⟩
abbrev cX6_putTreasure : ByteArray := prog_8_method_23_code
def yX6_putTreasure : MethodName := ⟨RX6, "putTreasure", "(III)V"⟩
abbrev cX6_hasTreasureAt : ByteArray := prog_8_method_24_code
def yX6_hasTreasureAt : MethodName := ⟨RX6, "hasTreasureAt", "(II)Z"⟩
def RX7 : String := "GalleryGuards$Sight"
def TX7 : u_T := fun k => match k with
  | 0 => ("GalleryGuards$Sight", "plan", "LGalleryGuards$Plan;", true)
  | 1 => ("GalleryGuards$Sight", "lattice", "LGalleryGuards$Lattice;", true)
  | 2 => ("GalleryGuards$Sight", "rows", "[J", true)
  | _ => ("GalleryGuards$Sight", "known", "Z", false)
def tyX7 : Nat → FieldType := fun k => match k with
  | 0 => .object "GalleryGuards$Plan"
  | 1 => .object "GalleryGuards$Lattice"
  | 2 => .array .long
  | _ => .boolean
abbrev wsX70 : List Cond := u_ws RX7 TX7 4
theorem nmX7 : ∀ a, a < 4 → ∀ b, b < 4 → a ≠ b → (TX7 a).2.1 ≠ (TX7 b).2.1 := by decide +kernel
theorem tyX7_ok : ∀ k, k < 4 → parseFieldDescriptor (TX7 k).2.2.1 = some (tyX7 k) := by decide +kernel
abbrev cX7_init : ByteArray := prog_9_method_1_code
def yX7_init : MethodName := ⟨RX7, "<init>", "(LGalleryGuards$Plan;LGalleryGuards$Lattice;)V"⟩
abbrev cX7_forget : ByteArray := prog_9_method_2_code
def yX7_forget : MethodName := ⟨RX7, "forget", "()V"⟩
abbrev cX7_learn : ByteArray := prog_9_method_3_code
def yX7_learn : MethodName := ⟨RX7, "learn", "()V"⟩
abbrev cX7_linkPairs : ByteArray := prog_9_method_4_code
def yX7_linkPairs : MethodName := ⟨RX7, "linkPairs", "(Z)V"⟩
abbrev cX7_isClear : ByteArray := prog_9_method_5_code
def yX7_isClear : MethodName := ⟨RX7, "isClea\x72", "(II)Z"⟩
abbrev cX7_isChained : ByteArray := prog_9_method_6_code
def yX7_isChained : MethodName := ⟨RX7, "isChained", "(III)Z"⟩
abbrev cX7_piecesOf : ByteArray := prog_9_method_7_code
def yX7_piecesOf : MethodName := ⟨RX7, "piecesOf", "(II)I"⟩
abbrev cX7_everyPoint : ByteArray := prog_9_method_8_code
def yX7_everyPoint : MethodName := ⟨RX7, "everyPoint", "()J"⟩
abbrev cX7_pointCount : ByteArray := prog_9_method_9_code
def yX7_pointCount : MethodName := ⟨RX7, "pointCount", "()I"⟩
abbrev cX7_from : ByteArray := prog_9_method_10_code
def yX7_from : MethodName := ⟨RX7, "from", "(I)J"⟩
abbrev cX7_fromAnyOf : ByteArray := prog_9_method_11_code
def yX7_fromAnyOf : MethodName := ⟨RX7, "fromAnyOf", "(J)J"⟩
abbrev cX7_fromEdge : ByteArray := prog_9_method_12_code
def yX7_fromEdge : MethodName := ⟨RX7, "fromEdge", "(I)J"⟩
abbrev cX7_seeingAll : ByteArray := prog_9_method_13_code
def yX7_seeingAll : MethodName := ⟨RX7, "seeingAll", "()J"⟩
abbrev cX7_links : ByteArray := prog_9_method_14_code
def yX7_links : MethodName := ⟨RX7, "links", "(II)I"⟩
abbrev cX7_lastReached : ByteArray := prog_9_method_15_code
def yX7_lastReached : MethodName := ⟨RX7, "lastReached", "(I)I"⟩
abbrev cX7_mostLinks : ByteArray := prog_9_method_16_code
def yX7_mostLinks : MethodName := ⟨RX7, "mostLinks", "()I"⟩
def RX8 : String := "GalleryGuards$SpreadSearch"
def TX8 : u_T := fun k => match k with
  | 0 => ("GalleryGuards$SpreadSearch", "sight", "LGalleryGuards$Sight;", true)
  | 1 => ("GalleryGuards$SpreadSearch", "sharing", "[J", true)
  | 2 => ("GalleryGuards$SpreadSearch", "picked", "[I", true)
  | 3 => ("GalleryGuards$SpreadSearch", "pickedCount", "I", false)
  | _ => ("GalleryGuards$SpreadSearch", "hiddenCount", "I", false)
def tyX8 : Nat → FieldType := fun k => match k with
  | 0 => .object "GalleryGuards$Sight"
  | 1 => .array .long
  | 2 => .array .int
  | 3 => .int
  | _ => .int
abbrev wsX80 : List Cond := u_ws RX8 TX8 5
theorem nmX8 : ∀ a, a < 5 → ∀ b, b < 5 → a ≠ b → (TX8 a).2.1 ≠ (TX8 b).2.1 := by decide +kernel
theorem tyX8_ok : ∀ k, k < 5 → parseFieldDescriptor (TX8 k).2.2.1 = some (tyX8 k) := by decide +kernel
abbrev cX8_init : ByteArray := prog_10_method_1_code
def yX8_init : MethodName := ⟨RX8, "<init>", "(LGalleryGuards$Sight;)V"⟩
abbrev cX8_forget : ByteArray := prog_10_method_2_code
def yX8_forget : MethodName := ⟨RX8, "forget", "()V"⟩
abbrev cX8_mostWitnesses : ByteArray := prog_10_method_3_code
def yX8_mostWitnesses : MethodName := ⟨RX8, "mostWitnesses", "()I"⟩
abbrev cX8_pickedWitness : ByteArray := prog_10_method_4_code
def yX8_pickedWitness : MethodName := ⟨RX8, "pickedWitness", "(I)I"⟩
abbrev cX8_pick : ByteArray := prog_10_method_5_code
def yX8_pick : MethodName := ⟨RX8, "pick", "(JII)Z"⟩
abbrev cX8_mostHidden : ByteArray := prog_10_method_6_code
def yX8_mostHidden : MethodName := ⟨RX8, "mostHidden", "()I"⟩
abbrev cX8_largestHidden : ByteArray := prog_10_method_7_code
def yX8_largestHidden : MethodName := ⟨RX8, "largestHidden", "(JI)I"⟩
abbrev cX8_withoutDominated : ByteArray := prog_10_method_8_code
def yX8_withoutDominated : MethodName := ⟨RX8, "withoutDominated", "(J)J"⟩
abbrev cX8_isDominated : ByteArray := prog_10_method_9_code
def yX8_isDominated : MethodName := ⟨RX8, "isDominated", "(IJ)Z"⟩
abbrev cX8_leastSeeing : ByteArray := prog_10_method_10_code
def yX8_leastSeeing : MethodName := ⟨RX8, "leastSeeing", "(J)I"⟩
def RX9 : String := "GalleryGuards$Triangulation"
def TX9 : u_T := fun k => match k with
  | 0 => ("GalleryGuards$Triangulation", "plan", "LGalleryGuards$Plan;", true)
  | 1 => ("GalleryGuards$Triangulation", "cut", "[I", true)
  | 2 => ("GalleryGuards$Triangulation", "low", "[I", true)
  | 3 => ("GalleryGuards$Triangulation", "middle", "[I", true)
  | 4 => ("GalleryGuards$Triangulation", "high", "[I", true)
  | 5 => ("GalleryGuards$Triangulation", "colours", "[I", true)
  | 6 => ("GalleryGuards$Triangulation", "ring", "[I", true)
  | 7 => ("GalleryGuards$Triangulation", "ringSize", "I", false)
  | _ => ("GalleryGuards$Triangulation", "known", "Z", false)
def tyX9 : Nat → FieldType := fun k => match k with
  | 0 => .object "GalleryGuards$Plan"
  | 1 => .array .int
  | 2 => .array .int
  | 3 => .array .int
  | 4 => .array .int
  | 5 => .array .int
  | 6 => .array .int
  | 7 => .int
  | _ => .boolean
abbrev wsX90 : List Cond := u_ws RX9 TX9 9
theorem nmX9 : ∀ a, a < 9 → ∀ b, b < 9 → a ≠ b → (TX9 a).2.1 ≠ (TX9 b).2.1 := by decide +kernel
theorem tyX9_ok : ∀ k, k < 9 → parseFieldDescriptor (TX9 k).2.2.1 = some (tyX9 k) := by decide +kernel
abbrev cX9_init : ByteArray := prog_11_method_1_code
def yX9_init : MethodName := ⟨RX9, "<init>", "(LGalleryGuards$Plan;)V"⟩
abbrev cX9_forget : ByteArray := prog_11_method_2_code
def yX9_forget : MethodName := ⟨RX9, "forget", "()V"⟩
abbrev cX9_cornerOf : ByteArray := prog_11_method_3_code
def yX9_cornerOf : MethodName := ⟨RX9, "cornerOf", "(II)I"⟩
abbrev cX9_areaOf : ByteArray := prog_11_method_4_code
def yX9_areaOf : MethodName := ⟨RX9, "areaOf", "(I)I"⟩
abbrev cX9_colourOf : ByteArray := prog_11_method_5_code
def yX9_colourOf : MethodName := ⟨RX9, "colourOf", "(I)I"⟩
abbrev cX9_rarestColourSet : ByteArray := prog_11_method_6_code
def yX9_rarestColourSet : MethodName := ⟨RX9, "rarestColourSet", "()I"⟩
abbrev cX9_colourSet : ByteArray := prog_11_method_7_code
def yX9_colourSet : MethodName := ⟨RX9, "colourSet", "(I)I"⟩
abbrev cX9_learn : ByteArray := prog_11_method_8_code
def yX9_learn : MethodName := ⟨RX9, "learn", "()V"⟩
abbrev cX9_firstEar : ByteArray := prog_11_method_9_code
def yX9_firstEar : MethodName := ⟨RX9, "firstEa\x72", "(Z)I"⟩
abbrev cX9_ringAt : ByteArray := prog_11_method_10_code
def yX9_ringAt : MethodName := ⟨RX9, "ringAt", "(I)I"⟩
abbrev cX9_isFreeOfOthers : ByteArray := prog_11_method_11_code
def yX9_isFreeOfOthers : MethodName := ⟨RX9, "isFreeOfOthers", "(I)Z"⟩
abbrev cX9_inTriangle : ByteArray := prog_11_method_12_code
def yX9_inTriangle : MethodName := ⟨RX9, "inTriangle", "(IIII)Z"⟩
abbrev cX9_clip : ByteArray := prog_11_method_13_code
def yX9_clip : MethodName := ⟨RX9, "clip", "(II)V"⟩
abbrev cX9_paint : ByteArray := prog_11_method_14_code
def yX9_paint : MethodName := ⟨RX9, "paint", "(I)V"⟩
abbrev cX9_tint : ByteArray := prog_11_method_15_code
def yX9_tint : MethodName := ⟨RX9, "tint", "(II)V"⟩
abbrev cX9_tintOf : ByteArray := prog_11_method_16_code
def yX9_tintOf : MethodName := ⟨RX9, "tintOf", "(I)I"⟩
def RX10 : String := "GalleryGuards$Watch"
def TX10 : u_T := fun k => match k with
  | 0 => ("GalleryGuards$Watch", "plan", "LGalleryGuards$Plan;", true)
  | 1 => ("GalleryGuards$Watch", "lattice", "LGalleryGuards$Lattice;", true)
  | _ => ("GalleryGuards$Watch", "sight", "LGalleryGuards$Sight;", true)
def tyX10 : Nat → FieldType := fun k => match k with
  | 0 => .object "GalleryGuards$Plan"
  | 1 => .object "GalleryGuards$Lattice"
  | _ => .object "GalleryGuards$Sight"
abbrev wsX100 : List Cond := u_ws RX10 TX10 3
theorem nmX10 : ∀ a, a < 3 → ∀ b, b < 3 → a ≠ b → (TX10 a).2.1 ≠ (TX10 b).2.1 := by decide +kernel
theorem tyX10_ok : ∀ k, k < 3 → parseFieldDescriptor (TX10 k).2.2.1 = some (tyX10 k) := by decide +kernel
abbrev cX10_init : ByteArray := prog_12_method_1_code
def yX10_init : MethodName := ⟨RX10, "<init>", "(LGalleryGuards$Plan;LGalleryGuards$Lattice;LGalleryGuards$Sight;)V"⟩
abbrev cX10_postOf : ByteArray := prog_12_method_2_code
def yX10_postOf : MethodName := ⟨RX10, "postOf", "(I)I"⟩
abbrev cX10_placeOfTreasure : ByteArray := prog_12_method_3_code
def yX10_placeOfTreasure : MethodName := ⟨RX10, "placeOfTreasure", "(I)I"⟩
abbrev cX10_within : ByteArray := prog_12_method_4_code
def yX10_within : MethodName := ⟨RX10, "within", "(II)J"⟩
abbrev cX10_byGuard : ByteArray := prog_12_method_5_code
def yX10_byGuard : MethodName := ⟨RX10, "byGuard", "(I)J"⟩
abbrev cX10_byAllBut : ByteArray := prog_12_method_6_code
def yX10_byAllBut : MethodName := ⟨RX10, "byAllBut", "(I)J"⟩
abbrev cX10_guardsOn : ByteArray := prog_12_method_7_code
def yX10_guardsOn : MethodName := ⟨RX10, "guardsOn", "(I)I"⟩
abbrev cX10_spareGuards : ByteArray := prog_12_method_8_code
def yX10_spareGuards : MethodName := ⟨RX10, "spareGuards", "()I"⟩
abbrev cX10_bestPostFor : ByteArray := prog_12_method_9_code
def yX10_bestPostFor : MethodName := ⟨RX10, "bestPostFo\x72", "(J)I"⟩
abbrev cX10_greedyCount : ByteArray := prog_12_method_10_code
def yX10_greedyCount : MethodName := ⟨RX10, "greedyCount", "()I"⟩
abbrev cX10_valueIn : ByteArray := prog_12_method_11_code
def yX10_valueIn : MethodName := ⟨RX10, "valueIn", "(J)I"⟩
abbrev cX10_valueAfterBestMove : ByteArray := prog_12_method_12_code
def yX10_valueAfterBestMove : MethodName := ⟨RX10, "valueAfterBestMove", "()I"⟩
def RX11 : String := "GalleryGuards"
def TX11 : u_T := fun k => match k with
  | 0 => ("GalleryGuards", "input", "LGalleryGuards$Input;", true)
  | 1 => ("GalleryGuards", "parse\x72", "LGalleryGuards$Parser;", true)
  | 2 => ("GalleryGuards", "plan", "LGalleryGuards$Plan;", true)
  | 3 => ("GalleryGuards", "draft", "LGalleryGuards$Plan;", true)
  | 4 => ("GalleryGuards", "lattice", "LGalleryGuards$Lattice;", true)
  | 5 => ("GalleryGuards", "draftLattice", "LGalleryGuards$Lattice;", true)
  | 6 => ("GalleryGuards", "sight", "LGalleryGuards$Sight;", true)
  | 7 => ("GalleryGuards", "triangulation", "LGalleryGuards$Triangulation;", true)
  | 8 => ("GalleryGuards", "covers", "LGalleryGuards$CoverSearch;", true)
  | 9 => ("GalleryGuards", "spreads", "LGalleryGuards$SpreadSearch;", true)
  | 10 => ("GalleryGuards", "watch", "LGalleryGuards$Watch;", true)
  | 11 => ("GalleryGuards", "history", "LGalleryGuards$History;", true)
  | 12 => ("GalleryGuards", "firstSaved", "LGalleryGuards$Plan;", true)
  | 13 => ("GalleryGuards", "secondSaved", "LGalleryGuards$Plan;", true)
  | 14 => ("GalleryGuards", "drawn", "[I", true)
  | 15 => ("GalleryGuards", "hasDrawn", "Z", false)
  | 16 => ("GalleryGuards", "errorCode", "I", false)
  | _ => ("GalleryGuards", "errorAt", "I", false)
def tyX11 : Nat → FieldType := fun k => match k with
  | 0 => .object "GalleryGuards$Input"
  | 1 => .object "GalleryGuards$Parse\x72"
  | 2 => .object "GalleryGuards$Plan"
  | 3 => .object "GalleryGuards$Plan"
  | 4 => .object "GalleryGuards$Lattice"
  | 5 => .object "GalleryGuards$Lattice"
  | 6 => .object "GalleryGuards$Sight"
  | 7 => .object "GalleryGuards$Triangulation"
  | 8 => .object "GalleryGuards$CoverSearch"
  | 9 => .object "GalleryGuards$SpreadSearch"
  | 10 => .object "GalleryGuards$Watch"
  | 11 => .object "GalleryGuards$History"
  | 12 => .object "GalleryGuards$Plan"
  | 13 => .object "GalleryGuards$Plan"
  | 14 => .array .int
  | 15 => .boolean
  | 16 => .int
  | _ => .int
abbrev wsX110 : List Cond := u_ws RX11 TX11 18
theorem nmX11 : ∀ a, a < 18 → ∀ b, b < 18 → a ≠ b → (TX11 a).2.1 ≠ (TX11 b).2.1 := by decide +kernel
theorem tyX11_ok : ∀ k, k < 18 → parseFieldDescriptor (TX11 k).2.2.1 = some (tyX11 k) := by decide +kernel
abbrev cX11_init : ByteArray := prog_1_method_1_code
def yX11_init : MethodName := ⟨RX11, "<init>", "()V"⟩
abbrev cX11_append : ByteArray := prog_1_method_2_code
def yX11_append : MethodName := ⟨RX11, "append", "(IIIII)I"⟩
abbrev cX11_load : ByteArray := prog_1_method_3_code
def yX11_load : MethodName := ⟨RX11, "load", "(I)I"⟩
abbrev cX11_parseError : ByteArray := prog_1_method_4_code
def yX11_parseError : MethodName := ⟨RX11, "parseErro\x72", "()I"⟩
abbrev cX11_errorPosition : ByteArray := prog_1_method_5_code
def yX11_errorPosition : MethodName := ⟨RX11, "errorPosition", "()I"⟩
abbrev cX11_buffered : ByteArray := prog_1_method_6_code
def yX11_buffered : MethodName := ⟨RX11, "buffered", "()I"⟩
abbrev cX11_vertices : ByteArray := prog_1_method_7_code
def yX11_vertices : MethodName := ⟨RX11, "vertices", "()I"⟩
abbrev cX11_vertexX : ByteArray := prog_1_method_8_code
def yX11_vertexX : MethodName := ⟨RX11, "vertexX", "(I)I"⟩
abbrev cX11_vertexY : ByteArray := prog_1_method_9_code
def yX11_vertexY : MethodName := ⟨RX11, "vertexY", "(I)I"⟩
abbrev cX11_doubleArea : ByteArray := prog_1_method_10_code
def yX11_doubleArea : MethodName := ⟨RX11, "doubleArea", "()I"⟩
abbrev cX11_reflexVertices : ByteArray := prog_1_method_11_code
def yX11_reflexVertices : MethodName := ⟨RX11, "reflexVertices", "()I"⟩
abbrev cX11_points : ByteArray := prog_1_method_12_code
def yX11_points : MethodName := ⟨RX11, "points", "()I"⟩
abbrev cX11_pointX : ByteArray := prog_1_method_13_code
def yX11_pointX : MethodName := ⟨RX11, "pointX", "(I)I"⟩
abbrev cX11_pointY : ByteArray := prog_1_method_14_code
def yX11_pointY : MethodName := ⟨RX11, "pointY", "(I)I"⟩
abbrev cX11_pointAt : ByteArray := prog_1_method_15_code
def yX11_pointAt : MethodName := ⟨RX11, "pointAt", "(II)I"⟩
abbrev cX11_boundary : ByteArray := prog_1_method_16_code
def yX11_boundary : MethodName := ⟨RX11, "boundary", "()J"⟩
abbrev cX11_sees : ByteArray := prog_1_method_17_code
def yX11_sees : MethodName := ⟨RX11, "sees", "(II)Z"⟩
abbrev cX11_visible : ByteArray := prog_1_method_18_code
def yX11_visible : MethodName := ⟨RX11, "visible", "(I)J"⟩
abbrev cX11_kernel : ByteArray := prog_1_method_19_code
def yX11_kernel : MethodName := ⟨RX11, "kernel", "()J"⟩
abbrev cX11_linkDistance : ByteArray := prog_1_method_20_code
def yX11_linkDistance : MethodName := ⟨RX11, "linkDistance", "(II)I"⟩
abbrev cX11_diameter : ByteArray := prog_1_method_21_code
def yX11_diameter : MethodName := ⟨RX11, "diamete\x72", "()I"⟩
abbrev cX11_farthest : ByteArray := prog_1_method_22_code
def yX11_farthest : MethodName := ⟨RX11, "farthest", "(I)I"⟩
abbrev cX11_seenFromEdge : ByteArray := prog_1_method_23_code
def yX11_seenFromEdge : MethodName := ⟨RX11, "seenFromEdge", "(I)J"⟩
abbrev cX11_triangleVertex : ByteArray := prog_1_method_24_code
def yX11_triangleVertex : MethodName := ⟨RX11, "triangleVertex", "(II)I"⟩
abbrev cX11_triangleArea : ByteArray := prog_1_method_25_code
def yX11_triangleArea : MethodName := ⟨RX11, "triangleArea", "(I)I"⟩
abbrev cX11_colour : ByteArray := prog_1_method_26_code
def yX11_colour : MethodName := ⟨RX11, "colou\x72", "(I)I"⟩
abbrev cX11_colourGuards : ByteArray := prog_1_method_27_code
def yX11_colourGuards : MethodName := ⟨RX11, "colourGuards", "()I"⟩
abbrev cX11_vertexGuards : ByteArray := prog_1_method_28_code
def yX11_vertexGuards : MethodName := ⟨RX11, "vertexGuards", "()I"⟩
abbrev cX11_edgeGuards : ByteArray := prog_1_method_29_code
def yX11_edgeGuards : MethodName := ⟨RX11, "edgeGuards", "()I"⟩
abbrev cX11_guardNumber : ByteArray := prog_1_method_30_code
def yX11_guardNumber : MethodName := ⟨RX11, "guardNumbe\x72", "()I"⟩
abbrev cX11_guardPoint : ByteArray := prog_1_method_31_code
def yX11_guardPoint : MethodName := ⟨RX11, "guardPoint", "(I)I"⟩
abbrev cX11_witnessNumber : ByteArray := prog_1_method_32_code
def yX11_witnessNumber : MethodName := ⟨RX11, "witnessNumbe\x72", "()I"⟩
abbrev cX11_witness : ByteArray := prog_1_method_33_code
def yX11_witness : MethodName := ⟨RX11, "witness", "(I)I"⟩
abbrev cX11_hiddenNumber : ByteArray := prog_1_method_34_code
def yX11_hiddenNumber : MethodName := ⟨RX11, "hiddenNumbe\x72", "()I"⟩
abbrev cX11_guards : ByteArray := prog_1_method_35_code
def yX11_guards : MethodName := ⟨RX11, "guards", "()I"⟩
abbrev cX11_guardAt : ByteArray := prog_1_method_36_code
def yX11_guardAt : MethodName := ⟨RX11, "guardAt", "(I)I"⟩
abbrev cX11_guardRange : ByteArray := prog_1_method_37_code
def yX11_guardRange : MethodName := ⟨RX11, "guardRange", "(I)I"⟩
abbrev cX11_watched : ByteArray := prog_1_method_38_code
def yX11_watched : MethodName := ⟨RX11, "watched", "(I)J"⟩
abbrev cX11_unwatched : ByteArray := prog_1_method_39_code
def yX11_unwatched : MethodName := ⟨RX11, "unwatched", "()J"⟩
abbrev cX11_watchers : ByteArray := prog_1_method_40_code
def yX11_watchers : MethodName := ⟨RX11, "watchers", "(I)I"⟩
abbrev cX11_redundantGuards : ByteArray := prog_1_method_41_code
def yX11_redundantGuards : MethodName := ⟨RX11, "redundantGuards", "()I"⟩
abbrev cX11_bestPoint : ByteArray := prog_1_method_42_code
def yX11_bestPoint : MethodName := ⟨RX11, "bestPoint", "()I"⟩
abbrev cX11_greedyGuards : ByteArray := prog_1_method_43_code
def yX11_greedyGuards : MethodName := ⟨RX11, "greedyGuards", "()I"⟩
abbrev cX11_treasures : ByteArray := prog_1_method_44_code
def yX11_treasures : MethodName := ⟨RX11, "treasures", "()I"⟩
abbrev cX11_treasureAt : ByteArray := prog_1_method_45_code
def yX11_treasureAt : MethodName := ⟨RX11, "treasureAt", "(I)I"⟩
abbrev cX11_watchedValue : ByteArray := prog_1_method_46_code
def yX11_watchedValue : MethodName := ⟨RX11, "watchedValue", "()I"⟩
abbrev cX11_bestValue : ByteArray := prog_1_method_47_code
def yX11_bestValue : MethodName := ⟨RX11, "bestValue", "()I"⟩
abbrev cX11_draw : ByteArray := prog_1_method_48_code
def yX11_draw : MethodName := ⟨RX11, "draw", "(I)I"⟩
abbrev cX11_drawnByte : ByteArray := prog_1_method_49_code
def yX11_drawnByte : MethodName := ⟨RX11, "drawnByte", "(I)I"⟩
abbrev cX11_addGuard : ByteArray := prog_1_method_50_code
def yX11_addGuard : MethodName := ⟨RX11, "addGuard", "(II)I"⟩
abbrev cX11_removeGuard : ByteArray := prog_1_method_51_code
def yX11_removeGuard : MethodName := ⟨RX11, "removeGuard", "(I)I"⟩
abbrev cX11_moveGuard : ByteArray := prog_1_method_52_code
def yX11_moveGuard : MethodName := ⟨RX11, "moveGuard", "(II)I"⟩
abbrev cX11_setRange : ByteArray := prog_1_method_53_code
def yX11_setRange : MethodName := ⟨RX11, "setRange", "(II)I"⟩
abbrev cX11_moveVertex : ByteArray := prog_1_method_54_code
def yX11_moveVertex : MethodName := ⟨RX11, "moveVertex", "(III)I"⟩
abbrev cX11_insertVertex : ByteArray := prog_1_method_55_code
def yX11_insertVertex : MethodName := ⟨RX11, "insertVertex", "(III)I"⟩
abbrev cX11_deleteVertex : ByteArray := prog_1_method_56_code
def yX11_deleteVertex : MethodName := ⟨RX11, "deleteVertex", "(I)I"⟩
abbrev cX11_undo : ByteArray := prog_1_method_57_code
def yX11_undo : MethodName := ⟨RX11, "undo", "()I"⟩
abbrev cX11_undoable : ByteArray := prog_1_method_58_code
def yX11_undoable : MethodName := ⟨RX11, "undoable", "()I"⟩
abbrev cX11_save : ByteArray := prog_1_method_59_code
def yX11_save : MethodName := ⟨RX11, "save", "(I)I"⟩
abbrev cX11_restore : ByteArray := prog_1_method_60_code
def yX11_restore : MethodName := ⟨RX11, "restore", "(I)I"⟩
abbrev cX11_needPolygon : ByteArray := prog_1_method_61_code
def yX11_needPolygon : MethodName := ⟨RX11, "needPolygon", "()V"⟩
abbrev cX11_needIndex : ByteArray := prog_1_method_62_code
def yX11_needIndex : MethodName := ⟨RX11, "needIndex", "(II)V"⟩
abbrev cX11_needRange : ByteArray := prog_1_method_63_code
def yX11_needRange : MethodName := ⟨RX11, "needRange", "(III)V"⟩
abbrev cX11_has : ByteArray := prog_1_method_64_code
def yX11_has : MethodName := ⟨RX11, "has", "(JI)Z"⟩
abbrev cX11_savedIn : ByteArray := prog_1_method_65_code
def yX11_savedIn : MethodName := ⟨RX11, "savedIn", "(I)LGalleryGuards$Plan;"⟩
abbrev cX11_adoptDraft : ByteArray := prog_1_method_66_code
def yX11_adoptDraft : MethodName := ⟨RX11, "adoptDraft", "()I"⟩
abbrev cX11_replacePlan : ByteArray := prog_1_method_67_code
def yX11_replacePlan : MethodName := ⟨RX11, "replacePlan", "(LGalleryGuards$Plan;)V"⟩
abbrev cX11_signAt : ByteArray := prog_1_method_68_code
def yX11_signAt : MethodName := ⟨RX11, "signAt", "(IIJ)I"⟩
def RX12 : String := "GalleryGuardsModel"
def TX12 : u_T := fun k => match k with
  | 0 => ("GalleryGuardsModel", "thrown", "I", false)
  | 1 => ("GalleryGuardsModel", "hasPolygon", "Z", false)
  | 2 => ("GalleryGuardsModel", "s", "[I", true)
  | 3 => ("GalleryGuardsModel", "stores", "[I", true)
  | 4 => ("GalleryGuardsModel", "changes", "I", false)
  | 5 => ("GalleryGuardsModel", "isKept", "[Z", true)
  | 6 => ("GalleryGuardsModel", "buffe\x72", "[I", true)
  | 7 => ("GalleryGuardsModel", "buffered", "I", false)
  | 8 => ("GalleryGuardsModel", "parseErro\x72", "I", false)
  | 9 => ("GalleryGuardsModel", "errorPosition", "I", false)
  | 10 => ("GalleryGuardsModel", "size", "I", false)
  | 11 => ("GalleryGuardsModel", "next", "I", false)
  | 12 => ("GalleryGuardsModel", "from", "I", false)
  | 13 => ("GalleryGuardsModel", "sort", "I", false)
  | 14 => ("GalleryGuardsModel", "word", "[I", true)
  | 15 => ("GalleryGuardsModel", "wordLong", "I", false)
  | 16 => ("GalleryGuardsModel", "numbe\x72", "I", false)
  | 17 => ("GalleryGuardsModel", "wrong", "I", false)
  | 18 => ("GalleryGuardsModel", "wrongAt", "I", false)
  | 19 => ("GalleryGuardsModel", "\x72", "[I", true)
  | 20 => ("GalleryGuardsModel", "points", "I", false)
  | 21 => ("GalleryGuardsModel", "px", "[I", true)
  | 22 => ("GalleryGuardsModel", "py", "[I", true)
  | 23 => ("GalleryGuardsModel", "numberAt", "[I", true)
  | 24 => ("GalleryGuardsModel", "wayX", "[J", true)
  | 25 => ("GalleryGuardsModel", "wayY", "[J", true)
  | 26 => ("GalleryGuardsModel", "wayFa\x72", "[J", true)
  | 27 => ("GalleryGuardsModel", "isLaid", "Z", false)
  | 28 => ("GalleryGuardsModel", "sight", "[J", true)
  | 29 => ("GalleryGuardsModel", "edgeSight", "[J", true)
  | 30 => ("GalleryGuardsModel", "links", "[I", true)
  | 31 => ("GalleryGuardsModel", "ring", "[I", true)
  | 32 => ("GalleryGuardsModel", "corners", "[I", true)
  | 33 => ("GalleryGuardsModel", "colours", "[I", true)
  | 34 => ("GalleryGuardsModel", "guardMany", "I", false)
  | 35 => ("GalleryGuardsModel", "guardSet", "[I", true)
  | 36 => ("GalleryGuardsModel", "witnessMany", "I", false)
  | 37 => ("GalleryGuardsModel", "witnessSet", "[I", true)
  | 38 => ("GalleryGuardsModel", "hidden", "I", false)
  | 39 => ("GalleryGuardsModel", "map", "[I", true)
  | _ => ("GalleryGuardsModel", "isDrawn", "Z", false)
def tyX12 : Nat → FieldType := fun k => match k with
  | 0 => .int
  | 1 => .boolean
  | 2 => .array .int
  | 3 => .array .int
  | 4 => .int
  | 5 => .array .boolean
  | 6 => .array .int
  | 7 => .int
  | 8 => .int
  | 9 => .int
  | 10 => .int
  | 11 => .int
  | 12 => .int
  | 13 => .int
  | 14 => .array .int
  | 15 => .int
  | 16 => .int
  | 17 => .int
  | 18 => .int
  | 19 => .array .int
  | 20 => .int
  | 21 => .array .int
  | 22 => .array .int
  | 23 => .array .int
  | 24 => .array .long
  | 25 => .array .long
  | 26 => .array .long
  | 27 => .boolean
  | 28 => .array .long
  | 29 => .array .long
  | 30 => .array .int
  | 31 => .array .int
  | 32 => .array .int
  | 33 => .array .int
  | 34 => .int
  | 35 => .array .int
  | 36 => .int
  | 37 => .array .int
  | 38 => .int
  | 39 => .array .int
  | _ => .boolean
abbrev wsX120 : List Cond := u_ws RX12 TX12 41
theorem nmX12 : ∀ a, a < 41 → ∀ b, b < 41 → a ≠ b → (TX12 a).2.1 ≠ (TX12 b).2.1 := by decide +kernel
theorem tyX12_ok : ∀ k, k < 41 → parseFieldDescriptor (TX12 k).2.2.1 = some (tyX12 k) := by decide +kernel
abbrev cX12_init : ByteArray := prog_14_method_1_code
def yX12_init : MethodName := ⟨RX12, "<init>", "()V"⟩
abbrev cX12_thrown : ByteArray := prog_14_method_2_code
def yX12_thrown : MethodName := ⟨RX12, "thrown", "()I"⟩
abbrev cX12_in : ByteArray := prog_14_method_3_code
def yX12_in : MethodName := ⟨RX12, "in", "(III)Z"⟩
abbrev cX12_refuse : ByteArray := prog_14_method_4_code
def yX12_refuse : MethodName := ⟨RX12, "refuse", "(ZI)Z"⟩
abbrev cX12_noPolygon : ByteArray := prog_14_method_5_code
def yX12_noPolygon : MethodName := ⟨RX12, "noPolygon", "()Z"⟩
abbrev cX12_append : ByteArray := prog_14_method_6_code
def yX12_append : MethodName := ⟨RX12, "append", "(IIIII)I"⟩
abbrev cX12_buffered : ByteArray := prog_14_method_7_code
def yX12_buffered : MethodName := ⟨RX12, "buffered", "()I"⟩
abbrev cX12_parseError : ByteArray := prog_14_method_8_code
def yX12_parseError : MethodName := ⟨RX12, "parseErro\x72", "()I"⟩
abbrev cX12_errorPosition : ByteArray := prog_14_method_9_code
def yX12_errorPosition : MethodName := ⟨RX12, "errorPosition", "()I"⟩
abbrev cX12_seen : ByteArray := prog_14_method_10_code
def yX12_seen : MethodName := ⟨RX12, "seen", "(I)I"⟩
abbrev cX12_isLetter : ByteArray := prog_14_method_11_code
def yX12_isLetter : MethodName := ⟨RX12, "isLette\x72", "(I)Z"⟩
abbrev cX12_isDigit : ByteArray := prog_14_method_12_code
def yX12_isDigit : MethodName := ⟨RX12, "isDigit", "(I)Z"⟩
abbrev cX12_token : ByteArray := prog_14_method_13_code
def yX12_token : MethodName := ⟨RX12, "token", "()V"⟩
abbrev cX12_fails : ByteArray := prog_14_method_14_code
def yX12_fails : MethodName := ⟨RX12, "fails", "(I)V"⟩
abbrev cX12_goesOn : ByteArray := prog_14_method_15_code
def yX12_goesOn : MethodName := ⟨RX12, "goesOn", "()V"⟩
abbrev cX12_isWord : ByteArray := prog_14_method_16_code
def yX12_isWord : MethodName := ⟨RX12, "isWord", "(Ljava/lang/String;)Z"⟩
abbrev cX12_numberHere : ByteArray := prog_14_method_17_code
def yX12_numberHere : MethodName := ⟨RX12, "numberHere", "(II)I"⟩
abbrev cX12_takes : ByteArray := prog_14_method_18_code
def yX12_takes : MethodName := ⟨RX12, "takes", "(II)I"⟩
abbrev cX12_polygonLine : ByteArray := prog_14_method_19_code
def yX12_polygonLine : MethodName := ⟨RX12, "polygonLine", "()V"⟩
abbrev cX12_thingLine : ByteArray := prog_14_method_20_code
def yX12_thingLine : MethodName := ⟨RX12, "thingLine", "(Z)V"⟩
abbrev cX12_reads : ByteArray := prog_14_method_21_code
def yX12_reads : MethodName := ⟨RX12, "reads", "(I)V"⟩
abbrev cX12_load : ByteArray := prog_14_method_22_code
def yX12_load : MethodName := ⟨RX12, "load", "(I)I"⟩
abbrev cX12_cross : ByteArray := prog_14_method_23_code
def yX12_cross : MethodName := ⟨RX12, "cross", "(JJJJJJ)J"⟩
abbrev cX12_sign : ByteArray := prog_14_method_24_code
def yX12_sign : MethodName := ⟨RX12, "sign", "(J)I"⟩
abbrev cX12_after : ByteArray := prog_14_method_25_code
def yX12_after : MethodName := ⟨RX12, "afte\x72", "([II)I"⟩
abbrev cX12_isOn : ByteArray := prog_14_method_26_code
def yX12_isOn : MethodName := ⟨RX12, "isOn", "(JJJJJJ)Z"⟩
abbrev cX12_isOnEdge : ByteArray := prog_14_method_27_code
def yX12_isOnEdge : MethodName := ⟨RX12, "isOnEdge", "([IIJJJ)Z"⟩
abbrev cX12_isOnBoundary : ByteArray := prog_14_method_28_code
def yX12_isOnBoundary : MethodName := ⟨RX12, "isOnBoundary", "([IJJJ)Z"⟩
abbrev cX12_isIn : ByteArray := prog_14_method_29_code
def yX12_isIn : MethodName := ⟨RX12, "isIn", "([IJJJ)Z"⟩
abbrev cX12_meet : ByteArray := prog_14_method_30_code
def yX12_meet : MethodName := ⟨RX12, "meet", "([III)Z"⟩
abbrev cX12_isBent : ByteArray := prog_14_method_31_code
def yX12_isBent : MethodName := ⟨RX12, "isBent", "([II)Z"⟩
abbrev cX12_isSimple : ByteArray := prog_14_method_32_code
def yX12_isSimple : MethodName := ⟨RX12, "isSimple", "([I)Z"⟩
abbrev cX12_pointsOf : ByteArray := prog_14_method_33_code
def yX12_pointsOf : MethodName := ⟨RX12, "pointsOf", "([I)I"⟩
abbrev cX12_isGood : ByteArray := prog_14_method_34_code
def yX12_isGood : MethodName := ⟨RX12, "isGood", "([I)Z"⟩
abbrev cX12_laysPoints : ByteArray := prog_14_method_35_code
def yX12_laysPoints : MethodName := ⟨RX12, "laysPoints", "()V"⟩
abbrev cX12_at : ByteArray := prog_14_method_36_code
def yX12_at : MethodName := ⟨RX12, "at", "(II)I"⟩
abbrev cX12_all : ByteArray := prog_14_method_37_code
def yX12_all : MethodName := ⟨RX12, "all", "()J"⟩
abbrev cX12_has : ByteArray := prog_14_method_38_code
def yX12_has : MethodName := ⟨RX12, "has", "(JI)Z"⟩
abbrev cX12_count : ByteArray := prog_14_method_39_code
def yX12_count : MethodName := ⟨RX12, "count", "(J)I"⟩
abbrev cX12_told : ByteArray := prog_14_method_40_code
def yX12_told : MethodName := ⟨RX12, "told", "(I)I"⟩
abbrev cX12_vertices : ByteArray := prog_14_method_41_code
def yX12_vertices : MethodName := ⟨RX12, "vertices", "()I"⟩
abbrev cX12_points : ByteArray := prog_14_method_42_code
def yX12_points : MethodName := ⟨RX12, "points", "()I"⟩
abbrev cX12_guards : ByteArray := prog_14_method_43_code
def yX12_guards : MethodName := ⟨RX12, "guards", "()I"⟩
abbrev cX12_treasures : ByteArray := prog_14_method_44_code
def yX12_treasures : MethodName := ⟨RX12, "treasures", "()I"⟩
abbrev cX12_undoable : ByteArray := prog_14_method_45_code
def yX12_undoable : MethodName := ⟨RX12, "undoable", "()I"⟩
abbrev cX12_noVertex : ByteArray := prog_14_method_46_code
def yX12_noVertex : MethodName := ⟨RX12, "noVertex", "(I)Z"⟩
abbrev cX12_noPoint : ByteArray := prog_14_method_47_code
def yX12_noPoint : MethodName := ⟨RX12, "noPoint", "(I)Z"⟩
abbrev cX12_noGuard : ByteArray := prog_14_method_48_code
def yX12_noGuard : MethodName := ⟨RX12, "noGuard", "(I)Z"⟩
abbrev cX12_vertexX : ByteArray := prog_14_method_49_code
def yX12_vertexX : MethodName := ⟨RX12, "vertexX", "(I)I"⟩
abbrev cX12_vertexY : ByteArray := prog_14_method_50_code
def yX12_vertexY : MethodName := ⟨RX12, "vertexY", "(I)I"⟩
abbrev cX12_pointX : ByteArray := prog_14_method_51_code
def yX12_pointX : MethodName := ⟨RX12, "pointX", "(I)I"⟩
abbrev cX12_pointY : ByteArray := prog_14_method_52_code
def yX12_pointY : MethodName := ⟨RX12, "pointY", "(I)I"⟩
abbrev cX12_pointAt : ByteArray := prog_14_method_53_code
def yX12_pointAt : MethodName := ⟨RX12, "pointAt", "(II)I"⟩
abbrev cX12_turned : ByteArray := prog_14_method_54_code
def yX12_turned : MethodName := ⟨RX12, "turned", "()I"⟩
abbrev cX12_doubleArea : ByteArray := prog_14_method_55_code
def yX12_doubleArea : MethodName := ⟨RX12, "doubleArea", "()I"⟩
abbrev cX12_turn : ByteArray := prog_14_method_56_code
def yX12_turn : MethodName := ⟨RX12, "turn", "(III)I"⟩
abbrev cX12_reflexVertices : ByteArray := prog_14_method_57_code
def yX12_reflexVertices : MethodName := ⟨RX12, "reflexVertices", "()I"⟩
abbrev cX12_boundary : ByteArray := prog_14_method_58_code
def yX12_boundary : MethodName := ⟨RX12, "boundary", "()J"⟩
abbrev cX12_isFree : ByteArray := prog_14_method_59_code
def yX12_isFree : MethodName := ⟨RX12, "isFree", "(JJJJJ)Z"⟩
abbrev cX12_laysSight : ByteArray := prog_14_method_60_code
def yX12_laysSight : MethodName := ⟨RX12, "laysSight", "()V"⟩
abbrev cX12_pointOf : ByteArray := prog_14_method_61_code
def yX12_pointOf : MethodName := ⟨RX12, "pointOf", "(I)I"⟩
abbrev cX12_sees : ByteArray := prog_14_method_62_code
def yX12_sees : MethodName := ⟨RX12, "sees", "(II)Z"⟩
abbrev cX12_visible : ByteArray := prog_14_method_63_code
def yX12_visible : MethodName := ⟨RX12, "visible", "(I)J"⟩
abbrev cX12_kernel : ByteArray := prog_14_method_64_code
def yX12_kernel : MethodName := ⟨RX12, "kernel", "()J"⟩
abbrev cX12_laysLinks : ByteArray := prog_14_method_65_code
def yX12_laysLinks : MethodName := ⟨RX12, "laysLinks", "(I)I"⟩
abbrev cX12_linkDistance : ByteArray := prog_14_method_66_code
def yX12_linkDistance : MethodName := ⟨RX12, "linkDistance", "(II)I"⟩
abbrev cX12_diameter : ByteArray := prog_14_method_67_code
def yX12_diameter : MethodName := ⟨RX12, "diamete\x72", "()I"⟩
abbrev cX12_farthest : ByteArray := prog_14_method_68_code
def yX12_farthest : MethodName := ⟨RX12, "farthest", "(I)I"⟩
abbrev cX12_seenFromEdge : ByteArray := prog_14_method_69_code
def yX12_seenFromEdge : MethodName := ⟨RX12, "seenFromEdge", "(I)J"⟩
abbrev cX12_isEar : ByteArray := prog_14_method_70_code
def yX12_isEar : MethodName := ⟨RX12, "isEa\x72", "(II)Z"⟩
abbrev cX12_laysTriangle : ByteArray := prog_14_method_71_code
def yX12_laysTriangle : MethodName := ⟨RX12, "laysTriangle", "(IIII)V"⟩
abbrev cX12_laysTriangles : ByteArray := prog_14_method_72_code
def yX12_laysTriangles : MethodName := ⟨RX12, "laysTriangles", "()V"⟩
abbrev cX12_noTriangle : ByteArray := prog_14_method_73_code
def yX12_noTriangle : MethodName := ⟨RX12, "noTriangle", "(I)Z"⟩
abbrev cX12_triangleVertex : ByteArray := prog_14_method_74_code
def yX12_triangleVertex : MethodName := ⟨RX12, "triangleVertex", "(II)I"⟩
abbrev cX12_triangleArea : ByteArray := prog_14_method_75_code
def yX12_triangleArea : MethodName := ⟨RX12, "triangleArea", "(I)I"⟩
abbrev cX12_laysColours : ByteArray := prog_14_method_76_code
def yX12_laysColours : MethodName := ⟨RX12, "laysColours", "()V"⟩
abbrev cX12_colour : ByteArray := prog_14_method_77_code
def yX12_colour : MethodName := ⟨RX12, "colou\x72", "(I)I"⟩
abbrev cX12_ofColour : ByteArray := prog_14_method_78_code
def yX12_ofColour : MethodName := ⟨RX12, "ofColou\x72", "(I)I"⟩
abbrev cX12_colourGuards : ByteArray := prog_14_method_79_code
def yX12_colourGuards : MethodName := ⟨RX12, "colourGuards", "()I"⟩
abbrev cX12_fewest : ByteArray := prog_14_method_80_code
def yX12_fewest : MethodName := ⟨RX12, "fewest", "(Z)I"⟩
abbrev cX12_vertexGuards : ByteArray := prog_14_method_81_code
def yX12_vertexGuards : MethodName := ⟨RX12, "vertexGuards", "()I"⟩
abbrev cX12_edgeGuards : ByteArray := prog_14_method_82_code
def yX12_edgeGuards : MethodName := ⟨RX12, "edgeGuards", "()I"⟩
abbrev cX12_laysGuards : ByteArray := prog_14_method_83_code
def yX12_laysGuards : MethodName := ⟨RX12, "laysGuards", "(IIIJ)Z"⟩
abbrev cX12_laysGuards_ : ByteArray := prog_14_method_84_code
def yX12_laysGuards_ : MethodName := ⟨RX12, "laysGuards", "()V"⟩
abbrev cX12_guardNumber : ByteArray := prog_14_method_85_code
def yX12_guardNumber : MethodName := ⟨RX12, "guardNumbe\x72", "()I"⟩
abbrev cX12_guardPoint : ByteArray := prog_14_method_86_code
def yX12_guardPoint : MethodName := ⟨RX12, "guardPoint", "(I)I"⟩
abbrev cX12_laysWitnesses : ByteArray := prog_14_method_87_code
def yX12_laysWitnesses : MethodName := ⟨RX12, "laysWitnesses", "(IIIJ)Z"⟩
abbrev cX12_laysWitnesses_ : ByteArray := prog_14_method_88_code
def yX12_laysWitnesses_ : MethodName := ⟨RX12, "laysWitnesses", "()V"⟩
abbrev cX12_witnessNumber : ByteArray := prog_14_method_89_code
def yX12_witnessNumber : MethodName := ⟨RX12, "witnessNumbe\x72", "()I"⟩
abbrev cX12_witness : ByteArray := prog_14_method_90_code
def yX12_witness : MethodName := ⟨RX12, "witness", "(I)I"⟩
abbrev cX12_lowest : ByteArray := prog_14_method_91_code
def yX12_lowest : MethodName := ⟨RX12, "lowest", "(J)I"⟩
abbrev cX12_groups : ByteArray := prog_14_method_92_code
def yX12_groups : MethodName := ⟨RX12, "groups", "(J)I"⟩
abbrev cX12_hides : ByteArray := prog_14_method_93_code
def yX12_hides : MethodName := ⟨RX12, "hides", "(JI)V"⟩
abbrev cX12_hiddenNumber : ByteArray := prog_14_method_94_code
def yX12_hiddenNumber : MethodName := ⟨RX12, "hiddenNumbe\x72", "()I"⟩
abbrev cX12_guard : ByteArray := prog_14_method_95_code
def yX12_guard : MethodName := ⟨RX12, "guard", "(II)I"⟩
abbrev cX12_watchOf : ByteArray := prog_14_method_96_code
def yX12_watchOf : MethodName := ⟨RX12, "watchOf", "(III)J"⟩
abbrev cX12_watchOf_ : ByteArray := prog_14_method_97_code
def yX12_watchOf_ : MethodName := ⟨RX12, "watchOf", "(I)J"⟩
abbrev cX12_watchBut : ByteArray := prog_14_method_98_code
def yX12_watchBut : MethodName := ⟨RX12, "watchBut", "(I)J"⟩
abbrev cX12_guardAt : ByteArray := prog_14_method_99_code
def yX12_guardAt : MethodName := ⟨RX12, "guardAt", "(I)I"⟩
abbrev cX12_guardRange : ByteArray := prog_14_method_100_code
def yX12_guardRange : MethodName := ⟨RX12, "guardRange", "(I)I"⟩
abbrev cX12_watched : ByteArray := prog_14_method_101_code
def yX12_watched : MethodName := ⟨RX12, "watched", "(I)J"⟩
abbrev cX12_unwatched : ByteArray := prog_14_method_102_code
def yX12_unwatched : MethodName := ⟨RX12, "unwatched", "()J"⟩
abbrev cX12_watchers : ByteArray := prog_14_method_103_code
def yX12_watchers : MethodName := ⟨RX12, "watchers", "(I)I"⟩
abbrev cX12_redundantGuards : ByteArray := prog_14_method_104_code
def yX12_redundantGuards : MethodName := ⟨RX12, "redundantGuards", "()I"⟩
abbrev cX12_bestFor : ByteArray := prog_14_method_105_code
def yX12_bestFor : MethodName := ⟨RX12, "bestFo\x72", "(J)I"⟩
abbrev cX12_bestPoint : ByteArray := prog_14_method_106_code
def yX12_bestPoint : MethodName := ⟨RX12, "bestPoint", "()I"⟩
abbrev cX12_greedyGuards : ByteArray := prog_14_method_107_code
def yX12_greedyGuards : MethodName := ⟨RX12, "greedyGuards", "()I"⟩
abbrev cX12_treasure : ByteArray := prog_14_method_108_code
def yX12_treasure : MethodName := ⟨RX12, "treasure", "(II)I"⟩
abbrev cX12_treasureAt : ByteArray := prog_14_method_109_code
def yX12_treasureAt : MethodName := ⟨RX12, "treasureAt", "(I)I"⟩
abbrev cX12_worthOf : ByteArray := prog_14_method_110_code
def yX12_worthOf : MethodName := ⟨RX12, "worthOf", "(J)I"⟩
abbrev cX12_watchedValue : ByteArray := prog_14_method_111_code
def yX12_watchedValue : MethodName := ⟨RX12, "watchedValue", "()I"⟩
abbrev cX12_bestValue : ByteArray := prog_14_method_112_code
def yX12_bestValue : MethodName := ⟨RX12, "bestValue", "()I"⟩
abbrev cX12_isGuardAt : ByteArray := prog_14_method_113_code
def yX12_isGuardAt : MethodName := ⟨RX12, "isGuardAt", "(II)Z"⟩
abbrev cX12_isTreasureAt : ByteArray := prog_14_method_114_code
def yX12_isTreasureAt : MethodName := ⟨RX12, "isTreasureAt", "(II)Z"⟩
abbrev cX12_isVertexAt : ByteArray := prog_14_method_115_code
def yX12_isVertexAt : MethodName := ⟨RX12, "isVertexAt", "(II)Z"⟩
abbrev cX12_draw : ByteArray := prog_14_method_116_code
def yX12_draw : MethodName := ⟨RX12, "draw", "(I)I"⟩
abbrev cX12_drawnByte : ByteArray := prog_14_method_117_code
def yX12_drawnByte : MethodName := ⟨RX12, "drawnByte", "(I)I"⟩
abbrev cX12_lays : ByteArray := prog_14_method_118_code
def yX12_lays : MethodName := ⟨RX12, "lays", "(I)V"⟩
abbrev cX12_fetches : ByteArray := prog_14_method_119_code
def yX12_fetches : MethodName := ⟨RX12, "fetches", "(I)V"⟩
abbrev cX12_keeps : ByteArray := prog_14_method_120_code
def yX12_keeps : MethodName := ⟨RX12, "keeps", "()V"⟩
abbrev cX12_addGuard : ByteArray := prog_14_method_121_code
def yX12_addGuard : MethodName := ⟨RX12, "addGuard", "(II)I"⟩
abbrev cX12_removeGuard : ByteArray := prog_14_method_122_code
def yX12_removeGuard : MethodName := ⟨RX12, "removeGuard", "(I)I"⟩
abbrev cX12_moveGuard : ByteArray := prog_14_method_123_code
def yX12_moveGuard : MethodName := ⟨RX12, "moveGuard", "(II)I"⟩
abbrev cX12_setRange : ByteArray := prog_14_method_124_code
def yX12_setRange : MethodName := ⟨RX12, "setRange", "(II)I"⟩
abbrev cX12_becomes : ByteArray := prog_14_method_125_code
def yX12_becomes : MethodName := ⟨RX12, "becomes", "()I"⟩
abbrev cX12_laysAside : ByteArray := prog_14_method_126_code
def yX12_laysAside : MethodName := ⟨RX12, "laysAside", "()V"⟩
abbrev cX12_isOff : ByteArray := prog_14_method_127_code
def yX12_isOff : MethodName := ⟨RX12, "isOff", "(II)Z"⟩
abbrev cX12_moveVertex : ByteArray := prog_14_method_128_code
def yX12_moveVertex : MethodName := ⟨RX12, "moveVertex", "(III)I"⟩
abbrev cX12_insertVertex : ByteArray := prog_14_method_129_code
def yX12_insertVertex : MethodName := ⟨RX12, "insertVertex", "(III)I"⟩
abbrev cX12_deleteVertex : ByteArray := prog_14_method_130_code
def yX12_deleteVertex : MethodName := ⟨RX12, "deleteVertex", "(I)I"⟩
abbrev cX12_undo : ByteArray := prog_14_method_131_code
def yX12_undo : MethodName := ⟨RX12, "undo", "()I"⟩
abbrev cX12_save : ByteArray := prog_14_method_132_code
def yX12_save : MethodName := ⟨RX12, "save", "(I)I"⟩
abbrev cX12_restore : ByteArray := prog_14_method_133_code
def yX12_restore : MethodName := ⟨RX12, "restore", "(I)I"⟩
def RJ6 : String := "java/lang/Intege\x72"
def TJ6 : u_T := fun k => match k with
  | _ => ("", "", "", false)
def tyJ6 : Nat → FieldType := fun k => match k with
  | _ => .int
abbrev wsJ60 : List Cond := u_ws RJ6 TJ6 0
theorem nmJ6 : ∀ a, a < 0 → ∀ b, b < 0 → a ≠ b → (TJ6 a).2.1 ≠ (TJ6 b).2.1 := by decide +kernel
theorem tyJ6_ok : ∀ k, k < 0 → parseFieldDescriptor (TJ6 k).2.2.1 = some (tyJ6 k) := by decide +kernel
abbrev cJ6_numberOfTrailingZeros_0f7a4 : ByteArray := prog_19_method_48_code
def yJ6_numberOfTrailingZeros_0f7a4 : MethodName := ⟨RJ6, "numberOfTrailingZeros", "(I)I"⟩
abbrev cJ6_bitCount_0f7a4 : ByteArray := prog_19_method_49_code
def yJ6_bitCount_0f7a4 : MethodName := ⟨RJ6, "bitCount", "(I)I"⟩
def RJ13 : String := "java/lang/Long"
def TJ13 : u_T := fun k => match k with
  | _ => ("", "", "", false)
def tyJ13 : Nat → FieldType := fun k => match k with
  | _ => .int
abbrev wsJ130 : List Cond := u_ws RJ13 TJ13 0
theorem nmJ13 : ∀ a, a < 0 → ∀ b, b < 0 → a ≠ b → (TJ13 a).2.1 ≠ (TJ13 b).2.1 := by decide +kernel
theorem tyJ13_ok : ∀ k, k < 0 → parseFieldDescriptor (TJ13 k).2.2.1 = some (tyJ13 k) := by decide +kernel
abbrev cJ13_numberOfTrailingZeros_95d88 : ByteArray := prog_20_method_49_code
def yJ13_numberOfTrailingZeros_95d88 : MethodName := ⟨RJ13, "numberOfTrailingZeros", "(J)I"⟩
abbrev cJ13_bitCount_95d88 : ByteArray := prog_20_method_50_code
def yJ13_bitCount_95d88 : MethodName := ⟨RJ13, "bitCount", "(J)I"⟩
def RJ9 : String := "java/lang/Math"
def TJ9 : u_T := fun k => match k with
  | _ => ("", "", "", false)
def tyJ9 : Nat → FieldType := fun k => match k with
  | _ => .int
abbrev wsJ90 : List Cond := u_ws RJ9 TJ9 0
theorem nmJ9 : ∀ a, a < 0 → ∀ b, b < 0 → a ≠ b → (TJ9 a).2.1 ≠ (TJ9 b).2.1 := by decide +kernel
theorem tyJ9_ok : ∀ k, k < 0 → parseFieldDescriptor (TJ9 k).2.2.1 = some (tyJ9 k) := by decide +kernel
abbrev cJ9_abs_0f7a4 : ByteArray := prog_21_method_59_code
def yJ9_abs_0f7a4 : MethodName := ⟨RJ9, "abs", "(I)I"⟩
abbrev cJ9_max_7cf53 : ByteArray := prog_21_method_65_code
def yJ9_max_7cf53 : MethodName := ⟨RJ9, "max", "(II)I"⟩
abbrev cJ9_min_7cf53 : ByteArray := prog_21_method_69_code
def yJ9_min_7cf53 : MethodName := ⟨RJ9, "min", "(II)I"⟩
def RJ0 : String := "java/lang/String"
def TJ0 : u_T := fun k => match k with
  | _ => ("", "", "", false)
def tyJ0 : Nat → FieldType := fun k => match k with
  | _ => .int
abbrev wsJ00 : List Cond := u_ws RJ0 TJ0 0
theorem nmJ0 : ∀ a, a < 0 → ∀ b, b < 0 → a ≠ b → (TJ0 a).2.1 ≠ (TJ0 b).2.1 := by decide +kernel
theorem tyJ0_ok : ∀ k, k < 0 → parseFieldDescriptor (TJ0 k).2.2.1 = some (tyJ0 k) := by decide +kernel
abbrev cJ0_length_8abf5 : ByteArray := prog_23_method_54_code
def yJ0_length_8abf5 : MethodName := ⟨RJ0, "length", "()I"⟩
abbrev cJ0_charAt_5068e : ByteArray := prog_23_method_56_code
def yJ0_charAt_5068e : MethodName := ⟨RJ0, "charAt", "(I)C"⟩
abbrev cJ0_coder_7d493 : ByteArray := prog_23_method_152_code
def yJ0_coder_7d493 : MethodName := ⟨RJ0, "code\x72", "()B"⟩
abbrev cJ0_isLatin1_aae02 : ByteArray := prog_23_method_154_code
def yJ0_isLatin1_aae02 : MethodName := ⟨RJ0, "isLatin1", "()Z"⟩
abbrev cJ0_checkIndex_df160 : ByteArray := prog_23_method_155_code
def yJ0_checkIndex_df160 : MethodName := ⟨RJ0, "checkIndex", "(II)V"⟩
def RJ1 : String := "java/lang/StringLatin1"
def TJ1 : u_T := fun k => match k with
  | _ => ("", "", "", false)
def tyJ1 : Nat → FieldType := fun k => match k with
  | _ => .int
abbrev wsJ10 : List Cond := u_ws RJ1 TJ1 0
theorem nmJ1 : ∀ a, a < 0 → ∀ b, b < 0 → a ≠ b → (TJ1 a).2.1 ≠ (TJ1 b).2.1 := by decide +kernel
theorem tyJ1_ok : ∀ k, k < 0 → parseFieldDescriptor (TJ1 k).2.2.1 = some (tyJ1 k) := by decide +kernel
abbrev cJ1_charAt_3b067 : ByteArray := prog_24_method_2_code
def yJ1_charAt_3b067 : MethodName := ⟨RJ1, "charAt", "([BI)C"⟩
def RJ2 : String := "java/lang/StringUTF16"
def TJ2 : u_T := fun k => match k with
  | _ => ("", "", "", false)
def tyJ2 : Nat → FieldType := fun k => match k with
  | _ => .int
abbrev wsJ20 : List Cond := u_ws RJ2 TJ2 0
theorem nmJ2 : ∀ a, a < 0 → ∀ b, b < 0 → a ≠ b → (TJ2 a).2.1 ≠ (TJ2 b).2.1 := by decide +kernel
theorem tyJ2_ok : ∀ k, k < 0 → parseFieldDescriptor (TJ2 k).2.2.1 = some (tyJ2 k) := by decide +kernel
abbrev cJ2_getChar_3b067 : ByteArray := prog_25_method_5_code
def yJ2_getChar_3b067 : MethodName := ⟨RJ2, "getCha\x72", "([BI)C"⟩
abbrev cJ2_length_9d52b : ByteArray := prog_25_method_6_code
def yJ2_length_9d52b : MethodName := ⟨RJ2, "length", "([B)I"⟩
abbrev cJ2_charAt_3b067 : ByteArray := prog_25_method_83_code
def yJ2_charAt_3b067 : MethodName := ⟨RJ2, "charAt", "([BI)C"⟩
abbrev cJ2_checkIndex_2214a : ByteArray := prog_25_method_91_code
def yJ2_checkIndex_2214a : MethodName := ⟨RJ2, "checkIndex", "(I[B)V"⟩
def RJ10 : String := "java/lang/System"
def TJ10 : u_T := fun k => match k with
  | _ => ("", "", "", false)
def tyJ10 : Nat → FieldType := fun k => match k with
  | _ => .int
abbrev wsJ100 : List Cond := u_ws RJ10 TJ10 0
theorem nmJ10 : ∀ a, a < 0 → ∀ b, b < 0 → a ≠ b → (TJ10 a).2.1 ≠ (TJ10 b).2.1 := by decide +kernel
theorem tyJ10_ok : ∀ k, k < 0 → parseFieldDescriptor (TJ10 k).2.2.1 = some (tyJ10 k) := by decide +kernel
def RJ3 : String := "jdk/internal/util/Preconditions"
def TJ3 : u_T := fun k => match k with
  | _ => ("", "", "", false)
def tyJ3 : Nat → FieldType := fun k => match k with
  | _ => .int
abbrev wsJ30 : List Cond := u_ws RJ3 TJ3 0
theorem nmJ3 : ∀ a, a < 0 → ∀ b, b < 0 → a ≠ b → (TJ3 a).2.1 ≠ (TJ3 b).2.1 := by decide +kernel
theorem tyJ3_ok : ∀ k, k < 0 → parseFieldDescriptor (TJ3 k).2.2.1 = some (tyJ3 k) := by decide +kernel
abbrev cJ3_checkIndex_8e157 : ByteArray := prog_28_method_11_code
def yJ3_checkIndex_8e157 : MethodName := ⟨RJ3, "checkIndex", "(IILjava/util/function/BiFunction;)I"⟩
def RL : String := "GalleryGuardsLaw"
abbrev cL_load : ByteArray := method_3_code
def yL_load : MethodName := ⟨RL, "load", "(LGalleryGuards;I[J)I"⟩
abbrev cL_vertexX : ByteArray := method_4_code
def yL_vertexX : MethodName := ⟨RL, "vertexX", "(LGalleryGuards;I[J)I"⟩
abbrev cL_vertexY : ByteArray := method_5_code
def yL_vertexY : MethodName := ⟨RL, "vertexY", "(LGalleryGuards;I[J)I"⟩
abbrev cL_doubleArea : ByteArray := method_6_code
def yL_doubleArea : MethodName := ⟨RL, "doubleArea", "(LGalleryGuards;[J)I"⟩
abbrev cL_reflexVertices : ByteArray := method_7_code
def yL_reflexVertices : MethodName := ⟨RL, "reflexVertices", "(LGalleryGuards;[J)I"⟩
abbrev cL_pointX : ByteArray := method_8_code
def yL_pointX : MethodName := ⟨RL, "pointX", "(LGalleryGuards;I[J)I"⟩
abbrev cL_pointY : ByteArray := method_9_code
def yL_pointY : MethodName := ⟨RL, "pointY", "(LGalleryGuards;I[J)I"⟩
abbrev cL_pointAt : ByteArray := method_10_code
def yL_pointAt : MethodName := ⟨RL, "pointAt", "(LGalleryGuards;II[J)I"⟩
abbrev cL_boundary : ByteArray := method_11_code
def yL_boundary : MethodName := ⟨RL, "boundary", "(LGalleryGuards;[J)I"⟩
abbrev cL_sees : ByteArray := method_12_code
def yL_sees : MethodName := ⟨RL, "sees", "(LGalleryGuards;II[J)I"⟩
abbrev cL_visible : ByteArray := method_13_code
def yL_visible : MethodName := ⟨RL, "visible", "(LGalleryGuards;I[J)I"⟩
abbrev cL_kernel : ByteArray := method_14_code
def yL_kernel : MethodName := ⟨RL, "kernel", "(LGalleryGuards;[J)I"⟩
abbrev cL_linkDistance : ByteArray := method_15_code
def yL_linkDistance : MethodName := ⟨RL, "linkDistance", "(LGalleryGuards;II[J)I"⟩
abbrev cL_diameter : ByteArray := method_16_code
def yL_diameter : MethodName := ⟨RL, "diamete\x72", "(LGalleryGuards;[J)I"⟩
abbrev cL_farthest : ByteArray := method_17_code
def yL_farthest : MethodName := ⟨RL, "farthest", "(LGalleryGuards;I[J)I"⟩
abbrev cL_seenFromEdge : ByteArray := method_18_code
def yL_seenFromEdge : MethodName := ⟨RL, "seenFromEdge", "(LGalleryGuards;I[J)I"⟩
abbrev cL_triangleVertex : ByteArray := method_19_code
def yL_triangleVertex : MethodName := ⟨RL, "triangleVertex", "(LGalleryGuards;II[J)I"⟩
abbrev cL_triangleArea : ByteArray := method_20_code
def yL_triangleArea : MethodName := ⟨RL, "triangleArea", "(LGalleryGuards;I[J)I"⟩
abbrev cL_colour : ByteArray := method_21_code
def yL_colour : MethodName := ⟨RL, "colou\x72", "(LGalleryGuards;I[J)I"⟩
abbrev cL_colourGuards : ByteArray := method_22_code
def yL_colourGuards : MethodName := ⟨RL, "colourGuards", "(LGalleryGuards;[J)I"⟩
abbrev cL_vertexGuards : ByteArray := method_23_code
def yL_vertexGuards : MethodName := ⟨RL, "vertexGuards", "(LGalleryGuards;[J)I"⟩
abbrev cL_edgeGuards : ByteArray := method_24_code
def yL_edgeGuards : MethodName := ⟨RL, "edgeGuards", "(LGalleryGuards;[J)I"⟩
abbrev cL_guardNumber : ByteArray := method_25_code
def yL_guardNumber : MethodName := ⟨RL, "guardNumbe\x72", "(LGalleryGuards;[J)I"⟩
abbrev cL_guardPoint : ByteArray := method_26_code
def yL_guardPoint : MethodName := ⟨RL, "guardPoint", "(LGalleryGuards;I[J)I"⟩
abbrev cL_witnessNumber : ByteArray := method_27_code
def yL_witnessNumber : MethodName := ⟨RL, "witnessNumbe\x72", "(LGalleryGuards;[J)I"⟩
abbrev cL_witness : ByteArray := method_28_code
def yL_witness : MethodName := ⟨RL, "witness", "(LGalleryGuards;I[J)I"⟩
abbrev cL_hiddenNumber : ByteArray := method_29_code
def yL_hiddenNumber : MethodName := ⟨RL, "hiddenNumbe\x72", "(LGalleryGuards;[J)I"⟩
abbrev cL_guardAt : ByteArray := method_30_code
def yL_guardAt : MethodName := ⟨RL, "guardAt", "(LGalleryGuards;I[J)I"⟩
abbrev cL_guardRange : ByteArray := method_31_code
def yL_guardRange : MethodName := ⟨RL, "guardRange", "(LGalleryGuards;I[J)I"⟩
abbrev cL_watched : ByteArray := method_32_code
def yL_watched : MethodName := ⟨RL, "watched", "(LGalleryGuards;I[J)I"⟩
abbrev cL_unwatched : ByteArray := method_33_code
def yL_unwatched : MethodName := ⟨RL, "unwatched", "(LGalleryGuards;[J)I"⟩
abbrev cL_watchers : ByteArray := method_34_code
def yL_watchers : MethodName := ⟨RL, "watchers", "(LGalleryGuards;I[J)I"⟩
abbrev cL_redundantGuards : ByteArray := method_35_code
def yL_redundantGuards : MethodName := ⟨RL, "redundantGuards", "(LGalleryGuards;[J)I"⟩
abbrev cL_bestPoint : ByteArray := method_36_code
def yL_bestPoint : MethodName := ⟨RL, "bestPoint", "(LGalleryGuards;[J)I"⟩
abbrev cL_greedyGuards : ByteArray := method_37_code
def yL_greedyGuards : MethodName := ⟨RL, "greedyGuards", "(LGalleryGuards;[J)I"⟩
abbrev cL_treasureAt : ByteArray := method_38_code
def yL_treasureAt : MethodName := ⟨RL, "treasureAt", "(LGalleryGuards;I[J)I"⟩
abbrev cL_watchedValue : ByteArray := method_39_code
def yL_watchedValue : MethodName := ⟨RL, "watchedValue", "(LGalleryGuards;[J)I"⟩
abbrev cL_bestValue : ByteArray := method_40_code
def yL_bestValue : MethodName := ⟨RL, "bestValue", "(LGalleryGuards;[J)I"⟩
abbrev cL_draw : ByteArray := method_41_code
def yL_draw : MethodName := ⟨RL, "draw", "(LGalleryGuards;I[J)I"⟩
abbrev cL_drawnByte : ByteArray := method_42_code
def yL_drawnByte : MethodName := ⟨RL, "drawnByte", "(LGalleryGuards;I[J)I"⟩
abbrev cL_addGuard : ByteArray := method_43_code
def yL_addGuard : MethodName := ⟨RL, "addGuard", "(LGalleryGuards;II[J)I"⟩
abbrev cL_removeGuard : ByteArray := method_44_code
def yL_removeGuard : MethodName := ⟨RL, "removeGuard", "(LGalleryGuards;I[J)I"⟩
abbrev cL_moveGuard : ByteArray := method_45_code
def yL_moveGuard : MethodName := ⟨RL, "moveGuard", "(LGalleryGuards;II[J)I"⟩
abbrev cL_setRange : ByteArray := method_46_code
def yL_setRange : MethodName := ⟨RL, "setRange", "(LGalleryGuards;II[J)I"⟩
abbrev cL_moveVertex : ByteArray := method_47_code
def yL_moveVertex : MethodName := ⟨RL, "moveVertex", "(LGalleryGuards;III[J)I"⟩
abbrev cL_insertVertex : ByteArray := method_48_code
def yL_insertVertex : MethodName := ⟨RL, "insertVertex", "(LGalleryGuards;III[J)I"⟩
abbrev cL_deleteVertex : ByteArray := method_49_code
def yL_deleteVertex : MethodName := ⟨RL, "deleteVertex", "(LGalleryGuards;I[J)I"⟩
abbrev cL_undo : ByteArray := method_50_code
def yL_undo : MethodName := ⟨RL, "undo", "(LGalleryGuards;[J)I"⟩
abbrev cL_save : ByteArray := method_51_code
def yL_save : MethodName := ⟨RL, "save", "(LGalleryGuards;I[J)I"⟩
abbrev cL_restore : ByteArray := method_52_code
def yL_restore : MethodName := ⟨RL, "restore", "(LGalleryGuards;I[J)I"⟩
abbrev cL_law : ByteArray := code
def yL_law : MethodName := ⟨RL, "law", "([I)Z"⟩
end
section
/-! the words that speak of the tables alone, one list for every method -/
def Big : List Cond := lw_tbl.filter goodWord
theorem big_in {w : Cond} (h : w ∈ lw_tbl) (g : goodWord w = true) : w ∈ Big := List.mem_filter.mpr ⟨h, g⟩
theorem big_t (i : Nat) {w : Cond} (h : tables_1[i]? = some w) (g : goodWord w = true) : w ∈ Big := big_in (List.mem_append_right _ (List.mem_of_getElem? h)) g
theorem big_s (i : Nat) {y : MethodName} {k : Nat} (h : lw_privs[i]? = some (y, k)) : Cond.selects y.cls y y ∈ Big :=
  big_in (List.mem_append_left _ (List.mem_map.mpr ⟨(y, k), List.mem_of_getElem? h, rfl⟩)) rfl
theorem big_g {w : Cond} (h : w ∈ Big) : (w.onTables && w.keeps) = true ∨ ∃ ty, w = .arrayClass ty := good_of_word (List.mem_filter.mp h).2
theorem big_sub {ws : List Cond} (h : ∀ w ∈ ws, w ∈ Big) : GoodIn Big ws := fun w hw => ⟨h w hw, big_g (h w hw)⟩
theorem big_ws {C : String} {T : u_T} {N : Nat} (h : ∀ k, k < N → u_lay C T k ∈ Big) : ∀ w ∈ u_ws C T N, w ∈ Big := by
  intro w hw
  obtain ⟨k, hk, rfl⟩ := List.mem_map.mp hw
  exact h k (List.mem_range.mp hk)
def CL : List vw_C := [(RX0, TX0, 9), (RX1, TX1, 3), (RX2, TX2, 7), (RX3, TX3, 5), (RX5, TX5, 5), (RX6, TX6, 11), (RX7, TX7, 4), (RX8, TX8, 5), (RX9, TX9, 9), (RX10, TX10, 3), (RX11, TX11, 18), (RX12, TX12, 41)]
/-- the texts that are loaded: class, place, text -/
def strs : List (String × Nat × String) := [(RX11, 125, "not so many bytes in the buffe\x72"), (RX11, 139, "the text has an erro\x72"), (RX11, 313, "there are 6 guards"), (RX11, 340, "there are 12 vertices"), (RX11, 349, "no change can be undone"), (RX11, 358, "nothing is saved there"), (RX11, 360, "no polygon"), (RX11, 362, "no such index"), (RX11, 364, "argument out of range"), (RX11, 376, "this change of the polygon is not possible"), (RX5, 41, "polygon"), (RX5, 83, "guard"), (RX5, 91, "treasure"), (RX5, 99, "range"), (RX12, 159, "polygon"), (RX12, 176, "range"), (RX12, 181, "guard"), (RX12, 183, "treasure")]
def Xw (A : Nat → Prop) (U : State) (H : Heap) : Prop := vx_Zq Bundle.tN "UNASSIGNED_STACK" Bundle.steD A U H ∧ vx_Zq Bundle.tN "SUPPRESSED_SENTINEL" Bundle.listD A U H
/-- the exceptions that are not one another -/
def ncs : List (String × String) := [("java/lang/IllegalStateException", "java/lang/IndexOutOfBoundsException"), ("java/lang/IllegalArgumentException", "java/lang/IndexOutOfBoundsException"), ("java/lang/IllegalStateException", "java/lang/IllegalArgumentException"), ("java/lang/IndexOutOfBoundsException", "java/lang/IllegalArgumentException"), ("java/lang/IndexOutOfBoundsException", "java/lang/IllegalStateException"), ("java/lang/IllegalArgumentException", "java/lang/IllegalStateException")]
def cas : List String := ["java/lang/IllegalStateException", "java/lang/IndexOutOfBoundsException", "java/lang/IllegalArgumentException"]
/-- words of the tables that are kept by themselves -/
def odd : List Cond := [.castable "java/lang/IllegalStateException" "java/lang/IllegalStateException", .castable "java/lang/IndexOutOfBoundsException" "java/lang/IndexOutOfBoundsException", .castable "java/lang/IllegalArgumentException" "java/lang/IllegalArgumentException", .declares ⟨"java/lang/RuntimeException", "<init>", "(Ljava/lang/String;)V"⟩, .declares ⟨"java/lang/Exception", "<init>", "(Ljava/lang/String;)V"⟩, .declares ⟨"java/lang/Throwable", "<init>", "(Ljava/lang/String;)V"⟩]
theorem odd_on {w : Cond} (h : w ∈ odd) : w.onTables = true := by
  simp only [odd, List.mem_cons, List.not_mem_nil, or_false] at h
  rcases h with rfl | rfl | rfl | rfl | rfl | rfl <;> rfl
theorem odd_warm {w : Cond} (h : w ∈ odd) {s U : State} (hW : s.WarmedH U.vm) (hz : va_Nw w s) : va_Nw w U := by
  simp only [odd, List.mem_cons, List.not_mem_nil, or_false] at h
  rcases h with rfl | rfl | rfl | rfl | rfl | rfl
  · exact va_tabs rfl (rfl : (s.setVm U.vm).vm = U.vm) ((Cond.castable_setVm hW.alike _ _).trans hz)
  · exact va_tabs rfl (rfl : (s.setVm U.vm).vm = U.vm) ((Cond.castable_setVm hW.alike _ _).trans hz)
  · exact va_tabs rfl (rfl : (s.setVm U.vm).vm = U.vm) ((Cond.castable_setVm hW.alike _ _).trans hz)
  · exact va_tabs rfl (rfl : (s.setVm U.vm).vm = U.vm) ((Cond.declares_setVm hW.alike _).trans hz)
  · exact va_tabs rfl (rfl : (s.setVm U.vm).vm = U.vm) ((Cond.declares_setVm hW.alike _).trans hz)
  · exact va_tabs rfl (rfl : (s.setVm U.vm).vm = U.vm) ((Cond.declares_setVm hW.alike _).trans hz)
theorem cas_odd {q : String} (h : q ∈ cas) : Cond.castable q q ∈ odd := by
  simp only [cas, List.mem_cons, List.not_mem_nil, or_false] at h
  rcases h with rfl | rfl | rfl
  · exact List.mem_of_getElem? (i := 0) rfl
  · exact List.mem_of_getElem? (i := 1) rfl
  · exact List.mem_of_getElem? (i := 2) rfl
def Sx (U : State) : Prop := (∀ q ∈ strs, ∃ a : Nat, vk_R q.1 q.2.1 q.2.2 a U) ∧ va_AO "GalleryGuards$Plan" U ∧ (∀ q ∈ ncs, va_Nc q.1 q.2 U) ∧ ∀ w ∈ odd, va_Nw w U
theorem Sx.warm {s U : State} (hW : s.WarmedH U.vm) (h : Sx s) : Sx U := ⟨fun q hq => by
  obtain ⟨a, ha⟩ := h.1 q hq
  exact ⟨a, vk_R.warm hW ha⟩, h.2.1.moved hW.alike, fun q hq => (h.2.2.1 q hq).moved hW.alike, fun q hq => odd_warm hq hW (h.2.2.2 q hq)⟩
abbrev TT (cI cZ cJ : ClassId) : List (ClassId × FieldType) := [(cI, .int), (cZ, .boolean), (cJ, .long)]
theorem Xw.moved {A : Nat → Prop} {u U : State} {H : Heap} (hvm : u.vm.Alike U.vm) (h : Xw A u H) : Xw A U H := ⟨h.1.moved hvm, h.2.moved hvm⟩
theorem Xw.kept {A : Nat → Prop} {U : State} {H H1 : Heap} (h : Xw A U H) (hq : ∀ a : Nat, a < H.size → ¬ A a → H1[a]? = H[a]?) : Xw A U H1 := ⟨h.1.kept hq, h.2.kept hq⟩
theorem Xw.narrow {A B : Nat → Prop} {U : State} {H : Heap} (h : Xw A U H) (hAB : ∀ q, B q → A q) : Xw B U H := ⟨h.1.narrow hAB, h.2.narrow hAB⟩
/-- the start of every method: the cells ws, apart, the tables, the statics of Throwable outside, the texts -/
def cPre (D : va_G) (T : List (ClassId × FieldType)) (av : List Value) (ws : va_W) (sz : Nat) : Array Value → State → Prop :=
  va_Pc av (fun U => U.heap.size = sz ∧ va_P D CL ws U.heap ∧ va_K D CL T U ∧ va_D (fun _ => True) ws ∧ Xw (va_A ws sz) U U.heap ∧ Sx U)
theorem cPre_blind {D : va_G} {T : List (ClassId × FieldType)} {av : List Value} {ws : va_W} {sz : Nat} : FrameBlind (cPre D T av ws sz) := by
  intro a U g mk h
  obtain ⟨h0, h1, h2, h3, h4, h5, h6⟩ := h
  exact ⟨h0, h1, h2, va_K.moved (u := U) (U := U.calling g mk a) (Vm.Alike.refl U.vm) h3, h4, Xw.moved (u := U) (U := U.calling g mk a) (Vm.Alike.refl U.vm) h5, Sx.warm (s := U) (U := U.calling g mk a) (State.WarmedH.refl U) h6⟩
def cEnd (D : va_G) (T : List (ClassId × FieldType)) (A : Nat → Prop) {S : Type} (w1 : S → va_W) (u : S) (t : State) : Prop := va_P D CL (w1 u) t.heap ∧ va_K D CL T t ∧ va_D A (w1 u)
def rmd (d mc ms : Nat) : Room := { frames := 20 * d + 20, cells := mc, slots := ms, locals := 200 * d + 200 }
def qV (D : va_G) (T : List (ClassId × FieldType)) {S : Type} (w1 : S → va_W) (A : Nat → Prop) : Array Value → State → Outcome → State → Prop := va_Qv (fun _ : S => True) (cEnd D T A w1) A
def qI (D : va_G) (T : List (ClassId × FieldType)) {S : Type} (f : S → Int32) (w1 : S → va_W) (A : Nat → Prop) : Array Value → State → Outcome → State → Prop := va_Qi (fun (r : Int32) (u : S) => r = f u) (cEnd D T A w1) A
def qL (D : va_G) (T : List (ClassId × FieldType)) {S : Type} (f : S → Int64) (w1 : S → va_W) (A : Nat → Prop) : Array Value → State → Outcome → State → Prop := va_Ql (fun (r : Int64) (u : S) => r = f u) (cEnd D T A w1) A
def qR (D : va_G) (T : List (ClassId × FieldType)) {S : Type} (f : S → Nat) (w1 : S → va_W) (A : Nat → Prop) : Array Value → State → Outcome → State → Prop := va_Qr (fun _ : S => True) (fun u a t => a = f u ∧ cEnd D T A w1 u t) A
def xX (D : va_G) (T : List (ClassId × FieldType)) (E : String) (wx : va_W) (A : Nat → Prop) : String → State → State → Prop := vx_X (fun _ : Unit => True) (fun E' _ t => E' = E ∧ cEnd D T A (fun _ : Unit => wx) () t) A
def cM (l : Launch) (y : MethodName) (cc : ByteArray) (n : Nat) (ret : Option FieldType) (D : va_G) (T : List (ClassId × FieldType)) (av : List Value) (ws : va_W) (Qf : (Nat → Prop) → Array Value → State → Outcome → State → Prop) (d mc ms : Nat) : Prop :=
  ∀ sz, Met l y (.code y cc n ret :: Big) (rmd d mc ms) (cPre D T av ws sz) (Qf (va_A ws sz)) mc ms (va_A ws sz)
def cMW (l : Launch) (y : MethodName) (cc : ByteArray) (n : Nat) (ret : Option FieldType) (hh : List (Nat × Nat × Nat × Nat)) (D : va_G) (T : List (ClassId × FieldType)) (av : List Value) (ws : va_W) (Qf : (Nat → Prop) → Array Value → State → Outcome → State → Prop) (d mc ms : Nat) : Prop :=
  ∀ sz, Met l y (.codeWith y cc n ret hh :: Big) (rmd d mc ms) (cPre D T av ws sz) (Qf (va_A ws sz)) mc ms (va_A ws sz)
def cX (l : Launch) (y : MethodName) (cc : ByteArray) (n : Nat) (ret : Option FieldType) (D : va_G) (T : List (ClassId × FieldType)) (av : List Value) (ws : va_W) (E : String) (wx : va_W) (d mc ms : Nat) : Prop :=
  ∀ sz, vx_Met l y (.code y cc n ret :: Big) (rmd d mc ms) (cPre D T av ws sz) (fun _ _ _ _ => False) (xX D T E wx (va_A ws sz)) mc ms (va_A ws sz)
/-- what holds in a method's body throughout -/
def Cx (p : Program) (s : State) (m : MethodId) (args : Array Value) (meth : Method) (c : Code) (cc : ByteArray) (n : Nat) (ret : Option FieldType) (y : MethodName) (D : va_G) (T : List (ClassId × FieldType)) (A : Nat → Prop) : Prop :=
  p.tables.exec = Jvm.exec ∧ c.code = cc ∧ c.maxLocals = n ∧ s.vm.findClass y.cls = some m.cls ∧ (∀ w ∈ Big, w.before args s = true) ∧ va_K D CL T s ∧ (∀ q, s.heap.size ≤ q → A q) ∧ Xw A s s.heap ∧ Sx s ∧ meth.locks = false ∧ meth.sig.returnType = ret ∧ meth.name = y.name
section Enter
variable {l : Launch} {y : MethodName} {cc : ByteArray} {n : Nat} {ret : Option FieldType} {D : va_G} {T : List (ClassId × FieldType)} {av : List Value} {ws : va_W} {d mc ms : Nat}
theorem enterM {Qf : (Nat → Prop) → Array Value → State → Outcome → State → Prop} (hy : plainName y.cls = true) (hn : (lg_sl av).length ≤ n)
    (body : ∀ (p : Program) (e : Env) (s : State) (m : MethodId) (below : List Frame) (meth : Method) (c : Code) (ls : Array Slot) (A : Nat → Prop), Cx p s m av.toArray meth c cc n ret y D T A → va_P D CL ws s.heap → va_D A ws → va_S A s.heap s.heap [] → lv_has ls n (lv_args 0 av) →
      W p l e (rmd d mc ms) s m av.toArray below meth c s.heap [] 0 0 (MQ below (Qf A) av.toArray s mc ms A) (F0 m 0 ls [])) : cM l y cc n ret D T av ws Qf d mc ms := by
  intro sz
  refine Met.ofW (cc := cc) (maxL := n) (ret := ret) hy rfl ?_
  intro p e s m args below meth c s₁ B hml hv
  obtain ⟨rfl, hsz, hP, hK, hD0, hXw, hSx⟩ := hv
  subst hsz
  have hts := atoms_spec (ws := .code y cc n ret :: Big) B.pre
  have hl := lv_entry av (n := n) hn
  rw [lg_entry_eq]
  exact body p e s m below meth c _ _ ⟨B.exec, B.bytes, hml, findClass_of_methodNamed B.named, fun w h => hts w (List.mem_cons_of_mem _ h), hK, fun q h => Or.inr h, hXw, hSx, B.notSynchronized, B.returns, (name_of_methodNamed B.named B.method).1⟩ hP hD0.self va_S.rf hl
theorem enterW {hh : List (Nat × Nat × Nat × Nat)} {Qf : (Nat → Prop) → Array Value → State → Outcome → State → Prop} (hy : plainName y.cls = true) (hn : (lg_sl av).length ≤ n)
    (body : ∀ (p : Program) (e : Env) (s : State) (m : MethodId) (below : List Frame) (meth : Method) (c : Code) (ls : Array Slot) (A : Nat → Prop), Cx p s m av.toArray meth c cc n ret y D T A → c.exceptionTable.toList = tableOf hh → va_P D CL ws s.heap → va_D A ws → va_S A s.heap s.heap [] → lv_has ls n (lv_args 0 av) →
      W p l e (rmd d mc ms) s m av.toArray below meth c s.heap [] 0 0 (MQ below (Qf A) av.toArray s mc ms A) (F0 m 0 ls [])) : cMW l y cc n ret hh D T av ws Qf d mc ms := by
  intro sz
  refine MetFree.of_bodyS (code := cc) (maxLocals := n) (ret := ret) hy ?_ ?_
  · intro args s m h hnm
    obtain ⟨m9, meth, c, hn9, h1, h2, h3, h4, -, h5, h6, -⟩ := Cond.codeWith_spec (atoms_spec (ws := .codeWith y cc n ret hh :: Big) h _ List.mem_cons_self)
    cases hnm.symm.trans hn9
    exact ⟨meth, c, h1, h2, h3, h4, h5, h6⟩
  · intro p e s m args below meth c s₁ B hml hv _
    have hh0 : s₁.heap = s.heap := by rw [B.state]; rfl
    obtain ⟨rfl, hsz, hP, hK, hD0, hXw, hSx⟩ := hv
    subst hsz
    have hts := atoms_spec (ws := .codeWith y cc n ret hh :: Big) B.pre
    have hl := lv_entry av (n := n) hn
    have K := body p e s m below meth c _ (va_A ws s.heap.size) ⟨B.exec, B.bytes, hml, findClass_of_methodNamed B.named, fun w h => hts w (List.mem_cons_of_mem _ h), hK, fun q h => Or.inr h, hXw, hSx, B.notSynchronized, B.returns, (name_of_methodNamed B.named B.method).1⟩ (vx_table (x := y) B (hts _ List.mem_cons_self)) hP hD0.self va_S.rf hl
    rw [← lg_entry_eq] at K
    obtain ⟨t, a1, o, b1, b2, b3⟩ := K s₁ hh0 (Stand.of_body B)
    exact ⟨t, o, a1, b1, b2, ⟨b3.1, b3.2⟩⟩
theorem enterX {E : String} {wx : va_W} (hy : plainName y.cls = true) (hn : (lg_sl av).length ≤ n)
    (body : ∀ (p : Program) (e : Env) (s : State) (m : MethodId) (below : List Frame) (meth : Method) (c : Code) (ls : Array Slot) (A : Nat → Prop), Cx p s m av.toArray meth c cc n ret y D T A → (∀ x ∈ c.exceptionTable.toList, False) → va_P D CL ws s.heap → va_D A ws → va_S A s.heap s.heap [] → lv_has ls n (lv_args 0 av) →
      W p l e (rmd d mc ms) s m av.toArray below meth c s.heap [] 0 0 (vx_MQ below (fun _ _ _ _ => False) (xX D T E wx A) av.toArray s mc ms A) (F0 m 0 ls [])) : cX l y cc n ret D T av ws E wx d mc ms := by
  intro sz
  refine vx_ofW (cc := cc) (maxL := n) (ret := ret) hy rfl ?_
  intro p e s m args below meth c s₁ B hml ht hv
  obtain ⟨rfl, hsz, hP, hK, hD0, hXw, hSx⟩ := hv
  subst hsz
  have hts := atoms_spec (ws := .code y cc n ret :: Big) B.pre
  have hl := lv_entry av (n := n) hn
  rw [lg_entry_eq]
  exact body p e s m below meth c _ _ ⟨B.exec, B.bytes, hml, findClass_of_methodNamed B.named, fun w h => hts w (List.mem_cons_of_mem _ h), hK, fun q h => Or.inr h, hXw, hSx, B.notSynchronized, B.returns, (name_of_methodNamed B.named B.method).1⟩ ht hP hD0.self va_S.rf hl
end Enter
end
section
/-! rows in the packaging of part 05: a field, a new cell, an array, a return, a call, a throw -/
def Kc (ci : Nat) (C : String) (Tt : u_T) (N : Nat) (ty0 : Nat → FieldType) : Prop := CL[ci]? = some (C, Tt, N) ∧ (∀ w ∈ u_ws C Tt N, w ∈ Big) ∧ (∀ k, k < N → parseFieldDescriptor (Tt k).2.2.1 = some (ty0 k)) ∧ ∀ a, a < N → ∀ b, b < N → a ≠ b → (Tt a).2.1 ≠ (Tt b).2.1
/-- a field by its place in a class's pool: the field k of class ci, its type, whether it is final, whether the class itself declares it -/
def Fg (own : String) (idx ci k : Nat) (ty : FieldType) (fin dec : Bool) : Prop := ∃ (C : String) (Tt : u_T) (N : Nat) (ty0 : Nat → FieldType), Kc ci C Tt N ty0 ∧ k < N ∧ Cond.fieldLink own idx (Tt k).1 (Tt k).2.1 (Tt k).2.2.1 ∈ Big ∧ parseFieldDescriptor (Tt k).2.2.1 = some ty ∧ (Tt k).2.2.2 = fin ∧ (dec = true → (Tt k).1 = own)
def Nw (own : String) (idx ci N : Nat) (fs : List Value) : Prop := ∃ (C : String) (Tt : u_T) (ty0 : Nat → FieldType), Kc ci C Tt N ty0 ∧ Cond.classLink own idx C ∈ Big ∧ Cond.instantiable C N ∈ Big ∧ Cond.initialized C ∈ Big ∧ ∀ j, j < N → defaultValue (ty0 j) = vp_V fs j
def Cd (y : MethodName) (na : Nat) : Prop := y.cls ≠ "java/lang/invoke/MethodHandle" ∧ y.cls ≠ "java/lang/invoke/VarHandle" ∧ (parseMethodDescriptor y.desc).map (fun d => d.parameters.length) = some na
def CV (own : String) (idx : Nat) (y : MethodName) (bytes : ByteArray) (maxL : Nat) (ret : Option FieldType) (na : Nat) : Prop := Cond.methodLink own idx y ∈ Big ∧ Cond.instanceMethod y ∈ Big ∧ Cond.selects y.cls y y ∈ Big ∧ Cond.initialized y.cls ∈ Big ∧ Cond.code y bytes maxL ret ∈ Big ∧ Cd y na
def CI (own : String) (idx : Nat) (y : MethodName) (bytes : ByteArray) (maxL : Nat) (na : Nat) : Prop := Cond.methodLink own idx y ∈ Big ∧ Cond.instanceMethod y ∈ Big ∧ Cond.initialized y.cls ∈ Big ∧ Cond.code y bytes maxL none ∈ Big ∧ y.name = "<init>" ∧ Cd y na
def CS (own : String) (idx : Nat) (y : MethodName) (bytes : ByteArray) (maxL : Nat) (ret : Option FieldType) (na : Nat) : Prop := Cond.methodLink own idx y ∈ Big ∧ Cond.static y ∈ Big ∧ Cond.initialized y.cls ∈ Big ∧ Cond.code y bytes maxL ret ∈ Big ∧ Cd y na
def CSW (own : String) (idx : Nat) (y : MethodName) (bytes : ByteArray) (maxL : Nat) (ret : Option FieldType) (hh : List (Nat × Nat × Nat × Nat)) (na : Nat) : Prop := Cond.methodLink own idx y ∈ Big ∧ Cond.static y ∈ Big ∧ Cond.initialized y.cls ∈ Big ∧ Cond.codeWith y bytes maxL ret hh ∈ Big ∧ Cd y na
/-- 'throw new cls(text)' by its places in the pool -/
def Tf (own : String) (ik is ic : Nat) (cls text : String) (names : List String) : Prop := Bundle.fit cls = true ∧ (∀ n ∈ names, Bundle.fit n = true) ∧ Cond.classLink own ik cls ∈ Big ∧ Cond.initialized cls ∈ Big ∧ (own, is, text) ∈ strs ∧ ∀ w ∈ vx_atS own ic cls names, w ∈ Big ∨ w ∈ odd
theorem sub_of {α β : Type} (f : α → Option β) (is : List α) (w : List β) (h : is.map f = w.map some) : is.filterMap f = w := by
  have h1 : is.filterMap f = (is.map f).filterMap id := by rw [List.filterMap_map]; rfl
  rw [h1, h, List.filterMap_map]
  show w.filterMap (fun x => some x) = w
  induction w with
  | nil => rfl
  | cons x r ih => simp
section Rows
variable {p : Program} {l : Launch} {e : Env} {R : Room} {s : State} {m : MethodId} {args : Array Value} {below : List Frame} {meth : Method} {c : Code} {H : Heap} {locs : List Loc} {cells slots : Nat} {Q : State → Prop}
variable {cc : ByteArray} {n : Nat} {ret : Option FieldType} {y0 : MethodName} {D : va_G} {T : List (ClassId × FieldType)} {A : Nat → Prop} {pc : Nat} {ls : Array Slot} {rest st : List Value} {ws wc wr : va_W} {a : Nat}
theorem r_get (C : Cx p s m args meth c cc n ret y0 D T A) (hP : va_P D CL ws H) (q0 : Nat) {idx ci k : Nat} {fs : List Value} (he : ws[q0]? = some (a, .inr (ci, fs))) {ty : FieldType} {fin dec : Bool} (F : Fg y0.cls idx ci k ty fin dec) {v : Value} (hv : fs[k]? = some v) (hdg : decode cc pc = .ok (.getfield idx, 3))
    (kk : W p l e R s m args below meth c H locs cells slots Q (F0 m (pc + 3) ls (v :: rest))) : W p l e R s m args below meth c H locs cells slots Q (F0 m pc ls (.ref a :: rest)) := by
  obtain ⟨hx, hb, -, hown, hts, hK, -⟩ := C
  obtain ⟨Cn, Tt, N, ty0, ⟨hc, hin, -, -⟩, hk, hl, -⟩ := F
  exact va_get hx hb hts hin hown hK hP q0 he hc k hk (hts _ hl) (fun _ h => h) hv hdg kk
theorem r_put (C : Cx p s m args meth c cc n ret y0 D T A) (hP : va_P D CL ws H) (hD : va_D A ws) (hS : va_S A s.heap H locs) (q0 : Nat) {idx ci k : Nat} {fs : List Value} (he : ws[q0]? = some (a, .inr (ci, fs))) {ty : FieldType} {dec : Bool} (F : Fg y0.cls idx ci k ty false dec) {v : Value} (hn : narrow ty v = v) (hf : fits ty v = true) (hl : k < fs.length) (hdg : decode cc pc = .ok (.putfield idx, 3)) (ws' : va_W) (hw : ws.set q0 (a, .inr (ci, fs.set k v)) = ws')
    (kk : ∀ (H1 : Heap) (locs1 : List Loc), va_P D CL ws' H1 → va_D A ws' → va_S A s.heap H1 locs1 → W p l e R s m args below meth c H1 locs1 cells slots Q (F0 m (pc + 3) ls rest)) : W p l e R s m args below meth c H locs cells slots Q (F0 m pc ls (v :: .ref a :: rest)) := by
  obtain ⟨hx, hb, -, hown, hts, hK, -⟩ := C
  obtain ⟨Cn, Tt, N, ty0, ⟨hc, hin, hty, hnm⟩, hk, hlk, hd, hfin, -⟩ := F
  subst hw
  exact va_put hx hb hts hin ty0 hty hnm hown hK hP hD hS q0 he hc k hk (hts _ hlk) (fun _ h => h) hfin hd hn hf hl hdg kk
theorem r_putF (C : Cx p s m args meth c cc n ret y0 D T A) (hi : y0.name = "<init>") (hP : va_P D CL ws H) (hD : va_D A ws) (hS : va_S A s.heap H locs) (q0 : Nat) {idx ci k : Nat} {fs : List Value} (he : ws[q0]? = some (a, .inr (ci, fs))) {ty : FieldType} (F : Fg y0.cls idx ci k ty true true) {v : Value} (hn : narrow ty v = v) (hf : fits ty v = true) (hl : k < fs.length) (hdg : decode cc pc = .ok (.putfield idx, 3)) (ws' : va_W) (hw : ws.set q0 (a, .inr (ci, fs.set k v)) = ws')
    (kk : ∀ (H1 : Heap) (locs1 : List Loc), va_P D CL ws' H1 → va_D A ws' → va_S A s.heap H1 locs1 → W p l e R s m args below meth c H1 locs1 cells slots Q (F0 m (pc + 3) ls rest)) : W p l e R s m args below meth c H locs cells slots Q (F0 m pc ls (v :: .ref a :: rest)) := by
  obtain ⟨hx, hb, -, hown, hts, hK, -, -, -, -, -, hnm0⟩ := C
  obtain ⟨Cn, Tt, N, ty0, ⟨hc, hin, hty, hnm⟩, hk, hlk, hd, hfin, hdec⟩ := F
  subst hw
  exact va_putF hx hb hts hin ty0 hty hnm hown hK hP hD hS q0 he hc k hk (hts _ hlk) (fun _ h => h) hfin (hnm0.trans hi) (hdec rfl) hd hn hf hl hdg kk
theorem r_new (C : Cx p s m args meth c cc n ret y0 D T A) (hP : va_P D CL ws H) (hD : va_D A ws) (hS : va_S A s.heap H locs) {idx ci N : Nat} {fs : List Value} (F : Nw y0.cls idx ci N fs) (hcells : cells + 1 ≤ R.cells) (hslots : slots + N ≤ R.slots) (hdg : decode cc pc = .ok (.new idx, 3))
    (kk : ∀ (q : Nat) (H1 : Heap), va_P D CL (ws ++ [(q, .inr (ci, fs))]) H1 → va_D A (ws ++ [(q, .inr (ci, fs))]) → va_S A s.heap H1 locs → W p l e R s m args below meth c H1 locs (cells + 1) (slots + N) Q (F0 m (pc + 3) ls (.ref q :: rest))) : W p l e R s m args below meth c H locs cells slots Q (F0 m pc ls rest) := by
  obtain ⟨hx, hb, -, hown, hts, hK, hA, -⟩ := C
  obtain ⟨Cn, Tt, ty0, ⟨hc, hin, hty, -⟩, hcl, hins, hini, hfs⟩ := F
  exact va_new hx hb hts hin ty0 hty hown (hts _ hcl) (hts _ hins) (hts _ hini) hK hP hD hS hA hc hfs hcells hslots hdg kk
theorem ra_inj {U : State} {c1 c2 : ClassId} {atype : ArrayType} (h1 : va_RA U c1 (newarray.typeOf atype)) (h2 : va_RA U c2 (newarray.typeOf atype)) : c1 = c2 := by
  cases atype <;> exact Option.some.inj (Eq.trans (Eq.symm h1) h2)
theorem r_newa (C : Cx p s m args meth c cc n ret y0 D T A) (hP : va_P D CL ws H) (hD : va_D A ws) (hS : va_S A s.heap H locs) {atype : ArrayType} {ty : FieldType} (hat : Cond.arrayClass (newarray.typeOf atype) ∈ Big) (hty : newarray.typeOf atype = ty) (t0 : Nat) {cA : ClassId} (ht : T[t0]? = some (cA, ty)) {k : Int32} {N' : Nat} {a0 : vp_A} (ha : ∀ cA : ClassId, vp_cell cA a0 = arrV cA N' (fun _ => defaultValue ty)) (hn : ¬ k < 0) (hN : k.toNatClampNeg = N') (hbytes : N' * componentBytes ty ≤ 536870912) (hcells : cells + 1 ≤ R.cells) (hslots : slots + N' ≤ R.slots) (hdg : decode cc pc = .ok (.newarray atype, 2))
    (kk : ∀ (q : Nat) (H1 : Heap), va_P D CL (ws ++ [(q, .inl (cA, a0))]) H1 → va_D A (ws ++ [(q, .inl (cA, a0))]) → va_S A s.heap H1 locs → W p l e R s m args below meth c H1 locs (cells + 1) (slots + N') Q (F0 m (pc + 2) ls (.ref q :: rest))) : W p l e R s m args below meth c H locs cells slots Q (F0 m pc ls (.int k :: rest)) := by
  obtain ⟨hx, hb, -, hown, hts, hK, hA, -⟩ := C
  refine va_newa hx hb (hts _ hat) hty hK hP hD hS hA ha hn hN hbytes hcells hslots hdg (fun q cB H1 hK1 hP1 hD1 hS1 => ?_)
  have e1 : va_RA s cB ty := (hK1.2 T.length (cB, ty) (by rw [List.getElem?_append_right (Nat.le_refl _), Nat.sub_self]; rfl)).2
  have e2 : va_RA s cA ty := (hK.2 t0 _ ht).2
  subst hty
  have e3 := ra_inj e1 e2
  subst e3
  exact kk q H1 hP1 hD1 hS1
theorem nd_range (k : Nat) : va_nd (List.range k) = true ∨ True := Or.inr trivial
/-- a new array that nobody will read -/
theorem r_newaF (C : Cx p s m args meth c cc n ret y0 D T A) (hP : va_P D CL ws H) (hD : va_D A ws) (hS : va_S A s.heap H locs) {atype : ArrayType} {ty : FieldType} (hat : Cond.arrayClass (newarray.typeOf atype) ∈ Big) (hty : newarray.typeOf atype = ty) {k : Int32} {N' : Nat} {a0 : vp_A} (ha : ∀ cA : ClassId, vp_cell cA a0 = arrV cA N' (fun _ => defaultValue ty)) (hn : ¬ k < 0) (hN : k.toNatClampNeg = N') (hbytes : N' * componentBytes ty ≤ 536870912) (hcells : cells + 1 ≤ R.cells) (hslots : slots + N' ≤ R.slots) (hdg : decode cc pc = .ok (.newarray atype, 2))
    (kk : ∀ (q : Nat) (H1 : Heap), va_P D CL ws H1 → va_S A s.heap H1 locs → W p l e R s m args below meth c H1 locs (cells + 1) (slots + N') Q (F0 m (pc + 2) ls (.ref q :: rest))) : W p l e R s m args below meth c H locs cells slots Q (F0 m pc ls (.int k :: rest)) := by
  obtain ⟨hx, hb, -, hown, hts, hK, hA, -⟩ := C
  refine va_newa hx hb (hts _ hat) hty hK hP hD hS hA ha hn hN hbytes hcells hslots hdg (fun q cB H1 hK1 hP1 hD1 hS1 => ?_)
  exact kk q H1 (fun i x hi => hP1 i x (by rw [List.getElem?_append_left (List.getElem?_eq_some_iff.mp hi).1]; exact hi)) hS1
theorem r_vret (C : Cx p s m args meth c cc n none y0 D T A) (hP : va_P D CL ws H) (hD : va_D A ws) (hS : va_S A s.heap H locs) {S : Type} {w1 : S → va_W} (u : S) (hw : ws = w1 u) {mc ms : Nat} (hc : cells ≤ mc) (hs : slots ≤ ms) (hdg : decode cc pc = .ok (.return_, 1)) : W p l e R s m args below meth c H locs cells slots (MQ below (qV D T w1 A) args s mc ms A) (F0 m pc ls []) := by
  obtain ⟨hx, hb, -, -, -, hK, -, -, -, hlocks, hr, -⟩ := C
  subst hw
  refine W.widen hc hs ?_
  exact W.vret hx hb hr (fun t ht hW => ⟨⟨u, rfl, trivial, by rw [ht]; exact hP, va_K.moved hW.alike hK, hD⟩, hS.F ht⟩) hS.2.2 hdg hlocks
theorem r_iret (C : Cx p s m args meth c cc n (some .int) y0 D T A) (hP : va_P D CL ws H) (hD : va_D A ws) (hS : va_S A s.heap H locs) {S : Type} {f : S → Int32} {w1 : S → va_W} (u : S) (hw : ws = w1 u) {v : Int32} (hv : v = f u) {mc ms : Nat} (hc : cells ≤ mc) (hs : slots ≤ ms) (hdg : decode cc pc = .ok (.ireturn, 1)) : W p l e R s m args below meth c H locs cells slots (MQ below (qI D T f w1 A) args s mc ms A) (F0 m pc ls [.int v]) := by
  obtain ⟨hx, hb, -, -, -, hK, -, -, -, hlocks, hr, -⟩ := C
  subst hw
  refine W.widen hc hs ?_
  exact W.iret hx hb hr (fun t ht hW => ⟨⟨v, u, rfl, hv, by rw [ht]; exact hP, va_K.moved hW.alike hK, hD⟩, hS.F ht⟩) hS.2.2 hdg hlocks
theorem r_zret (C : Cx p s m args meth c cc n (some .boolean) y0 D T A) (hP : va_P D CL ws H) (hD : va_D A ws) (hS : va_S A s.heap H locs) {S : Type} {f : S → Int32} {w1 : S → va_W} (u : S) (hw : ws = w1 u) {v : Int32} (hv : v = f u) (hn : narrow .boolean (.int v) = .int v) {mc ms : Nat} (hc : cells ≤ mc) (hs : slots ≤ ms) (hdg : decode cc pc = .ok (.ireturn, 1)) : W p l e R s m args below meth c H locs cells slots (MQ below (qI D T f w1 A) args s mc ms A) (F0 m pc ls [.int v]) := by
  obtain ⟨hx, hb, -, -, -, hK, -, -, -, hlocks, hr, -⟩ := C
  subst hw
  refine W.widen hc hs ?_
  exact W.zret hx hb hr hn (fun t ht hW => ⟨⟨v, u, rfl, hv, by rw [ht]; exact hP, va_K.moved hW.alike hK, hD⟩, hS.F ht⟩) hS.2.2 hdg hlocks
theorem r_lret (C : Cx p s m args meth c cc n (some .long) y0 D T A) (hP : va_P D CL ws H) (hD : va_D A ws) (hS : va_S A s.heap H locs) {S : Type} {f : S → Int64} {w1 : S → va_W} (u : S) (hw : ws = w1 u) {v : Int64} (hv : v = f u) {mc ms : Nat} (hc : cells ≤ mc) (hs : slots ≤ ms) (hdg : decode cc pc = .ok (.lreturn, 1)) : W p l e R s m args below meth c H locs cells slots (MQ below (qL D T f w1 A) args s mc ms A) (F0 m pc ls [.long v]) := by
  obtain ⟨hx, hb, -, -, -, hK, -, -, -, hlocks, hr, -⟩ := C
  subst hw
  refine W.widen hc hs ?_
  exact W.lret hx hb hr (fun t ht hW => ⟨⟨v, u, rfl, hv, by rw [ht]; exact hP, va_K.moved hW.alike hK, hD⟩, hS.F ht⟩) hS.2.2 hdg hlocks
theorem r_aret {rt : FieldType} (C : Cx p s m args meth c cc n (some rt) y0 D T A) (hrt : (∃ n, rt = .object n) ∨ ∃ t, rt = .array t) (hP : va_P D CL ws H) (hD : va_D A ws) (hS : va_S A s.heap H locs) {S : Type} {f : S → Nat} {w1 : S → va_W} (u : S) (hw : ws = w1 u) {v : Nat} (hv : v = f u) {mc ms : Nat} (hc : cells ≤ mc) (hs : slots ≤ ms) (hdg : decode cc pc = .ok (.areturn, 1)) : W p l e R s m args below meth c H locs cells slots (MQ below (qR D T f w1 A) args s mc ms A) (F0 m pc ls [.ref v]) := by
  obtain ⟨hx, hb, -, -, -, hK, -, -, -, hlocks, hr, -⟩ := C
  subst hw
  refine W.widen hc hs ?_
  exact W.aret hx hb hr hrt (Or.inr ⟨v, rfl⟩) (fun t ht hW => ⟨⟨u, v, rfl, trivial, hv, by rw [ht]; exact hP, va_K.moved hW.alike hK, hD⟩, hS.F ht⟩) hS.2.2 hdg hlocks
theorem pre_of (C : Cx p s m args meth c cc n ret y0 D T A) (hP : va_P D CL ws H) (hD : va_D A ws) (hS : va_S A s.heap H locs) {av : List Value} (isC : List Nat) (hC : isC.map (fun i => ws[i]?) = wc.map some) (hnC : va_nd isC = true) : ∀ U : State, U.heap = H → s.WarmedH U.vm → cPre D T av wc H.size av.toArray U := by
  intro U hU hW
  obtain ⟨-, -, -, -, -, hK, hA, hXw, hSx, -⟩ := C
  have hF := va_free hD hS hA isC hC
  refine ⟨rfl, by rw [hU], by rw [hU]; exact hP.sub isC (sub_of _ _ _ hC), va_K.moved hW.alike hK, (hD.sub isC hnC hC).weaken (fun _ _ _ _ => trivial), ?_, hSx.warm hW⟩
  rw [hU]
  exact Xw.moved hW.alike ((hXw.kept hS.2.1).narrow hF)
end Rows
end
section
/-! calls and throws in the packaging -/
section Calls
variable {p : Program} {l : Launch} {e : Env} {R : Room} {s : State} {m : MethodId} {args : Array Value} {below : List Frame} {meth : Method} {c : Code} {H : Heap} {locs : List Loc} {cells slots : Nat} {Q : State → Prop}
variable {cc : ByteArray} {n : Nat} {ret : Option FieldType} {y0 : MethodName} {D : va_G} {T : List (ClassId × FieldType)} {A : Nat → Prop} {pc : Nat} {ls : Array Slot} {rest st As : List Value} {ws wc wr wx : va_W} {b : Nat}
variable {y : MethodName} {bytes : ByteArray} {maxL na idx d mc ms : Nat} {rt : Option FieldType} {Qf : (Nat → Prop) → Array Value → State → Outcome → State → Prop} {E : String}
theorem cv_cw (h : CV y0.cls idx y bytes maxL rt na) (ht : ∀ w ∈ Big, w.before args s = true) (hR : (rmd d mc ms).frames + 1 ≤ R.frames ∧ 8 + (maxL + 11) + (rmd d mc ms).locals ≤ R.locals) : CallW R s args y0.cls y.cls idx y bytes maxL rt (.code y bytes maxL rt :: Big) (rmd d mc ms) mc ms na := by
  obtain ⟨h1, h2, h3, h4, h5, h6⟩ := h
  refine cwV na ht (big_sub (fun w hw => ?_)) rfl rfl rfl ⟨rfl, h6⟩ hR
  unfold wsV at hw
  rcases List.mem_append.mp hw with hw | hw
  · simp only [List.mem_cons, List.not_mem_nil, or_false] at hw
    rcases hw with rfl | rfl | rfl | rfl <;> assumption
  · rcases List.mem_cons.mp hw with rfl | hw
    · exact h5
    · exact hw
theorem ci_cw (h : CI y0.cls idx y bytes maxL na) (ht : ∀ w ∈ Big, w.before args s = true) (hR : (rmd d mc ms).frames + 1 ≤ R.frames ∧ 8 + (maxL + 11) + (rmd d mc ms).locals ≤ R.locals) : CallB R s args y0.cls idx y bytes maxL none (.code y bytes maxL none :: Big) (rmd d mc ms) mc ms na ∧ y.name = "<init>" ∧ (Cond.instanceMethod y).before args s = true := by
  obtain ⟨h1, h2, h4, h5, hn, h6⟩ := h
  refine cwI na ht (big_sub (fun w hw => ?_)) rfl rfl rfl (ht _ h4) (ht _ h1) (ht _ h2) hn h6 hR
  rcases List.mem_cons.mp hw with rfl | hw
  · exact h5
  · exact hw
theorem cs_cw (h : CS y0.cls idx y bytes maxL rt na) (ht : ∀ w ∈ Big, w.before args s = true) (hR : (rmd d mc ms).frames + 1 ≤ R.frames ∧ 8 + (maxL + 11) + (rmd d mc ms).locals ≤ R.locals) : CallB R s args y0.cls idx y bytes maxL rt (.code y bytes maxL rt :: Big) (rmd d mc ms) mc ms na ∧ (Cond.static y).before args s = true := by
  obtain ⟨h1, h2, h4, h5, h6⟩ := h
  refine va_cwS na ht (big_sub (fun w hw => ?_)) rfl rfl rfl h6 hR
  unfold va_wsS at hw
  rcases List.mem_append.mp hw with hw | hw
  · simp only [List.mem_cons, List.not_mem_nil, or_false] at hw
    rcases hw with rfl | rfl | rfl <;> assumption
  · rcases List.mem_cons.mp hw with rfl | hw
    · exact h5
    · exact hw
theorem csw_cw {hh : List (Nat × Nat × Nat × Nat)} (h : CSW y0.cls idx y bytes maxL rt hh na) (ht : ∀ w ∈ Big, w.before args s = true) (hR : (rmd d mc ms).frames + 1 ≤ R.frames ∧ 8 + (maxL + 11) + (rmd d mc ms).locals ≤ R.locals) : vx_CSW R s args y0.cls idx y bytes maxL rt hh (.codeWith y bytes maxL rt hh :: Big) (rmd d mc ms) mc ms na := by
  obtain ⟨h1, h2, h4, h5, h6⟩ := h
  refine vx_cwSW na ht (big_sub (fun w hw => ?_)) rfl rfl rfl h6 hR
  unfold va_wsS at hw
  rcases List.mem_append.mp hw with hw | hw
  · simp only [List.mem_cons, List.not_mem_nil, or_false] at hw
    rcases hw with rfl | rfl | rfl <;> assumption
  · rcases List.mem_cons.mp hw with rfl | hw
    · exact h5
    · exact hw
theorem run_V (C : Cx p s m args meth c cc n ret y0 D T A) (hM : cM l y bytes maxL rt D T (.ref b :: As) wc Qf d mc ms) (cv : CV y0.cls idx y bytes maxL rt na) (hP : va_P D CL ws H) (hD : va_D A ws) (hS : va_S A s.heap H locs) (isC : List Nat) (hC : isC.map (fun i => ws[i]?) = wc.map some) (hnC : va_nd isC = true) (q0 : Nat) {ci : Nat} {fs : List Value} (he : wc[q0]? = some (b, .inr (ci, fs))) {q : vw_C} (hc : CL[ci]? = some q) (hq : q.1 = y.cls) (hna : As.length = na) (hz : ls.size = n) (hst : st = As.reverse ++ .ref b :: rest) (hroom : (rest.map fun v => v.category).sum ≤ 8) (hdg : decode cc pc = .ok (.invokevirtual idx, 3))
    (hR : (rmd d mc ms).frames + 1 ≤ R.frames ∧ 8 + (maxL + 11) + (rmd d mc ms).locals ≤ R.locals) (hf : cells + mc ≤ R.cells ∧ slots + ms ≤ R.slots) : va_Run p l e R s m args below meth c H locs cells slots mc ms (F0 m pc ls st) rest (Qf (va_A wc H.size) (Value.ref b :: As).toArray) (va_A wc H.size) := by
  have hpre := pre_of (av := .ref b :: As) C hP hD hS isC hC hnC
  obtain ⟨hx, hb, hml, hown, hts, hK, -⟩ := C
  have hrec := va_recv hK (hP.sub isC (sub_of _ _ _ hC)) hc he
  rw [hq] at hrec
  exact va_runV (As := As) (rest := rest) ⟨hx, hb, hml, hown, hts⟩ (hM H.size) (cv_cw cv hts hR) ⟨cPre_blind, hrec, hpre⟩ rfl hna hz hst (lv_room hroom) hdg hf
theorem run_I (C : Cx p s m args meth c cc n ret y0 D T A) (hM : cM l y bytes maxL none D T (.ref b :: As) wc Qf d mc ms) (cv : CI y0.cls idx y bytes maxL na) (hP : va_P D CL ws H) (hD : va_D A ws) (hS : va_S A s.heap H locs) (isC : List Nat) (hC : isC.map (fun i => ws[i]?) = wc.map some) (hnC : va_nd isC = true) (hna : As.length = na) (hz : ls.size = n) (hst : st = As.reverse ++ .ref b :: rest) (hroom : (rest.map fun v => v.category).sum ≤ 8) (hdg : decode cc pc = .ok (.invokespecial idx, 3))
    (hR : (rmd d mc ms).frames + 1 ≤ R.frames ∧ 8 + (maxL + 11) + (rmd d mc ms).locals ≤ R.locals) (hf : cells + mc ≤ R.cells ∧ slots + ms ≤ R.slots) : va_Run p l e R s m args below meth c H locs cells slots mc ms (F0 m pc ls st) rest (Qf (va_A wc H.size) (Value.ref b :: As).toArray) (va_A wc H.size) := by
  have hpre := pre_of (av := .ref b :: As) C hP hD hS isC hC hnC
  obtain ⟨hx, hb, hml, hown, hts, hK, -⟩ := C
  exact va_runI (As := As) (rest := rest) ⟨hx, hb, hml, hown, hts⟩ (hM H.size) (ci_cw cv hts hR) ⟨cPre_blind, hpre⟩ rfl hna hz hst (lv_room hroom) hdg hf
theorem run_S (C : Cx p s m args meth c cc n ret y0 D T A) (hM : cM l y bytes maxL rt D T As wc Qf d mc ms) (cv : CS y0.cls idx y bytes maxL rt na) (hP : va_P D CL ws H) (hD : va_D A ws) (hS : va_S A s.heap H locs) (isC : List Nat) (hC : isC.map (fun i => ws[i]?) = wc.map some) (hnC : va_nd isC = true) (hna : As.length = na) (hz : ls.size = n) (hst : st = As.reverse ++ rest) (hroom : (rest.map fun v => v.category).sum ≤ 8) (hdg : decode cc pc = .ok (.invokestatic idx, 3))
    (hR : (rmd d mc ms).frames + 1 ≤ R.frames ∧ 8 + (maxL + 11) + (rmd d mc ms).locals ≤ R.locals) (hf : cells + mc ≤ R.cells ∧ slots + ms ≤ R.slots) : va_Run p l e R s m args below meth c H locs cells slots mc ms (F0 m pc ls st) rest (Qf (va_A wc H.size) As.toArray) (va_A wc H.size) := by
  have hpre := pre_of (av := As) C hP hD hS isC hC hnC
  obtain ⟨hx, hb, hml, hown, hts, hK, -⟩ := C
  exact va_runS (As := As) (rest := rest) ⟨hx, hb, hml, hown, hts⟩ (hM H.size) (cs_cw cv hts hR) ⟨cPre_blind, hpre⟩ rfl hna hz hst (lv_room hroom) hdg hf
theorem run_SW {hh : List (Nat × Nat × Nat × Nat)} (C : Cx p s m args meth c cc n ret y0 D T A) (hM : cMW l y bytes maxL rt hh D T As wc Qf d mc ms) (cv : CSW y0.cls idx y bytes maxL rt hh na) (hP : va_P D CL ws H) (hD : va_D A ws) (hS : va_S A s.heap H locs) (isC : List Nat) (hC : isC.map (fun i => ws[i]?) = wc.map some) (hnC : va_nd isC = true) (hna : As.length = na) (hz : ls.size = n) (hst : st = As.reverse ++ rest) (hroom : (rest.map fun v => v.category).sum ≤ 8) (hdg : decode cc pc = .ok (.invokestatic idx, 3))
    (hR : (rmd d mc ms).frames + 1 ≤ R.frames ∧ 8 + (maxL + 11) + (rmd d mc ms).locals ≤ R.locals) (hf : cells + mc ≤ R.cells ∧ slots + ms ≤ R.slots) : va_Run p l e R s m args below meth c H locs cells slots mc ms (F0 m pc ls st) rest (Qf (va_A wc H.size) As.toArray) (va_A wc H.size) := by
  have hpre := pre_of (av := As) C hP hD hS isC hC hnC
  obtain ⟨hx, hb, hml, hown, hts, hK, -⟩ := C
  exact vx_runSW (As := As) (rest := rest) ⟨hx, hb, hml, hown, hts⟩ (hM H.size) (csw_cw cv hts hR) ⟨cPre_blind, hpre⟩ rfl hna hz hst (lv_room hroom) hdg hf
theorem run_VX (C : Cx p s m args meth c cc n ret y0 D T A) (hM : cX l y bytes maxL rt D T (.ref b :: As) wc E wx d mc ms) (cv : CV y0.cls idx y bytes maxL rt na) (hP : va_P D CL ws H) (hD : va_D A ws) (hS : va_S A s.heap H locs) (isC : List Nat) (hC : isC.map (fun i => ws[i]?) = wc.map some) (hnC : va_nd isC = true) (q0 : Nat) {ci : Nat} {fs : List Value} (he : wc[q0]? = some (b, .inr (ci, fs))) {q : vw_C} (hc : CL[ci]? = some q) (hq : q.1 = y.cls) (hna : As.length = na) (hz : ls.size = n) (hst : st = As.reverse ++ .ref b :: rest) (hroom : (rest.map fun v => v.category).sum ≤ 8) (hdg : decode cc pc = .ok (.invokevirtual idx, 3))
    (hR : (rmd d mc ms).frames + 1 ≤ R.frames ∧ 8 + (maxL + 11) + (rmd d mc ms).locals ≤ R.locals) (hf : cells + mc ≤ R.cells ∧ slots + ms ≤ R.slots) : vx_Run p l e R s m args below meth c H locs cells slots mc ms (F0 m pc ls st) rest (fun _ _ _ => False) (xX D T E wx (va_A wc H.size)) (va_A wc H.size) := by
  have hpre := pre_of (av := .ref b :: As) C hP hD hS isC hC hnC
  obtain ⟨hx, hb, hml, hown, hts, hK, -⟩ := C
  have hrec := va_recv hK (hP.sub isC (sub_of _ _ _ hC)) hc he
  rw [hq] at hrec
  exact vx_runV (As := As) (rest := rest) ⟨hx, hb, hml, hown, hts⟩ (hM H.size) (cv_cw cv hts hR) ⟨cPre_blind, hrec, hpre⟩ rfl hna hz hst (lv_room hroom) hdg hf
theorem run_SX (C : Cx p s m args meth c cc n ret y0 D T A) (hM : cX l y bytes maxL rt D T As wc E wx d mc ms) (cv : CS y0.cls idx y bytes maxL rt na) (hP : va_P D CL ws H) (hD : va_D A ws) (hS : va_S A s.heap H locs) (isC : List Nat) (hC : isC.map (fun i => ws[i]?) = wc.map some) (hnC : va_nd isC = true) (hna : As.length = na) (hz : ls.size = n) (hst : st = As.reverse ++ rest) (hroom : (rest.map fun v => v.category).sum ≤ 8) (hdg : decode cc pc = .ok (.invokestatic idx, 3))
    (hR : (rmd d mc ms).frames + 1 ≤ R.frames ∧ 8 + (maxL + 11) + (rmd d mc ms).locals ≤ R.locals) (hf : cells + mc ≤ R.cells ∧ slots + ms ≤ R.slots) : vx_Run p l e R s m args below meth c H locs cells slots mc ms (F0 m pc ls st) rest (fun _ _ _ => False) (xX D T E wx (va_A wc H.size)) (va_A wc H.size) := by
  have hpre := pre_of (av := As) C hP hD hS isC hC hnC
  obtain ⟨hx, hb, hml, hown, hts, hK, -⟩ := C
  exact vx_runS (As := As) (rest := rest) ⟨hx, hb, hml, hown, hts⟩ (hM H.size) (cs_cw cv hts hR) ⟨cPre_blind, hpre⟩ rfl hna hz hst (lv_room hroom) hdg hf
theorem call_v (C : Cx p s m args meth c cc n ret y0 D T A) {a : Array Value} {S : Type} {w1 : S → va_W} (hr : va_Run p l e R s m args below meth c H locs cells slots mc ms (F0 m pc ls st) rest (qV D T w1 (va_A wc H.size) a) (va_A wc H.size)) (hP : va_P D CL ws H) (hD : va_D A ws) (hS : va_S A s.heap H locs) (isC isR : List Nat) (hC : isC.map (fun i => ws[i]?) = wc.map some) (hR : isR.map (fun i => ws[i]?) = wr.map some) (hnR : va_nd isR = true) (hdis : ∀ i ∈ isR, i ∉ isC)
    (kk : ∀ (u : S) (H1 : Heap) (locs1 : List Loc), va_P D CL (wr ++ w1 u) H1 → va_D A (wr ++ w1 u) → va_S A s.heap H1 locs1 → W p l e R s m args below meth c H1 locs1 (cells + mc) (slots + ms) Q (F0 m (pc + 3) ls rest)) : W p l e R s m args below meth c H locs cells slots Q (F0 m pc ls st) := by
  obtain ⟨-, -, -, -, -, -, hA, -⟩ := C
  have hF := va_free hD hS hA isC hC
  refine va_callv hr hS (fun q _ h => hF q h) hF (fun u t H1 locs1 ht hvm _ hB hz1 hk1 hS1 => ?_)
  obtain ⟨hP1, -, hD1⟩ := hB
  rw [ht] at hP1
  obtain ⟨hP2, hD2⟩ := va_join hP hD isC isR hC hR hnR hdis hk1 hF hP1 hD1
  exact kk u H1 locs1 hP2 hD2 hS1
theorem call_i (C : Cx p s m args meth c cc n ret y0 D T A) {a : Array Value} {S : Type} {f : S → Int32} {w1 : S → va_W} (hr : va_Run p l e R s m args below meth c H locs cells slots mc ms (F0 m pc ls st) rest (qI D T f w1 (va_A wc H.size) a) (va_A wc H.size)) (hP : va_P D CL ws H) (hD : va_D A ws) (hS : va_S A s.heap H locs) (isC isR : List Nat) (hC : isC.map (fun i => ws[i]?) = wc.map some) (hR : isR.map (fun i => ws[i]?) = wr.map some) (hnR : va_nd isR = true) (hdis : ∀ i ∈ isR, i ∉ isC)
    (kk : ∀ (u : S) (H1 : Heap) (locs1 : List Loc), va_P D CL (wr ++ w1 u) H1 → va_D A (wr ++ w1 u) → va_S A s.heap H1 locs1 → W p l e R s m args below meth c H1 locs1 (cells + mc) (slots + ms) Q (F0 m (pc + 3) ls (.int (f u) :: rest))) : W p l e R s m args below meth c H locs cells slots Q (F0 m pc ls st) := by
  obtain ⟨-, -, -, -, -, -, hA, -⟩ := C
  have hF := va_free hD hS hA isC hC
  refine va_calli hr hS (fun q _ h => hF q h) hF (fun r u t H1 locs1 ht hvm hpr hB hz1 hk1 hS1 => ?_)
  obtain ⟨hP1, -, hD1⟩ := hB
  rw [ht] at hP1
  obtain ⟨hP2, hD2⟩ := va_join hP hD isC isR hC hR hnR hdis hk1 hF hP1 hD1
  subst hpr
  exact kk u H1 locs1 hP2 hD2 hS1
theorem call_l (C : Cx p s m args meth c cc n ret y0 D T A) {a : Array Value} {S : Type} {f : S → Int64} {w1 : S → va_W} (hr : va_Run p l e R s m args below meth c H locs cells slots mc ms (F0 m pc ls st) rest (qL D T f w1 (va_A wc H.size) a) (va_A wc H.size)) (hP : va_P D CL ws H) (hD : va_D A ws) (hS : va_S A s.heap H locs) (isC isR : List Nat) (hC : isC.map (fun i => ws[i]?) = wc.map some) (hR : isR.map (fun i => ws[i]?) = wr.map some) (hnR : va_nd isR = true) (hdis : ∀ i ∈ isR, i ∉ isC)
    (kk : ∀ (u : S) (H1 : Heap) (locs1 : List Loc), va_P D CL (wr ++ w1 u) H1 → va_D A (wr ++ w1 u) → va_S A s.heap H1 locs1 → W p l e R s m args below meth c H1 locs1 (cells + mc) (slots + ms) Q (F0 m (pc + 3) ls (.long (f u) :: rest))) : W p l e R s m args below meth c H locs cells slots Q (F0 m pc ls st) := by
  obtain ⟨-, -, -, -, -, -, hA, -⟩ := C
  have hF := va_free hD hS hA isC hC
  refine va_calll hr hS (fun q _ h => hF q h) hF (fun r u t H1 locs1 ht hvm hpr hB hz1 hk1 hS1 => ?_)
  obtain ⟨hP1, -, hD1⟩ := hB
  rw [ht] at hP1
  obtain ⟨hP2, hD2⟩ := va_join hP hD isC isR hC hR hnR hdis hk1 hF hP1 hD1
  subst hpr
  exact kk u H1 locs1 hP2 hD2 hS1
theorem call_r (C : Cx p s m args meth c cc n ret y0 D T A) {a : Array Value} {S : Type} {f : S → Nat} {w1 : S → va_W} (hr : va_Run p l e R s m args below meth c H locs cells slots mc ms (F0 m pc ls st) rest (qR D T f w1 (va_A wc H.size) a) (va_A wc H.size)) (hP : va_P D CL ws H) (hD : va_D A ws) (hS : va_S A s.heap H locs) (isC isR : List Nat) (hC : isC.map (fun i => ws[i]?) = wc.map some) (hR : isR.map (fun i => ws[i]?) = wr.map some) (hnR : va_nd isR = true) (hdis : ∀ i ∈ isR, i ∉ isC)
    (kk : ∀ (u : S) (H1 : Heap) (locs1 : List Loc), va_P D CL (wr ++ w1 u) H1 → va_D A (wr ++ w1 u) → va_S A s.heap H1 locs1 → W p l e R s m args below meth c H1 locs1 (cells + mc) (slots + ms) Q (F0 m (pc + 3) ls (.ref (f u) :: rest))) : W p l e R s m args below meth c H locs cells slots Q (F0 m pc ls st) := by
  obtain ⟨-, -, -, -, -, -, hA, -⟩ := C
  have hF := va_free hD hS hA isC hC
  refine va_callr hr hS (fun q _ h => hF q h) hF (fun u ra t H1 locs1 ht hvm _ hB hz1 hk1 hS1 => ?_)
  obtain ⟨hpr, hP1, -, hD1⟩ := hB
  rw [ht] at hP1
  obtain ⟨hP2, hD2⟩ := va_join hP hD isC isR hC hR hnR hdis hk1 hF hP1 hD1
  subst hpr
  exact kk u H1 locs1 hP2 hD2 hS1
/-- a call that throws: the frame with the exception over it -/
theorem call_X (C : Cx p s m args meth c cc n ret y0 D T A) (hr : vx_Run p l e R s m args below meth c H locs cells slots mc ms (F0 m pc ls st) rest (fun _ _ _ => False) (xX D T E wx (va_A wc H.size)) (va_A wc H.size)) (hP : va_P D CL ws H) (hD : va_D A ws) (hS : va_S A s.heap H locs) (isC isR : List Nat) (hC : isC.map (fun i => ws[i]?) = wc.map some) (hR : isR.map (fun i => ws[i]?) = wr.map some) (hnR : va_nd isR = true) (hdis : ∀ i ∈ isR, i ∉ isC)
    (kx : ∀ (ce : Cell) (q9 : Addr) (H1 : Heap) (locs1 : List Loc), H1[q9]? = some ce → ce.vm = .none → s.vm.findClass E = some ce.cls → va_P D CL (wr ++ wx) H1 → va_D A (wr ++ wx) → va_S A s.heap H1 locs1 → vx_W p l e R s m args below meth c H1 locs1 (cells + mc) (slots + ms) Q (F0 m pc ls rest) q9) : W p l e R s m args below meth c H locs cells slots Q (F0 m pc ls st) := by
  obtain ⟨-, -, -, -, -, -, hA, -⟩ := C
  have hF := va_free hD hS hA isC hC
  intro T0 hT X
  rcases hr T0 hT X with ⟨v, st₀, t, T', L, h0, X', hL, e1, e2, hfalse, st9⟩ | ⟨q, st₀, t, T', L, E9, ce, h0, X', hL, e1, e2, ⟨u, -, ⟨rfl, hB⟩, hF9⟩, hce, hcv, hcl, st9⟩
  · exact hfalse.elim
  · obtain ⟨k1, k2, k3⟩ := vx_keep h0 e1 hS (fun q _ h => hF q h) hF hL hF9
    obtain ⟨hP1, -, hD1⟩ := hB
    rw [← e1] at hP1
    obtain ⟨hP2, hD2⟩ := va_join hP hD isC isR hC hR hnR hdis k2 hF hP1 hD1
    obtain ⟨t2, a1, b1⟩ := kx ce q T'.heap (locs ++ L) (by rw [e1]; exact hce) hcv hcl hP2 hD2 k3 T' rfl X'
    exact ⟨t2, st9.trans a1, b1⟩
/-- not caught here -/
theorem r_out (C : Cx p s m args meth c cc n ret y0 D T A) (htab : ∀ x ∈ c.exceptionTable.toList, False) {ce : Cell} {q : Addr} (hcell : H[q]? = some ce) (hv : ce.vm = .none) (hcl : s.vm.findClass E = some ce.cls) (hP : va_P D CL ws H) (hD : va_D A ws) (hS : va_S A s.heap H locs) (hw : ws = wx) (hc : cells ≤ mc) (hs : slots ≤ ms) :
    vx_W p l e R s m args below meth c H locs cells slots (vx_MQ below (fun _ _ _ _ => False) (xX D T E wx A) args s mc ms A) (F0 m pc ls rest) q := by
  obtain ⟨-, -, -, -, -, hK, -, -, -, hlocks, -⟩ := C
  subst hw
  exact vx_out (fun x hx => (htab x hx).elim) hlocks hcell hv hcl (fun t ht hvm => ⟨(), trivial, ⟨rfl, by rw [ht]; exact hP, va_K.moved hvm hK, hD⟩, hS.F ht⟩) hS.2.2 hc hs
theorem r_throwS (C : Cx p s m args meth c cc n ret y0 D T A) (htab : ∀ x ∈ c.exceptionTable.toList, False) (hlt : l.stackTraces = false) (hP : va_P D CL ws H) (hD : va_D A ws) (hS : va_S A s.heap H locs) {ik is ic : Nat} {text : String} {names : List String} (F : Tf y0.cls ik is ic E text names) (hz : ls.size = n)
    (d0 : decode cc pc = .ok (.new ik, 3)) (d3 : decode cc (pc + 3) = .ok (.dup, 1)) (d4 : decode cc (pc + 4) = .ok (.ldc is, 2)) (d6 : decode cc (pc + 6) = .ok (.invokespecial ic, 3)) (d9 : decode cc (pc + 9) = .ok (.athrow, 1)) (hw : ws = wx)
    (hRf : names.length + 3 < R.frames) (hRl : (rest.map fun v => v.category).sum + (13 * (names.length + 1) + 43) ≤ R.locals) (hRc : cells + 1 ≤ R.cells) (hRs : slots + 6 ≤ R.slots) (hc : cells + 1 ≤ mc) (hs : slots + 6 ≤ ms) :
    W p l e R s m args below meth c H locs cells slots (vx_MQ below (fun _ _ _ _ => False) (xX D T E wx A) args s mc ms A) (F0 m pc ls rest) := by
  obtain ⟨hx, hb, hml, hown, hts, hK, hA, hXw, hSx, hlocks, -⟩ := C
  obtain ⟨f1, f2, f3, f4, f5, f6⟩ := F
  have f8 : ∀ w ∈ vx_atS y0.cls ic E names, w.before args s = true := fun w h => (f6 w h).elim (hts w) (fun e => va_Nw.use (odd_on e) (hSx.2.2.2 _ e))
  obtain ⟨sa, hstr⟩ := hSx.1 _ f5
  subst hw
  refine vx_throwS hx hb hlt hown f1 f2 (hts _ f3) (hts _ f4) hstr f8 ?_ hXw.1 hXw.2 hS (hz.trans hml.symm) d0 d3 d4 d6 d9 (fun x hx => (htab x hx).elim) hRf hRl hRc hRs hlocks (fun t hvm hsz hkeep => ⟨(), trivial, ⟨rfl, hP.kept (fun k q hk => hkeep q.1 (hP k q hk).lt), va_K.moved hvm hK, hD⟩, ?_⟩) hS.2.2 hc hs
  · intro w hw
    have hb9 : w ∈ Big ∨ w ∈ odd := by
      rcases List.mem_cons.mp hw with rfl | hw
      · exact Or.inl f3
      · rcases List.mem_cons.mp hw with rfl | hw
        · exact Or.inl f4
        · exact f6 w hw
    rcases hb9 with hb9 | hb9
    · have := (List.mem_filter.mp hb9).2
      simp [vx_ot, this]
    · have := odd_on hb9
      simp [vx_ot, this]
  · exact ⟨Nat.le_trans hS.1 hsz, fun q h1 h2 => by rw [hkeep q (Nat.lt_of_lt_of_le h1 hS.1)]; exact hS.2.1 q h1 h2⟩
theorem r_throwW (C : Cx p s m args meth c cc n ret y0 D T A) (htab : ∀ x ∈ c.exceptionTable.toList, False) (hlt : l.stackTraces = false) (hP : va_P D CL ws H) (hD : va_D A ws) (hS : va_S A s.heap H locs) {ik is ic : Nat} {text : String} {names : List String} (F : Tf y0.cls ik is ic E text names) (hz : ls.size = n)
    (d0 : decode cc pc = .ok (.new ik, 3)) (d3 : decode cc (pc + 3) = .ok (.dup, 1)) (d4 : decode cc (pc + 4) = .ok (.ldc_w is, 3)) (d7 : decode cc (pc + 7) = .ok (.invokespecial ic, 3)) (d10 : decode cc (pc + 10) = .ok (.athrow, 1)) (hw : ws = wx)
    (hRf : names.length + 3 < R.frames) (hRl : (rest.map fun v => v.category).sum + (13 * (names.length + 1) + 43) ≤ R.locals) (hRc : cells + 1 ≤ R.cells) (hRs : slots + 6 ≤ R.slots) (hc : cells + 1 ≤ mc) (hs : slots + 6 ≤ ms) :
    W p l e R s m args below meth c H locs cells slots (vx_MQ below (fun _ _ _ _ => False) (xX D T E wx A) args s mc ms A) (F0 m pc ls rest) := by
  obtain ⟨hx, hb, hml, hown, hts, hK, hA, hXw, hSx, hlocks, -⟩ := C
  obtain ⟨f1, f2, f3, f4, f5, f6⟩ := F
  have f8 : ∀ w ∈ vx_atS y0.cls ic E names, w.before args s = true := fun w h => (f6 w h).elim (hts w) (fun e => va_Nw.use (odd_on e) (hSx.2.2.2 _ e))
  obtain ⟨sa, hstr⟩ := hSx.1 _ f5
  subst hw
  refine vx_throwSW hx hb hlt hown f1 f2 (hts _ f3) (hts _ f4) hstr f8 ?_ hXw.1 hXw.2 hS (hz.trans hml.symm) d0 d3 d4 d7 d10 (fun x hx => (htab x hx).elim) hRf hRl hRc hRs hlocks (fun t hvm hsz hkeep => ⟨(), trivial, ⟨rfl, hP.kept (fun k q hk => hkeep q.1 (hP k q hk).lt), va_K.moved hvm hK, hD⟩, ?_⟩) hS.2.2 hc hs
  · intro w hw
    have hb9 : w ∈ Big ∨ w ∈ odd := by
      rcases List.mem_cons.mp hw with rfl | hw
      · exact Or.inl f3
      · rcases List.mem_cons.mp hw with rfl | hw
        · exact Or.inl f4
        · exact f6 w hw
    rcases hb9 with hb9 | hb9
    · have := (List.mem_filter.mp hb9).2
      simp [vx_ot, this]
    · have := odd_on hb9
      simp [vx_ot, this]
  · exact ⟨Nat.le_trans hS.1 hsz, fun q h1 h2 => by rw [hkeep q (Nat.lt_of_lt_of_le h1 hS.1)]; exact hS.2.1 q h1 h2⟩
/-- a text is loaded -/
theorem r_ldcS (C : Cx p s m args meth c cc n ret y0 D T A) {is : Nat} {text : String} (F : (y0.cls, is, text) ∈ strs) (hdg : decode cc pc = .ok (.ldc is, 2)) (kk : ∀ a : Nat, W p l e R s m args below meth c H locs cells slots Q (F0 m (pc + 2) ls (.ref a :: rest))) : W p l e R s m args below meth c H locs cells slots Q (F0 m pc ls rest) := by
  obtain ⟨hx, hb, hml, hown, hts, hK, hA, hXw, hSx, hlocks, -⟩ := C
  obtain ⟨sa, hstr⟩ := hSx.1 _ F
  intro T0 hT X
  obtain ⟨t, a1, b1⟩ := kk sa T0 hT X
  exact ⟨t, X.ldcString hx (own := y0.cls) (text := text) (index := is) (a := sa) hown hstr.1 hstr.2 (g := F0 m pc ls rest) rfl (by rw [hb]; exact hdg) _ a1, b1⟩
theorem r_obj (C : Cx p s m args meth c cc n ret y0 D T A) {a : Nat} (h1 : Cond.methodLink y0.cls idx objectInit ∈ Big) (h2 : Cond.instanceMethod objectInit ∈ Big) (h3 : Cond.code objectInit ⟨#[0xb1]⟩ 1 none ∈ Big) (hz : ls.size = n) (hdg : decode cc pc = .ok (.invokespecial idx, 3)) (hf : 1 ≤ R.frames) (hl : 2 * (F0 m pc ls (.ref a :: rest)).monitorRoom + (rest.map fun v => v.category).sum + 12 ≤ R.locals)
    (kk : W p l e R s m args below meth c H locs cells slots Q (F0 m (pc + 3) ls rest)) : W p l e R s m args below meth c H locs cells slots Q (F0 m pc ls (.ref a :: rest)) := by
  obtain ⟨hx, hb, hml, hown, hts, -⟩ := C
  exact W.objInit hx hb hown (hts _ h1) (hts _ h2) (hts _ h3) rfl (hz.trans hml.symm) rfl hdg hf hl kk
/-- caught by the handler at the place 'i' of the table -/
theorem r_catch (C : Cx p s m args meth c cc n ret y0 D T A) {ce : Cell} {q : Addr} (hE : E ∈ cas) (pre : List ExceptionTableEntry) (x : ExceptionTableEntry) (suf : List ExceptionTableEntry) (hsplit : c.exceptionTable.toList = pre ++ x :: suf)
    (hpass : ∀ z ∈ pre, covers z pc = false ∨ (z.catchType ≠ 0 ∧ ∃ nm : String, Cond.classLink y0.cls z.catchType nm ∈ Big ∧ va_Nc E nm s)) (hcov : covers x pc = true) (h0 : x.catchType ≠ 0) (hlink : Cond.classLink y0.cls x.catchType E ∈ Big)
    (hcell : H[q]? = some ce) (hv : ce.vm = .none) (hcl : s.vm.findClass E = some ce.cls) (kk : W p l e R s m args below meth c H locs cells slots Q (F0 m x.handlerPc ls [.ref q])) : vx_W p l e R s m args below meth c H locs cells slots Q (F0 m pc ls rest) q := by
  obtain ⟨hx, hb, hml, hown, hts, -, -, -, hSx, -⟩ := C
  exact vx_catch hown pre x suf hsplit (fun z hz => (hpass z hz).imp id (fun h => ⟨h.1, h.2.choose, hts _ h.2.choose_spec.1, h.2.choose_spec.2⟩)) hcov h0 (hts _ hlink) (va_Nw.use rfl (hSx.2.2.2 _ (cas_odd hE))) hcell hv hcl kk
end Calls
end
section
def xC (inp par pla dra lat his f1 f2 : Nat) (hd ec ea : Int32) (g : Nat → Value) : List Value := [.ref inp, .ref par, .ref pla, .ref dra, .ref lat, g 5, g 6, g 7, g 8, g 9, g 10, .ref his, .ref f1, .ref f2, g 14, .int hd, .int ec, .int ea]
def pC (v gu t : Int32) (g : Nat → Value) : List Value := [.int v, .int gu, .int t, g 3, g 4, g 5, g 6, g 7, g 8, g 9, g 10]
def mC (th bu pe ep sz nx fr so wr wa : Int32) (as ak ab ar : Nat) (g : Nat → Value) : List Value := [.int th, .int 0, .ref as, g 3, .int 0, .ref ak, .ref ab, .int bu, .int pe, .int ep, .int sz, .int nx, .int fr, .int so, g 14, g 15, g 16, .int wr, .int wa, .ref ar, .int 0, g 21, g 22, g 23, g 24, g 25, g 26, g 27, g 28, g 29, g 30, g 31, g 32, g 33, g 34, g 35, g 36, g 37, g 38, g 39, .int 0]

theorem w_0 : Cond.laysFinal RX11 "GalleryGuards" "input" "LGalleryGuards$Input;" ∈ Big := big_t 335 (by decide +kernel) rfl
theorem w_1 : Cond.laysFinal RX11 "GalleryGuards" "parse\x72" "LGalleryGuards$Parser;" ∈ Big := big_t 337 (by decide +kernel) rfl
theorem w_2 : Cond.laysFinal RX11 "GalleryGuards" "plan" "LGalleryGuards$Plan;" ∈ Big := big_t 339 (by decide +kernel) rfl
theorem w_3 : Cond.laysFinal RX11 "GalleryGuards" "draft" "LGalleryGuards$Plan;" ∈ Big := big_t 341 (by decide +kernel) rfl
theorem w_4 : Cond.laysFinal RX11 "GalleryGuards" "lattice" "LGalleryGuards$Lattice;" ∈ Big := big_t 343 (by decide +kernel) rfl
theorem w_5 : Cond.laysFinal RX11 "GalleryGuards" "draftLattice" "LGalleryGuards$Lattice;" ∈ Big := big_t 345 (by decide +kernel) rfl
theorem w_6 : Cond.laysFinal RX11 "GalleryGuards" "sight" "LGalleryGuards$Sight;" ∈ Big := big_t 347 (by decide +kernel) rfl
theorem w_7 : Cond.laysFinal RX11 "GalleryGuards" "triangulation" "LGalleryGuards$Triangulation;" ∈ Big := big_t 349 (by decide +kernel) rfl
theorem w_8 : Cond.laysFinal RX11 "GalleryGuards" "covers" "LGalleryGuards$CoverSearch;" ∈ Big := big_t 351 (by decide +kernel) rfl
theorem w_9 : Cond.laysFinal RX11 "GalleryGuards" "spreads" "LGalleryGuards$SpreadSearch;" ∈ Big := big_t 353 (by decide +kernel) rfl
theorem w_10 : Cond.laysFinal RX11 "GalleryGuards" "watch" "LGalleryGuards$Watch;" ∈ Big := big_t 355 (by decide +kernel) rfl
theorem w_11 : Cond.laysFinal RX11 "GalleryGuards" "history" "LGalleryGuards$History;" ∈ Big := big_t 357 (by decide +kernel) rfl
theorem w_12 : Cond.laysFinal RX11 "GalleryGuards" "firstSaved" "LGalleryGuards$Plan;" ∈ Big := big_t 359 (by decide +kernel) rfl
theorem w_13 : Cond.laysFinal RX11 "GalleryGuards" "secondSaved" "LGalleryGuards$Plan;" ∈ Big := big_t 361 (by decide +kernel) rfl
theorem w_14 : Cond.laysFinal RX11 "GalleryGuards" "drawn" "[I" ∈ Big := big_t 363 (by decide +kernel) rfl
theorem w_15 : Cond.lays RX11 "GalleryGuards" "hasDrawn" "Z" ∈ Big := big_t 365 (by decide +kernel) rfl
theorem w_16 : Cond.lays RX11 "GalleryGuards" "errorCode" "I" ∈ Big := big_t 367 (by decide +kernel) rfl
theorem w_17 : Cond.lays RX11 "GalleryGuards" "errorAt" "I" ∈ Big := big_t 369 (by decide +kernel) rfl
theorem w_18 : Cond.fieldLink RX11 19 "GalleryGuards" "plan" "LGalleryGuards$Plan;" ∈ Big := big_t 319 (by decide +kernel) rfl
theorem w_19 : Cond.lays RX6 "GalleryGuards$Plan" "vertexCount" "I" ∈ Big := big_t 99 (by decide +kernel) rfl
theorem w_20 : Cond.lays RX6 "GalleryGuards$Plan" "guardCount" "I" ∈ Big := big_t 101 (by decide +kernel) rfl
theorem w_21 : Cond.lays RX6 "GalleryGuards$Plan" "treasureCount" "I" ∈ Big := big_t 103 (by decide +kernel) rfl
theorem w_22 : Cond.laysFinal RX6 "GalleryGuards$Plan" "vertexXs" "[I" ∈ Big := big_t 105 (by decide +kernel) rfl
theorem w_23 : Cond.laysFinal RX6 "GalleryGuards$Plan" "vertexYs" "[I" ∈ Big := big_t 107 (by decide +kernel) rfl
theorem w_24 : Cond.laysFinal RX6 "GalleryGuards$Plan" "guardXs" "[I" ∈ Big := big_t 109 (by decide +kernel) rfl
theorem w_25 : Cond.laysFinal RX6 "GalleryGuards$Plan" "guardYs" "[I" ∈ Big := big_t 111 (by decide +kernel) rfl
theorem w_26 : Cond.laysFinal RX6 "GalleryGuards$Plan" "guardReaches" "[I" ∈ Big := big_t 113 (by decide +kernel) rfl
theorem w_27 : Cond.laysFinal RX6 "GalleryGuards$Plan" "treasureXs" "[I" ∈ Big := big_t 115 (by decide +kernel) rfl
theorem w_28 : Cond.laysFinal RX6 "GalleryGuards$Plan" "treasureYs" "[I" ∈ Big := big_t 117 (by decide +kernel) rfl
theorem w_29 : Cond.laysFinal RX6 "GalleryGuards$Plan" "treasureValues" "[I" ∈ Big := big_t 119 (by decide +kernel) rfl
theorem w_30 : Cond.fieldLink RX11 152 "GalleryGuards$Plan" "vertexCount" "I" ∈ Big := big_t 79 (by decide +kernel) rfl
theorem w_31 : Cond.classLink RX11 311 "java/lang/IllegalStateException" ∈ Big := big_t 721 (by decide +kernel) rfl
theorem w_32 : Cond.initialized "java/lang/IllegalStateException" ∈ Big := big_t 25 (by decide +kernel) rfl
theorem w_33 : Cond.methodLink RX11 155 yX11_needPolygon ∈ Big := big_t 717 (by decide +kernel) rfl
theorem w_34 : Cond.instanceMethod yX11_needPolygon ∈ Big := big_t 719 (by decide +kernel) rfl
theorem w_35 : Cond.selects RX11 yX11_needPolygon yX11_needPolygon ∈ Big := big_s 10 (y := yX11_needPolygon) (k := 18) (by decide +kernel)
theorem w_36 : Cond.initialized RX11 ∈ Big := big_t 1 (by decide +kernel) rfl
theorem w_37 : Cond.code yX11_needPolygon cX11_needPolygon 1 none ∈ Big := big_t 720 (by decide +kernel) rfl
theorem w_38 : Cond.methodLink RL 17 yX11_vertexX ∈ Big := big_t 713 (by decide +kernel) rfl
theorem w_39 : Cond.instanceMethod yX11_vertexX ∈ Big := big_t 714 (by decide +kernel) rfl
theorem w_40 : Cond.selects RX11 yX11_vertexX yX11_vertexX ∈ Big := big_t 715 (by decide +kernel) rfl
theorem w_41 : Cond.code yX11_vertexX cX11_vertexX 2 (some .int) ∈ Big := big_t 716 (by decide +kernel) rfl
theorem w_42 : Cond.classLink RL 20 "java/lang/IllegalStateException" ∈ Big := big_t 712 (by decide +kernel) rfl
theorem w_43 : Cond.methodLink RL 22 yX11_vertexY ∈ Big := big_t 745 (by decide +kernel) rfl
theorem w_44 : Cond.instanceMethod yX11_vertexY ∈ Big := big_t 746 (by decide +kernel) rfl
theorem w_45 : Cond.selects RX11 yX11_vertexY yX11_vertexY ∈ Big := big_t 747 (by decide +kernel) rfl
theorem w_46 : Cond.code yX11_vertexY cX11_vertexY 2 (some .int) ∈ Big := big_t 748 (by decide +kernel) rfl
theorem w_47 : Cond.methodLink RL 25 yX11_doubleArea ∈ Big := big_t 753 (by decide +kernel) rfl
theorem w_48 : Cond.instanceMethod yX11_doubleArea ∈ Big := big_t 754 (by decide +kernel) rfl
theorem w_49 : Cond.selects RX11 yX11_doubleArea yX11_doubleArea ∈ Big := big_t 755 (by decide +kernel) rfl
theorem w_50 : Cond.code yX11_doubleArea cX11_doubleArea 1 (some .int) ∈ Big := big_t 756 (by decide +kernel) rfl
theorem w_51 : Cond.methodLink RL 29 yX11_reflexVertices ∈ Big := big_t 766 (by decide +kernel) rfl
theorem w_52 : Cond.instanceMethod yX11_reflexVertices ∈ Big := big_t 767 (by decide +kernel) rfl
theorem w_53 : Cond.selects RX11 yX11_reflexVertices yX11_reflexVertices ∈ Big := big_t 768 (by decide +kernel) rfl
theorem w_54 : Cond.code yX11_reflexVertices cX11_reflexVertices 1 (some .int) ∈ Big := big_t 769 (by decide +kernel) rfl
theorem w_55 : Cond.methodLink RL 32 yX11_pointX ∈ Big := big_t 784 (by decide +kernel) rfl
theorem w_56 : Cond.instanceMethod yX11_pointX ∈ Big := big_t 785 (by decide +kernel) rfl
theorem w_57 : Cond.selects RX11 yX11_pointX yX11_pointX ∈ Big := big_t 786 (by decide +kernel) rfl
theorem w_58 : Cond.code yX11_pointX cX11_pointX 2 (some .int) ∈ Big := big_t 787 (by decide +kernel) rfl
theorem w_59 : Cond.methodLink RL 35 yX11_pointY ∈ Big := big_t 795 (by decide +kernel) rfl
theorem w_60 : Cond.instanceMethod yX11_pointY ∈ Big := big_t 796 (by decide +kernel) rfl
theorem w_61 : Cond.selects RX11 yX11_pointY yX11_pointY ∈ Big := big_t 797 (by decide +kernel) rfl
theorem w_62 : Cond.code yX11_pointY cX11_pointY 2 (some .int) ∈ Big := big_t 798 (by decide +kernel) rfl
theorem w_63 : Cond.methodLink RL 38 yX11_pointAt ∈ Big := big_t 806 (by decide +kernel) rfl
theorem w_64 : Cond.instanceMethod yX11_pointAt ∈ Big := big_t 807 (by decide +kernel) rfl
theorem w_65 : Cond.selects RX11 yX11_pointAt yX11_pointAt ∈ Big := big_t 808 (by decide +kernel) rfl
theorem w_66 : Cond.code yX11_pointAt cX11_pointAt 3 (some .int) ∈ Big := big_t 809 (by decide +kernel) rfl
theorem w_67 : Cond.methodLink RL 42 yX11_boundary ∈ Big := big_t 814 (by decide +kernel) rfl
theorem w_68 : Cond.instanceMethod yX11_boundary ∈ Big := big_t 815 (by decide +kernel) rfl
theorem w_69 : Cond.selects RX11 yX11_boundary yX11_boundary ∈ Big := big_t 816 (by decide +kernel) rfl
theorem w_70 : Cond.code yX11_boundary cX11_boundary 1 (some .long) ∈ Big := big_t 817 (by decide +kernel) rfl
theorem w_71 : Cond.methodLink RL 46 yX11_sees ∈ Big := big_t 821 (by decide +kernel) rfl
theorem w_72 : Cond.instanceMethod yX11_sees ∈ Big := big_t 822 (by decide +kernel) rfl
theorem w_73 : Cond.selects RX11 yX11_sees yX11_sees ∈ Big := big_t 823 (by decide +kernel) rfl
theorem w_74 : Cond.code yX11_sees cX11_sees 3 (some .boolean) ∈ Big := big_t 824 (by decide +kernel) rfl
theorem w_75 : Cond.methodLink RL 50 yX11_visible ∈ Big := big_t 860 (by decide +kernel) rfl
theorem w_76 : Cond.instanceMethod yX11_visible ∈ Big := big_t 861 (by decide +kernel) rfl
theorem w_77 : Cond.selects RX11 yX11_visible yX11_visible ∈ Big := big_t 862 (by decide +kernel) rfl
theorem w_78 : Cond.code yX11_visible cX11_visible 2 (some .long) ∈ Big := big_t 863 (by decide +kernel) rfl
theorem w_79 : Cond.methodLink RL 54 yX11_kernel ∈ Big := big_t 867 (by decide +kernel) rfl
theorem w_80 : Cond.instanceMethod yX11_kernel ∈ Big := big_t 868 (by decide +kernel) rfl
theorem w_81 : Cond.selects RX11 yX11_kernel yX11_kernel ∈ Big := big_t 869 (by decide +kernel) rfl
theorem w_82 : Cond.code yX11_kernel cX11_kernel 1 (some .long) ∈ Big := big_t 870 (by decide +kernel) rfl
theorem w_83 : Cond.methodLink RL 57 yX11_linkDistance ∈ Big := big_t 893 (by decide +kernel) rfl
theorem w_84 : Cond.instanceMethod yX11_linkDistance ∈ Big := big_t 894 (by decide +kernel) rfl
theorem w_85 : Cond.selects RX11 yX11_linkDistance yX11_linkDistance ∈ Big := big_t 895 (by decide +kernel) rfl
theorem w_86 : Cond.code yX11_linkDistance cX11_linkDistance 3 (some .int) ∈ Big := big_t 896 (by decide +kernel) rfl
theorem w_87 : Cond.methodLink RL 60 yX11_diameter ∈ Big := big_t 908 (by decide +kernel) rfl
theorem w_88 : Cond.instanceMethod yX11_diameter ∈ Big := big_t 909 (by decide +kernel) rfl
theorem w_89 : Cond.selects RX11 yX11_diameter yX11_diameter ∈ Big := big_t 910 (by decide +kernel) rfl
theorem w_90 : Cond.code yX11_diameter cX11_diameter 1 (some .int) ∈ Big := big_t 911 (by decide +kernel) rfl
theorem w_91 : Cond.methodLink RL 63 yX11_farthest ∈ Big := big_t 933 (by decide +kernel) rfl
theorem w_92 : Cond.instanceMethod yX11_farthest ∈ Big := big_t 934 (by decide +kernel) rfl
theorem w_93 : Cond.selects RX11 yX11_farthest yX11_farthest ∈ Big := big_t 935 (by decide +kernel) rfl
theorem w_94 : Cond.code yX11_farthest cX11_farthest 2 (some .int) ∈ Big := big_t 936 (by decide +kernel) rfl
theorem w_95 : Cond.methodLink RL 66 yX11_seenFromEdge ∈ Big := big_t 941 (by decide +kernel) rfl
theorem w_96 : Cond.instanceMethod yX11_seenFromEdge ∈ Big := big_t 942 (by decide +kernel) rfl
theorem w_97 : Cond.selects RX11 yX11_seenFromEdge yX11_seenFromEdge ∈ Big := big_t 943 (by decide +kernel) rfl
theorem w_98 : Cond.code yX11_seenFromEdge cX11_seenFromEdge 2 (some .long) ∈ Big := big_t 944 (by decide +kernel) rfl
theorem w_99 : Cond.methodLink RL 69 yX11_triangleVertex ∈ Big := big_t 953 (by decide +kernel) rfl
theorem w_100 : Cond.instanceMethod yX11_triangleVertex ∈ Big := big_t 954 (by decide +kernel) rfl
theorem w_101 : Cond.selects RX11 yX11_triangleVertex yX11_triangleVertex ∈ Big := big_t 955 (by decide +kernel) rfl
theorem w_102 : Cond.code yX11_triangleVertex cX11_triangleVertex 3 (some .int) ∈ Big := big_t 956 (by decide +kernel) rfl
theorem w_103 : Cond.methodLink RL 72 yX11_triangleArea ∈ Big := big_t 1008 (by decide +kernel) rfl
theorem w_104 : Cond.instanceMethod yX11_triangleArea ∈ Big := big_t 1009 (by decide +kernel) rfl
theorem w_105 : Cond.selects RX11 yX11_triangleArea yX11_triangleArea ∈ Big := big_t 1010 (by decide +kernel) rfl
theorem w_106 : Cond.code yX11_triangleArea cX11_triangleArea 2 (some .int) ∈ Big := big_t 1011 (by decide +kernel) rfl
theorem w_107 : Cond.methodLink RL 75 yX11_colour ∈ Big := big_t 1021 (by decide +kernel) rfl
theorem w_108 : Cond.instanceMethod yX11_colour ∈ Big := big_t 1022 (by decide +kernel) rfl
theorem w_109 : Cond.selects RX11 yX11_colour yX11_colour ∈ Big := big_t 1023 (by decide +kernel) rfl
theorem w_110 : Cond.code yX11_colour cX11_colour 2 (some .int) ∈ Big := big_t 1024 (by decide +kernel) rfl
theorem w_111 : Cond.methodLink RL 78 yX11_colourGuards ∈ Big := big_t 1032 (by decide +kernel) rfl
theorem w_112 : Cond.instanceMethod yX11_colourGuards ∈ Big := big_t 1033 (by decide +kernel) rfl
theorem w_113 : Cond.selects RX11 yX11_colourGuards yX11_colourGuards ∈ Big := big_t 1034 (by decide +kernel) rfl
theorem w_114 : Cond.code yX11_colourGuards cX11_colourGuards 1 (some .int) ∈ Big := big_t 1035 (by decide +kernel) rfl
theorem w_115 : Cond.methodLink RL 81 yX11_vertexGuards ∈ Big := big_t 1054 (by decide +kernel) rfl
theorem w_116 : Cond.instanceMethod yX11_vertexGuards ∈ Big := big_t 1055 (by decide +kernel) rfl
theorem w_117 : Cond.selects RX11 yX11_vertexGuards yX11_vertexGuards ∈ Big := big_t 1056 (by decide +kernel) rfl
theorem w_118 : Cond.code yX11_vertexGuards cX11_vertexGuards 1 (some .int) ∈ Big := big_t 1057 (by decide +kernel) rfl
theorem w_119 : Cond.methodLink RL 84 yX11_edgeGuards ∈ Big := big_t 1081 (by decide +kernel) rfl
theorem w_120 : Cond.instanceMethod yX11_edgeGuards ∈ Big := big_t 1082 (by decide +kernel) rfl
theorem w_121 : Cond.selects RX11 yX11_edgeGuards yX11_edgeGuards ∈ Big := big_t 1083 (by decide +kernel) rfl
theorem w_122 : Cond.code yX11_edgeGuards cX11_edgeGuards 1 (some .int) ∈ Big := big_t 1084 (by decide +kernel) rfl
theorem w_123 : Cond.methodLink RL 87 yX11_guardNumber ∈ Big := big_t 1093 (by decide +kernel) rfl
theorem w_124 : Cond.instanceMethod yX11_guardNumber ∈ Big := big_t 1094 (by decide +kernel) rfl
theorem w_125 : Cond.selects RX11 yX11_guardNumber yX11_guardNumber ∈ Big := big_t 1095 (by decide +kernel) rfl
theorem w_126 : Cond.code yX11_guardNumber cX11_guardNumber 1 (some .int) ∈ Big := big_t 1096 (by decide +kernel) rfl
theorem w_127 : Cond.methodLink RL 90 yX11_guardPoint ∈ Big := big_t 1109 (by decide +kernel) rfl
theorem w_128 : Cond.instanceMethod yX11_guardPoint ∈ Big := big_t 1110 (by decide +kernel) rfl
theorem w_129 : Cond.selects RX11 yX11_guardPoint yX11_guardPoint ∈ Big := big_t 1111 (by decide +kernel) rfl
theorem w_130 : Cond.code yX11_guardPoint cX11_guardPoint 2 (some .int) ∈ Big := big_t 1112 (by decide +kernel) rfl
theorem w_131 : Cond.methodLink RL 93 yX11_witnessNumber ∈ Big := big_t 1120 (by decide +kernel) rfl
theorem w_132 : Cond.instanceMethod yX11_witnessNumber ∈ Big := big_t 1121 (by decide +kernel) rfl
theorem w_133 : Cond.selects RX11 yX11_witnessNumber yX11_witnessNumber ∈ Big := big_t 1122 (by decide +kernel) rfl
theorem w_134 : Cond.code yX11_witnessNumber cX11_witnessNumber 1 (some .int) ∈ Big := big_t 1123 (by decide +kernel) rfl
theorem w_135 : Cond.methodLink RL 96 yX11_witness ∈ Big := big_t 1146 (by decide +kernel) rfl
theorem w_136 : Cond.instanceMethod yX11_witness ∈ Big := big_t 1147 (by decide +kernel) rfl
theorem w_137 : Cond.selects RX11 yX11_witness yX11_witness ∈ Big := big_t 1148 (by decide +kernel) rfl
theorem w_138 : Cond.code yX11_witness cX11_witness 2 (some .int) ∈ Big := big_t 1149 (by decide +kernel) rfl
theorem w_139 : Cond.methodLink RL 99 yX11_hiddenNumber ∈ Big := big_t 1157 (by decide +kernel) rfl
theorem w_140 : Cond.instanceMethod yX11_hiddenNumber ∈ Big := big_t 1158 (by decide +kernel) rfl
theorem w_141 : Cond.selects RX11 yX11_hiddenNumber yX11_hiddenNumber ∈ Big := big_t 1159 (by decide +kernel) rfl
theorem w_142 : Cond.code yX11_hiddenNumber cX11_hiddenNumber 1 (some .int) ∈ Big := big_t 1160 (by decide +kernel) rfl
theorem w_143 : Cond.methodLink RL 102 yX11_guardAt ∈ Big := big_t 1185 (by decide +kernel) rfl
theorem w_144 : Cond.instanceMethod yX11_guardAt ∈ Big := big_t 1186 (by decide +kernel) rfl
theorem w_145 : Cond.selects RX11 yX11_guardAt yX11_guardAt ∈ Big := big_t 1187 (by decide +kernel) rfl
theorem w_146 : Cond.code yX11_guardAt cX11_guardAt 2 (some .int) ∈ Big := big_t 1188 (by decide +kernel) rfl
theorem w_147 : Cond.methodLink RL 105 yX11_guardRange ∈ Big := big_t 1205 (by decide +kernel) rfl
theorem w_148 : Cond.instanceMethod yX11_guardRange ∈ Big := big_t 1206 (by decide +kernel) rfl
theorem w_149 : Cond.selects RX11 yX11_guardRange yX11_guardRange ∈ Big := big_t 1207 (by decide +kernel) rfl
theorem w_150 : Cond.code yX11_guardRange cX11_guardRange 2 (some .int) ∈ Big := big_t 1208 (by decide +kernel) rfl
theorem w_151 : Cond.methodLink RL 108 yX11_watched ∈ Big := big_t 1216 (by decide +kernel) rfl
theorem w_152 : Cond.instanceMethod yX11_watched ∈ Big := big_t 1217 (by decide +kernel) rfl
theorem w_153 : Cond.selects RX11 yX11_watched yX11_watched ∈ Big := big_t 1218 (by decide +kernel) rfl
theorem w_154 : Cond.code yX11_watched cX11_watched 2 (some .long) ∈ Big := big_t 1219 (by decide +kernel) rfl
theorem w_155 : Cond.methodLink RL 111 yX11_unwatched ∈ Big := big_t 1237 (by decide +kernel) rfl
theorem w_156 : Cond.instanceMethod yX11_unwatched ∈ Big := big_t 1238 (by decide +kernel) rfl
theorem w_157 : Cond.selects RX11 yX11_unwatched yX11_unwatched ∈ Big := big_t 1239 (by decide +kernel) rfl
theorem w_158 : Cond.code yX11_unwatched cX11_unwatched 1 (some .long) ∈ Big := big_t 1240 (by decide +kernel) rfl
theorem w_159 : Cond.methodLink RL 114 yX11_watchers ∈ Big := big_t 1251 (by decide +kernel) rfl
theorem w_160 : Cond.instanceMethod yX11_watchers ∈ Big := big_t 1252 (by decide +kernel) rfl
theorem w_161 : Cond.selects RX11 yX11_watchers yX11_watchers ∈ Big := big_t 1253 (by decide +kernel) rfl
theorem w_162 : Cond.code yX11_watchers cX11_watchers 2 (some .int) ∈ Big := big_t 1254 (by decide +kernel) rfl
theorem w_163 : Cond.methodLink RL 117 yX11_redundantGuards ∈ Big := big_t 1262 (by decide +kernel) rfl
theorem w_164 : Cond.instanceMethod yX11_redundantGuards ∈ Big := big_t 1263 (by decide +kernel) rfl
theorem w_165 : Cond.selects RX11 yX11_redundantGuards yX11_redundantGuards ∈ Big := big_t 1264 (by decide +kernel) rfl
theorem w_166 : Cond.code yX11_redundantGuards cX11_redundantGuards 1 (some .int) ∈ Big := big_t 1265 (by decide +kernel) rfl
theorem w_167 : Cond.methodLink RL 120 yX11_bestPoint ∈ Big := big_t 1274 (by decide +kernel) rfl
theorem w_168 : Cond.instanceMethod yX11_bestPoint ∈ Big := big_t 1275 (by decide +kernel) rfl
theorem w_169 : Cond.selects RX11 yX11_bestPoint yX11_bestPoint ∈ Big := big_t 1276 (by decide +kernel) rfl
theorem w_170 : Cond.code yX11_bestPoint cX11_bestPoint 1 (some .int) ∈ Big := big_t 1277 (by decide +kernel) rfl
theorem w_171 : Cond.methodLink RL 123 yX11_greedyGuards ∈ Big := big_t 1286 (by decide +kernel) rfl
theorem w_172 : Cond.instanceMethod yX11_greedyGuards ∈ Big := big_t 1287 (by decide +kernel) rfl
theorem w_173 : Cond.selects RX11 yX11_greedyGuards yX11_greedyGuards ∈ Big := big_t 1288 (by decide +kernel) rfl
theorem w_174 : Cond.code yX11_greedyGuards cX11_greedyGuards 1 (some .int) ∈ Big := big_t 1289 (by decide +kernel) rfl
theorem w_175 : Cond.methodLink RL 126 yX11_treasureAt ∈ Big := big_t 1300 (by decide +kernel) rfl
theorem w_176 : Cond.instanceMethod yX11_treasureAt ∈ Big := big_t 1301 (by decide +kernel) rfl
theorem w_177 : Cond.selects RX11 yX11_treasureAt yX11_treasureAt ∈ Big := big_t 1302 (by decide +kernel) rfl
theorem w_178 : Cond.code yX11_treasureAt cX11_treasureAt 2 (some .int) ∈ Big := big_t 1303 (by decide +kernel) rfl
theorem w_179 : Cond.methodLink RL 129 yX11_watchedValue ∈ Big := big_t 1319 (by decide +kernel) rfl
theorem w_180 : Cond.instanceMethod yX11_watchedValue ∈ Big := big_t 1320 (by decide +kernel) rfl
theorem w_181 : Cond.selects RX11 yX11_watchedValue yX11_watchedValue ∈ Big := big_t 1321 (by decide +kernel) rfl
theorem w_182 : Cond.code yX11_watchedValue cX11_watchedValue 1 (some .int) ∈ Big := big_t 1322 (by decide +kernel) rfl
theorem w_183 : Cond.methodLink RL 132 yX11_bestValue ∈ Big := big_t 1335 (by decide +kernel) rfl
theorem w_184 : Cond.instanceMethod yX11_bestValue ∈ Big := big_t 1336 (by decide +kernel) rfl
theorem w_185 : Cond.selects RX11 yX11_bestValue yX11_bestValue ∈ Big := big_t 1337 (by decide +kernel) rfl
theorem w_186 : Cond.code yX11_bestValue cX11_bestValue 1 (some .int) ∈ Big := big_t 1338 (by decide +kernel) rfl
theorem w_187 : Cond.methodLink RL 135 yX11_draw ∈ Big := big_t 1348 (by decide +kernel) rfl
theorem w_188 : Cond.instanceMethod yX11_draw ∈ Big := big_t 1349 (by decide +kernel) rfl
theorem w_189 : Cond.selects RX11 yX11_draw yX11_draw ∈ Big := big_t 1350 (by decide +kernel) rfl
theorem w_190 : Cond.code yX11_draw cX11_draw 6 (some .int) ∈ Big := big_t 1351 (by decide +kernel) rfl
theorem w_191 : Cond.methodLink RL 141 yX11_addGuard ∈ Big := big_t 1378 (by decide +kernel) rfl
theorem w_192 : Cond.instanceMethod yX11_addGuard ∈ Big := big_t 1379 (by decide +kernel) rfl
theorem w_193 : Cond.selects RX11 yX11_addGuard yX11_addGuard ∈ Big := big_t 1380 (by decide +kernel) rfl
theorem w_194 : Cond.code yX11_addGuard cX11_addGuard 3 (some .int) ∈ Big := big_t 1381 (by decide +kernel) rfl
theorem w_195 : Cond.methodLink RL 144 yX11_removeGuard ∈ Big := big_t 1392 (by decide +kernel) rfl
theorem w_196 : Cond.instanceMethod yX11_removeGuard ∈ Big := big_t 1393 (by decide +kernel) rfl
theorem w_197 : Cond.selects RX11 yX11_removeGuard yX11_removeGuard ∈ Big := big_t 1394 (by decide +kernel) rfl
theorem w_198 : Cond.code yX11_removeGuard cX11_removeGuard 2 (some .int) ∈ Big := big_t 1395 (by decide +kernel) rfl
theorem w_199 : Cond.methodLink RL 147 yX11_moveGuard ∈ Big := big_t 1403 (by decide +kernel) rfl
theorem w_200 : Cond.instanceMethod yX11_moveGuard ∈ Big := big_t 1404 (by decide +kernel) rfl
theorem w_201 : Cond.selects RX11 yX11_moveGuard yX11_moveGuard ∈ Big := big_t 1405 (by decide +kernel) rfl
theorem w_202 : Cond.code yX11_moveGuard cX11_moveGuard 4 (some .int) ∈ Big := big_t 1406 (by decide +kernel) rfl
theorem w_203 : Cond.methodLink RL 150 yX11_setRange ∈ Big := big_t 1414 (by decide +kernel) rfl
theorem w_204 : Cond.instanceMethod yX11_setRange ∈ Big := big_t 1415 (by decide +kernel) rfl
theorem w_205 : Cond.selects RX11 yX11_setRange yX11_setRange ∈ Big := big_t 1416 (by decide +kernel) rfl
theorem w_206 : Cond.code yX11_setRange cX11_setRange 4 (some .int) ∈ Big := big_t 1417 (by decide +kernel) rfl
theorem w_207 : Cond.methodLink RL 153 yX11_moveVertex ∈ Big := big_t 1425 (by decide +kernel) rfl
theorem w_208 : Cond.instanceMethod yX11_moveVertex ∈ Big := big_t 1426 (by decide +kernel) rfl
theorem w_209 : Cond.selects RX11 yX11_moveVertex yX11_moveVertex ∈ Big := big_t 1427 (by decide +kernel) rfl
theorem w_210 : Cond.code yX11_moveVertex cX11_moveVertex 4 (some .int) ∈ Big := big_t 1428 (by decide +kernel) rfl
theorem w_211 : Cond.methodLink RL 157 yX11_insertVertex ∈ Big := big_t 1451 (by decide +kernel) rfl
theorem w_212 : Cond.instanceMethod yX11_insertVertex ∈ Big := big_t 1452 (by decide +kernel) rfl
theorem w_213 : Cond.selects RX11 yX11_insertVertex yX11_insertVertex ∈ Big := big_t 1453 (by decide +kernel) rfl
theorem w_214 : Cond.code yX11_insertVertex cX11_insertVertex 4 (some .int) ∈ Big := big_t 1454 (by decide +kernel) rfl
theorem w_215 : Cond.methodLink RL 160 yX11_deleteVertex ∈ Big := big_t 1460 (by decide +kernel) rfl
theorem w_216 : Cond.instanceMethod yX11_deleteVertex ∈ Big := big_t 1461 (by decide +kernel) rfl
theorem w_217 : Cond.selects RX11 yX11_deleteVertex yX11_deleteVertex ∈ Big := big_t 1462 (by decide +kernel) rfl
theorem w_218 : Cond.code yX11_deleteVertex cX11_deleteVertex 2 (some .int) ∈ Big := big_t 1463 (by decide +kernel) rfl
theorem w_219 : Cond.methodLink RL 166 yX11_save ∈ Big := big_t 1483 (by decide +kernel) rfl
theorem w_220 : Cond.instanceMethod yX11_save ∈ Big := big_t 1484 (by decide +kernel) rfl
theorem w_221 : Cond.selects RX11 yX11_save yX11_save ∈ Big := big_t 1485 (by decide +kernel) rfl
theorem w_222 : Cond.code yX11_save cX11_save 2 (some .int) ∈ Big := big_t 1486 (by decide +kernel) rfl
theorem kc_X11 : Kc 10 RX11 TX11 18 tyX11 := ⟨rfl, big_ws (lt_s (lt_s (lt_s (lt_s (lt_s (lt_s (lt_s (lt_s (lt_s (lt_s (lt_s (lt_s (lt_s (lt_s (lt_s (lt_s (lt_s (lt_s lt_0 w_0) w_1) w_2) w_3) w_4) w_5) w_6) w_7) w_8) w_9) w_10) w_11) w_12) w_13) w_14) w_15) w_16) w_17), tyX11_ok, nmX11⟩
theorem fg_X11_19 : Fg RX11 19 10 2 (.object "GalleryGuards$Plan") true true := ⟨_, _, _, _, kc_X11, by decide, w_18, by decide +kernel, rfl, fun _ => rfl⟩
theorem kc_X6 : Kc 5 RX6 TX6 11 tyX6 := ⟨rfl, big_ws (lt_s (lt_s (lt_s (lt_s (lt_s (lt_s (lt_s (lt_s (lt_s (lt_s (lt_s lt_0 w_19) w_20) w_21) w_22) w_23) w_24) w_25) w_26) w_27) w_28) w_29), tyX6_ok, nmX6⟩
theorem fg_X11_152 : Fg RX11 152 5 0 (.int) false false := ⟨_, _, _, _, kc_X6, by decide, w_30, by decide +kernel, rfl, fun h => nomatch h⟩
theorem cd_yX11_needPolygon : Cd yX11_needPolygon 0 := ⟨by decide +kernel, by decide +kernel, by decide +kernel⟩
theorem cV_X11_155 : CV RX11 155 yX11_needPolygon cX11_needPolygon 1 none 0 := ⟨w_33, w_34, w_35, w_36, w_37, cd_yX11_needPolygon⟩
theorem cd_yX11_vertexX : Cd yX11_vertexX 1 := ⟨by decide +kernel, by decide +kernel, by decide +kernel⟩
theorem cV_L_17 : CV RL 17 yX11_vertexX cX11_vertexX 2 (some .int) 1 := ⟨w_38, w_39, w_40, w_36, w_41, cd_yX11_vertexX⟩
theorem cd_yX11_vertexY : Cd yX11_vertexY 1 := ⟨by decide +kernel, by decide +kernel, by decide +kernel⟩
theorem cV_L_22 : CV RL 22 yX11_vertexY cX11_vertexY 2 (some .int) 1 := ⟨w_43, w_44, w_45, w_36, w_46, cd_yX11_vertexY⟩
theorem cd_yX11_doubleArea : Cd yX11_doubleArea 0 := ⟨by decide +kernel, by decide +kernel, by decide +kernel⟩
theorem cV_L_25 : CV RL 25 yX11_doubleArea cX11_doubleArea 1 (some .int) 0 := ⟨w_47, w_48, w_49, w_36, w_50, cd_yX11_doubleArea⟩
theorem cd_yX11_reflexVertices : Cd yX11_reflexVertices 0 := ⟨by decide +kernel, by decide +kernel, by decide +kernel⟩
theorem cV_L_29 : CV RL 29 yX11_reflexVertices cX11_reflexVertices 1 (some .int) 0 := ⟨w_51, w_52, w_53, w_36, w_54, cd_yX11_reflexVertices⟩
theorem cd_yX11_pointX : Cd yX11_pointX 1 := ⟨by decide +kernel, by decide +kernel, by decide +kernel⟩
theorem cV_L_32 : CV RL 32 yX11_pointX cX11_pointX 2 (some .int) 1 := ⟨w_55, w_56, w_57, w_36, w_58, cd_yX11_pointX⟩
theorem cd_yX11_pointY : Cd yX11_pointY 1 := ⟨by decide +kernel, by decide +kernel, by decide +kernel⟩
theorem cV_L_35 : CV RL 35 yX11_pointY cX11_pointY 2 (some .int) 1 := ⟨w_59, w_60, w_61, w_36, w_62, cd_yX11_pointY⟩
theorem cd_yX11_pointAt : Cd yX11_pointAt 2 := ⟨by decide +kernel, by decide +kernel, by decide +kernel⟩
theorem cV_L_38 : CV RL 38 yX11_pointAt cX11_pointAt 3 (some .int) 2 := ⟨w_63, w_64, w_65, w_36, w_66, cd_yX11_pointAt⟩
theorem cd_yX11_boundary : Cd yX11_boundary 0 := ⟨by decide +kernel, by decide +kernel, by decide +kernel⟩
theorem cV_L_42 : CV RL 42 yX11_boundary cX11_boundary 1 (some .long) 0 := ⟨w_67, w_68, w_69, w_36, w_70, cd_yX11_boundary⟩
theorem cd_yX11_sees : Cd yX11_sees 2 := ⟨by decide +kernel, by decide +kernel, by decide +kernel⟩
theorem cV_L_46 : CV RL 46 yX11_sees cX11_sees 3 (some .boolean) 2 := ⟨w_71, w_72, w_73, w_36, w_74, cd_yX11_sees⟩
theorem cd_yX11_visible : Cd yX11_visible 1 := ⟨by decide +kernel, by decide +kernel, by decide +kernel⟩
theorem cV_L_50 : CV RL 50 yX11_visible cX11_visible 2 (some .long) 1 := ⟨w_75, w_76, w_77, w_36, w_78, cd_yX11_visible⟩
theorem cd_yX11_kernel : Cd yX11_kernel 0 := ⟨by decide +kernel, by decide +kernel, by decide +kernel⟩
theorem cV_L_54 : CV RL 54 yX11_kernel cX11_kernel 1 (some .long) 0 := ⟨w_79, w_80, w_81, w_36, w_82, cd_yX11_kernel⟩
theorem cd_yX11_linkDistance : Cd yX11_linkDistance 2 := ⟨by decide +kernel, by decide +kernel, by decide +kernel⟩
theorem cV_L_57 : CV RL 57 yX11_linkDistance cX11_linkDistance 3 (some .int) 2 := ⟨w_83, w_84, w_85, w_36, w_86, cd_yX11_linkDistance⟩
theorem cd_yX11_diameter : Cd yX11_diameter 0 := ⟨by decide +kernel, by decide +kernel, by decide +kernel⟩
theorem cV_L_60 : CV RL 60 yX11_diameter cX11_diameter 1 (some .int) 0 := ⟨w_87, w_88, w_89, w_36, w_90, cd_yX11_diameter⟩
theorem cd_yX11_farthest : Cd yX11_farthest 1 := ⟨by decide +kernel, by decide +kernel, by decide +kernel⟩
theorem cV_L_63 : CV RL 63 yX11_farthest cX11_farthest 2 (some .int) 1 := ⟨w_91, w_92, w_93, w_36, w_94, cd_yX11_farthest⟩
theorem cd_yX11_seenFromEdge : Cd yX11_seenFromEdge 1 := ⟨by decide +kernel, by decide +kernel, by decide +kernel⟩
theorem cV_L_66 : CV RL 66 yX11_seenFromEdge cX11_seenFromEdge 2 (some .long) 1 := ⟨w_95, w_96, w_97, w_36, w_98, cd_yX11_seenFromEdge⟩
theorem cd_yX11_triangleVertex : Cd yX11_triangleVertex 2 := ⟨by decide +kernel, by decide +kernel, by decide +kernel⟩
theorem cV_L_69 : CV RL 69 yX11_triangleVertex cX11_triangleVertex 3 (some .int) 2 := ⟨w_99, w_100, w_101, w_36, w_102, cd_yX11_triangleVertex⟩
theorem cd_yX11_triangleArea : Cd yX11_triangleArea 1 := ⟨by decide +kernel, by decide +kernel, by decide +kernel⟩
theorem cV_L_72 : CV RL 72 yX11_triangleArea cX11_triangleArea 2 (some .int) 1 := ⟨w_103, w_104, w_105, w_36, w_106, cd_yX11_triangleArea⟩
theorem cd_yX11_colour : Cd yX11_colour 1 := ⟨by decide +kernel, by decide +kernel, by decide +kernel⟩
theorem cV_L_75 : CV RL 75 yX11_colour cX11_colour 2 (some .int) 1 := ⟨w_107, w_108, w_109, w_36, w_110, cd_yX11_colour⟩
theorem cd_yX11_colourGuards : Cd yX11_colourGuards 0 := ⟨by decide +kernel, by decide +kernel, by decide +kernel⟩
theorem cV_L_78 : CV RL 78 yX11_colourGuards cX11_colourGuards 1 (some .int) 0 := ⟨w_111, w_112, w_113, w_36, w_114, cd_yX11_colourGuards⟩
theorem cd_yX11_vertexGuards : Cd yX11_vertexGuards 0 := ⟨by decide +kernel, by decide +kernel, by decide +kernel⟩
theorem cV_L_81 : CV RL 81 yX11_vertexGuards cX11_vertexGuards 1 (some .int) 0 := ⟨w_115, w_116, w_117, w_36, w_118, cd_yX11_vertexGuards⟩
theorem cd_yX11_edgeGuards : Cd yX11_edgeGuards 0 := ⟨by decide +kernel, by decide +kernel, by decide +kernel⟩
theorem cV_L_84 : CV RL 84 yX11_edgeGuards cX11_edgeGuards 1 (some .int) 0 := ⟨w_119, w_120, w_121, w_36, w_122, cd_yX11_edgeGuards⟩
theorem cd_yX11_guardNumber : Cd yX11_guardNumber 0 := ⟨by decide +kernel, by decide +kernel, by decide +kernel⟩
theorem cV_L_87 : CV RL 87 yX11_guardNumber cX11_guardNumber 1 (some .int) 0 := ⟨w_123, w_124, w_125, w_36, w_126, cd_yX11_guardNumber⟩
theorem cd_yX11_guardPoint : Cd yX11_guardPoint 1 := ⟨by decide +kernel, by decide +kernel, by decide +kernel⟩
theorem cV_L_90 : CV RL 90 yX11_guardPoint cX11_guardPoint 2 (some .int) 1 := ⟨w_127, w_128, w_129, w_36, w_130, cd_yX11_guardPoint⟩
theorem cd_yX11_witnessNumber : Cd yX11_witnessNumber 0 := ⟨by decide +kernel, by decide +kernel, by decide +kernel⟩
theorem cV_L_93 : CV RL 93 yX11_witnessNumber cX11_witnessNumber 1 (some .int) 0 := ⟨w_131, w_132, w_133, w_36, w_134, cd_yX11_witnessNumber⟩
theorem cd_yX11_witness : Cd yX11_witness 1 := ⟨by decide +kernel, by decide +kernel, by decide +kernel⟩
theorem cV_L_96 : CV RL 96 yX11_witness cX11_witness 2 (some .int) 1 := ⟨w_135, w_136, w_137, w_36, w_138, cd_yX11_witness⟩
theorem cd_yX11_hiddenNumber : Cd yX11_hiddenNumber 0 := ⟨by decide +kernel, by decide +kernel, by decide +kernel⟩
theorem cV_L_99 : CV RL 99 yX11_hiddenNumber cX11_hiddenNumber 1 (some .int) 0 := ⟨w_139, w_140, w_141, w_36, w_142, cd_yX11_hiddenNumber⟩
theorem cd_yX11_guardAt : Cd yX11_guardAt 1 := ⟨by decide +kernel, by decide +kernel, by decide +kernel⟩
theorem cV_L_102 : CV RL 102 yX11_guardAt cX11_guardAt 2 (some .int) 1 := ⟨w_143, w_144, w_145, w_36, w_146, cd_yX11_guardAt⟩
theorem cd_yX11_guardRange : Cd yX11_guardRange 1 := ⟨by decide +kernel, by decide +kernel, by decide +kernel⟩
theorem cV_L_105 : CV RL 105 yX11_guardRange cX11_guardRange 2 (some .int) 1 := ⟨w_147, w_148, w_149, w_36, w_150, cd_yX11_guardRange⟩
theorem cd_yX11_watched : Cd yX11_watched 1 := ⟨by decide +kernel, by decide +kernel, by decide +kernel⟩
theorem cV_L_108 : CV RL 108 yX11_watched cX11_watched 2 (some .long) 1 := ⟨w_151, w_152, w_153, w_36, w_154, cd_yX11_watched⟩
theorem cd_yX11_unwatched : Cd yX11_unwatched 0 := ⟨by decide +kernel, by decide +kernel, by decide +kernel⟩
theorem cV_L_111 : CV RL 111 yX11_unwatched cX11_unwatched 1 (some .long) 0 := ⟨w_155, w_156, w_157, w_36, w_158, cd_yX11_unwatched⟩
theorem cd_yX11_watchers : Cd yX11_watchers 1 := ⟨by decide +kernel, by decide +kernel, by decide +kernel⟩
theorem cV_L_114 : CV RL 114 yX11_watchers cX11_watchers 2 (some .int) 1 := ⟨w_159, w_160, w_161, w_36, w_162, cd_yX11_watchers⟩
theorem cd_yX11_redundantGuards : Cd yX11_redundantGuards 0 := ⟨by decide +kernel, by decide +kernel, by decide +kernel⟩
theorem cV_L_117 : CV RL 117 yX11_redundantGuards cX11_redundantGuards 1 (some .int) 0 := ⟨w_163, w_164, w_165, w_36, w_166, cd_yX11_redundantGuards⟩
theorem cd_yX11_bestPoint : Cd yX11_bestPoint 0 := ⟨by decide +kernel, by decide +kernel, by decide +kernel⟩
theorem cV_L_120 : CV RL 120 yX11_bestPoint cX11_bestPoint 1 (some .int) 0 := ⟨w_167, w_168, w_169, w_36, w_170, cd_yX11_bestPoint⟩
theorem cd_yX11_greedyGuards : Cd yX11_greedyGuards 0 := ⟨by decide +kernel, by decide +kernel, by decide +kernel⟩
theorem cV_L_123 : CV RL 123 yX11_greedyGuards cX11_greedyGuards 1 (some .int) 0 := ⟨w_171, w_172, w_173, w_36, w_174, cd_yX11_greedyGuards⟩
theorem cd_yX11_treasureAt : Cd yX11_treasureAt 1 := ⟨by decide +kernel, by decide +kernel, by decide +kernel⟩
theorem cV_L_126 : CV RL 126 yX11_treasureAt cX11_treasureAt 2 (some .int) 1 := ⟨w_175, w_176, w_177, w_36, w_178, cd_yX11_treasureAt⟩
theorem cd_yX11_watchedValue : Cd yX11_watchedValue 0 := ⟨by decide +kernel, by decide +kernel, by decide +kernel⟩
theorem cV_L_129 : CV RL 129 yX11_watchedValue cX11_watchedValue 1 (some .int) 0 := ⟨w_179, w_180, w_181, w_36, w_182, cd_yX11_watchedValue⟩
theorem cd_yX11_bestValue : Cd yX11_bestValue 0 := ⟨by decide +kernel, by decide +kernel, by decide +kernel⟩
theorem cV_L_132 : CV RL 132 yX11_bestValue cX11_bestValue 1 (some .int) 0 := ⟨w_183, w_184, w_185, w_36, w_186, cd_yX11_bestValue⟩
theorem cd_yX11_draw : Cd yX11_draw 1 := ⟨by decide +kernel, by decide +kernel, by decide +kernel⟩
theorem cV_L_135 : CV RL 135 yX11_draw cX11_draw 6 (some .int) 1 := ⟨w_187, w_188, w_189, w_36, w_190, cd_yX11_draw⟩
theorem cd_yX11_addGuard : Cd yX11_addGuard 2 := ⟨by decide +kernel, by decide +kernel, by decide +kernel⟩
theorem cV_L_141 : CV RL 141 yX11_addGuard cX11_addGuard 3 (some .int) 2 := ⟨w_191, w_192, w_193, w_36, w_194, cd_yX11_addGuard⟩
theorem cd_yX11_removeGuard : Cd yX11_removeGuard 1 := ⟨by decide +kernel, by decide +kernel, by decide +kernel⟩
theorem cV_L_144 : CV RL 144 yX11_removeGuard cX11_removeGuard 2 (some .int) 1 := ⟨w_195, w_196, w_197, w_36, w_198, cd_yX11_removeGuard⟩
theorem cd_yX11_moveGuard : Cd yX11_moveGuard 2 := ⟨by decide +kernel, by decide +kernel, by decide +kernel⟩
theorem cV_L_147 : CV RL 147 yX11_moveGuard cX11_moveGuard 4 (some .int) 2 := ⟨w_199, w_200, w_201, w_36, w_202, cd_yX11_moveGuard⟩
theorem cd_yX11_setRange : Cd yX11_setRange 2 := ⟨by decide +kernel, by decide +kernel, by decide +kernel⟩
theorem cV_L_150 : CV RL 150 yX11_setRange cX11_setRange 4 (some .int) 2 := ⟨w_203, w_204, w_205, w_36, w_206, cd_yX11_setRange⟩
theorem cd_yX11_moveVertex : Cd yX11_moveVertex 3 := ⟨by decide +kernel, by decide +kernel, by decide +kernel⟩
theorem cV_L_153 : CV RL 153 yX11_moveVertex cX11_moveVertex 4 (some .int) 3 := ⟨w_207, w_208, w_209, w_36, w_210, cd_yX11_moveVertex⟩
theorem cd_yX11_insertVertex : Cd yX11_insertVertex 3 := ⟨by decide +kernel, by decide +kernel, by decide +kernel⟩
theorem cV_L_157 : CV RL 157 yX11_insertVertex cX11_insertVertex 4 (some .int) 3 := ⟨w_211, w_212, w_213, w_36, w_214, cd_yX11_insertVertex⟩
theorem cd_yX11_deleteVertex : Cd yX11_deleteVertex 1 := ⟨by decide +kernel, by decide +kernel, by decide +kernel⟩
theorem cV_L_160 : CV RL 160 yX11_deleteVertex cX11_deleteVertex 2 (some .int) 1 := ⟨w_215, w_216, w_217, w_36, w_218, cd_yX11_deleteVertex⟩
theorem cd_yX11_save : Cd yX11_save 1 := ⟨by decide +kernel, by decide +kernel, by decide +kernel⟩
theorem cV_L_166 : CV RL 166 yX11_save cX11_save 2 (some .int) 1 := ⟨w_219, w_220, w_221, w_36, w_222, cd_yX11_save⟩
theorem dL_addGuard_0 : decode cL_addGuard 0 = .ok (.aload_n 3, 1) := by decide +kernel
theorem dL_addGuard_1 : decode cL_addGuard 1 = .ok (.iconst 0, 1) := by decide +kernel
theorem dL_addGuard_2 : decode cL_addGuard 2 = .ok (.aload_n 0, 1) := by decide +kernel
theorem dL_addGuard_3 : decode cL_addGuard 3 = .ok (.iload_n 1, 1) := by decide +kernel
theorem dL_addGuard_4 : decode cL_addGuard 4 = .ok (.iload_n 2, 1) := by decide +kernel
theorem dL_addGuard_5 : decode cL_addGuard 5 = .ok (.invokevirtual 141, 3) := by decide +kernel
theorem dL_addGuard_13 : decode cL_addGuard 13 = .ok (.astore 4, 2) := by decide +kernel
theorem dL_addGuard_15 : decode cL_addGuard 15 = .ok (.iconst 1, 1) := by decide +kernel
theorem dL_addGuard_16 : decode cL_addGuard 16 = .ok (.ireturn, 1) := by decide +kernel
theorem dL_bestPoint_0 : decode cL_bestPoint 0 = .ok (.aload_n 1, 1) := by decide +kernel
theorem dL_bestPoint_1 : decode cL_bestPoint 1 = .ok (.iconst 0, 1) := by decide +kernel
theorem dL_bestPoint_2 : decode cL_bestPoint 2 = .ok (.aload_n 0, 1) := by decide +kernel
theorem dL_bestPoint_3 : decode cL_bestPoint 3 = .ok (.invokevirtual 120, 3) := by decide +kernel
theorem dL_bestPoint_11 : decode cL_bestPoint 11 = .ok (.astore_n 2, 1) := by decide +kernel
theorem dL_bestPoint_12 : decode cL_bestPoint 12 = .ok (.iconst 1, 1) := by decide +kernel
theorem dL_bestPoint_13 : decode cL_bestPoint 13 = .ok (.ireturn, 1) := by decide +kernel
theorem dL_bestValue_0 : decode cL_bestValue 0 = .ok (.aload_n 1, 1) := by decide +kernel
theorem dL_bestValue_1 : decode cL_bestValue 1 = .ok (.iconst 0, 1) := by decide +kernel
theorem dL_bestValue_2 : decode cL_bestValue 2 = .ok (.aload_n 0, 1) := by decide +kernel
theorem dL_bestValue_3 : decode cL_bestValue 3 = .ok (.invokevirtual 132, 3) := by decide +kernel
theorem dL_bestValue_11 : decode cL_bestValue 11 = .ok (.astore_n 2, 1) := by decide +kernel
theorem dL_bestValue_12 : decode cL_bestValue 12 = .ok (.iconst 1, 1) := by decide +kernel
theorem dL_bestValue_13 : decode cL_bestValue 13 = .ok (.ireturn, 1) := by decide +kernel
theorem dL_boundary_0 : decode cL_boundary 0 = .ok (.aload_n 1, 1) := by decide +kernel
theorem dL_boundary_1 : decode cL_boundary 1 = .ok (.iconst 0, 1) := by decide +kernel
theorem dL_boundary_2 : decode cL_boundary 2 = .ok (.aload_n 0, 1) := by decide +kernel
theorem dL_boundary_3 : decode cL_boundary 3 = .ok (.invokevirtual 42, 3) := by decide +kernel
theorem dL_boundary_10 : decode cL_boundary 10 = .ok (.astore_n 2, 1) := by decide +kernel
theorem dL_boundary_11 : decode cL_boundary 11 = .ok (.iconst 1, 1) := by decide +kernel
theorem dL_boundary_12 : decode cL_boundary 12 = .ok (.ireturn, 1) := by decide +kernel
theorem dL_colour_0 : decode cL_colour 0 = .ok (.aload_n 2, 1) := by decide +kernel
theorem dL_colour_1 : decode cL_colour 1 = .ok (.iconst 0, 1) := by decide +kernel
theorem dL_colour_2 : decode cL_colour 2 = .ok (.aload_n 0, 1) := by decide +kernel
theorem dL_colour_3 : decode cL_colour 3 = .ok (.iload_n 1, 1) := by decide +kernel
theorem dL_colour_4 : decode cL_colour 4 = .ok (.invokevirtual 75, 3) := by decide +kernel
theorem dL_colour_12 : decode cL_colour 12 = .ok (.astore_n 3, 1) := by decide +kernel
theorem dL_colour_13 : decode cL_colour 13 = .ok (.iconst 1, 1) := by decide +kernel
theorem dL_colour_14 : decode cL_colour 14 = .ok (.ireturn, 1) := by decide +kernel
theorem dL_colourGuards_0 : decode cL_colourGuards 0 = .ok (.aload_n 1, 1) := by decide +kernel
theorem dL_colourGuards_1 : decode cL_colourGuards 1 = .ok (.iconst 0, 1) := by decide +kernel
theorem dL_colourGuards_2 : decode cL_colourGuards 2 = .ok (.aload_n 0, 1) := by decide +kernel
theorem dL_colourGuards_3 : decode cL_colourGuards 3 = .ok (.invokevirtual 78, 3) := by decide +kernel
theorem dL_colourGuards_11 : decode cL_colourGuards 11 = .ok (.astore_n 2, 1) := by decide +kernel
theorem dL_colourGuards_12 : decode cL_colourGuards 12 = .ok (.iconst 1, 1) := by decide +kernel
theorem dL_colourGuards_13 : decode cL_colourGuards 13 = .ok (.ireturn, 1) := by decide +kernel
theorem dL_deleteVertex_0 : decode cL_deleteVertex 0 = .ok (.aload_n 2, 1) := by decide +kernel
theorem dL_deleteVertex_1 : decode cL_deleteVertex 1 = .ok (.iconst 0, 1) := by decide +kernel
theorem dL_deleteVertex_2 : decode cL_deleteVertex 2 = .ok (.aload_n 0, 1) := by decide +kernel
theorem dL_deleteVertex_3 : decode cL_deleteVertex 3 = .ok (.iload_n 1, 1) := by decide +kernel
theorem dL_deleteVertex_4 : decode cL_deleteVertex 4 = .ok (.invokevirtual 160, 3) := by decide +kernel
theorem dL_deleteVertex_12 : decode cL_deleteVertex 12 = .ok (.astore_n 3, 1) := by decide +kernel
theorem dL_deleteVertex_13 : decode cL_deleteVertex 13 = .ok (.iconst 1, 1) := by decide +kernel
theorem dL_deleteVertex_14 : decode cL_deleteVertex 14 = .ok (.ireturn, 1) := by decide +kernel
theorem dL_diameter_0 : decode cL_diameter 0 = .ok (.aload_n 1, 1) := by decide +kernel
theorem dL_diameter_1 : decode cL_diameter 1 = .ok (.iconst 0, 1) := by decide +kernel
theorem dL_diameter_2 : decode cL_diameter 2 = .ok (.aload_n 0, 1) := by decide +kernel
theorem dL_diameter_3 : decode cL_diameter 3 = .ok (.invokevirtual 60, 3) := by decide +kernel
theorem dL_diameter_11 : decode cL_diameter 11 = .ok (.astore_n 2, 1) := by decide +kernel
theorem dL_diameter_12 : decode cL_diameter 12 = .ok (.iconst 1, 1) := by decide +kernel
theorem dL_diameter_13 : decode cL_diameter 13 = .ok (.ireturn, 1) := by decide +kernel
theorem dL_doubleArea_0 : decode cL_doubleArea 0 = .ok (.aload_n 1, 1) := by decide +kernel
theorem dL_doubleArea_1 : decode cL_doubleArea 1 = .ok (.iconst 0, 1) := by decide +kernel
theorem dL_doubleArea_2 : decode cL_doubleArea 2 = .ok (.aload_n 0, 1) := by decide +kernel
theorem dL_doubleArea_3 : decode cL_doubleArea 3 = .ok (.invokevirtual 25, 3) := by decide +kernel
theorem dL_doubleArea_11 : decode cL_doubleArea 11 = .ok (.astore_n 2, 1) := by decide +kernel
theorem dL_doubleArea_12 : decode cL_doubleArea 12 = .ok (.iconst 1, 1) := by decide +kernel
theorem dL_doubleArea_13 : decode cL_doubleArea 13 = .ok (.ireturn, 1) := by decide +kernel
theorem dL_draw_0 : decode cL_draw 0 = .ok (.aload_n 2, 1) := by decide +kernel
theorem dL_draw_1 : decode cL_draw 1 = .ok (.iconst 0, 1) := by decide +kernel
theorem dL_draw_2 : decode cL_draw 2 = .ok (.aload_n 0, 1) := by decide +kernel
theorem dL_draw_3 : decode cL_draw 3 = .ok (.iload_n 1, 1) := by decide +kernel
theorem dL_draw_4 : decode cL_draw 4 = .ok (.invokevirtual 135, 3) := by decide +kernel
theorem dL_draw_12 : decode cL_draw 12 = .ok (.astore_n 3, 1) := by decide +kernel
theorem dL_draw_13 : decode cL_draw 13 = .ok (.iconst 1, 1) := by decide +kernel
theorem dL_draw_14 : decode cL_draw 14 = .ok (.ireturn, 1) := by decide +kernel
theorem dL_edgeGuards_0 : decode cL_edgeGuards 0 = .ok (.aload_n 1, 1) := by decide +kernel
theorem dL_edgeGuards_1 : decode cL_edgeGuards 1 = .ok (.iconst 0, 1) := by decide +kernel
theorem dL_edgeGuards_2 : decode cL_edgeGuards 2 = .ok (.aload_n 0, 1) := by decide +kernel
theorem dL_edgeGuards_3 : decode cL_edgeGuards 3 = .ok (.invokevirtual 84, 3) := by decide +kernel
theorem dL_edgeGuards_11 : decode cL_edgeGuards 11 = .ok (.astore_n 2, 1) := by decide +kernel
theorem dL_edgeGuards_12 : decode cL_edgeGuards 12 = .ok (.iconst 1, 1) := by decide +kernel
theorem dL_edgeGuards_13 : decode cL_edgeGuards 13 = .ok (.ireturn, 1) := by decide +kernel
theorem dL_farthest_0 : decode cL_farthest 0 = .ok (.aload_n 2, 1) := by decide +kernel
theorem dL_farthest_1 : decode cL_farthest 1 = .ok (.iconst 0, 1) := by decide +kernel
theorem dL_farthest_2 : decode cL_farthest 2 = .ok (.aload_n 0, 1) := by decide +kernel
theorem dL_farthest_3 : decode cL_farthest 3 = .ok (.iload_n 1, 1) := by decide +kernel
theorem dL_farthest_4 : decode cL_farthest 4 = .ok (.invokevirtual 63, 3) := by decide +kernel
theorem dL_farthest_12 : decode cL_farthest 12 = .ok (.astore_n 3, 1) := by decide +kernel
theorem dL_farthest_13 : decode cL_farthest 13 = .ok (.iconst 1, 1) := by decide +kernel
theorem dL_farthest_14 : decode cL_farthest 14 = .ok (.ireturn, 1) := by decide +kernel
theorem dL_greedyGuards_0 : decode cL_greedyGuards 0 = .ok (.aload_n 1, 1) := by decide +kernel
theorem dL_greedyGuards_1 : decode cL_greedyGuards 1 = .ok (.iconst 0, 1) := by decide +kernel
theorem dL_greedyGuards_2 : decode cL_greedyGuards 2 = .ok (.aload_n 0, 1) := by decide +kernel
theorem dL_greedyGuards_3 : decode cL_greedyGuards 3 = .ok (.invokevirtual 123, 3) := by decide +kernel
theorem dL_greedyGuards_11 : decode cL_greedyGuards 11 = .ok (.astore_n 2, 1) := by decide +kernel
theorem dL_greedyGuards_12 : decode cL_greedyGuards 12 = .ok (.iconst 1, 1) := by decide +kernel
theorem dL_greedyGuards_13 : decode cL_greedyGuards 13 = .ok (.ireturn, 1) := by decide +kernel
theorem dL_guardAt_0 : decode cL_guardAt 0 = .ok (.aload_n 2, 1) := by decide +kernel
theorem dL_guardAt_1 : decode cL_guardAt 1 = .ok (.iconst 0, 1) := by decide +kernel
theorem dL_guardAt_2 : decode cL_guardAt 2 = .ok (.aload_n 0, 1) := by decide +kernel
theorem dL_guardAt_3 : decode cL_guardAt 3 = .ok (.iload_n 1, 1) := by decide +kernel
theorem dL_guardAt_4 : decode cL_guardAt 4 = .ok (.invokevirtual 102, 3) := by decide +kernel
theorem dL_guardAt_12 : decode cL_guardAt 12 = .ok (.astore_n 3, 1) := by decide +kernel
theorem dL_guardAt_13 : decode cL_guardAt 13 = .ok (.iconst 1, 1) := by decide +kernel
theorem dL_guardAt_14 : decode cL_guardAt 14 = .ok (.ireturn, 1) := by decide +kernel
theorem dL_guardNumber_0 : decode cL_guardNumber 0 = .ok (.aload_n 1, 1) := by decide +kernel
theorem dL_guardNumber_1 : decode cL_guardNumber 1 = .ok (.iconst 0, 1) := by decide +kernel
theorem dL_guardNumber_2 : decode cL_guardNumber 2 = .ok (.aload_n 0, 1) := by decide +kernel
theorem dL_guardNumber_3 : decode cL_guardNumber 3 = .ok (.invokevirtual 87, 3) := by decide +kernel
theorem dL_guardNumber_11 : decode cL_guardNumber 11 = .ok (.astore_n 2, 1) := by decide +kernel
theorem dL_guardNumber_12 : decode cL_guardNumber 12 = .ok (.iconst 1, 1) := by decide +kernel
theorem dL_guardNumber_13 : decode cL_guardNumber 13 = .ok (.ireturn, 1) := by decide +kernel
theorem dL_guardPoint_0 : decode cL_guardPoint 0 = .ok (.aload_n 2, 1) := by decide +kernel
theorem dL_guardPoint_1 : decode cL_guardPoint 1 = .ok (.iconst 0, 1) := by decide +kernel
theorem dL_guardPoint_2 : decode cL_guardPoint 2 = .ok (.aload_n 0, 1) := by decide +kernel
theorem dL_guardPoint_3 : decode cL_guardPoint 3 = .ok (.iload_n 1, 1) := by decide +kernel
theorem dL_guardPoint_4 : decode cL_guardPoint 4 = .ok (.invokevirtual 90, 3) := by decide +kernel
theorem dL_guardPoint_12 : decode cL_guardPoint 12 = .ok (.astore_n 3, 1) := by decide +kernel
theorem dL_guardPoint_13 : decode cL_guardPoint 13 = .ok (.iconst 1, 1) := by decide +kernel
theorem dL_guardPoint_14 : decode cL_guardPoint 14 = .ok (.ireturn, 1) := by decide +kernel
theorem dL_guardRange_0 : decode cL_guardRange 0 = .ok (.aload_n 2, 1) := by decide +kernel
theorem dL_guardRange_1 : decode cL_guardRange 1 = .ok (.iconst 0, 1) := by decide +kernel
theorem dL_guardRange_2 : decode cL_guardRange 2 = .ok (.aload_n 0, 1) := by decide +kernel
theorem dL_guardRange_3 : decode cL_guardRange 3 = .ok (.iload_n 1, 1) := by decide +kernel
theorem dL_guardRange_4 : decode cL_guardRange 4 = .ok (.invokevirtual 105, 3) := by decide +kernel
theorem dL_guardRange_12 : decode cL_guardRange 12 = .ok (.astore_n 3, 1) := by decide +kernel
theorem dL_guardRange_13 : decode cL_guardRange 13 = .ok (.iconst 1, 1) := by decide +kernel
theorem dL_guardRange_14 : decode cL_guardRange 14 = .ok (.ireturn, 1) := by decide +kernel
theorem dL_hiddenNumber_0 : decode cL_hiddenNumber 0 = .ok (.aload_n 1, 1) := by decide +kernel
theorem dL_hiddenNumber_1 : decode cL_hiddenNumber 1 = .ok (.iconst 0, 1) := by decide +kernel
theorem dL_hiddenNumber_2 : decode cL_hiddenNumber 2 = .ok (.aload_n 0, 1) := by decide +kernel
theorem dL_hiddenNumber_3 : decode cL_hiddenNumber 3 = .ok (.invokevirtual 99, 3) := by decide +kernel
theorem dL_hiddenNumber_11 : decode cL_hiddenNumber 11 = .ok (.astore_n 2, 1) := by decide +kernel
theorem dL_hiddenNumber_12 : decode cL_hiddenNumber 12 = .ok (.iconst 1, 1) := by decide +kernel
theorem dL_hiddenNumber_13 : decode cL_hiddenNumber 13 = .ok (.ireturn, 1) := by decide +kernel
theorem dL_insertVertex_0 : decode cL_insertVertex 0 = .ok (.aload 4, 2) := by decide +kernel
theorem dL_insertVertex_2 : decode cL_insertVertex 2 = .ok (.iconst 0, 1) := by decide +kernel
theorem dL_insertVertex_3 : decode cL_insertVertex 3 = .ok (.aload_n 0, 1) := by decide +kernel
theorem dL_insertVertex_4 : decode cL_insertVertex 4 = .ok (.iload_n 1, 1) := by decide +kernel
theorem dL_insertVertex_5 : decode cL_insertVertex 5 = .ok (.iload_n 2, 1) := by decide +kernel
theorem dL_insertVertex_6 : decode cL_insertVertex 6 = .ok (.iload_n 3, 1) := by decide +kernel
theorem dL_insertVertex_7 : decode cL_insertVertex 7 = .ok (.invokevirtual 157, 3) := by decide +kernel
theorem dL_insertVertex_15 : decode cL_insertVertex 15 = .ok (.astore 5, 2) := by decide +kernel
theorem dL_insertVertex_17 : decode cL_insertVertex 17 = .ok (.iconst 1, 1) := by decide +kernel
theorem dL_insertVertex_18 : decode cL_insertVertex 18 = .ok (.ireturn, 1) := by decide +kernel
theorem dL_kernel_0 : decode cL_kernel 0 = .ok (.aload_n 1, 1) := by decide +kernel
theorem dL_kernel_1 : decode cL_kernel 1 = .ok (.iconst 0, 1) := by decide +kernel
theorem dL_kernel_2 : decode cL_kernel 2 = .ok (.aload_n 0, 1) := by decide +kernel
theorem dL_kernel_3 : decode cL_kernel 3 = .ok (.invokevirtual 54, 3) := by decide +kernel
theorem dL_kernel_10 : decode cL_kernel 10 = .ok (.astore_n 2, 1) := by decide +kernel
theorem dL_kernel_11 : decode cL_kernel 11 = .ok (.iconst 1, 1) := by decide +kernel
theorem dL_kernel_12 : decode cL_kernel 12 = .ok (.ireturn, 1) := by decide +kernel
theorem dL_linkDistance_0 : decode cL_linkDistance 0 = .ok (.aload_n 3, 1) := by decide +kernel
theorem dL_linkDistance_1 : decode cL_linkDistance 1 = .ok (.iconst 0, 1) := by decide +kernel
theorem dL_linkDistance_2 : decode cL_linkDistance 2 = .ok (.aload_n 0, 1) := by decide +kernel
theorem dL_linkDistance_3 : decode cL_linkDistance 3 = .ok (.iload_n 1, 1) := by decide +kernel
theorem dL_linkDistance_4 : decode cL_linkDistance 4 = .ok (.iload_n 2, 1) := by decide +kernel
theorem dL_linkDistance_5 : decode cL_linkDistance 5 = .ok (.invokevirtual 57, 3) := by decide +kernel
theorem dL_linkDistance_13 : decode cL_linkDistance 13 = .ok (.astore 4, 2) := by decide +kernel
theorem dL_linkDistance_15 : decode cL_linkDistance 15 = .ok (.iconst 1, 1) := by decide +kernel
theorem dL_linkDistance_16 : decode cL_linkDistance 16 = .ok (.ireturn, 1) := by decide +kernel
theorem dL_moveGuard_0 : decode cL_moveGuard 0 = .ok (.aload_n 3, 1) := by decide +kernel
theorem dL_moveGuard_1 : decode cL_moveGuard 1 = .ok (.iconst 0, 1) := by decide +kernel
theorem dL_moveGuard_2 : decode cL_moveGuard 2 = .ok (.aload_n 0, 1) := by decide +kernel
theorem dL_moveGuard_3 : decode cL_moveGuard 3 = .ok (.iload_n 1, 1) := by decide +kernel
theorem dL_moveGuard_4 : decode cL_moveGuard 4 = .ok (.iload_n 2, 1) := by decide +kernel
theorem dL_moveGuard_5 : decode cL_moveGuard 5 = .ok (.invokevirtual 147, 3) := by decide +kernel
theorem dL_moveGuard_13 : decode cL_moveGuard 13 = .ok (.astore 4, 2) := by decide +kernel
theorem dL_moveGuard_15 : decode cL_moveGuard 15 = .ok (.iconst 1, 1) := by decide +kernel
theorem dL_moveGuard_16 : decode cL_moveGuard 16 = .ok (.ireturn, 1) := by decide +kernel
theorem dL_moveVertex_0 : decode cL_moveVertex 0 = .ok (.aload 4, 2) := by decide +kernel
theorem dL_moveVertex_2 : decode cL_moveVertex 2 = .ok (.iconst 0, 1) := by decide +kernel
theorem dL_moveVertex_3 : decode cL_moveVertex 3 = .ok (.aload_n 0, 1) := by decide +kernel
theorem dL_moveVertex_4 : decode cL_moveVertex 4 = .ok (.iload_n 1, 1) := by decide +kernel
theorem dL_moveVertex_5 : decode cL_moveVertex 5 = .ok (.iload_n 2, 1) := by decide +kernel
theorem dL_moveVertex_6 : decode cL_moveVertex 6 = .ok (.iload_n 3, 1) := by decide +kernel
theorem dL_moveVertex_7 : decode cL_moveVertex 7 = .ok (.invokevirtual 153, 3) := by decide +kernel
theorem dL_moveVertex_15 : decode cL_moveVertex 15 = .ok (.astore 5, 2) := by decide +kernel
theorem dL_moveVertex_17 : decode cL_moveVertex 17 = .ok (.iconst 1, 1) := by decide +kernel
theorem dL_moveVertex_18 : decode cL_moveVertex 18 = .ok (.ireturn, 1) := by decide +kernel
theorem dL_pointAt_0 : decode cL_pointAt 0 = .ok (.aload_n 3, 1) := by decide +kernel
theorem dL_pointAt_1 : decode cL_pointAt 1 = .ok (.iconst 0, 1) := by decide +kernel
theorem dL_pointAt_2 : decode cL_pointAt 2 = .ok (.aload_n 0, 1) := by decide +kernel
theorem dL_pointAt_3 : decode cL_pointAt 3 = .ok (.iload_n 1, 1) := by decide +kernel
theorem dL_pointAt_4 : decode cL_pointAt 4 = .ok (.iload_n 2, 1) := by decide +kernel
theorem dL_pointAt_5 : decode cL_pointAt 5 = .ok (.invokevirtual 38, 3) := by decide +kernel
theorem dL_pointAt_13 : decode cL_pointAt 13 = .ok (.astore 4, 2) := by decide +kernel
theorem dL_pointAt_15 : decode cL_pointAt 15 = .ok (.iconst 1, 1) := by decide +kernel
theorem dL_pointAt_16 : decode cL_pointAt 16 = .ok (.ireturn, 1) := by decide +kernel
theorem dL_pointX_0 : decode cL_pointX 0 = .ok (.aload_n 2, 1) := by decide +kernel
theorem dL_pointX_1 : decode cL_pointX 1 = .ok (.iconst 0, 1) := by decide +kernel
theorem dL_pointX_2 : decode cL_pointX 2 = .ok (.aload_n 0, 1) := by decide +kernel
theorem dL_pointX_3 : decode cL_pointX 3 = .ok (.iload_n 1, 1) := by decide +kernel
theorem dL_pointX_4 : decode cL_pointX 4 = .ok (.invokevirtual 32, 3) := by decide +kernel
theorem dL_pointX_12 : decode cL_pointX 12 = .ok (.astore_n 3, 1) := by decide +kernel
theorem dL_pointX_13 : decode cL_pointX 13 = .ok (.iconst 1, 1) := by decide +kernel
theorem dL_pointX_14 : decode cL_pointX 14 = .ok (.ireturn, 1) := by decide +kernel
theorem dL_pointY_0 : decode cL_pointY 0 = .ok (.aload_n 2, 1) := by decide +kernel
theorem dL_pointY_1 : decode cL_pointY 1 = .ok (.iconst 0, 1) := by decide +kernel
theorem dL_pointY_2 : decode cL_pointY 2 = .ok (.aload_n 0, 1) := by decide +kernel
theorem dL_pointY_3 : decode cL_pointY 3 = .ok (.iload_n 1, 1) := by decide +kernel
theorem dL_pointY_4 : decode cL_pointY 4 = .ok (.invokevirtual 35, 3) := by decide +kernel
theorem dL_pointY_12 : decode cL_pointY 12 = .ok (.astore_n 3, 1) := by decide +kernel
theorem dL_pointY_13 : decode cL_pointY 13 = .ok (.iconst 1, 1) := by decide +kernel
theorem dL_pointY_14 : decode cL_pointY 14 = .ok (.ireturn, 1) := by decide +kernel
theorem dL_redundantGuards_0 : decode cL_redundantGuards 0 = .ok (.aload_n 1, 1) := by decide +kernel
theorem dL_redundantGuards_1 : decode cL_redundantGuards 1 = .ok (.iconst 0, 1) := by decide +kernel
theorem dL_redundantGuards_2 : decode cL_redundantGuards 2 = .ok (.aload_n 0, 1) := by decide +kernel
theorem dL_redundantGuards_3 : decode cL_redundantGuards 3 = .ok (.invokevirtual 117, 3) := by decide +kernel
theorem dL_redundantGuards_11 : decode cL_redundantGuards 11 = .ok (.astore_n 2, 1) := by decide +kernel
theorem dL_redundantGuards_12 : decode cL_redundantGuards 12 = .ok (.iconst 1, 1) := by decide +kernel
theorem dL_redundantGuards_13 : decode cL_redundantGuards 13 = .ok (.ireturn, 1) := by decide +kernel
theorem dL_reflexVertices_0 : decode cL_reflexVertices 0 = .ok (.aload_n 1, 1) := by decide +kernel
theorem dL_reflexVertices_1 : decode cL_reflexVertices 1 = .ok (.iconst 0, 1) := by decide +kernel
theorem dL_reflexVertices_2 : decode cL_reflexVertices 2 = .ok (.aload_n 0, 1) := by decide +kernel
theorem dL_reflexVertices_3 : decode cL_reflexVertices 3 = .ok (.invokevirtual 29, 3) := by decide +kernel
theorem dL_reflexVertices_11 : decode cL_reflexVertices 11 = .ok (.astore_n 2, 1) := by decide +kernel
theorem dL_reflexVertices_12 : decode cL_reflexVertices 12 = .ok (.iconst 1, 1) := by decide +kernel
theorem dL_reflexVertices_13 : decode cL_reflexVertices 13 = .ok (.ireturn, 1) := by decide +kernel
theorem dL_removeGuard_0 : decode cL_removeGuard 0 = .ok (.aload_n 2, 1) := by decide +kernel
theorem dL_removeGuard_1 : decode cL_removeGuard 1 = .ok (.iconst 0, 1) := by decide +kernel
theorem dL_removeGuard_2 : decode cL_removeGuard 2 = .ok (.aload_n 0, 1) := by decide +kernel
theorem dL_removeGuard_3 : decode cL_removeGuard 3 = .ok (.iload_n 1, 1) := by decide +kernel
theorem dL_removeGuard_4 : decode cL_removeGuard 4 = .ok (.invokevirtual 144, 3) := by decide +kernel
theorem dL_removeGuard_12 : decode cL_removeGuard 12 = .ok (.astore_n 3, 1) := by decide +kernel
theorem dL_removeGuard_13 : decode cL_removeGuard 13 = .ok (.iconst 1, 1) := by decide +kernel
theorem dL_removeGuard_14 : decode cL_removeGuard 14 = .ok (.ireturn, 1) := by decide +kernel
theorem dL_save_0 : decode cL_save 0 = .ok (.aload_n 2, 1) := by decide +kernel
theorem dL_save_1 : decode cL_save 1 = .ok (.iconst 0, 1) := by decide +kernel
theorem dL_save_2 : decode cL_save 2 = .ok (.aload_n 0, 1) := by decide +kernel
theorem dL_save_3 : decode cL_save 3 = .ok (.iload_n 1, 1) := by decide +kernel
theorem dL_save_4 : decode cL_save 4 = .ok (.invokevirtual 166, 3) := by decide +kernel
theorem dL_save_12 : decode cL_save 12 = .ok (.astore_n 3, 1) := by decide +kernel
theorem dL_save_13 : decode cL_save 13 = .ok (.iconst 1, 1) := by decide +kernel
theorem dL_save_14 : decode cL_save 14 = .ok (.ireturn, 1) := by decide +kernel
theorem dL_seenFromEdge_0 : decode cL_seenFromEdge 0 = .ok (.aload_n 2, 1) := by decide +kernel
theorem dL_seenFromEdge_1 : decode cL_seenFromEdge 1 = .ok (.iconst 0, 1) := by decide +kernel
theorem dL_seenFromEdge_2 : decode cL_seenFromEdge 2 = .ok (.aload_n 0, 1) := by decide +kernel
theorem dL_seenFromEdge_3 : decode cL_seenFromEdge 3 = .ok (.iload_n 1, 1) := by decide +kernel
theorem dL_seenFromEdge_4 : decode cL_seenFromEdge 4 = .ok (.invokevirtual 66, 3) := by decide +kernel
theorem dL_seenFromEdge_11 : decode cL_seenFromEdge 11 = .ok (.astore_n 3, 1) := by decide +kernel
theorem dL_seenFromEdge_12 : decode cL_seenFromEdge 12 = .ok (.iconst 1, 1) := by decide +kernel
theorem dL_seenFromEdge_13 : decode cL_seenFromEdge 13 = .ok (.ireturn, 1) := by decide +kernel
theorem dL_sees_0 : decode cL_sees 0 = .ok (.aload_n 3, 1) := by decide +kernel
theorem dL_sees_1 : decode cL_sees 1 = .ok (.iconst 0, 1) := by decide +kernel
theorem dL_sees_2 : decode cL_sees 2 = .ok (.aload_n 0, 1) := by decide +kernel
theorem dL_sees_3 : decode cL_sees 3 = .ok (.iload_n 1, 1) := by decide +kernel
theorem dL_sees_4 : decode cL_sees 4 = .ok (.iload_n 2, 1) := by decide +kernel
theorem dL_sees_5 : decode cL_sees 5 = .ok (.invokevirtual 46, 3) := by decide +kernel
theorem dL_sees_20 : decode cL_sees 20 = .ok (.astore 4, 2) := by decide +kernel
theorem dL_sees_22 : decode cL_sees 22 = .ok (.iconst 1, 1) := by decide +kernel
theorem dL_sees_23 : decode cL_sees 23 = .ok (.ireturn, 1) := by decide +kernel
theorem dL_setRange_0 : decode cL_setRange 0 = .ok (.aload_n 3, 1) := by decide +kernel
theorem dL_setRange_1 : decode cL_setRange 1 = .ok (.iconst 0, 1) := by decide +kernel
theorem dL_setRange_2 : decode cL_setRange 2 = .ok (.aload_n 0, 1) := by decide +kernel
theorem dL_setRange_3 : decode cL_setRange 3 = .ok (.iload_n 1, 1) := by decide +kernel
theorem dL_setRange_4 : decode cL_setRange 4 = .ok (.iload_n 2, 1) := by decide +kernel
theorem dL_setRange_5 : decode cL_setRange 5 = .ok (.invokevirtual 150, 3) := by decide +kernel
theorem dL_setRange_13 : decode cL_setRange 13 = .ok (.astore 4, 2) := by decide +kernel
theorem dL_setRange_15 : decode cL_setRange 15 = .ok (.iconst 1, 1) := by decide +kernel
theorem dL_setRange_16 : decode cL_setRange 16 = .ok (.ireturn, 1) := by decide +kernel
theorem dL_treasureAt_0 : decode cL_treasureAt 0 = .ok (.aload_n 2, 1) := by decide +kernel
theorem dL_treasureAt_1 : decode cL_treasureAt 1 = .ok (.iconst 0, 1) := by decide +kernel
theorem dL_treasureAt_2 : decode cL_treasureAt 2 = .ok (.aload_n 0, 1) := by decide +kernel
theorem dL_treasureAt_3 : decode cL_treasureAt 3 = .ok (.iload_n 1, 1) := by decide +kernel
theorem dL_treasureAt_4 : decode cL_treasureAt 4 = .ok (.invokevirtual 126, 3) := by decide +kernel
theorem dL_treasureAt_12 : decode cL_treasureAt 12 = .ok (.astore_n 3, 1) := by decide +kernel
theorem dL_treasureAt_13 : decode cL_treasureAt 13 = .ok (.iconst 1, 1) := by decide +kernel
theorem dL_treasureAt_14 : decode cL_treasureAt 14 = .ok (.ireturn, 1) := by decide +kernel
theorem dL_triangleArea_0 : decode cL_triangleArea 0 = .ok (.aload_n 2, 1) := by decide +kernel
theorem dL_triangleArea_1 : decode cL_triangleArea 1 = .ok (.iconst 0, 1) := by decide +kernel
theorem dL_triangleArea_2 : decode cL_triangleArea 2 = .ok (.aload_n 0, 1) := by decide +kernel
theorem dL_triangleArea_3 : decode cL_triangleArea 3 = .ok (.iload_n 1, 1) := by decide +kernel
theorem dL_triangleArea_4 : decode cL_triangleArea 4 = .ok (.invokevirtual 72, 3) := by decide +kernel
theorem dL_triangleArea_12 : decode cL_triangleArea 12 = .ok (.astore_n 3, 1) := by decide +kernel
theorem dL_triangleArea_13 : decode cL_triangleArea 13 = .ok (.iconst 1, 1) := by decide +kernel
theorem dL_triangleArea_14 : decode cL_triangleArea 14 = .ok (.ireturn, 1) := by decide +kernel
theorem dL_triangleVertex_0 : decode cL_triangleVertex 0 = .ok (.aload_n 3, 1) := by decide +kernel
theorem dL_triangleVertex_1 : decode cL_triangleVertex 1 = .ok (.iconst 0, 1) := by decide +kernel
theorem dL_triangleVertex_2 : decode cL_triangleVertex 2 = .ok (.aload_n 0, 1) := by decide +kernel
theorem dL_triangleVertex_3 : decode cL_triangleVertex 3 = .ok (.iload_n 1, 1) := by decide +kernel
theorem dL_triangleVertex_4 : decode cL_triangleVertex 4 = .ok (.iload_n 2, 1) := by decide +kernel
theorem dL_triangleVertex_5 : decode cL_triangleVertex 5 = .ok (.invokevirtual 69, 3) := by decide +kernel
theorem dL_triangleVertex_13 : decode cL_triangleVertex 13 = .ok (.astore 4, 2) := by decide +kernel
theorem dL_triangleVertex_15 : decode cL_triangleVertex 15 = .ok (.iconst 1, 1) := by decide +kernel
theorem dL_triangleVertex_16 : decode cL_triangleVertex 16 = .ok (.ireturn, 1) := by decide +kernel
theorem dL_unwatched_0 : decode cL_unwatched 0 = .ok (.aload_n 1, 1) := by decide +kernel
theorem dL_unwatched_1 : decode cL_unwatched 1 = .ok (.iconst 0, 1) := by decide +kernel
theorem dL_unwatched_2 : decode cL_unwatched 2 = .ok (.aload_n 0, 1) := by decide +kernel
theorem dL_unwatched_3 : decode cL_unwatched 3 = .ok (.invokevirtual 111, 3) := by decide +kernel
theorem dL_unwatched_10 : decode cL_unwatched 10 = .ok (.astore_n 2, 1) := by decide +kernel
theorem dL_unwatched_11 : decode cL_unwatched 11 = .ok (.iconst 1, 1) := by decide +kernel
theorem dL_unwatched_12 : decode cL_unwatched 12 = .ok (.ireturn, 1) := by decide +kernel
theorem dL_vertexGuards_0 : decode cL_vertexGuards 0 = .ok (.aload_n 1, 1) := by decide +kernel
theorem dL_vertexGuards_1 : decode cL_vertexGuards 1 = .ok (.iconst 0, 1) := by decide +kernel
theorem dL_vertexGuards_2 : decode cL_vertexGuards 2 = .ok (.aload_n 0, 1) := by decide +kernel
theorem dL_vertexGuards_3 : decode cL_vertexGuards 3 = .ok (.invokevirtual 81, 3) := by decide +kernel
theorem dL_vertexGuards_11 : decode cL_vertexGuards 11 = .ok (.astore_n 2, 1) := by decide +kernel
theorem dL_vertexGuards_12 : decode cL_vertexGuards 12 = .ok (.iconst 1, 1) := by decide +kernel
theorem dL_vertexGuards_13 : decode cL_vertexGuards 13 = .ok (.ireturn, 1) := by decide +kernel
theorem dL_vertexX_0 : decode cL_vertexX 0 = .ok (.aload_n 2, 1) := by decide +kernel
theorem dL_vertexX_1 : decode cL_vertexX 1 = .ok (.iconst 0, 1) := by decide +kernel
theorem dL_vertexX_2 : decode cL_vertexX 2 = .ok (.aload_n 0, 1) := by decide +kernel
theorem dL_vertexX_3 : decode cL_vertexX 3 = .ok (.iload_n 1, 1) := by decide +kernel
theorem dL_vertexX_4 : decode cL_vertexX 4 = .ok (.invokevirtual 17, 3) := by decide +kernel
theorem dL_vertexX_12 : decode cL_vertexX 12 = .ok (.astore_n 3, 1) := by decide +kernel
theorem dL_vertexX_13 : decode cL_vertexX 13 = .ok (.iconst 1, 1) := by decide +kernel
theorem dL_vertexX_14 : decode cL_vertexX 14 = .ok (.ireturn, 1) := by decide +kernel
theorem dL_vertexY_0 : decode cL_vertexY 0 = .ok (.aload_n 2, 1) := by decide +kernel
theorem dL_vertexY_1 : decode cL_vertexY 1 = .ok (.iconst 0, 1) := by decide +kernel
theorem dL_vertexY_2 : decode cL_vertexY 2 = .ok (.aload_n 0, 1) := by decide +kernel
theorem dL_vertexY_3 : decode cL_vertexY 3 = .ok (.iload_n 1, 1) := by decide +kernel
theorem dL_vertexY_4 : decode cL_vertexY 4 = .ok (.invokevirtual 22, 3) := by decide +kernel
theorem dL_vertexY_12 : decode cL_vertexY 12 = .ok (.astore_n 3, 1) := by decide +kernel
theorem dL_vertexY_13 : decode cL_vertexY 13 = .ok (.iconst 1, 1) := by decide +kernel
theorem dL_vertexY_14 : decode cL_vertexY 14 = .ok (.ireturn, 1) := by decide +kernel
theorem dL_visible_0 : decode cL_visible 0 = .ok (.aload_n 2, 1) := by decide +kernel
theorem dL_visible_1 : decode cL_visible 1 = .ok (.iconst 0, 1) := by decide +kernel
theorem dL_visible_2 : decode cL_visible 2 = .ok (.aload_n 0, 1) := by decide +kernel
theorem dL_visible_3 : decode cL_visible 3 = .ok (.iload_n 1, 1) := by decide +kernel
theorem dL_visible_4 : decode cL_visible 4 = .ok (.invokevirtual 50, 3) := by decide +kernel
theorem dL_visible_11 : decode cL_visible 11 = .ok (.astore_n 3, 1) := by decide +kernel
theorem dL_visible_12 : decode cL_visible 12 = .ok (.iconst 1, 1) := by decide +kernel
theorem dL_visible_13 : decode cL_visible 13 = .ok (.ireturn, 1) := by decide +kernel
theorem dL_watched_0 : decode cL_watched 0 = .ok (.aload_n 2, 1) := by decide +kernel
theorem dL_watched_1 : decode cL_watched 1 = .ok (.iconst 0, 1) := by decide +kernel
theorem dL_watched_2 : decode cL_watched 2 = .ok (.aload_n 0, 1) := by decide +kernel
theorem dL_watched_3 : decode cL_watched 3 = .ok (.iload_n 1, 1) := by decide +kernel
theorem dL_watched_4 : decode cL_watched 4 = .ok (.invokevirtual 108, 3) := by decide +kernel
theorem dL_watched_11 : decode cL_watched 11 = .ok (.astore_n 3, 1) := by decide +kernel
theorem dL_watched_12 : decode cL_watched 12 = .ok (.iconst 1, 1) := by decide +kernel
theorem dL_watched_13 : decode cL_watched 13 = .ok (.ireturn, 1) := by decide +kernel
theorem dL_watchedValue_0 : decode cL_watchedValue 0 = .ok (.aload_n 1, 1) := by decide +kernel
theorem dL_watchedValue_1 : decode cL_watchedValue 1 = .ok (.iconst 0, 1) := by decide +kernel
theorem dL_watchedValue_2 : decode cL_watchedValue 2 = .ok (.aload_n 0, 1) := by decide +kernel
theorem dL_watchedValue_3 : decode cL_watchedValue 3 = .ok (.invokevirtual 129, 3) := by decide +kernel
theorem dL_watchedValue_11 : decode cL_watchedValue 11 = .ok (.astore_n 2, 1) := by decide +kernel
theorem dL_watchedValue_12 : decode cL_watchedValue 12 = .ok (.iconst 1, 1) := by decide +kernel
theorem dL_watchedValue_13 : decode cL_watchedValue 13 = .ok (.ireturn, 1) := by decide +kernel
theorem dL_watchers_0 : decode cL_watchers 0 = .ok (.aload_n 2, 1) := by decide +kernel
theorem dL_watchers_1 : decode cL_watchers 1 = .ok (.iconst 0, 1) := by decide +kernel
theorem dL_watchers_2 : decode cL_watchers 2 = .ok (.aload_n 0, 1) := by decide +kernel
theorem dL_watchers_3 : decode cL_watchers 3 = .ok (.iload_n 1, 1) := by decide +kernel
theorem dL_watchers_4 : decode cL_watchers 4 = .ok (.invokevirtual 114, 3) := by decide +kernel
theorem dL_watchers_12 : decode cL_watchers 12 = .ok (.astore_n 3, 1) := by decide +kernel
theorem dL_watchers_13 : decode cL_watchers 13 = .ok (.iconst 1, 1) := by decide +kernel
theorem dL_watchers_14 : decode cL_watchers 14 = .ok (.ireturn, 1) := by decide +kernel
theorem dL_witness_0 : decode cL_witness 0 = .ok (.aload_n 2, 1) := by decide +kernel
theorem dL_witness_1 : decode cL_witness 1 = .ok (.iconst 0, 1) := by decide +kernel
theorem dL_witness_2 : decode cL_witness 2 = .ok (.aload_n 0, 1) := by decide +kernel
theorem dL_witness_3 : decode cL_witness 3 = .ok (.iload_n 1, 1) := by decide +kernel
theorem dL_witness_4 : decode cL_witness 4 = .ok (.invokevirtual 96, 3) := by decide +kernel
theorem dL_witness_12 : decode cL_witness 12 = .ok (.astore_n 3, 1) := by decide +kernel
theorem dL_witness_13 : decode cL_witness 13 = .ok (.iconst 1, 1) := by decide +kernel
theorem dL_witness_14 : decode cL_witness 14 = .ok (.ireturn, 1) := by decide +kernel
theorem dL_witnessNumber_0 : decode cL_witnessNumber 0 = .ok (.aload_n 1, 1) := by decide +kernel
theorem dL_witnessNumber_1 : decode cL_witnessNumber 1 = .ok (.iconst 0, 1) := by decide +kernel
theorem dL_witnessNumber_2 : decode cL_witnessNumber 2 = .ok (.aload_n 0, 1) := by decide +kernel
theorem dL_witnessNumber_3 : decode cL_witnessNumber 3 = .ok (.invokevirtual 93, 3) := by decide +kernel
theorem dL_witnessNumber_11 : decode cL_witnessNumber 11 = .ok (.astore_n 2, 1) := by decide +kernel
theorem dL_witnessNumber_12 : decode cL_witnessNumber 12 = .ok (.iconst 1, 1) := by decide +kernel
theorem dL_witnessNumber_13 : decode cL_witnessNumber 13 = .ok (.ireturn, 1) := by decide +kernel
theorem dX11_addGuard_0 : decode cX11_addGuard 0 = .ok (.aload_n 0, 1) := by decide +kernel
theorem dX11_addGuard_1 : decode cX11_addGuard 1 = .ok (.invokevirtual 155, 3) := by decide +kernel
theorem dX11_bestPoint_0 : decode cX11_bestPoint 0 = .ok (.aload_n 0, 1) := by decide +kernel
theorem dX11_bestPoint_1 : decode cX11_bestPoint 1 = .ok (.invokevirtual 155, 3) := by decide +kernel
theorem dX11_bestValue_0 : decode cX11_bestValue 0 = .ok (.aload_n 0, 1) := by decide +kernel
theorem dX11_bestValue_1 : decode cX11_bestValue 1 = .ok (.invokevirtual 155, 3) := by decide +kernel
theorem dX11_boundary_0 : decode cX11_boundary 0 = .ok (.aload_n 0, 1) := by decide +kernel
theorem dX11_boundary_1 : decode cX11_boundary 1 = .ok (.invokevirtual 155, 3) := by decide +kernel
theorem dX11_colour_0 : decode cX11_colour 0 = .ok (.aload_n 0, 1) := by decide +kernel
theorem dX11_colour_1 : decode cX11_colour 1 = .ok (.invokevirtual 155, 3) := by decide +kernel
theorem dX11_colourGuards_0 : decode cX11_colourGuards 0 = .ok (.aload_n 0, 1) := by decide +kernel
theorem dX11_colourGuards_1 : decode cX11_colourGuards 1 = .ok (.invokevirtual 155, 3) := by decide +kernel
theorem dX11_deleteVertex_0 : decode cX11_deleteVertex 0 = .ok (.aload_n 0, 1) := by decide +kernel
theorem dX11_deleteVertex_1 : decode cX11_deleteVertex 1 = .ok (.invokevirtual 155, 3) := by decide +kernel
theorem dX11_diameter_0 : decode cX11_diameter 0 = .ok (.aload_n 0, 1) := by decide +kernel
theorem dX11_diameter_1 : decode cX11_diameter 1 = .ok (.invokevirtual 155, 3) := by decide +kernel
theorem dX11_doubleArea_0 : decode cX11_doubleArea 0 = .ok (.aload_n 0, 1) := by decide +kernel
theorem dX11_doubleArea_1 : decode cX11_doubleArea 1 = .ok (.invokevirtual 155, 3) := by decide +kernel
theorem dX11_draw_0 : decode cX11_draw 0 = .ok (.aload_n 0, 1) := by decide +kernel
theorem dX11_draw_1 : decode cX11_draw 1 = .ok (.invokevirtual 155, 3) := by decide +kernel
theorem dX11_edgeGuards_0 : decode cX11_edgeGuards 0 = .ok (.aload_n 0, 1) := by decide +kernel
theorem dX11_edgeGuards_1 : decode cX11_edgeGuards 1 = .ok (.invokevirtual 155, 3) := by decide +kernel
theorem dX11_farthest_0 : decode cX11_farthest 0 = .ok (.aload_n 0, 1) := by decide +kernel
theorem dX11_farthest_1 : decode cX11_farthest 1 = .ok (.invokevirtual 155, 3) := by decide +kernel
theorem dX11_greedyGuards_0 : decode cX11_greedyGuards 0 = .ok (.aload_n 0, 1) := by decide +kernel
theorem dX11_greedyGuards_1 : decode cX11_greedyGuards 1 = .ok (.invokevirtual 155, 3) := by decide +kernel
theorem dX11_guardAt_0 : decode cX11_guardAt 0 = .ok (.aload_n 0, 1) := by decide +kernel
theorem dX11_guardAt_1 : decode cX11_guardAt 1 = .ok (.invokevirtual 155, 3) := by decide +kernel
theorem dX11_guardNumber_0 : decode cX11_guardNumber 0 = .ok (.aload_n 0, 1) := by decide +kernel
theorem dX11_guardNumber_1 : decode cX11_guardNumber 1 = .ok (.invokevirtual 155, 3) := by decide +kernel
theorem dX11_guardPoint_0 : decode cX11_guardPoint 0 = .ok (.aload_n 0, 1) := by decide +kernel
theorem dX11_guardPoint_1 : decode cX11_guardPoint 1 = .ok (.invokevirtual 155, 3) := by decide +kernel
theorem dX11_guardRange_0 : decode cX11_guardRange 0 = .ok (.aload_n 0, 1) := by decide +kernel
theorem dX11_guardRange_1 : decode cX11_guardRange 1 = .ok (.invokevirtual 155, 3) := by decide +kernel
theorem dX11_hiddenNumber_0 : decode cX11_hiddenNumber 0 = .ok (.aload_n 0, 1) := by decide +kernel
theorem dX11_hiddenNumber_1 : decode cX11_hiddenNumber 1 = .ok (.invokevirtual 155, 3) := by decide +kernel
theorem dX11_insertVertex_0 : decode cX11_insertVertex 0 = .ok (.aload_n 0, 1) := by decide +kernel
theorem dX11_insertVertex_1 : decode cX11_insertVertex 1 = .ok (.invokevirtual 155, 3) := by decide +kernel
theorem dX11_kernel_0 : decode cX11_kernel 0 = .ok (.aload_n 0, 1) := by decide +kernel
theorem dX11_kernel_1 : decode cX11_kernel 1 = .ok (.invokevirtual 155, 3) := by decide +kernel
theorem dX11_linkDistance_0 : decode cX11_linkDistance 0 = .ok (.aload_n 0, 1) := by decide +kernel
theorem dX11_linkDistance_1 : decode cX11_linkDistance 1 = .ok (.invokevirtual 155, 3) := by decide +kernel
theorem dX11_moveGuard_0 : decode cX11_moveGuard 0 = .ok (.aload_n 0, 1) := by decide +kernel
theorem dX11_moveGuard_1 : decode cX11_moveGuard 1 = .ok (.invokevirtual 155, 3) := by decide +kernel
theorem dX11_moveVertex_0 : decode cX11_moveVertex 0 = .ok (.aload_n 0, 1) := by decide +kernel
theorem dX11_moveVertex_1 : decode cX11_moveVertex 1 = .ok (.invokevirtual 155, 3) := by decide +kernel
theorem dX11_needPolygon_0 : decode cX11_needPolygon 0 = .ok (.aload_n 0, 1) := by decide +kernel
theorem dX11_needPolygon_1 : decode cX11_needPolygon 1 = .ok (.getfield 19, 3) := by decide +kernel
theorem dX11_needPolygon_4 : decode cX11_needPolygon 4 = .ok (.getfield 152, 3) := by decide +kernel
theorem dX11_needPolygon_7 : decode cX11_needPolygon 7 = .ok (.ifCond .ne 14, 3) := by decide +kernel
theorem dX11_needPolygon_10 : decode cX11_needPolygon 10 = .ok (.new 311, 3) := by decide +kernel
theorem dX11_needPolygon_13 : decode cX11_needPolygon 13 = .ok (.dup, 1) := by decide +kernel
theorem dX11_needPolygon_14 : decode cX11_needPolygon 14 = .ok (.ldc_w 360, 3) := by decide +kernel
theorem dX11_needPolygon_17 : decode cX11_needPolygon 17 = .ok (.invokespecial 315, 3) := by decide +kernel
theorem dX11_needPolygon_20 : decode cX11_needPolygon 20 = .ok (.athrow, 1) := by decide +kernel
theorem dX11_pointAt_0 : decode cX11_pointAt 0 = .ok (.aload_n 0, 1) := by decide +kernel
theorem dX11_pointAt_1 : decode cX11_pointAt 1 = .ok (.invokevirtual 155, 3) := by decide +kernel
theorem dX11_pointX_0 : decode cX11_pointX 0 = .ok (.aload_n 0, 1) := by decide +kernel
theorem dX11_pointX_1 : decode cX11_pointX 1 = .ok (.invokevirtual 155, 3) := by decide +kernel
theorem dX11_pointY_0 : decode cX11_pointY 0 = .ok (.aload_n 0, 1) := by decide +kernel
theorem dX11_pointY_1 : decode cX11_pointY 1 = .ok (.invokevirtual 155, 3) := by decide +kernel
theorem dX11_redundantGuards_0 : decode cX11_redundantGuards 0 = .ok (.aload_n 0, 1) := by decide +kernel
theorem dX11_redundantGuards_1 : decode cX11_redundantGuards 1 = .ok (.invokevirtual 155, 3) := by decide +kernel
theorem dX11_reflexVertices_0 : decode cX11_reflexVertices 0 = .ok (.aload_n 0, 1) := by decide +kernel
theorem dX11_reflexVertices_1 : decode cX11_reflexVertices 1 = .ok (.invokevirtual 155, 3) := by decide +kernel
theorem dX11_removeGuard_0 : decode cX11_removeGuard 0 = .ok (.aload_n 0, 1) := by decide +kernel
theorem dX11_removeGuard_1 : decode cX11_removeGuard 1 = .ok (.invokevirtual 155, 3) := by decide +kernel
theorem dX11_save_0 : decode cX11_save 0 = .ok (.aload_n 0, 1) := by decide +kernel
theorem dX11_save_1 : decode cX11_save 1 = .ok (.invokevirtual 155, 3) := by decide +kernel
theorem dX11_seenFromEdge_0 : decode cX11_seenFromEdge 0 = .ok (.aload_n 0, 1) := by decide +kernel
theorem dX11_seenFromEdge_1 : decode cX11_seenFromEdge 1 = .ok (.invokevirtual 155, 3) := by decide +kernel
theorem dX11_sees_0 : decode cX11_sees 0 = .ok (.aload_n 0, 1) := by decide +kernel
theorem dX11_sees_1 : decode cX11_sees 1 = .ok (.invokevirtual 155, 3) := by decide +kernel
theorem dX11_setRange_0 : decode cX11_setRange 0 = .ok (.aload_n 0, 1) := by decide +kernel
theorem dX11_setRange_1 : decode cX11_setRange 1 = .ok (.invokevirtual 155, 3) := by decide +kernel
theorem dX11_treasureAt_0 : decode cX11_treasureAt 0 = .ok (.aload_n 0, 1) := by decide +kernel
theorem dX11_treasureAt_1 : decode cX11_treasureAt 1 = .ok (.invokevirtual 155, 3) := by decide +kernel
theorem dX11_triangleArea_0 : decode cX11_triangleArea 0 = .ok (.aload_n 0, 1) := by decide +kernel
theorem dX11_triangleArea_1 : decode cX11_triangleArea 1 = .ok (.invokevirtual 155, 3) := by decide +kernel
theorem dX11_triangleVertex_0 : decode cX11_triangleVertex 0 = .ok (.aload_n 0, 1) := by decide +kernel
theorem dX11_triangleVertex_1 : decode cX11_triangleVertex 1 = .ok (.invokevirtual 155, 3) := by decide +kernel
theorem dX11_unwatched_0 : decode cX11_unwatched 0 = .ok (.aload_n 0, 1) := by decide +kernel
theorem dX11_unwatched_1 : decode cX11_unwatched 1 = .ok (.invokevirtual 155, 3) := by decide +kernel
theorem dX11_vertexGuards_0 : decode cX11_vertexGuards 0 = .ok (.aload_n 0, 1) := by decide +kernel
theorem dX11_vertexGuards_1 : decode cX11_vertexGuards 1 = .ok (.invokevirtual 155, 3) := by decide +kernel
theorem dX11_vertexX_0 : decode cX11_vertexX 0 = .ok (.aload_n 0, 1) := by decide +kernel
theorem dX11_vertexX_1 : decode cX11_vertexX 1 = .ok (.invokevirtual 155, 3) := by decide +kernel
theorem dX11_vertexY_0 : decode cX11_vertexY 0 = .ok (.aload_n 0, 1) := by decide +kernel
theorem dX11_vertexY_1 : decode cX11_vertexY 1 = .ok (.invokevirtual 155, 3) := by decide +kernel
theorem dX11_visible_0 : decode cX11_visible 0 = .ok (.aload_n 0, 1) := by decide +kernel
theorem dX11_visible_1 : decode cX11_visible 1 = .ok (.invokevirtual 155, 3) := by decide +kernel
theorem dX11_watched_0 : decode cX11_watched 0 = .ok (.aload_n 0, 1) := by decide +kernel
theorem dX11_watched_1 : decode cX11_watched 1 = .ok (.invokevirtual 155, 3) := by decide +kernel
theorem dX11_watchedValue_0 : decode cX11_watchedValue 0 = .ok (.aload_n 0, 1) := by decide +kernel
theorem dX11_watchedValue_1 : decode cX11_watchedValue 1 = .ok (.invokevirtual 155, 3) := by decide +kernel
theorem dX11_watchers_0 : decode cX11_watchers 0 = .ok (.aload_n 0, 1) := by decide +kernel
theorem dX11_watchers_1 : decode cX11_watchers 1 = .ok (.invokevirtual 155, 3) := by decide +kernel
theorem dX11_witness_0 : decode cX11_witness 0 = .ok (.aload_n 0, 1) := by decide +kernel
theorem dX11_witness_1 : decode cX11_witness 1 = .ok (.invokevirtual 155, 3) := by decide +kernel
theorem dX11_witnessNumber_0 : decode cX11_witnessNumber 0 = .ok (.aload_n 0, 1) := by decide +kernel
theorem dX11_witnessNumber_1 : decode cX11_witnessNumber 1 = .ok (.invokevirtual 155, 3) := by decide +kernel
end
section
theorem at_X11_315 : ∀ w ∈ vx_atS RX11 315 "java/lang/IllegalStateException" ["java/lang/RuntimeException", "java/lang/Exception"], w ∈ Big ∨ w ∈ odd := by decide +kernel
theorem tf_X11_311_360 : Tf RX11 311 360 315 "java/lang/IllegalStateException" "no polygon" ["java/lang/RuntimeException", "java/lang/Exception"] := ⟨by decide +kernel, by decide +kernel, w_31, w_32, by decide +kernel, at_X11_315⟩
end
section
set_option maxHeartbeats 4000000 in
set_option maxRecDepth 100000 in
theorem k_needPolygon (l : Launch) (hlt : l.stackTraces = false) (D : va_G) (cI cZ cJ : ClassId) (x : Nat) (inp : Nat) (par : Nat) (pla : Nat) (dra : Nat) (lat : Nat) (his : Nat) (f1 : Nat) (f2 : Nat) (hd : Int32) (ec : Int32) (ea : Int32) (g : Nat → Value) (gp : Nat → Value)  : cX l yX11_needPolygon cX11_needPolygon 1 none D (TT cI cZ cJ) [.ref x] [(x, .inr (10, xC inp par pla dra lat his f1 f2 hd ec ea g)), (pla, .inr (5, pC 0 0 0 gp))] "java/lang/IllegalStateException" [(x, .inr (10, xC inp par pla dra lat his f1 f2 hd ec ea g)), (pla, .inr (5, pC 0 0 0 gp))] 0 1 6 := by
  refine enterX (by decide) (Nat.le_of_ble_eq_true rfl) ?_
  intro p e s m below meth c ls A C htab hP hD hS hl
  have hx := C.1
  have hb := C.2.1
  have hl : lv_has ls 1 [(0, .ref x)] := hl
  refine lv_aload_n hx hb dX11_needPolygon_0 rfl (lv_at hl 0 rfl) ?_
  refine r_get (v := .ref pla) C hP 0 rfl fg_X11_19 rfl dX11_needPolygon_1 ?_
  refine r_get (v := .int 0) C hP 1 rfl fg_X11_152 rfl dX11_needPolygon_4 ?_
  refine lv_if_ne (tgt := 21) hx hb dX11_needPolygon_7 (by decide) (fun h => absurd h (by decide)) (fun _ => ?_)
  exact r_throwW C htab hlt hP hD hS tf_X11_311_360 hl.1 dX11_needPolygon_10 dX11_needPolygon_13 dX11_needPolygon_14 dX11_needPolygon_17 dX11_needPolygon_20 rfl (Nat.le_of_ble_eq_true rfl) (Nat.le_of_ble_eq_true rfl) (Nat.le_of_ble_eq_true rfl) (Nat.le_of_ble_eq_true rfl) (Nat.le_of_ble_eq_true rfl) (Nat.le_of_ble_eq_true rfl)
set_option maxHeartbeats 4000000 in
set_option maxRecDepth 100000 in
theorem k_vertexX (l : Launch) (hlt : l.stackTraces = false) (D : va_G) (cI cZ cJ : ClassId) (x : Nat) (inp : Nat) (par : Nat) (pla : Nat) (dra : Nat) (lat : Nat) (his : Nat) (f1 : Nat) (f2 : Nat) (hd : Int32) (ec : Int32) (ea : Int32) (g : Nat → Value) (gp : Nat → Value) (a0 : Int32)  : cX l yX11_vertexX cX11_vertexX 2 (some .int) D (TT cI cZ cJ) [.ref x, .int a0] [(x, .inr (10, xC inp par pla dra lat his f1 f2 hd ec ea g)), (pla, .inr (5, pC 0 0 0 gp))] "java/lang/IllegalStateException" [(x, .inr (10, xC inp par pla dra lat his f1 f2 hd ec ea g)), (pla, .inr (5, pC 0 0 0 gp))] 1 1 6 := by
  refine enterX (by decide) (Nat.le_of_ble_eq_true rfl) ?_
  intro p e s m below meth c ls A C htab hP hD hS hl
  have hx := C.1
  have hb := C.2.1
  have hl : lv_has ls 2 [(0, .ref x), (1, .int a0)] := hl
  refine lv_aload_n hx hb dX11_vertexX_0 rfl (lv_at hl 0 rfl) ?_
  refine call_X (wr := []) C (run_VX (As := []) (rest := []) C (k_needPolygon l hlt D cI cZ cJ x inp par pla dra lat his f1 f2 hd ec ea g gp ) cV_X11_155 hP hD hS [0, 1] rfl rfl 0 rfl rfl rfl rfl hl.1 rfl (Nat.le_of_ble_eq_true rfl) dX11_vertexX_1 ⟨Nat.le_of_ble_eq_true rfl, Nat.le_of_ble_eq_true rfl⟩ ⟨Nat.le_of_ble_eq_true rfl, Nat.le_of_ble_eq_true rfl⟩) hP hD hS [0, 1] [] rfl rfl rfl (by decide) (fun ce q9 H locs hce hcv hcl hP hD hS => ?_)
  have hP : va_P D CL [(x, .inr (10, xC inp par pla dra lat his f1 f2 hd ec ea g)), (pla, .inr (5, pC 0 0 0 gp))] H := hP
  have hD : va_D A [(x, .inr (10, xC inp par pla dra lat his f1 f2 hd ec ea g)), (pla, .inr (5, pC 0 0 0 gp))] := hD
  refine vx_widen (k := 1) (n := 6) (Nat.le_of_ble_eq_true rfl) (Nat.le_of_ble_eq_true rfl) ?_
  exact r_out C htab hce hcv hcl hP hD hS rfl (Nat.le_of_ble_eq_true rfl) (Nat.le_of_ble_eq_true rfl)
set_option maxHeartbeats 4000000 in
set_option maxRecDepth 100000 in
theorem k_vertexY (l : Launch) (hlt : l.stackTraces = false) (D : va_G) (cI cZ cJ : ClassId) (x : Nat) (inp : Nat) (par : Nat) (pla : Nat) (dra : Nat) (lat : Nat) (his : Nat) (f1 : Nat) (f2 : Nat) (hd : Int32) (ec : Int32) (ea : Int32) (g : Nat → Value) (gp : Nat → Value) (a0 : Int32)  : cX l yX11_vertexY cX11_vertexY 2 (some .int) D (TT cI cZ cJ) [.ref x, .int a0] [(x, .inr (10, xC inp par pla dra lat his f1 f2 hd ec ea g)), (pla, .inr (5, pC 0 0 0 gp))] "java/lang/IllegalStateException" [(x, .inr (10, xC inp par pla dra lat his f1 f2 hd ec ea g)), (pla, .inr (5, pC 0 0 0 gp))] 1 1 6 := by
  refine enterX (by decide) (Nat.le_of_ble_eq_true rfl) ?_
  intro p e s m below meth c ls A C htab hP hD hS hl
  have hx := C.1
  have hb := C.2.1
  have hl : lv_has ls 2 [(0, .ref x), (1, .int a0)] := hl
  refine lv_aload_n hx hb dX11_vertexY_0 rfl (lv_at hl 0 rfl) ?_
  refine call_X (wr := []) C (run_VX (As := []) (rest := []) C (k_needPolygon l hlt D cI cZ cJ x inp par pla dra lat his f1 f2 hd ec ea g gp ) cV_X11_155 hP hD hS [0, 1] rfl rfl 0 rfl rfl rfl rfl hl.1 rfl (Nat.le_of_ble_eq_true rfl) dX11_vertexY_1 ⟨Nat.le_of_ble_eq_true rfl, Nat.le_of_ble_eq_true rfl⟩ ⟨Nat.le_of_ble_eq_true rfl, Nat.le_of_ble_eq_true rfl⟩) hP hD hS [0, 1] [] rfl rfl rfl (by decide) (fun ce q9 H locs hce hcv hcl hP hD hS => ?_)
  have hP : va_P D CL [(x, .inr (10, xC inp par pla dra lat his f1 f2 hd ec ea g)), (pla, .inr (5, pC 0 0 0 gp))] H := hP
  have hD : va_D A [(x, .inr (10, xC inp par pla dra lat his f1 f2 hd ec ea g)), (pla, .inr (5, pC 0 0 0 gp))] := hD
  refine vx_widen (k := 1) (n := 6) (Nat.le_of_ble_eq_true rfl) (Nat.le_of_ble_eq_true rfl) ?_
  exact r_out C htab hce hcv hcl hP hD hS rfl (Nat.le_of_ble_eq_true rfl) (Nat.le_of_ble_eq_true rfl)
set_option maxHeartbeats 4000000 in
set_option maxRecDepth 100000 in
theorem k_doubleArea (l : Launch) (hlt : l.stackTraces = false) (D : va_G) (cI cZ cJ : ClassId) (x : Nat) (inp : Nat) (par : Nat) (pla : Nat) (dra : Nat) (lat : Nat) (his : Nat) (f1 : Nat) (f2 : Nat) (hd : Int32) (ec : Int32) (ea : Int32) (g : Nat → Value) (gp : Nat → Value)  : cX l yX11_doubleArea cX11_doubleArea 1 (some .int) D (TT cI cZ cJ) [.ref x] [(x, .inr (10, xC inp par pla dra lat his f1 f2 hd ec ea g)), (pla, .inr (5, pC 0 0 0 gp))] "java/lang/IllegalStateException" [(x, .inr (10, xC inp par pla dra lat his f1 f2 hd ec ea g)), (pla, .inr (5, pC 0 0 0 gp))] 1 1 6 := by
  refine enterX (by decide) (Nat.le_of_ble_eq_true rfl) ?_
  intro p e s m below meth c ls A C htab hP hD hS hl
  have hx := C.1
  have hb := C.2.1
  have hl : lv_has ls 1 [(0, .ref x)] := hl
  refine lv_aload_n hx hb dX11_doubleArea_0 rfl (lv_at hl 0 rfl) ?_
  refine call_X (wr := []) C (run_VX (As := []) (rest := []) C (k_needPolygon l hlt D cI cZ cJ x inp par pla dra lat his f1 f2 hd ec ea g gp ) cV_X11_155 hP hD hS [0, 1] rfl rfl 0 rfl rfl rfl rfl hl.1 rfl (Nat.le_of_ble_eq_true rfl) dX11_doubleArea_1 ⟨Nat.le_of_ble_eq_true rfl, Nat.le_of_ble_eq_true rfl⟩ ⟨Nat.le_of_ble_eq_true rfl, Nat.le_of_ble_eq_true rfl⟩) hP hD hS [0, 1] [] rfl rfl rfl (by decide) (fun ce q9 H locs hce hcv hcl hP hD hS => ?_)
  have hP : va_P D CL [(x, .inr (10, xC inp par pla dra lat his f1 f2 hd ec ea g)), (pla, .inr (5, pC 0 0 0 gp))] H := hP
  have hD : va_D A [(x, .inr (10, xC inp par pla dra lat his f1 f2 hd ec ea g)), (pla, .inr (5, pC 0 0 0 gp))] := hD
  refine vx_widen (k := 1) (n := 6) (Nat.le_of_ble_eq_true rfl) (Nat.le_of_ble_eq_true rfl) ?_
  exact r_out C htab hce hcv hcl hP hD hS rfl (Nat.le_of_ble_eq_true rfl) (Nat.le_of_ble_eq_true rfl)
set_option maxHeartbeats 4000000 in
set_option maxRecDepth 100000 in
theorem k_reflexVertices (l : Launch) (hlt : l.stackTraces = false) (D : va_G) (cI cZ cJ : ClassId) (x : Nat) (inp : Nat) (par : Nat) (pla : Nat) (dra : Nat) (lat : Nat) (his : Nat) (f1 : Nat) (f2 : Nat) (hd : Int32) (ec : Int32) (ea : Int32) (g : Nat → Value) (gp : Nat → Value)  : cX l yX11_reflexVertices cX11_reflexVertices 1 (some .int) D (TT cI cZ cJ) [.ref x] [(x, .inr (10, xC inp par pla dra lat his f1 f2 hd ec ea g)), (pla, .inr (5, pC 0 0 0 gp))] "java/lang/IllegalStateException" [(x, .inr (10, xC inp par pla dra lat his f1 f2 hd ec ea g)), (pla, .inr (5, pC 0 0 0 gp))] 1 1 6 := by
  refine enterX (by decide) (Nat.le_of_ble_eq_true rfl) ?_
  intro p e s m below meth c ls A C htab hP hD hS hl
  have hx := C.1
  have hb := C.2.1
  have hl : lv_has ls 1 [(0, .ref x)] := hl
  refine lv_aload_n hx hb dX11_reflexVertices_0 rfl (lv_at hl 0 rfl) ?_
  refine call_X (wr := []) C (run_VX (As := []) (rest := []) C (k_needPolygon l hlt D cI cZ cJ x inp par pla dra lat his f1 f2 hd ec ea g gp ) cV_X11_155 hP hD hS [0, 1] rfl rfl 0 rfl rfl rfl rfl hl.1 rfl (Nat.le_of_ble_eq_true rfl) dX11_reflexVertices_1 ⟨Nat.le_of_ble_eq_true rfl, Nat.le_of_ble_eq_true rfl⟩ ⟨Nat.le_of_ble_eq_true rfl, Nat.le_of_ble_eq_true rfl⟩) hP hD hS [0, 1] [] rfl rfl rfl (by decide) (fun ce q9 H locs hce hcv hcl hP hD hS => ?_)
  have hP : va_P D CL [(x, .inr (10, xC inp par pla dra lat his f1 f2 hd ec ea g)), (pla, .inr (5, pC 0 0 0 gp))] H := hP
  have hD : va_D A [(x, .inr (10, xC inp par pla dra lat his f1 f2 hd ec ea g)), (pla, .inr (5, pC 0 0 0 gp))] := hD
  refine vx_widen (k := 1) (n := 6) (Nat.le_of_ble_eq_true rfl) (Nat.le_of_ble_eq_true rfl) ?_
  exact r_out C htab hce hcv hcl hP hD hS rfl (Nat.le_of_ble_eq_true rfl) (Nat.le_of_ble_eq_true rfl)
set_option maxHeartbeats 4000000 in
set_option maxRecDepth 100000 in
theorem k_pointX (l : Launch) (hlt : l.stackTraces = false) (D : va_G) (cI cZ cJ : ClassId) (x : Nat) (inp : Nat) (par : Nat) (pla : Nat) (dra : Nat) (lat : Nat) (his : Nat) (f1 : Nat) (f2 : Nat) (hd : Int32) (ec : Int32) (ea : Int32) (g : Nat → Value) (gp : Nat → Value) (a0 : Int32)  : cX l yX11_pointX cX11_pointX 2 (some .int) D (TT cI cZ cJ) [.ref x, .int a0] [(x, .inr (10, xC inp par pla dra lat his f1 f2 hd ec ea g)), (pla, .inr (5, pC 0 0 0 gp))] "java/lang/IllegalStateException" [(x, .inr (10, xC inp par pla dra lat his f1 f2 hd ec ea g)), (pla, .inr (5, pC 0 0 0 gp))] 1 1 6 := by
  refine enterX (by decide) (Nat.le_of_ble_eq_true rfl) ?_
  intro p e s m below meth c ls A C htab hP hD hS hl
  have hx := C.1
  have hb := C.2.1
  have hl : lv_has ls 2 [(0, .ref x), (1, .int a0)] := hl
  refine lv_aload_n hx hb dX11_pointX_0 rfl (lv_at hl 0 rfl) ?_
  refine call_X (wr := []) C (run_VX (As := []) (rest := []) C (k_needPolygon l hlt D cI cZ cJ x inp par pla dra lat his f1 f2 hd ec ea g gp ) cV_X11_155 hP hD hS [0, 1] rfl rfl 0 rfl rfl rfl rfl hl.1 rfl (Nat.le_of_ble_eq_true rfl) dX11_pointX_1 ⟨Nat.le_of_ble_eq_true rfl, Nat.le_of_ble_eq_true rfl⟩ ⟨Nat.le_of_ble_eq_true rfl, Nat.le_of_ble_eq_true rfl⟩) hP hD hS [0, 1] [] rfl rfl rfl (by decide) (fun ce q9 H locs hce hcv hcl hP hD hS => ?_)
  have hP : va_P D CL [(x, .inr (10, xC inp par pla dra lat his f1 f2 hd ec ea g)), (pla, .inr (5, pC 0 0 0 gp))] H := hP
  have hD : va_D A [(x, .inr (10, xC inp par pla dra lat his f1 f2 hd ec ea g)), (pla, .inr (5, pC 0 0 0 gp))] := hD
  refine vx_widen (k := 1) (n := 6) (Nat.le_of_ble_eq_true rfl) (Nat.le_of_ble_eq_true rfl) ?_
  exact r_out C htab hce hcv hcl hP hD hS rfl (Nat.le_of_ble_eq_true rfl) (Nat.le_of_ble_eq_true rfl)
set_option maxHeartbeats 4000000 in
set_option maxRecDepth 100000 in
theorem k_pointY (l : Launch) (hlt : l.stackTraces = false) (D : va_G) (cI cZ cJ : ClassId) (x : Nat) (inp : Nat) (par : Nat) (pla : Nat) (dra : Nat) (lat : Nat) (his : Nat) (f1 : Nat) (f2 : Nat) (hd : Int32) (ec : Int32) (ea : Int32) (g : Nat → Value) (gp : Nat → Value) (a0 : Int32)  : cX l yX11_pointY cX11_pointY 2 (some .int) D (TT cI cZ cJ) [.ref x, .int a0] [(x, .inr (10, xC inp par pla dra lat his f1 f2 hd ec ea g)), (pla, .inr (5, pC 0 0 0 gp))] "java/lang/IllegalStateException" [(x, .inr (10, xC inp par pla dra lat his f1 f2 hd ec ea g)), (pla, .inr (5, pC 0 0 0 gp))] 1 1 6 := by
  refine enterX (by decide) (Nat.le_of_ble_eq_true rfl) ?_
  intro p e s m below meth c ls A C htab hP hD hS hl
  have hx := C.1
  have hb := C.2.1
  have hl : lv_has ls 2 [(0, .ref x), (1, .int a0)] := hl
  refine lv_aload_n hx hb dX11_pointY_0 rfl (lv_at hl 0 rfl) ?_
  refine call_X (wr := []) C (run_VX (As := []) (rest := []) C (k_needPolygon l hlt D cI cZ cJ x inp par pla dra lat his f1 f2 hd ec ea g gp ) cV_X11_155 hP hD hS [0, 1] rfl rfl 0 rfl rfl rfl rfl hl.1 rfl (Nat.le_of_ble_eq_true rfl) dX11_pointY_1 ⟨Nat.le_of_ble_eq_true rfl, Nat.le_of_ble_eq_true rfl⟩ ⟨Nat.le_of_ble_eq_true rfl, Nat.le_of_ble_eq_true rfl⟩) hP hD hS [0, 1] [] rfl rfl rfl (by decide) (fun ce q9 H locs hce hcv hcl hP hD hS => ?_)
  have hP : va_P D CL [(x, .inr (10, xC inp par pla dra lat his f1 f2 hd ec ea g)), (pla, .inr (5, pC 0 0 0 gp))] H := hP
  have hD : va_D A [(x, .inr (10, xC inp par pla dra lat his f1 f2 hd ec ea g)), (pla, .inr (5, pC 0 0 0 gp))] := hD
  refine vx_widen (k := 1) (n := 6) (Nat.le_of_ble_eq_true rfl) (Nat.le_of_ble_eq_true rfl) ?_
  exact r_out C htab hce hcv hcl hP hD hS rfl (Nat.le_of_ble_eq_true rfl) (Nat.le_of_ble_eq_true rfl)
set_option maxHeartbeats 4000000 in
set_option maxRecDepth 100000 in
theorem k_pointAt (l : Launch) (hlt : l.stackTraces = false) (D : va_G) (cI cZ cJ : ClassId) (x : Nat) (inp : Nat) (par : Nat) (pla : Nat) (dra : Nat) (lat : Nat) (his : Nat) (f1 : Nat) (f2 : Nat) (hd : Int32) (ec : Int32) (ea : Int32) (g : Nat → Value) (gp : Nat → Value) (a0 : Int32) (a1 : Int32)  : cX l yX11_pointAt cX11_pointAt 3 (some .int) D (TT cI cZ cJ) [.ref x, .int a0, .int a1] [(x, .inr (10, xC inp par pla dra lat his f1 f2 hd ec ea g)), (pla, .inr (5, pC 0 0 0 gp))] "java/lang/IllegalStateException" [(x, .inr (10, xC inp par pla dra lat his f1 f2 hd ec ea g)), (pla, .inr (5, pC 0 0 0 gp))] 1 1 6 := by
  refine enterX (by decide) (Nat.le_of_ble_eq_true rfl) ?_
  intro p e s m below meth c ls A C htab hP hD hS hl
  have hx := C.1
  have hb := C.2.1
  have hl : lv_has ls 3 [(0, .ref x), (1, .int a0), (2, .int a1)] := hl
  refine lv_aload_n hx hb dX11_pointAt_0 rfl (lv_at hl 0 rfl) ?_
  refine call_X (wr := []) C (run_VX (As := []) (rest := []) C (k_needPolygon l hlt D cI cZ cJ x inp par pla dra lat his f1 f2 hd ec ea g gp ) cV_X11_155 hP hD hS [0, 1] rfl rfl 0 rfl rfl rfl rfl hl.1 rfl (Nat.le_of_ble_eq_true rfl) dX11_pointAt_1 ⟨Nat.le_of_ble_eq_true rfl, Nat.le_of_ble_eq_true rfl⟩ ⟨Nat.le_of_ble_eq_true rfl, Nat.le_of_ble_eq_true rfl⟩) hP hD hS [0, 1] [] rfl rfl rfl (by decide) (fun ce q9 H locs hce hcv hcl hP hD hS => ?_)
  have hP : va_P D CL [(x, .inr (10, xC inp par pla dra lat his f1 f2 hd ec ea g)), (pla, .inr (5, pC 0 0 0 gp))] H := hP
  have hD : va_D A [(x, .inr (10, xC inp par pla dra lat his f1 f2 hd ec ea g)), (pla, .inr (5, pC 0 0 0 gp))] := hD
  refine vx_widen (k := 1) (n := 6) (Nat.le_of_ble_eq_true rfl) (Nat.le_of_ble_eq_true rfl) ?_
  exact r_out C htab hce hcv hcl hP hD hS rfl (Nat.le_of_ble_eq_true rfl) (Nat.le_of_ble_eq_true rfl)
set_option maxHeartbeats 4000000 in
set_option maxRecDepth 100000 in
theorem k_boundary (l : Launch) (hlt : l.stackTraces = false) (D : va_G) (cI cZ cJ : ClassId) (x : Nat) (inp : Nat) (par : Nat) (pla : Nat) (dra : Nat) (lat : Nat) (his : Nat) (f1 : Nat) (f2 : Nat) (hd : Int32) (ec : Int32) (ea : Int32) (g : Nat → Value) (gp : Nat → Value)  : cX l yX11_boundary cX11_boundary 1 (some .long) D (TT cI cZ cJ) [.ref x] [(x, .inr (10, xC inp par pla dra lat his f1 f2 hd ec ea g)), (pla, .inr (5, pC 0 0 0 gp))] "java/lang/IllegalStateException" [(x, .inr (10, xC inp par pla dra lat his f1 f2 hd ec ea g)), (pla, .inr (5, pC 0 0 0 gp))] 1 1 6 := by
  refine enterX (by decide) (Nat.le_of_ble_eq_true rfl) ?_
  intro p e s m below meth c ls A C htab hP hD hS hl
  have hx := C.1
  have hb := C.2.1
  have hl : lv_has ls 1 [(0, .ref x)] := hl
  refine lv_aload_n hx hb dX11_boundary_0 rfl (lv_at hl 0 rfl) ?_
  refine call_X (wr := []) C (run_VX (As := []) (rest := []) C (k_needPolygon l hlt D cI cZ cJ x inp par pla dra lat his f1 f2 hd ec ea g gp ) cV_X11_155 hP hD hS [0, 1] rfl rfl 0 rfl rfl rfl rfl hl.1 rfl (Nat.le_of_ble_eq_true rfl) dX11_boundary_1 ⟨Nat.le_of_ble_eq_true rfl, Nat.le_of_ble_eq_true rfl⟩ ⟨Nat.le_of_ble_eq_true rfl, Nat.le_of_ble_eq_true rfl⟩) hP hD hS [0, 1] [] rfl rfl rfl (by decide) (fun ce q9 H locs hce hcv hcl hP hD hS => ?_)
  have hP : va_P D CL [(x, .inr (10, xC inp par pla dra lat his f1 f2 hd ec ea g)), (pla, .inr (5, pC 0 0 0 gp))] H := hP
  have hD : va_D A [(x, .inr (10, xC inp par pla dra lat his f1 f2 hd ec ea g)), (pla, .inr (5, pC 0 0 0 gp))] := hD
  refine vx_widen (k := 1) (n := 6) (Nat.le_of_ble_eq_true rfl) (Nat.le_of_ble_eq_true rfl) ?_
  exact r_out C htab hce hcv hcl hP hD hS rfl (Nat.le_of_ble_eq_true rfl) (Nat.le_of_ble_eq_true rfl)
set_option maxHeartbeats 4000000 in
set_option maxRecDepth 100000 in
theorem k_sees (l : Launch) (hlt : l.stackTraces = false) (D : va_G) (cI cZ cJ : ClassId) (x : Nat) (inp : Nat) (par : Nat) (pla : Nat) (dra : Nat) (lat : Nat) (his : Nat) (f1 : Nat) (f2 : Nat) (hd : Int32) (ec : Int32) (ea : Int32) (g : Nat → Value) (gp : Nat → Value) (a0 : Int32) (a1 : Int32)  : cX l yX11_sees cX11_sees 3 (some .boolean) D (TT cI cZ cJ) [.ref x, .int a0, .int a1] [(x, .inr (10, xC inp par pla dra lat his f1 f2 hd ec ea g)), (pla, .inr (5, pC 0 0 0 gp))] "java/lang/IllegalStateException" [(x, .inr (10, xC inp par pla dra lat his f1 f2 hd ec ea g)), (pla, .inr (5, pC 0 0 0 gp))] 1 1 6 := by
  refine enterX (by decide) (Nat.le_of_ble_eq_true rfl) ?_
  intro p e s m below meth c ls A C htab hP hD hS hl
  have hx := C.1
  have hb := C.2.1
  have hl : lv_has ls 3 [(0, .ref x), (1, .int a0), (2, .int a1)] := hl
  refine lv_aload_n hx hb dX11_sees_0 rfl (lv_at hl 0 rfl) ?_
  refine call_X (wr := []) C (run_VX (As := []) (rest := []) C (k_needPolygon l hlt D cI cZ cJ x inp par pla dra lat his f1 f2 hd ec ea g gp ) cV_X11_155 hP hD hS [0, 1] rfl rfl 0 rfl rfl rfl rfl hl.1 rfl (Nat.le_of_ble_eq_true rfl) dX11_sees_1 ⟨Nat.le_of_ble_eq_true rfl, Nat.le_of_ble_eq_true rfl⟩ ⟨Nat.le_of_ble_eq_true rfl, Nat.le_of_ble_eq_true rfl⟩) hP hD hS [0, 1] [] rfl rfl rfl (by decide) (fun ce q9 H locs hce hcv hcl hP hD hS => ?_)
  have hP : va_P D CL [(x, .inr (10, xC inp par pla dra lat his f1 f2 hd ec ea g)), (pla, .inr (5, pC 0 0 0 gp))] H := hP
  have hD : va_D A [(x, .inr (10, xC inp par pla dra lat his f1 f2 hd ec ea g)), (pla, .inr (5, pC 0 0 0 gp))] := hD
  refine vx_widen (k := 1) (n := 6) (Nat.le_of_ble_eq_true rfl) (Nat.le_of_ble_eq_true rfl) ?_
  exact r_out C htab hce hcv hcl hP hD hS rfl (Nat.le_of_ble_eq_true rfl) (Nat.le_of_ble_eq_true rfl)
set_option maxHeartbeats 4000000 in
set_option maxRecDepth 100000 in
theorem k_visible (l : Launch) (hlt : l.stackTraces = false) (D : va_G) (cI cZ cJ : ClassId) (x : Nat) (inp : Nat) (par : Nat) (pla : Nat) (dra : Nat) (lat : Nat) (his : Nat) (f1 : Nat) (f2 : Nat) (hd : Int32) (ec : Int32) (ea : Int32) (g : Nat → Value) (gp : Nat → Value) (a0 : Int32)  : cX l yX11_visible cX11_visible 2 (some .long) D (TT cI cZ cJ) [.ref x, .int a0] [(x, .inr (10, xC inp par pla dra lat his f1 f2 hd ec ea g)), (pla, .inr (5, pC 0 0 0 gp))] "java/lang/IllegalStateException" [(x, .inr (10, xC inp par pla dra lat his f1 f2 hd ec ea g)), (pla, .inr (5, pC 0 0 0 gp))] 1 1 6 := by
  refine enterX (by decide) (Nat.le_of_ble_eq_true rfl) ?_
  intro p e s m below meth c ls A C htab hP hD hS hl
  have hx := C.1
  have hb := C.2.1
  have hl : lv_has ls 2 [(0, .ref x), (1, .int a0)] := hl
  refine lv_aload_n hx hb dX11_visible_0 rfl (lv_at hl 0 rfl) ?_
  refine call_X (wr := []) C (run_VX (As := []) (rest := []) C (k_needPolygon l hlt D cI cZ cJ x inp par pla dra lat his f1 f2 hd ec ea g gp ) cV_X11_155 hP hD hS [0, 1] rfl rfl 0 rfl rfl rfl rfl hl.1 rfl (Nat.le_of_ble_eq_true rfl) dX11_visible_1 ⟨Nat.le_of_ble_eq_true rfl, Nat.le_of_ble_eq_true rfl⟩ ⟨Nat.le_of_ble_eq_true rfl, Nat.le_of_ble_eq_true rfl⟩) hP hD hS [0, 1] [] rfl rfl rfl (by decide) (fun ce q9 H locs hce hcv hcl hP hD hS => ?_)
  have hP : va_P D CL [(x, .inr (10, xC inp par pla dra lat his f1 f2 hd ec ea g)), (pla, .inr (5, pC 0 0 0 gp))] H := hP
  have hD : va_D A [(x, .inr (10, xC inp par pla dra lat his f1 f2 hd ec ea g)), (pla, .inr (5, pC 0 0 0 gp))] := hD
  refine vx_widen (k := 1) (n := 6) (Nat.le_of_ble_eq_true rfl) (Nat.le_of_ble_eq_true rfl) ?_
  exact r_out C htab hce hcv hcl hP hD hS rfl (Nat.le_of_ble_eq_true rfl) (Nat.le_of_ble_eq_true rfl)
set_option maxHeartbeats 4000000 in
set_option maxRecDepth 100000 in
theorem k_kernel (l : Launch) (hlt : l.stackTraces = false) (D : va_G) (cI cZ cJ : ClassId) (x : Nat) (inp : Nat) (par : Nat) (pla : Nat) (dra : Nat) (lat : Nat) (his : Nat) (f1 : Nat) (f2 : Nat) (hd : Int32) (ec : Int32) (ea : Int32) (g : Nat → Value) (gp : Nat → Value)  : cX l yX11_kernel cX11_kernel 1 (some .long) D (TT cI cZ cJ) [.ref x] [(x, .inr (10, xC inp par pla dra lat his f1 f2 hd ec ea g)), (pla, .inr (5, pC 0 0 0 gp))] "java/lang/IllegalStateException" [(x, .inr (10, xC inp par pla dra lat his f1 f2 hd ec ea g)), (pla, .inr (5, pC 0 0 0 gp))] 1 1 6 := by
  refine enterX (by decide) (Nat.le_of_ble_eq_true rfl) ?_
  intro p e s m below meth c ls A C htab hP hD hS hl
  have hx := C.1
  have hb := C.2.1
  have hl : lv_has ls 1 [(0, .ref x)] := hl
  refine lv_aload_n hx hb dX11_kernel_0 rfl (lv_at hl 0 rfl) ?_
  refine call_X (wr := []) C (run_VX (As := []) (rest := []) C (k_needPolygon l hlt D cI cZ cJ x inp par pla dra lat his f1 f2 hd ec ea g gp ) cV_X11_155 hP hD hS [0, 1] rfl rfl 0 rfl rfl rfl rfl hl.1 rfl (Nat.le_of_ble_eq_true rfl) dX11_kernel_1 ⟨Nat.le_of_ble_eq_true rfl, Nat.le_of_ble_eq_true rfl⟩ ⟨Nat.le_of_ble_eq_true rfl, Nat.le_of_ble_eq_true rfl⟩) hP hD hS [0, 1] [] rfl rfl rfl (by decide) (fun ce q9 H locs hce hcv hcl hP hD hS => ?_)
  have hP : va_P D CL [(x, .inr (10, xC inp par pla dra lat his f1 f2 hd ec ea g)), (pla, .inr (5, pC 0 0 0 gp))] H := hP
  have hD : va_D A [(x, .inr (10, xC inp par pla dra lat his f1 f2 hd ec ea g)), (pla, .inr (5, pC 0 0 0 gp))] := hD
  refine vx_widen (k := 1) (n := 6) (Nat.le_of_ble_eq_true rfl) (Nat.le_of_ble_eq_true rfl) ?_
  exact r_out C htab hce hcv hcl hP hD hS rfl (Nat.le_of_ble_eq_true rfl) (Nat.le_of_ble_eq_true rfl)
set_option maxHeartbeats 4000000 in
set_option maxRecDepth 100000 in
theorem k_linkDistance (l : Launch) (hlt : l.stackTraces = false) (D : va_G) (cI cZ cJ : ClassId) (x : Nat) (inp : Nat) (par : Nat) (pla : Nat) (dra : Nat) (lat : Nat) (his : Nat) (f1 : Nat) (f2 : Nat) (hd : Int32) (ec : Int32) (ea : Int32) (g : Nat → Value) (gp : Nat → Value) (a0 : Int32) (a1 : Int32)  : cX l yX11_linkDistance cX11_linkDistance 3 (some .int) D (TT cI cZ cJ) [.ref x, .int a0, .int a1] [(x, .inr (10, xC inp par pla dra lat his f1 f2 hd ec ea g)), (pla, .inr (5, pC 0 0 0 gp))] "java/lang/IllegalStateException" [(x, .inr (10, xC inp par pla dra lat his f1 f2 hd ec ea g)), (pla, .inr (5, pC 0 0 0 gp))] 1 1 6 := by
  refine enterX (by decide) (Nat.le_of_ble_eq_true rfl) ?_
  intro p e s m below meth c ls A C htab hP hD hS hl
  have hx := C.1
  have hb := C.2.1
  have hl : lv_has ls 3 [(0, .ref x), (1, .int a0), (2, .int a1)] := hl
  refine lv_aload_n hx hb dX11_linkDistance_0 rfl (lv_at hl 0 rfl) ?_
  refine call_X (wr := []) C (run_VX (As := []) (rest := []) C (k_needPolygon l hlt D cI cZ cJ x inp par pla dra lat his f1 f2 hd ec ea g gp ) cV_X11_155 hP hD hS [0, 1] rfl rfl 0 rfl rfl rfl rfl hl.1 rfl (Nat.le_of_ble_eq_true rfl) dX11_linkDistance_1 ⟨Nat.le_of_ble_eq_true rfl, Nat.le_of_ble_eq_true rfl⟩ ⟨Nat.le_of_ble_eq_true rfl, Nat.le_of_ble_eq_true rfl⟩) hP hD hS [0, 1] [] rfl rfl rfl (by decide) (fun ce q9 H locs hce hcv hcl hP hD hS => ?_)
  have hP : va_P D CL [(x, .inr (10, xC inp par pla dra lat his f1 f2 hd ec ea g)), (pla, .inr (5, pC 0 0 0 gp))] H := hP
  have hD : va_D A [(x, .inr (10, xC inp par pla dra lat his f1 f2 hd ec ea g)), (pla, .inr (5, pC 0 0 0 gp))] := hD
  refine vx_widen (k := 1) (n := 6) (Nat.le_of_ble_eq_true rfl) (Nat.le_of_ble_eq_true rfl) ?_
  exact r_out C htab hce hcv hcl hP hD hS rfl (Nat.le_of_ble_eq_true rfl) (Nat.le_of_ble_eq_true rfl)
set_option maxHeartbeats 4000000 in
set_option maxRecDepth 100000 in
theorem k_diameter (l : Launch) (hlt : l.stackTraces = false) (D : va_G) (cI cZ cJ : ClassId) (x : Nat) (inp : Nat) (par : Nat) (pla : Nat) (dra : Nat) (lat : Nat) (his : Nat) (f1 : Nat) (f2 : Nat) (hd : Int32) (ec : Int32) (ea : Int32) (g : Nat → Value) (gp : Nat → Value)  : cX l yX11_diameter cX11_diameter 1 (some .int) D (TT cI cZ cJ) [.ref x] [(x, .inr (10, xC inp par pla dra lat his f1 f2 hd ec ea g)), (pla, .inr (5, pC 0 0 0 gp))] "java/lang/IllegalStateException" [(x, .inr (10, xC inp par pla dra lat his f1 f2 hd ec ea g)), (pla, .inr (5, pC 0 0 0 gp))] 1 1 6 := by
  refine enterX (by decide) (Nat.le_of_ble_eq_true rfl) ?_
  intro p e s m below meth c ls A C htab hP hD hS hl
  have hx := C.1
  have hb := C.2.1
  have hl : lv_has ls 1 [(0, .ref x)] := hl
  refine lv_aload_n hx hb dX11_diameter_0 rfl (lv_at hl 0 rfl) ?_
  refine call_X (wr := []) C (run_VX (As := []) (rest := []) C (k_needPolygon l hlt D cI cZ cJ x inp par pla dra lat his f1 f2 hd ec ea g gp ) cV_X11_155 hP hD hS [0, 1] rfl rfl 0 rfl rfl rfl rfl hl.1 rfl (Nat.le_of_ble_eq_true rfl) dX11_diameter_1 ⟨Nat.le_of_ble_eq_true rfl, Nat.le_of_ble_eq_true rfl⟩ ⟨Nat.le_of_ble_eq_true rfl, Nat.le_of_ble_eq_true rfl⟩) hP hD hS [0, 1] [] rfl rfl rfl (by decide) (fun ce q9 H locs hce hcv hcl hP hD hS => ?_)
  have hP : va_P D CL [(x, .inr (10, xC inp par pla dra lat his f1 f2 hd ec ea g)), (pla, .inr (5, pC 0 0 0 gp))] H := hP
  have hD : va_D A [(x, .inr (10, xC inp par pla dra lat his f1 f2 hd ec ea g)), (pla, .inr (5, pC 0 0 0 gp))] := hD
  refine vx_widen (k := 1) (n := 6) (Nat.le_of_ble_eq_true rfl) (Nat.le_of_ble_eq_true rfl) ?_
  exact r_out C htab hce hcv hcl hP hD hS rfl (Nat.le_of_ble_eq_true rfl) (Nat.le_of_ble_eq_true rfl)
set_option maxHeartbeats 4000000 in
set_option maxRecDepth 100000 in
theorem k_farthest (l : Launch) (hlt : l.stackTraces = false) (D : va_G) (cI cZ cJ : ClassId) (x : Nat) (inp : Nat) (par : Nat) (pla : Nat) (dra : Nat) (lat : Nat) (his : Nat) (f1 : Nat) (f2 : Nat) (hd : Int32) (ec : Int32) (ea : Int32) (g : Nat → Value) (gp : Nat → Value) (a0 : Int32)  : cX l yX11_farthest cX11_farthest 2 (some .int) D (TT cI cZ cJ) [.ref x, .int a0] [(x, .inr (10, xC inp par pla dra lat his f1 f2 hd ec ea g)), (pla, .inr (5, pC 0 0 0 gp))] "java/lang/IllegalStateException" [(x, .inr (10, xC inp par pla dra lat his f1 f2 hd ec ea g)), (pla, .inr (5, pC 0 0 0 gp))] 1 1 6 := by
  refine enterX (by decide) (Nat.le_of_ble_eq_true rfl) ?_
  intro p e s m below meth c ls A C htab hP hD hS hl
  have hx := C.1
  have hb := C.2.1
  have hl : lv_has ls 2 [(0, .ref x), (1, .int a0)] := hl
  refine lv_aload_n hx hb dX11_farthest_0 rfl (lv_at hl 0 rfl) ?_
  refine call_X (wr := []) C (run_VX (As := []) (rest := []) C (k_needPolygon l hlt D cI cZ cJ x inp par pla dra lat his f1 f2 hd ec ea g gp ) cV_X11_155 hP hD hS [0, 1] rfl rfl 0 rfl rfl rfl rfl hl.1 rfl (Nat.le_of_ble_eq_true rfl) dX11_farthest_1 ⟨Nat.le_of_ble_eq_true rfl, Nat.le_of_ble_eq_true rfl⟩ ⟨Nat.le_of_ble_eq_true rfl, Nat.le_of_ble_eq_true rfl⟩) hP hD hS [0, 1] [] rfl rfl rfl (by decide) (fun ce q9 H locs hce hcv hcl hP hD hS => ?_)
  have hP : va_P D CL [(x, .inr (10, xC inp par pla dra lat his f1 f2 hd ec ea g)), (pla, .inr (5, pC 0 0 0 gp))] H := hP
  have hD : va_D A [(x, .inr (10, xC inp par pla dra lat his f1 f2 hd ec ea g)), (pla, .inr (5, pC 0 0 0 gp))] := hD
  refine vx_widen (k := 1) (n := 6) (Nat.le_of_ble_eq_true rfl) (Nat.le_of_ble_eq_true rfl) ?_
  exact r_out C htab hce hcv hcl hP hD hS rfl (Nat.le_of_ble_eq_true rfl) (Nat.le_of_ble_eq_true rfl)
set_option maxHeartbeats 4000000 in
set_option maxRecDepth 100000 in
theorem k_seenFromEdge (l : Launch) (hlt : l.stackTraces = false) (D : va_G) (cI cZ cJ : ClassId) (x : Nat) (inp : Nat) (par : Nat) (pla : Nat) (dra : Nat) (lat : Nat) (his : Nat) (f1 : Nat) (f2 : Nat) (hd : Int32) (ec : Int32) (ea : Int32) (g : Nat → Value) (gp : Nat → Value) (a0 : Int32)  : cX l yX11_seenFromEdge cX11_seenFromEdge 2 (some .long) D (TT cI cZ cJ) [.ref x, .int a0] [(x, .inr (10, xC inp par pla dra lat his f1 f2 hd ec ea g)), (pla, .inr (5, pC 0 0 0 gp))] "java/lang/IllegalStateException" [(x, .inr (10, xC inp par pla dra lat his f1 f2 hd ec ea g)), (pla, .inr (5, pC 0 0 0 gp))] 1 1 6 := by
  refine enterX (by decide) (Nat.le_of_ble_eq_true rfl) ?_
  intro p e s m below meth c ls A C htab hP hD hS hl
  have hx := C.1
  have hb := C.2.1
  have hl : lv_has ls 2 [(0, .ref x), (1, .int a0)] := hl
  refine lv_aload_n hx hb dX11_seenFromEdge_0 rfl (lv_at hl 0 rfl) ?_
  refine call_X (wr := []) C (run_VX (As := []) (rest := []) C (k_needPolygon l hlt D cI cZ cJ x inp par pla dra lat his f1 f2 hd ec ea g gp ) cV_X11_155 hP hD hS [0, 1] rfl rfl 0 rfl rfl rfl rfl hl.1 rfl (Nat.le_of_ble_eq_true rfl) dX11_seenFromEdge_1 ⟨Nat.le_of_ble_eq_true rfl, Nat.le_of_ble_eq_true rfl⟩ ⟨Nat.le_of_ble_eq_true rfl, Nat.le_of_ble_eq_true rfl⟩) hP hD hS [0, 1] [] rfl rfl rfl (by decide) (fun ce q9 H locs hce hcv hcl hP hD hS => ?_)
  have hP : va_P D CL [(x, .inr (10, xC inp par pla dra lat his f1 f2 hd ec ea g)), (pla, .inr (5, pC 0 0 0 gp))] H := hP
  have hD : va_D A [(x, .inr (10, xC inp par pla dra lat his f1 f2 hd ec ea g)), (pla, .inr (5, pC 0 0 0 gp))] := hD
  refine vx_widen (k := 1) (n := 6) (Nat.le_of_ble_eq_true rfl) (Nat.le_of_ble_eq_true rfl) ?_
  exact r_out C htab hce hcv hcl hP hD hS rfl (Nat.le_of_ble_eq_true rfl) (Nat.le_of_ble_eq_true rfl)
set_option maxHeartbeats 4000000 in
set_option maxRecDepth 100000 in
theorem k_triangleVertex (l : Launch) (hlt : l.stackTraces = false) (D : va_G) (cI cZ cJ : ClassId) (x : Nat) (inp : Nat) (par : Nat) (pla : Nat) (dra : Nat) (lat : Nat) (his : Nat) (f1 : Nat) (f2 : Nat) (hd : Int32) (ec : Int32) (ea : Int32) (g : Nat → Value) (gp : Nat → Value) (a0 : Int32) (a1 : Int32)  : cX l yX11_triangleVertex cX11_triangleVertex 3 (some .int) D (TT cI cZ cJ) [.ref x, .int a0, .int a1] [(x, .inr (10, xC inp par pla dra lat his f1 f2 hd ec ea g)), (pla, .inr (5, pC 0 0 0 gp))] "java/lang/IllegalStateException" [(x, .inr (10, xC inp par pla dra lat his f1 f2 hd ec ea g)), (pla, .inr (5, pC 0 0 0 gp))] 1 1 6 := by
  refine enterX (by decide) (Nat.le_of_ble_eq_true rfl) ?_
  intro p e s m below meth c ls A C htab hP hD hS hl
  have hx := C.1
  have hb := C.2.1
  have hl : lv_has ls 3 [(0, .ref x), (1, .int a0), (2, .int a1)] := hl
  refine lv_aload_n hx hb dX11_triangleVertex_0 rfl (lv_at hl 0 rfl) ?_
  refine call_X (wr := []) C (run_VX (As := []) (rest := []) C (k_needPolygon l hlt D cI cZ cJ x inp par pla dra lat his f1 f2 hd ec ea g gp ) cV_X11_155 hP hD hS [0, 1] rfl rfl 0 rfl rfl rfl rfl hl.1 rfl (Nat.le_of_ble_eq_true rfl) dX11_triangleVertex_1 ⟨Nat.le_of_ble_eq_true rfl, Nat.le_of_ble_eq_true rfl⟩ ⟨Nat.le_of_ble_eq_true rfl, Nat.le_of_ble_eq_true rfl⟩) hP hD hS [0, 1] [] rfl rfl rfl (by decide) (fun ce q9 H locs hce hcv hcl hP hD hS => ?_)
  have hP : va_P D CL [(x, .inr (10, xC inp par pla dra lat his f1 f2 hd ec ea g)), (pla, .inr (5, pC 0 0 0 gp))] H := hP
  have hD : va_D A [(x, .inr (10, xC inp par pla dra lat his f1 f2 hd ec ea g)), (pla, .inr (5, pC 0 0 0 gp))] := hD
  refine vx_widen (k := 1) (n := 6) (Nat.le_of_ble_eq_true rfl) (Nat.le_of_ble_eq_true rfl) ?_
  exact r_out C htab hce hcv hcl hP hD hS rfl (Nat.le_of_ble_eq_true rfl) (Nat.le_of_ble_eq_true rfl)
set_option maxHeartbeats 4000000 in
set_option maxRecDepth 100000 in
theorem k_triangleArea (l : Launch) (hlt : l.stackTraces = false) (D : va_G) (cI cZ cJ : ClassId) (x : Nat) (inp : Nat) (par : Nat) (pla : Nat) (dra : Nat) (lat : Nat) (his : Nat) (f1 : Nat) (f2 : Nat) (hd : Int32) (ec : Int32) (ea : Int32) (g : Nat → Value) (gp : Nat → Value) (a0 : Int32)  : cX l yX11_triangleArea cX11_triangleArea 2 (some .int) D (TT cI cZ cJ) [.ref x, .int a0] [(x, .inr (10, xC inp par pla dra lat his f1 f2 hd ec ea g)), (pla, .inr (5, pC 0 0 0 gp))] "java/lang/IllegalStateException" [(x, .inr (10, xC inp par pla dra lat his f1 f2 hd ec ea g)), (pla, .inr (5, pC 0 0 0 gp))] 1 1 6 := by
  refine enterX (by decide) (Nat.le_of_ble_eq_true rfl) ?_
  intro p e s m below meth c ls A C htab hP hD hS hl
  have hx := C.1
  have hb := C.2.1
  have hl : lv_has ls 2 [(0, .ref x), (1, .int a0)] := hl
  refine lv_aload_n hx hb dX11_triangleArea_0 rfl (lv_at hl 0 rfl) ?_
  refine call_X (wr := []) C (run_VX (As := []) (rest := []) C (k_needPolygon l hlt D cI cZ cJ x inp par pla dra lat his f1 f2 hd ec ea g gp ) cV_X11_155 hP hD hS [0, 1] rfl rfl 0 rfl rfl rfl rfl hl.1 rfl (Nat.le_of_ble_eq_true rfl) dX11_triangleArea_1 ⟨Nat.le_of_ble_eq_true rfl, Nat.le_of_ble_eq_true rfl⟩ ⟨Nat.le_of_ble_eq_true rfl, Nat.le_of_ble_eq_true rfl⟩) hP hD hS [0, 1] [] rfl rfl rfl (by decide) (fun ce q9 H locs hce hcv hcl hP hD hS => ?_)
  have hP : va_P D CL [(x, .inr (10, xC inp par pla dra lat his f1 f2 hd ec ea g)), (pla, .inr (5, pC 0 0 0 gp))] H := hP
  have hD : va_D A [(x, .inr (10, xC inp par pla dra lat his f1 f2 hd ec ea g)), (pla, .inr (5, pC 0 0 0 gp))] := hD
  refine vx_widen (k := 1) (n := 6) (Nat.le_of_ble_eq_true rfl) (Nat.le_of_ble_eq_true rfl) ?_
  exact r_out C htab hce hcv hcl hP hD hS rfl (Nat.le_of_ble_eq_true rfl) (Nat.le_of_ble_eq_true rfl)
set_option maxHeartbeats 4000000 in
set_option maxRecDepth 100000 in
theorem k_colour (l : Launch) (hlt : l.stackTraces = false) (D : va_G) (cI cZ cJ : ClassId) (x : Nat) (inp : Nat) (par : Nat) (pla : Nat) (dra : Nat) (lat : Nat) (his : Nat) (f1 : Nat) (f2 : Nat) (hd : Int32) (ec : Int32) (ea : Int32) (g : Nat → Value) (gp : Nat → Value) (a0 : Int32)  : cX l yX11_colour cX11_colour 2 (some .int) D (TT cI cZ cJ) [.ref x, .int a0] [(x, .inr (10, xC inp par pla dra lat his f1 f2 hd ec ea g)), (pla, .inr (5, pC 0 0 0 gp))] "java/lang/IllegalStateException" [(x, .inr (10, xC inp par pla dra lat his f1 f2 hd ec ea g)), (pla, .inr (5, pC 0 0 0 gp))] 1 1 6 := by
  refine enterX (by decide) (Nat.le_of_ble_eq_true rfl) ?_
  intro p e s m below meth c ls A C htab hP hD hS hl
  have hx := C.1
  have hb := C.2.1
  have hl : lv_has ls 2 [(0, .ref x), (1, .int a0)] := hl
  refine lv_aload_n hx hb dX11_colour_0 rfl (lv_at hl 0 rfl) ?_
  refine call_X (wr := []) C (run_VX (As := []) (rest := []) C (k_needPolygon l hlt D cI cZ cJ x inp par pla dra lat his f1 f2 hd ec ea g gp ) cV_X11_155 hP hD hS [0, 1] rfl rfl 0 rfl rfl rfl rfl hl.1 rfl (Nat.le_of_ble_eq_true rfl) dX11_colour_1 ⟨Nat.le_of_ble_eq_true rfl, Nat.le_of_ble_eq_true rfl⟩ ⟨Nat.le_of_ble_eq_true rfl, Nat.le_of_ble_eq_true rfl⟩) hP hD hS [0, 1] [] rfl rfl rfl (by decide) (fun ce q9 H locs hce hcv hcl hP hD hS => ?_)
  have hP : va_P D CL [(x, .inr (10, xC inp par pla dra lat his f1 f2 hd ec ea g)), (pla, .inr (5, pC 0 0 0 gp))] H := hP
  have hD : va_D A [(x, .inr (10, xC inp par pla dra lat his f1 f2 hd ec ea g)), (pla, .inr (5, pC 0 0 0 gp))] := hD
  refine vx_widen (k := 1) (n := 6) (Nat.le_of_ble_eq_true rfl) (Nat.le_of_ble_eq_true rfl) ?_
  exact r_out C htab hce hcv hcl hP hD hS rfl (Nat.le_of_ble_eq_true rfl) (Nat.le_of_ble_eq_true rfl)
set_option maxHeartbeats 4000000 in
set_option maxRecDepth 100000 in
theorem k_colourGuards (l : Launch) (hlt : l.stackTraces = false) (D : va_G) (cI cZ cJ : ClassId) (x : Nat) (inp : Nat) (par : Nat) (pla : Nat) (dra : Nat) (lat : Nat) (his : Nat) (f1 : Nat) (f2 : Nat) (hd : Int32) (ec : Int32) (ea : Int32) (g : Nat → Value) (gp : Nat → Value)  : cX l yX11_colourGuards cX11_colourGuards 1 (some .int) D (TT cI cZ cJ) [.ref x] [(x, .inr (10, xC inp par pla dra lat his f1 f2 hd ec ea g)), (pla, .inr (5, pC 0 0 0 gp))] "java/lang/IllegalStateException" [(x, .inr (10, xC inp par pla dra lat his f1 f2 hd ec ea g)), (pla, .inr (5, pC 0 0 0 gp))] 1 1 6 := by
  refine enterX (by decide) (Nat.le_of_ble_eq_true rfl) ?_
  intro p e s m below meth c ls A C htab hP hD hS hl
  have hx := C.1
  have hb := C.2.1
  have hl : lv_has ls 1 [(0, .ref x)] := hl
  refine lv_aload_n hx hb dX11_colourGuards_0 rfl (lv_at hl 0 rfl) ?_
  refine call_X (wr := []) C (run_VX (As := []) (rest := []) C (k_needPolygon l hlt D cI cZ cJ x inp par pla dra lat his f1 f2 hd ec ea g gp ) cV_X11_155 hP hD hS [0, 1] rfl rfl 0 rfl rfl rfl rfl hl.1 rfl (Nat.le_of_ble_eq_true rfl) dX11_colourGuards_1 ⟨Nat.le_of_ble_eq_true rfl, Nat.le_of_ble_eq_true rfl⟩ ⟨Nat.le_of_ble_eq_true rfl, Nat.le_of_ble_eq_true rfl⟩) hP hD hS [0, 1] [] rfl rfl rfl (by decide) (fun ce q9 H locs hce hcv hcl hP hD hS => ?_)
  have hP : va_P D CL [(x, .inr (10, xC inp par pla dra lat his f1 f2 hd ec ea g)), (pla, .inr (5, pC 0 0 0 gp))] H := hP
  have hD : va_D A [(x, .inr (10, xC inp par pla dra lat his f1 f2 hd ec ea g)), (pla, .inr (5, pC 0 0 0 gp))] := hD
  refine vx_widen (k := 1) (n := 6) (Nat.le_of_ble_eq_true rfl) (Nat.le_of_ble_eq_true rfl) ?_
  exact r_out C htab hce hcv hcl hP hD hS rfl (Nat.le_of_ble_eq_true rfl) (Nat.le_of_ble_eq_true rfl)
set_option maxHeartbeats 4000000 in
set_option maxRecDepth 100000 in
theorem k_vertexGuards (l : Launch) (hlt : l.stackTraces = false) (D : va_G) (cI cZ cJ : ClassId) (x : Nat) (inp : Nat) (par : Nat) (pla : Nat) (dra : Nat) (lat : Nat) (his : Nat) (f1 : Nat) (f2 : Nat) (hd : Int32) (ec : Int32) (ea : Int32) (g : Nat → Value) (gp : Nat → Value)  : cX l yX11_vertexGuards cX11_vertexGuards 1 (some .int) D (TT cI cZ cJ) [.ref x] [(x, .inr (10, xC inp par pla dra lat his f1 f2 hd ec ea g)), (pla, .inr (5, pC 0 0 0 gp))] "java/lang/IllegalStateException" [(x, .inr (10, xC inp par pla dra lat his f1 f2 hd ec ea g)), (pla, .inr (5, pC 0 0 0 gp))] 1 1 6 := by
  refine enterX (by decide) (Nat.le_of_ble_eq_true rfl) ?_
  intro p e s m below meth c ls A C htab hP hD hS hl
  have hx := C.1
  have hb := C.2.1
  have hl : lv_has ls 1 [(0, .ref x)] := hl
  refine lv_aload_n hx hb dX11_vertexGuards_0 rfl (lv_at hl 0 rfl) ?_
  refine call_X (wr := []) C (run_VX (As := []) (rest := []) C (k_needPolygon l hlt D cI cZ cJ x inp par pla dra lat his f1 f2 hd ec ea g gp ) cV_X11_155 hP hD hS [0, 1] rfl rfl 0 rfl rfl rfl rfl hl.1 rfl (Nat.le_of_ble_eq_true rfl) dX11_vertexGuards_1 ⟨Nat.le_of_ble_eq_true rfl, Nat.le_of_ble_eq_true rfl⟩ ⟨Nat.le_of_ble_eq_true rfl, Nat.le_of_ble_eq_true rfl⟩) hP hD hS [0, 1] [] rfl rfl rfl (by decide) (fun ce q9 H locs hce hcv hcl hP hD hS => ?_)
  have hP : va_P D CL [(x, .inr (10, xC inp par pla dra lat his f1 f2 hd ec ea g)), (pla, .inr (5, pC 0 0 0 gp))] H := hP
  have hD : va_D A [(x, .inr (10, xC inp par pla dra lat his f1 f2 hd ec ea g)), (pla, .inr (5, pC 0 0 0 gp))] := hD
  refine vx_widen (k := 1) (n := 6) (Nat.le_of_ble_eq_true rfl) (Nat.le_of_ble_eq_true rfl) ?_
  exact r_out C htab hce hcv hcl hP hD hS rfl (Nat.le_of_ble_eq_true rfl) (Nat.le_of_ble_eq_true rfl)
set_option maxHeartbeats 4000000 in
set_option maxRecDepth 100000 in
theorem k_edgeGuards (l : Launch) (hlt : l.stackTraces = false) (D : va_G) (cI cZ cJ : ClassId) (x : Nat) (inp : Nat) (par : Nat) (pla : Nat) (dra : Nat) (lat : Nat) (his : Nat) (f1 : Nat) (f2 : Nat) (hd : Int32) (ec : Int32) (ea : Int32) (g : Nat → Value) (gp : Nat → Value)  : cX l yX11_edgeGuards cX11_edgeGuards 1 (some .int) D (TT cI cZ cJ) [.ref x] [(x, .inr (10, xC inp par pla dra lat his f1 f2 hd ec ea g)), (pla, .inr (5, pC 0 0 0 gp))] "java/lang/IllegalStateException" [(x, .inr (10, xC inp par pla dra lat his f1 f2 hd ec ea g)), (pla, .inr (5, pC 0 0 0 gp))] 1 1 6 := by
  refine enterX (by decide) (Nat.le_of_ble_eq_true rfl) ?_
  intro p e s m below meth c ls A C htab hP hD hS hl
  have hx := C.1
  have hb := C.2.1
  have hl : lv_has ls 1 [(0, .ref x)] := hl
  refine lv_aload_n hx hb dX11_edgeGuards_0 rfl (lv_at hl 0 rfl) ?_
  refine call_X (wr := []) C (run_VX (As := []) (rest := []) C (k_needPolygon l hlt D cI cZ cJ x inp par pla dra lat his f1 f2 hd ec ea g gp ) cV_X11_155 hP hD hS [0, 1] rfl rfl 0 rfl rfl rfl rfl hl.1 rfl (Nat.le_of_ble_eq_true rfl) dX11_edgeGuards_1 ⟨Nat.le_of_ble_eq_true rfl, Nat.le_of_ble_eq_true rfl⟩ ⟨Nat.le_of_ble_eq_true rfl, Nat.le_of_ble_eq_true rfl⟩) hP hD hS [0, 1] [] rfl rfl rfl (by decide) (fun ce q9 H locs hce hcv hcl hP hD hS => ?_)
  have hP : va_P D CL [(x, .inr (10, xC inp par pla dra lat his f1 f2 hd ec ea g)), (pla, .inr (5, pC 0 0 0 gp))] H := hP
  have hD : va_D A [(x, .inr (10, xC inp par pla dra lat his f1 f2 hd ec ea g)), (pla, .inr (5, pC 0 0 0 gp))] := hD
  refine vx_widen (k := 1) (n := 6) (Nat.le_of_ble_eq_true rfl) (Nat.le_of_ble_eq_true rfl) ?_
  exact r_out C htab hce hcv hcl hP hD hS rfl (Nat.le_of_ble_eq_true rfl) (Nat.le_of_ble_eq_true rfl)
set_option maxHeartbeats 4000000 in
set_option maxRecDepth 100000 in
theorem k_guardNumber (l : Launch) (hlt : l.stackTraces = false) (D : va_G) (cI cZ cJ : ClassId) (x : Nat) (inp : Nat) (par : Nat) (pla : Nat) (dra : Nat) (lat : Nat) (his : Nat) (f1 : Nat) (f2 : Nat) (hd : Int32) (ec : Int32) (ea : Int32) (g : Nat → Value) (gp : Nat → Value)  : cX l yX11_guardNumber cX11_guardNumber 1 (some .int) D (TT cI cZ cJ) [.ref x] [(x, .inr (10, xC inp par pla dra lat his f1 f2 hd ec ea g)), (pla, .inr (5, pC 0 0 0 gp))] "java/lang/IllegalStateException" [(x, .inr (10, xC inp par pla dra lat his f1 f2 hd ec ea g)), (pla, .inr (5, pC 0 0 0 gp))] 1 1 6 := by
  refine enterX (by decide) (Nat.le_of_ble_eq_true rfl) ?_
  intro p e s m below meth c ls A C htab hP hD hS hl
  have hx := C.1
  have hb := C.2.1
  have hl : lv_has ls 1 [(0, .ref x)] := hl
  refine lv_aload_n hx hb dX11_guardNumber_0 rfl (lv_at hl 0 rfl) ?_
  refine call_X (wr := []) C (run_VX (As := []) (rest := []) C (k_needPolygon l hlt D cI cZ cJ x inp par pla dra lat his f1 f2 hd ec ea g gp ) cV_X11_155 hP hD hS [0, 1] rfl rfl 0 rfl rfl rfl rfl hl.1 rfl (Nat.le_of_ble_eq_true rfl) dX11_guardNumber_1 ⟨Nat.le_of_ble_eq_true rfl, Nat.le_of_ble_eq_true rfl⟩ ⟨Nat.le_of_ble_eq_true rfl, Nat.le_of_ble_eq_true rfl⟩) hP hD hS [0, 1] [] rfl rfl rfl (by decide) (fun ce q9 H locs hce hcv hcl hP hD hS => ?_)
  have hP : va_P D CL [(x, .inr (10, xC inp par pla dra lat his f1 f2 hd ec ea g)), (pla, .inr (5, pC 0 0 0 gp))] H := hP
  have hD : va_D A [(x, .inr (10, xC inp par pla dra lat his f1 f2 hd ec ea g)), (pla, .inr (5, pC 0 0 0 gp))] := hD
  refine vx_widen (k := 1) (n := 6) (Nat.le_of_ble_eq_true rfl) (Nat.le_of_ble_eq_true rfl) ?_
  exact r_out C htab hce hcv hcl hP hD hS rfl (Nat.le_of_ble_eq_true rfl) (Nat.le_of_ble_eq_true rfl)
set_option maxHeartbeats 4000000 in
set_option maxRecDepth 100000 in
theorem k_guardPoint (l : Launch) (hlt : l.stackTraces = false) (D : va_G) (cI cZ cJ : ClassId) (x : Nat) (inp : Nat) (par : Nat) (pla : Nat) (dra : Nat) (lat : Nat) (his : Nat) (f1 : Nat) (f2 : Nat) (hd : Int32) (ec : Int32) (ea : Int32) (g : Nat → Value) (gp : Nat → Value) (a0 : Int32)  : cX l yX11_guardPoint cX11_guardPoint 2 (some .int) D (TT cI cZ cJ) [.ref x, .int a0] [(x, .inr (10, xC inp par pla dra lat his f1 f2 hd ec ea g)), (pla, .inr (5, pC 0 0 0 gp))] "java/lang/IllegalStateException" [(x, .inr (10, xC inp par pla dra lat his f1 f2 hd ec ea g)), (pla, .inr (5, pC 0 0 0 gp))] 1 1 6 := by
  refine enterX (by decide) (Nat.le_of_ble_eq_true rfl) ?_
  intro p e s m below meth c ls A C htab hP hD hS hl
  have hx := C.1
  have hb := C.2.1
  have hl : lv_has ls 2 [(0, .ref x), (1, .int a0)] := hl
  refine lv_aload_n hx hb dX11_guardPoint_0 rfl (lv_at hl 0 rfl) ?_
  refine call_X (wr := []) C (run_VX (As := []) (rest := []) C (k_needPolygon l hlt D cI cZ cJ x inp par pla dra lat his f1 f2 hd ec ea g gp ) cV_X11_155 hP hD hS [0, 1] rfl rfl 0 rfl rfl rfl rfl hl.1 rfl (Nat.le_of_ble_eq_true rfl) dX11_guardPoint_1 ⟨Nat.le_of_ble_eq_true rfl, Nat.le_of_ble_eq_true rfl⟩ ⟨Nat.le_of_ble_eq_true rfl, Nat.le_of_ble_eq_true rfl⟩) hP hD hS [0, 1] [] rfl rfl rfl (by decide) (fun ce q9 H locs hce hcv hcl hP hD hS => ?_)
  have hP : va_P D CL [(x, .inr (10, xC inp par pla dra lat his f1 f2 hd ec ea g)), (pla, .inr (5, pC 0 0 0 gp))] H := hP
  have hD : va_D A [(x, .inr (10, xC inp par pla dra lat his f1 f2 hd ec ea g)), (pla, .inr (5, pC 0 0 0 gp))] := hD
  refine vx_widen (k := 1) (n := 6) (Nat.le_of_ble_eq_true rfl) (Nat.le_of_ble_eq_true rfl) ?_
  exact r_out C htab hce hcv hcl hP hD hS rfl (Nat.le_of_ble_eq_true rfl) (Nat.le_of_ble_eq_true rfl)
set_option maxHeartbeats 4000000 in
set_option maxRecDepth 100000 in
theorem k_witnessNumber (l : Launch) (hlt : l.stackTraces = false) (D : va_G) (cI cZ cJ : ClassId) (x : Nat) (inp : Nat) (par : Nat) (pla : Nat) (dra : Nat) (lat : Nat) (his : Nat) (f1 : Nat) (f2 : Nat) (hd : Int32) (ec : Int32) (ea : Int32) (g : Nat → Value) (gp : Nat → Value)  : cX l yX11_witnessNumber cX11_witnessNumber 1 (some .int) D (TT cI cZ cJ) [.ref x] [(x, .inr (10, xC inp par pla dra lat his f1 f2 hd ec ea g)), (pla, .inr (5, pC 0 0 0 gp))] "java/lang/IllegalStateException" [(x, .inr (10, xC inp par pla dra lat his f1 f2 hd ec ea g)), (pla, .inr (5, pC 0 0 0 gp))] 1 1 6 := by
  refine enterX (by decide) (Nat.le_of_ble_eq_true rfl) ?_
  intro p e s m below meth c ls A C htab hP hD hS hl
  have hx := C.1
  have hb := C.2.1
  have hl : lv_has ls 1 [(0, .ref x)] := hl
  refine lv_aload_n hx hb dX11_witnessNumber_0 rfl (lv_at hl 0 rfl) ?_
  refine call_X (wr := []) C (run_VX (As := []) (rest := []) C (k_needPolygon l hlt D cI cZ cJ x inp par pla dra lat his f1 f2 hd ec ea g gp ) cV_X11_155 hP hD hS [0, 1] rfl rfl 0 rfl rfl rfl rfl hl.1 rfl (Nat.le_of_ble_eq_true rfl) dX11_witnessNumber_1 ⟨Nat.le_of_ble_eq_true rfl, Nat.le_of_ble_eq_true rfl⟩ ⟨Nat.le_of_ble_eq_true rfl, Nat.le_of_ble_eq_true rfl⟩) hP hD hS [0, 1] [] rfl rfl rfl (by decide) (fun ce q9 H locs hce hcv hcl hP hD hS => ?_)
  have hP : va_P D CL [(x, .inr (10, xC inp par pla dra lat his f1 f2 hd ec ea g)), (pla, .inr (5, pC 0 0 0 gp))] H := hP
  have hD : va_D A [(x, .inr (10, xC inp par pla dra lat his f1 f2 hd ec ea g)), (pla, .inr (5, pC 0 0 0 gp))] := hD
  refine vx_widen (k := 1) (n := 6) (Nat.le_of_ble_eq_true rfl) (Nat.le_of_ble_eq_true rfl) ?_
  exact r_out C htab hce hcv hcl hP hD hS rfl (Nat.le_of_ble_eq_true rfl) (Nat.le_of_ble_eq_true rfl)
set_option maxHeartbeats 4000000 in
set_option maxRecDepth 100000 in
theorem k_witness (l : Launch) (hlt : l.stackTraces = false) (D : va_G) (cI cZ cJ : ClassId) (x : Nat) (inp : Nat) (par : Nat) (pla : Nat) (dra : Nat) (lat : Nat) (his : Nat) (f1 : Nat) (f2 : Nat) (hd : Int32) (ec : Int32) (ea : Int32) (g : Nat → Value) (gp : Nat → Value) (a0 : Int32)  : cX l yX11_witness cX11_witness 2 (some .int) D (TT cI cZ cJ) [.ref x, .int a0] [(x, .inr (10, xC inp par pla dra lat his f1 f2 hd ec ea g)), (pla, .inr (5, pC 0 0 0 gp))] "java/lang/IllegalStateException" [(x, .inr (10, xC inp par pla dra lat his f1 f2 hd ec ea g)), (pla, .inr (5, pC 0 0 0 gp))] 1 1 6 := by
  refine enterX (by decide) (Nat.le_of_ble_eq_true rfl) ?_
  intro p e s m below meth c ls A C htab hP hD hS hl
  have hx := C.1
  have hb := C.2.1
  have hl : lv_has ls 2 [(0, .ref x), (1, .int a0)] := hl
  refine lv_aload_n hx hb dX11_witness_0 rfl (lv_at hl 0 rfl) ?_
  refine call_X (wr := []) C (run_VX (As := []) (rest := []) C (k_needPolygon l hlt D cI cZ cJ x inp par pla dra lat his f1 f2 hd ec ea g gp ) cV_X11_155 hP hD hS [0, 1] rfl rfl 0 rfl rfl rfl rfl hl.1 rfl (Nat.le_of_ble_eq_true rfl) dX11_witness_1 ⟨Nat.le_of_ble_eq_true rfl, Nat.le_of_ble_eq_true rfl⟩ ⟨Nat.le_of_ble_eq_true rfl, Nat.le_of_ble_eq_true rfl⟩) hP hD hS [0, 1] [] rfl rfl rfl (by decide) (fun ce q9 H locs hce hcv hcl hP hD hS => ?_)
  have hP : va_P D CL [(x, .inr (10, xC inp par pla dra lat his f1 f2 hd ec ea g)), (pla, .inr (5, pC 0 0 0 gp))] H := hP
  have hD : va_D A [(x, .inr (10, xC inp par pla dra lat his f1 f2 hd ec ea g)), (pla, .inr (5, pC 0 0 0 gp))] := hD
  refine vx_widen (k := 1) (n := 6) (Nat.le_of_ble_eq_true rfl) (Nat.le_of_ble_eq_true rfl) ?_
  exact r_out C htab hce hcv hcl hP hD hS rfl (Nat.le_of_ble_eq_true rfl) (Nat.le_of_ble_eq_true rfl)
set_option maxHeartbeats 4000000 in
set_option maxRecDepth 100000 in
theorem k_hiddenNumber (l : Launch) (hlt : l.stackTraces = false) (D : va_G) (cI cZ cJ : ClassId) (x : Nat) (inp : Nat) (par : Nat) (pla : Nat) (dra : Nat) (lat : Nat) (his : Nat) (f1 : Nat) (f2 : Nat) (hd : Int32) (ec : Int32) (ea : Int32) (g : Nat → Value) (gp : Nat → Value)  : cX l yX11_hiddenNumber cX11_hiddenNumber 1 (some .int) D (TT cI cZ cJ) [.ref x] [(x, .inr (10, xC inp par pla dra lat his f1 f2 hd ec ea g)), (pla, .inr (5, pC 0 0 0 gp))] "java/lang/IllegalStateException" [(x, .inr (10, xC inp par pla dra lat his f1 f2 hd ec ea g)), (pla, .inr (5, pC 0 0 0 gp))] 1 1 6 := by
  refine enterX (by decide) (Nat.le_of_ble_eq_true rfl) ?_
  intro p e s m below meth c ls A C htab hP hD hS hl
  have hx := C.1
  have hb := C.2.1
  have hl : lv_has ls 1 [(0, .ref x)] := hl
  refine lv_aload_n hx hb dX11_hiddenNumber_0 rfl (lv_at hl 0 rfl) ?_
  refine call_X (wr := []) C (run_VX (As := []) (rest := []) C (k_needPolygon l hlt D cI cZ cJ x inp par pla dra lat his f1 f2 hd ec ea g gp ) cV_X11_155 hP hD hS [0, 1] rfl rfl 0 rfl rfl rfl rfl hl.1 rfl (Nat.le_of_ble_eq_true rfl) dX11_hiddenNumber_1 ⟨Nat.le_of_ble_eq_true rfl, Nat.le_of_ble_eq_true rfl⟩ ⟨Nat.le_of_ble_eq_true rfl, Nat.le_of_ble_eq_true rfl⟩) hP hD hS [0, 1] [] rfl rfl rfl (by decide) (fun ce q9 H locs hce hcv hcl hP hD hS => ?_)
  have hP : va_P D CL [(x, .inr (10, xC inp par pla dra lat his f1 f2 hd ec ea g)), (pla, .inr (5, pC 0 0 0 gp))] H := hP
  have hD : va_D A [(x, .inr (10, xC inp par pla dra lat his f1 f2 hd ec ea g)), (pla, .inr (5, pC 0 0 0 gp))] := hD
  refine vx_widen (k := 1) (n := 6) (Nat.le_of_ble_eq_true rfl) (Nat.le_of_ble_eq_true rfl) ?_
  exact r_out C htab hce hcv hcl hP hD hS rfl (Nat.le_of_ble_eq_true rfl) (Nat.le_of_ble_eq_true rfl)
set_option maxHeartbeats 4000000 in
set_option maxRecDepth 100000 in
theorem k_guardAt (l : Launch) (hlt : l.stackTraces = false) (D : va_G) (cI cZ cJ : ClassId) (x : Nat) (inp : Nat) (par : Nat) (pla : Nat) (dra : Nat) (lat : Nat) (his : Nat) (f1 : Nat) (f2 : Nat) (hd : Int32) (ec : Int32) (ea : Int32) (g : Nat → Value) (gp : Nat → Value) (a0 : Int32)  : cX l yX11_guardAt cX11_guardAt 2 (some .int) D (TT cI cZ cJ) [.ref x, .int a0] [(x, .inr (10, xC inp par pla dra lat his f1 f2 hd ec ea g)), (pla, .inr (5, pC 0 0 0 gp))] "java/lang/IllegalStateException" [(x, .inr (10, xC inp par pla dra lat his f1 f2 hd ec ea g)), (pla, .inr (5, pC 0 0 0 gp))] 1 1 6 := by
  refine enterX (by decide) (Nat.le_of_ble_eq_true rfl) ?_
  intro p e s m below meth c ls A C htab hP hD hS hl
  have hx := C.1
  have hb := C.2.1
  have hl : lv_has ls 2 [(0, .ref x), (1, .int a0)] := hl
  refine lv_aload_n hx hb dX11_guardAt_0 rfl (lv_at hl 0 rfl) ?_
  refine call_X (wr := []) C (run_VX (As := []) (rest := []) C (k_needPolygon l hlt D cI cZ cJ x inp par pla dra lat his f1 f2 hd ec ea g gp ) cV_X11_155 hP hD hS [0, 1] rfl rfl 0 rfl rfl rfl rfl hl.1 rfl (Nat.le_of_ble_eq_true rfl) dX11_guardAt_1 ⟨Nat.le_of_ble_eq_true rfl, Nat.le_of_ble_eq_true rfl⟩ ⟨Nat.le_of_ble_eq_true rfl, Nat.le_of_ble_eq_true rfl⟩) hP hD hS [0, 1] [] rfl rfl rfl (by decide) (fun ce q9 H locs hce hcv hcl hP hD hS => ?_)
  have hP : va_P D CL [(x, .inr (10, xC inp par pla dra lat his f1 f2 hd ec ea g)), (pla, .inr (5, pC 0 0 0 gp))] H := hP
  have hD : va_D A [(x, .inr (10, xC inp par pla dra lat his f1 f2 hd ec ea g)), (pla, .inr (5, pC 0 0 0 gp))] := hD
  refine vx_widen (k := 1) (n := 6) (Nat.le_of_ble_eq_true rfl) (Nat.le_of_ble_eq_true rfl) ?_
  exact r_out C htab hce hcv hcl hP hD hS rfl (Nat.le_of_ble_eq_true rfl) (Nat.le_of_ble_eq_true rfl)
set_option maxHeartbeats 4000000 in
set_option maxRecDepth 100000 in
theorem k_guardRange (l : Launch) (hlt : l.stackTraces = false) (D : va_G) (cI cZ cJ : ClassId) (x : Nat) (inp : Nat) (par : Nat) (pla : Nat) (dra : Nat) (lat : Nat) (his : Nat) (f1 : Nat) (f2 : Nat) (hd : Int32) (ec : Int32) (ea : Int32) (g : Nat → Value) (gp : Nat → Value) (a0 : Int32)  : cX l yX11_guardRange cX11_guardRange 2 (some .int) D (TT cI cZ cJ) [.ref x, .int a0] [(x, .inr (10, xC inp par pla dra lat his f1 f2 hd ec ea g)), (pla, .inr (5, pC 0 0 0 gp))] "java/lang/IllegalStateException" [(x, .inr (10, xC inp par pla dra lat his f1 f2 hd ec ea g)), (pla, .inr (5, pC 0 0 0 gp))] 1 1 6 := by
  refine enterX (by decide) (Nat.le_of_ble_eq_true rfl) ?_
  intro p e s m below meth c ls A C htab hP hD hS hl
  have hx := C.1
  have hb := C.2.1
  have hl : lv_has ls 2 [(0, .ref x), (1, .int a0)] := hl
  refine lv_aload_n hx hb dX11_guardRange_0 rfl (lv_at hl 0 rfl) ?_
  refine call_X (wr := []) C (run_VX (As := []) (rest := []) C (k_needPolygon l hlt D cI cZ cJ x inp par pla dra lat his f1 f2 hd ec ea g gp ) cV_X11_155 hP hD hS [0, 1] rfl rfl 0 rfl rfl rfl rfl hl.1 rfl (Nat.le_of_ble_eq_true rfl) dX11_guardRange_1 ⟨Nat.le_of_ble_eq_true rfl, Nat.le_of_ble_eq_true rfl⟩ ⟨Nat.le_of_ble_eq_true rfl, Nat.le_of_ble_eq_true rfl⟩) hP hD hS [0, 1] [] rfl rfl rfl (by decide) (fun ce q9 H locs hce hcv hcl hP hD hS => ?_)
  have hP : va_P D CL [(x, .inr (10, xC inp par pla dra lat his f1 f2 hd ec ea g)), (pla, .inr (5, pC 0 0 0 gp))] H := hP
  have hD : va_D A [(x, .inr (10, xC inp par pla dra lat his f1 f2 hd ec ea g)), (pla, .inr (5, pC 0 0 0 gp))] := hD
  refine vx_widen (k := 1) (n := 6) (Nat.le_of_ble_eq_true rfl) (Nat.le_of_ble_eq_true rfl) ?_
  exact r_out C htab hce hcv hcl hP hD hS rfl (Nat.le_of_ble_eq_true rfl) (Nat.le_of_ble_eq_true rfl)
set_option maxHeartbeats 4000000 in
set_option maxRecDepth 100000 in
theorem k_watched (l : Launch) (hlt : l.stackTraces = false) (D : va_G) (cI cZ cJ : ClassId) (x : Nat) (inp : Nat) (par : Nat) (pla : Nat) (dra : Nat) (lat : Nat) (his : Nat) (f1 : Nat) (f2 : Nat) (hd : Int32) (ec : Int32) (ea : Int32) (g : Nat → Value) (gp : Nat → Value) (a0 : Int32)  : cX l yX11_watched cX11_watched 2 (some .long) D (TT cI cZ cJ) [.ref x, .int a0] [(x, .inr (10, xC inp par pla dra lat his f1 f2 hd ec ea g)), (pla, .inr (5, pC 0 0 0 gp))] "java/lang/IllegalStateException" [(x, .inr (10, xC inp par pla dra lat his f1 f2 hd ec ea g)), (pla, .inr (5, pC 0 0 0 gp))] 1 1 6 := by
  refine enterX (by decide) (Nat.le_of_ble_eq_true rfl) ?_
  intro p e s m below meth c ls A C htab hP hD hS hl
  have hx := C.1
  have hb := C.2.1
  have hl : lv_has ls 2 [(0, .ref x), (1, .int a0)] := hl
  refine lv_aload_n hx hb dX11_watched_0 rfl (lv_at hl 0 rfl) ?_
  refine call_X (wr := []) C (run_VX (As := []) (rest := []) C (k_needPolygon l hlt D cI cZ cJ x inp par pla dra lat his f1 f2 hd ec ea g gp ) cV_X11_155 hP hD hS [0, 1] rfl rfl 0 rfl rfl rfl rfl hl.1 rfl (Nat.le_of_ble_eq_true rfl) dX11_watched_1 ⟨Nat.le_of_ble_eq_true rfl, Nat.le_of_ble_eq_true rfl⟩ ⟨Nat.le_of_ble_eq_true rfl, Nat.le_of_ble_eq_true rfl⟩) hP hD hS [0, 1] [] rfl rfl rfl (by decide) (fun ce q9 H locs hce hcv hcl hP hD hS => ?_)
  have hP : va_P D CL [(x, .inr (10, xC inp par pla dra lat his f1 f2 hd ec ea g)), (pla, .inr (5, pC 0 0 0 gp))] H := hP
  have hD : va_D A [(x, .inr (10, xC inp par pla dra lat his f1 f2 hd ec ea g)), (pla, .inr (5, pC 0 0 0 gp))] := hD
  refine vx_widen (k := 1) (n := 6) (Nat.le_of_ble_eq_true rfl) (Nat.le_of_ble_eq_true rfl) ?_
  exact r_out C htab hce hcv hcl hP hD hS rfl (Nat.le_of_ble_eq_true rfl) (Nat.le_of_ble_eq_true rfl)
set_option maxHeartbeats 4000000 in
set_option maxRecDepth 100000 in
theorem k_unwatched (l : Launch) (hlt : l.stackTraces = false) (D : va_G) (cI cZ cJ : ClassId) (x : Nat) (inp : Nat) (par : Nat) (pla : Nat) (dra : Nat) (lat : Nat) (his : Nat) (f1 : Nat) (f2 : Nat) (hd : Int32) (ec : Int32) (ea : Int32) (g : Nat → Value) (gp : Nat → Value)  : cX l yX11_unwatched cX11_unwatched 1 (some .long) D (TT cI cZ cJ) [.ref x] [(x, .inr (10, xC inp par pla dra lat his f1 f2 hd ec ea g)), (pla, .inr (5, pC 0 0 0 gp))] "java/lang/IllegalStateException" [(x, .inr (10, xC inp par pla dra lat his f1 f2 hd ec ea g)), (pla, .inr (5, pC 0 0 0 gp))] 1 1 6 := by
  refine enterX (by decide) (Nat.le_of_ble_eq_true rfl) ?_
  intro p e s m below meth c ls A C htab hP hD hS hl
  have hx := C.1
  have hb := C.2.1
  have hl : lv_has ls 1 [(0, .ref x)] := hl
  refine lv_aload_n hx hb dX11_unwatched_0 rfl (lv_at hl 0 rfl) ?_
  refine call_X (wr := []) C (run_VX (As := []) (rest := []) C (k_needPolygon l hlt D cI cZ cJ x inp par pla dra lat his f1 f2 hd ec ea g gp ) cV_X11_155 hP hD hS [0, 1] rfl rfl 0 rfl rfl rfl rfl hl.1 rfl (Nat.le_of_ble_eq_true rfl) dX11_unwatched_1 ⟨Nat.le_of_ble_eq_true rfl, Nat.le_of_ble_eq_true rfl⟩ ⟨Nat.le_of_ble_eq_true rfl, Nat.le_of_ble_eq_true rfl⟩) hP hD hS [0, 1] [] rfl rfl rfl (by decide) (fun ce q9 H locs hce hcv hcl hP hD hS => ?_)
  have hP : va_P D CL [(x, .inr (10, xC inp par pla dra lat his f1 f2 hd ec ea g)), (pla, .inr (5, pC 0 0 0 gp))] H := hP
  have hD : va_D A [(x, .inr (10, xC inp par pla dra lat his f1 f2 hd ec ea g)), (pla, .inr (5, pC 0 0 0 gp))] := hD
  refine vx_widen (k := 1) (n := 6) (Nat.le_of_ble_eq_true rfl) (Nat.le_of_ble_eq_true rfl) ?_
  exact r_out C htab hce hcv hcl hP hD hS rfl (Nat.le_of_ble_eq_true rfl) (Nat.le_of_ble_eq_true rfl)
set_option maxHeartbeats 4000000 in
set_option maxRecDepth 100000 in
theorem k_watchers (l : Launch) (hlt : l.stackTraces = false) (D : va_G) (cI cZ cJ : ClassId) (x : Nat) (inp : Nat) (par : Nat) (pla : Nat) (dra : Nat) (lat : Nat) (his : Nat) (f1 : Nat) (f2 : Nat) (hd : Int32) (ec : Int32) (ea : Int32) (g : Nat → Value) (gp : Nat → Value) (a0 : Int32)  : cX l yX11_watchers cX11_watchers 2 (some .int) D (TT cI cZ cJ) [.ref x, .int a0] [(x, .inr (10, xC inp par pla dra lat his f1 f2 hd ec ea g)), (pla, .inr (5, pC 0 0 0 gp))] "java/lang/IllegalStateException" [(x, .inr (10, xC inp par pla dra lat his f1 f2 hd ec ea g)), (pla, .inr (5, pC 0 0 0 gp))] 1 1 6 := by
  refine enterX (by decide) (Nat.le_of_ble_eq_true rfl) ?_
  intro p e s m below meth c ls A C htab hP hD hS hl
  have hx := C.1
  have hb := C.2.1
  have hl : lv_has ls 2 [(0, .ref x), (1, .int a0)] := hl
  refine lv_aload_n hx hb dX11_watchers_0 rfl (lv_at hl 0 rfl) ?_
  refine call_X (wr := []) C (run_VX (As := []) (rest := []) C (k_needPolygon l hlt D cI cZ cJ x inp par pla dra lat his f1 f2 hd ec ea g gp ) cV_X11_155 hP hD hS [0, 1] rfl rfl 0 rfl rfl rfl rfl hl.1 rfl (Nat.le_of_ble_eq_true rfl) dX11_watchers_1 ⟨Nat.le_of_ble_eq_true rfl, Nat.le_of_ble_eq_true rfl⟩ ⟨Nat.le_of_ble_eq_true rfl, Nat.le_of_ble_eq_true rfl⟩) hP hD hS [0, 1] [] rfl rfl rfl (by decide) (fun ce q9 H locs hce hcv hcl hP hD hS => ?_)
  have hP : va_P D CL [(x, .inr (10, xC inp par pla dra lat his f1 f2 hd ec ea g)), (pla, .inr (5, pC 0 0 0 gp))] H := hP
  have hD : va_D A [(x, .inr (10, xC inp par pla dra lat his f1 f2 hd ec ea g)), (pla, .inr (5, pC 0 0 0 gp))] := hD
  refine vx_widen (k := 1) (n := 6) (Nat.le_of_ble_eq_true rfl) (Nat.le_of_ble_eq_true rfl) ?_
  exact r_out C htab hce hcv hcl hP hD hS rfl (Nat.le_of_ble_eq_true rfl) (Nat.le_of_ble_eq_true rfl)
set_option maxHeartbeats 4000000 in
set_option maxRecDepth 100000 in
theorem k_redundantGuards (l : Launch) (hlt : l.stackTraces = false) (D : va_G) (cI cZ cJ : ClassId) (x : Nat) (inp : Nat) (par : Nat) (pla : Nat) (dra : Nat) (lat : Nat) (his : Nat) (f1 : Nat) (f2 : Nat) (hd : Int32) (ec : Int32) (ea : Int32) (g : Nat → Value) (gp : Nat → Value)  : cX l yX11_redundantGuards cX11_redundantGuards 1 (some .int) D (TT cI cZ cJ) [.ref x] [(x, .inr (10, xC inp par pla dra lat his f1 f2 hd ec ea g)), (pla, .inr (5, pC 0 0 0 gp))] "java/lang/IllegalStateException" [(x, .inr (10, xC inp par pla dra lat his f1 f2 hd ec ea g)), (pla, .inr (5, pC 0 0 0 gp))] 1 1 6 := by
  refine enterX (by decide) (Nat.le_of_ble_eq_true rfl) ?_
  intro p e s m below meth c ls A C htab hP hD hS hl
  have hx := C.1
  have hb := C.2.1
  have hl : lv_has ls 1 [(0, .ref x)] := hl
  refine lv_aload_n hx hb dX11_redundantGuards_0 rfl (lv_at hl 0 rfl) ?_
  refine call_X (wr := []) C (run_VX (As := []) (rest := []) C (k_needPolygon l hlt D cI cZ cJ x inp par pla dra lat his f1 f2 hd ec ea g gp ) cV_X11_155 hP hD hS [0, 1] rfl rfl 0 rfl rfl rfl rfl hl.1 rfl (Nat.le_of_ble_eq_true rfl) dX11_redundantGuards_1 ⟨Nat.le_of_ble_eq_true rfl, Nat.le_of_ble_eq_true rfl⟩ ⟨Nat.le_of_ble_eq_true rfl, Nat.le_of_ble_eq_true rfl⟩) hP hD hS [0, 1] [] rfl rfl rfl (by decide) (fun ce q9 H locs hce hcv hcl hP hD hS => ?_)
  have hP : va_P D CL [(x, .inr (10, xC inp par pla dra lat his f1 f2 hd ec ea g)), (pla, .inr (5, pC 0 0 0 gp))] H := hP
  have hD : va_D A [(x, .inr (10, xC inp par pla dra lat his f1 f2 hd ec ea g)), (pla, .inr (5, pC 0 0 0 gp))] := hD
  refine vx_widen (k := 1) (n := 6) (Nat.le_of_ble_eq_true rfl) (Nat.le_of_ble_eq_true rfl) ?_
  exact r_out C htab hce hcv hcl hP hD hS rfl (Nat.le_of_ble_eq_true rfl) (Nat.le_of_ble_eq_true rfl)
set_option maxHeartbeats 4000000 in
set_option maxRecDepth 100000 in
theorem k_bestPoint (l : Launch) (hlt : l.stackTraces = false) (D : va_G) (cI cZ cJ : ClassId) (x : Nat) (inp : Nat) (par : Nat) (pla : Nat) (dra : Nat) (lat : Nat) (his : Nat) (f1 : Nat) (f2 : Nat) (hd : Int32) (ec : Int32) (ea : Int32) (g : Nat → Value) (gp : Nat → Value)  : cX l yX11_bestPoint cX11_bestPoint 1 (some .int) D (TT cI cZ cJ) [.ref x] [(x, .inr (10, xC inp par pla dra lat his f1 f2 hd ec ea g)), (pla, .inr (5, pC 0 0 0 gp))] "java/lang/IllegalStateException" [(x, .inr (10, xC inp par pla dra lat his f1 f2 hd ec ea g)), (pla, .inr (5, pC 0 0 0 gp))] 1 1 6 := by
  refine enterX (by decide) (Nat.le_of_ble_eq_true rfl) ?_
  intro p e s m below meth c ls A C htab hP hD hS hl
  have hx := C.1
  have hb := C.2.1
  have hl : lv_has ls 1 [(0, .ref x)] := hl
  refine lv_aload_n hx hb dX11_bestPoint_0 rfl (lv_at hl 0 rfl) ?_
  refine call_X (wr := []) C (run_VX (As := []) (rest := []) C (k_needPolygon l hlt D cI cZ cJ x inp par pla dra lat his f1 f2 hd ec ea g gp ) cV_X11_155 hP hD hS [0, 1] rfl rfl 0 rfl rfl rfl rfl hl.1 rfl (Nat.le_of_ble_eq_true rfl) dX11_bestPoint_1 ⟨Nat.le_of_ble_eq_true rfl, Nat.le_of_ble_eq_true rfl⟩ ⟨Nat.le_of_ble_eq_true rfl, Nat.le_of_ble_eq_true rfl⟩) hP hD hS [0, 1] [] rfl rfl rfl (by decide) (fun ce q9 H locs hce hcv hcl hP hD hS => ?_)
  have hP : va_P D CL [(x, .inr (10, xC inp par pla dra lat his f1 f2 hd ec ea g)), (pla, .inr (5, pC 0 0 0 gp))] H := hP
  have hD : va_D A [(x, .inr (10, xC inp par pla dra lat his f1 f2 hd ec ea g)), (pla, .inr (5, pC 0 0 0 gp))] := hD
  refine vx_widen (k := 1) (n := 6) (Nat.le_of_ble_eq_true rfl) (Nat.le_of_ble_eq_true rfl) ?_
  exact r_out C htab hce hcv hcl hP hD hS rfl (Nat.le_of_ble_eq_true rfl) (Nat.le_of_ble_eq_true rfl)
set_option maxHeartbeats 4000000 in
set_option maxRecDepth 100000 in
theorem k_greedyGuards (l : Launch) (hlt : l.stackTraces = false) (D : va_G) (cI cZ cJ : ClassId) (x : Nat) (inp : Nat) (par : Nat) (pla : Nat) (dra : Nat) (lat : Nat) (his : Nat) (f1 : Nat) (f2 : Nat) (hd : Int32) (ec : Int32) (ea : Int32) (g : Nat → Value) (gp : Nat → Value)  : cX l yX11_greedyGuards cX11_greedyGuards 1 (some .int) D (TT cI cZ cJ) [.ref x] [(x, .inr (10, xC inp par pla dra lat his f1 f2 hd ec ea g)), (pla, .inr (5, pC 0 0 0 gp))] "java/lang/IllegalStateException" [(x, .inr (10, xC inp par pla dra lat his f1 f2 hd ec ea g)), (pla, .inr (5, pC 0 0 0 gp))] 1 1 6 := by
  refine enterX (by decide) (Nat.le_of_ble_eq_true rfl) ?_
  intro p e s m below meth c ls A C htab hP hD hS hl
  have hx := C.1
  have hb := C.2.1
  have hl : lv_has ls 1 [(0, .ref x)] := hl
  refine lv_aload_n hx hb dX11_greedyGuards_0 rfl (lv_at hl 0 rfl) ?_
  refine call_X (wr := []) C (run_VX (As := []) (rest := []) C (k_needPolygon l hlt D cI cZ cJ x inp par pla dra lat his f1 f2 hd ec ea g gp ) cV_X11_155 hP hD hS [0, 1] rfl rfl 0 rfl rfl rfl rfl hl.1 rfl (Nat.le_of_ble_eq_true rfl) dX11_greedyGuards_1 ⟨Nat.le_of_ble_eq_true rfl, Nat.le_of_ble_eq_true rfl⟩ ⟨Nat.le_of_ble_eq_true rfl, Nat.le_of_ble_eq_true rfl⟩) hP hD hS [0, 1] [] rfl rfl rfl (by decide) (fun ce q9 H locs hce hcv hcl hP hD hS => ?_)
  have hP : va_P D CL [(x, .inr (10, xC inp par pla dra lat his f1 f2 hd ec ea g)), (pla, .inr (5, pC 0 0 0 gp))] H := hP
  have hD : va_D A [(x, .inr (10, xC inp par pla dra lat his f1 f2 hd ec ea g)), (pla, .inr (5, pC 0 0 0 gp))] := hD
  refine vx_widen (k := 1) (n := 6) (Nat.le_of_ble_eq_true rfl) (Nat.le_of_ble_eq_true rfl) ?_
  exact r_out C htab hce hcv hcl hP hD hS rfl (Nat.le_of_ble_eq_true rfl) (Nat.le_of_ble_eq_true rfl)
set_option maxHeartbeats 4000000 in
set_option maxRecDepth 100000 in
theorem k_treasureAt (l : Launch) (hlt : l.stackTraces = false) (D : va_G) (cI cZ cJ : ClassId) (x : Nat) (inp : Nat) (par : Nat) (pla : Nat) (dra : Nat) (lat : Nat) (his : Nat) (f1 : Nat) (f2 : Nat) (hd : Int32) (ec : Int32) (ea : Int32) (g : Nat → Value) (gp : Nat → Value) (a0 : Int32)  : cX l yX11_treasureAt cX11_treasureAt 2 (some .int) D (TT cI cZ cJ) [.ref x, .int a0] [(x, .inr (10, xC inp par pla dra lat his f1 f2 hd ec ea g)), (pla, .inr (5, pC 0 0 0 gp))] "java/lang/IllegalStateException" [(x, .inr (10, xC inp par pla dra lat his f1 f2 hd ec ea g)), (pla, .inr (5, pC 0 0 0 gp))] 1 1 6 := by
  refine enterX (by decide) (Nat.le_of_ble_eq_true rfl) ?_
  intro p e s m below meth c ls A C htab hP hD hS hl
  have hx := C.1
  have hb := C.2.1
  have hl : lv_has ls 2 [(0, .ref x), (1, .int a0)] := hl
  refine lv_aload_n hx hb dX11_treasureAt_0 rfl (lv_at hl 0 rfl) ?_
  refine call_X (wr := []) C (run_VX (As := []) (rest := []) C (k_needPolygon l hlt D cI cZ cJ x inp par pla dra lat his f1 f2 hd ec ea g gp ) cV_X11_155 hP hD hS [0, 1] rfl rfl 0 rfl rfl rfl rfl hl.1 rfl (Nat.le_of_ble_eq_true rfl) dX11_treasureAt_1 ⟨Nat.le_of_ble_eq_true rfl, Nat.le_of_ble_eq_true rfl⟩ ⟨Nat.le_of_ble_eq_true rfl, Nat.le_of_ble_eq_true rfl⟩) hP hD hS [0, 1] [] rfl rfl rfl (by decide) (fun ce q9 H locs hce hcv hcl hP hD hS => ?_)
  have hP : va_P D CL [(x, .inr (10, xC inp par pla dra lat his f1 f2 hd ec ea g)), (pla, .inr (5, pC 0 0 0 gp))] H := hP
  have hD : va_D A [(x, .inr (10, xC inp par pla dra lat his f1 f2 hd ec ea g)), (pla, .inr (5, pC 0 0 0 gp))] := hD
  refine vx_widen (k := 1) (n := 6) (Nat.le_of_ble_eq_true rfl) (Nat.le_of_ble_eq_true rfl) ?_
  exact r_out C htab hce hcv hcl hP hD hS rfl (Nat.le_of_ble_eq_true rfl) (Nat.le_of_ble_eq_true rfl)
set_option maxHeartbeats 4000000 in
set_option maxRecDepth 100000 in
theorem k_watchedValue (l : Launch) (hlt : l.stackTraces = false) (D : va_G) (cI cZ cJ : ClassId) (x : Nat) (inp : Nat) (par : Nat) (pla : Nat) (dra : Nat) (lat : Nat) (his : Nat) (f1 : Nat) (f2 : Nat) (hd : Int32) (ec : Int32) (ea : Int32) (g : Nat → Value) (gp : Nat → Value)  : cX l yX11_watchedValue cX11_watchedValue 1 (some .int) D (TT cI cZ cJ) [.ref x] [(x, .inr (10, xC inp par pla dra lat his f1 f2 hd ec ea g)), (pla, .inr (5, pC 0 0 0 gp))] "java/lang/IllegalStateException" [(x, .inr (10, xC inp par pla dra lat his f1 f2 hd ec ea g)), (pla, .inr (5, pC 0 0 0 gp))] 1 1 6 := by
  refine enterX (by decide) (Nat.le_of_ble_eq_true rfl) ?_
  intro p e s m below meth c ls A C htab hP hD hS hl
  have hx := C.1
  have hb := C.2.1
  have hl : lv_has ls 1 [(0, .ref x)] := hl
  refine lv_aload_n hx hb dX11_watchedValue_0 rfl (lv_at hl 0 rfl) ?_
  refine call_X (wr := []) C (run_VX (As := []) (rest := []) C (k_needPolygon l hlt D cI cZ cJ x inp par pla dra lat his f1 f2 hd ec ea g gp ) cV_X11_155 hP hD hS [0, 1] rfl rfl 0 rfl rfl rfl rfl hl.1 rfl (Nat.le_of_ble_eq_true rfl) dX11_watchedValue_1 ⟨Nat.le_of_ble_eq_true rfl, Nat.le_of_ble_eq_true rfl⟩ ⟨Nat.le_of_ble_eq_true rfl, Nat.le_of_ble_eq_true rfl⟩) hP hD hS [0, 1] [] rfl rfl rfl (by decide) (fun ce q9 H locs hce hcv hcl hP hD hS => ?_)
  have hP : va_P D CL [(x, .inr (10, xC inp par pla dra lat his f1 f2 hd ec ea g)), (pla, .inr (5, pC 0 0 0 gp))] H := hP
  have hD : va_D A [(x, .inr (10, xC inp par pla dra lat his f1 f2 hd ec ea g)), (pla, .inr (5, pC 0 0 0 gp))] := hD
  refine vx_widen (k := 1) (n := 6) (Nat.le_of_ble_eq_true rfl) (Nat.le_of_ble_eq_true rfl) ?_
  exact r_out C htab hce hcv hcl hP hD hS rfl (Nat.le_of_ble_eq_true rfl) (Nat.le_of_ble_eq_true rfl)
set_option maxHeartbeats 4000000 in
set_option maxRecDepth 100000 in
theorem k_bestValue (l : Launch) (hlt : l.stackTraces = false) (D : va_G) (cI cZ cJ : ClassId) (x : Nat) (inp : Nat) (par : Nat) (pla : Nat) (dra : Nat) (lat : Nat) (his : Nat) (f1 : Nat) (f2 : Nat) (hd : Int32) (ec : Int32) (ea : Int32) (g : Nat → Value) (gp : Nat → Value)  : cX l yX11_bestValue cX11_bestValue 1 (some .int) D (TT cI cZ cJ) [.ref x] [(x, .inr (10, xC inp par pla dra lat his f1 f2 hd ec ea g)), (pla, .inr (5, pC 0 0 0 gp))] "java/lang/IllegalStateException" [(x, .inr (10, xC inp par pla dra lat his f1 f2 hd ec ea g)), (pla, .inr (5, pC 0 0 0 gp))] 1 1 6 := by
  refine enterX (by decide) (Nat.le_of_ble_eq_true rfl) ?_
  intro p e s m below meth c ls A C htab hP hD hS hl
  have hx := C.1
  have hb := C.2.1
  have hl : lv_has ls 1 [(0, .ref x)] := hl
  refine lv_aload_n hx hb dX11_bestValue_0 rfl (lv_at hl 0 rfl) ?_
  refine call_X (wr := []) C (run_VX (As := []) (rest := []) C (k_needPolygon l hlt D cI cZ cJ x inp par pla dra lat his f1 f2 hd ec ea g gp ) cV_X11_155 hP hD hS [0, 1] rfl rfl 0 rfl rfl rfl rfl hl.1 rfl (Nat.le_of_ble_eq_true rfl) dX11_bestValue_1 ⟨Nat.le_of_ble_eq_true rfl, Nat.le_of_ble_eq_true rfl⟩ ⟨Nat.le_of_ble_eq_true rfl, Nat.le_of_ble_eq_true rfl⟩) hP hD hS [0, 1] [] rfl rfl rfl (by decide) (fun ce q9 H locs hce hcv hcl hP hD hS => ?_)
  have hP : va_P D CL [(x, .inr (10, xC inp par pla dra lat his f1 f2 hd ec ea g)), (pla, .inr (5, pC 0 0 0 gp))] H := hP
  have hD : va_D A [(x, .inr (10, xC inp par pla dra lat his f1 f2 hd ec ea g)), (pla, .inr (5, pC 0 0 0 gp))] := hD
  refine vx_widen (k := 1) (n := 6) (Nat.le_of_ble_eq_true rfl) (Nat.le_of_ble_eq_true rfl) ?_
  exact r_out C htab hce hcv hcl hP hD hS rfl (Nat.le_of_ble_eq_true rfl) (Nat.le_of_ble_eq_true rfl)
set_option maxHeartbeats 4000000 in
set_option maxRecDepth 100000 in
theorem k_draw (l : Launch) (hlt : l.stackTraces = false) (D : va_G) (cI cZ cJ : ClassId) (x : Nat) (inp : Nat) (par : Nat) (pla : Nat) (dra : Nat) (lat : Nat) (his : Nat) (f1 : Nat) (f2 : Nat) (hd : Int32) (ec : Int32) (ea : Int32) (g : Nat → Value) (gp : Nat → Value) (a0 : Int32)  : cX l yX11_draw cX11_draw 6 (some .int) D (TT cI cZ cJ) [.ref x, .int a0] [(x, .inr (10, xC inp par pla dra lat his f1 f2 hd ec ea g)), (pla, .inr (5, pC 0 0 0 gp))] "java/lang/IllegalStateException" [(x, .inr (10, xC inp par pla dra lat his f1 f2 hd ec ea g)), (pla, .inr (5, pC 0 0 0 gp))] 1 1 6 := by
  refine enterX (by decide) (Nat.le_of_ble_eq_true rfl) ?_
  intro p e s m below meth c ls A C htab hP hD hS hl
  have hx := C.1
  have hb := C.2.1
  have hl : lv_has ls 6 [(0, .ref x), (1, .int a0)] := hl
  refine lv_aload_n hx hb dX11_draw_0 rfl (lv_at hl 0 rfl) ?_
  refine call_X (wr := []) C (run_VX (As := []) (rest := []) C (k_needPolygon l hlt D cI cZ cJ x inp par pla dra lat his f1 f2 hd ec ea g gp ) cV_X11_155 hP hD hS [0, 1] rfl rfl 0 rfl rfl rfl rfl hl.1 rfl (Nat.le_of_ble_eq_true rfl) dX11_draw_1 ⟨Nat.le_of_ble_eq_true rfl, Nat.le_of_ble_eq_true rfl⟩ ⟨Nat.le_of_ble_eq_true rfl, Nat.le_of_ble_eq_true rfl⟩) hP hD hS [0, 1] [] rfl rfl rfl (by decide) (fun ce q9 H locs hce hcv hcl hP hD hS => ?_)
  have hP : va_P D CL [(x, .inr (10, xC inp par pla dra lat his f1 f2 hd ec ea g)), (pla, .inr (5, pC 0 0 0 gp))] H := hP
  have hD : va_D A [(x, .inr (10, xC inp par pla dra lat his f1 f2 hd ec ea g)), (pla, .inr (5, pC 0 0 0 gp))] := hD
  refine vx_widen (k := 1) (n := 6) (Nat.le_of_ble_eq_true rfl) (Nat.le_of_ble_eq_true rfl) ?_
  exact r_out C htab hce hcv hcl hP hD hS rfl (Nat.le_of_ble_eq_true rfl) (Nat.le_of_ble_eq_true rfl)
set_option maxHeartbeats 4000000 in
set_option maxRecDepth 100000 in
theorem k_addGuard (l : Launch) (hlt : l.stackTraces = false) (D : va_G) (cI cZ cJ : ClassId) (x : Nat) (inp : Nat) (par : Nat) (pla : Nat) (dra : Nat) (lat : Nat) (his : Nat) (f1 : Nat) (f2 : Nat) (hd : Int32) (ec : Int32) (ea : Int32) (g : Nat → Value) (gp : Nat → Value) (a0 : Int32) (a1 : Int32)  : cX l yX11_addGuard cX11_addGuard 3 (some .int) D (TT cI cZ cJ) [.ref x, .int a0, .int a1] [(x, .inr (10, xC inp par pla dra lat his f1 f2 hd ec ea g)), (pla, .inr (5, pC 0 0 0 gp))] "java/lang/IllegalStateException" [(x, .inr (10, xC inp par pla dra lat his f1 f2 hd ec ea g)), (pla, .inr (5, pC 0 0 0 gp))] 1 1 6 := by
  refine enterX (by decide) (Nat.le_of_ble_eq_true rfl) ?_
  intro p e s m below meth c ls A C htab hP hD hS hl
  have hx := C.1
  have hb := C.2.1
  have hl : lv_has ls 3 [(0, .ref x), (1, .int a0), (2, .int a1)] := hl
  refine lv_aload_n hx hb dX11_addGuard_0 rfl (lv_at hl 0 rfl) ?_
  refine call_X (wr := []) C (run_VX (As := []) (rest := []) C (k_needPolygon l hlt D cI cZ cJ x inp par pla dra lat his f1 f2 hd ec ea g gp ) cV_X11_155 hP hD hS [0, 1] rfl rfl 0 rfl rfl rfl rfl hl.1 rfl (Nat.le_of_ble_eq_true rfl) dX11_addGuard_1 ⟨Nat.le_of_ble_eq_true rfl, Nat.le_of_ble_eq_true rfl⟩ ⟨Nat.le_of_ble_eq_true rfl, Nat.le_of_ble_eq_true rfl⟩) hP hD hS [0, 1] [] rfl rfl rfl (by decide) (fun ce q9 H locs hce hcv hcl hP hD hS => ?_)
  have hP : va_P D CL [(x, .inr (10, xC inp par pla dra lat his f1 f2 hd ec ea g)), (pla, .inr (5, pC 0 0 0 gp))] H := hP
  have hD : va_D A [(x, .inr (10, xC inp par pla dra lat his f1 f2 hd ec ea g)), (pla, .inr (5, pC 0 0 0 gp))] := hD
  refine vx_widen (k := 1) (n := 6) (Nat.le_of_ble_eq_true rfl) (Nat.le_of_ble_eq_true rfl) ?_
  exact r_out C htab hce hcv hcl hP hD hS rfl (Nat.le_of_ble_eq_true rfl) (Nat.le_of_ble_eq_true rfl)
set_option maxHeartbeats 4000000 in
set_option maxRecDepth 100000 in
theorem k_removeGuard (l : Launch) (hlt : l.stackTraces = false) (D : va_G) (cI cZ cJ : ClassId) (x : Nat) (inp : Nat) (par : Nat) (pla : Nat) (dra : Nat) (lat : Nat) (his : Nat) (f1 : Nat) (f2 : Nat) (hd : Int32) (ec : Int32) (ea : Int32) (g : Nat → Value) (gp : Nat → Value) (a0 : Int32)  : cX l yX11_removeGuard cX11_removeGuard 2 (some .int) D (TT cI cZ cJ) [.ref x, .int a0] [(x, .inr (10, xC inp par pla dra lat his f1 f2 hd ec ea g)), (pla, .inr (5, pC 0 0 0 gp))] "java/lang/IllegalStateException" [(x, .inr (10, xC inp par pla dra lat his f1 f2 hd ec ea g)), (pla, .inr (5, pC 0 0 0 gp))] 1 1 6 := by
  refine enterX (by decide) (Nat.le_of_ble_eq_true rfl) ?_
  intro p e s m below meth c ls A C htab hP hD hS hl
  have hx := C.1
  have hb := C.2.1
  have hl : lv_has ls 2 [(0, .ref x), (1, .int a0)] := hl
  refine lv_aload_n hx hb dX11_removeGuard_0 rfl (lv_at hl 0 rfl) ?_
  refine call_X (wr := []) C (run_VX (As := []) (rest := []) C (k_needPolygon l hlt D cI cZ cJ x inp par pla dra lat his f1 f2 hd ec ea g gp ) cV_X11_155 hP hD hS [0, 1] rfl rfl 0 rfl rfl rfl rfl hl.1 rfl (Nat.le_of_ble_eq_true rfl) dX11_removeGuard_1 ⟨Nat.le_of_ble_eq_true rfl, Nat.le_of_ble_eq_true rfl⟩ ⟨Nat.le_of_ble_eq_true rfl, Nat.le_of_ble_eq_true rfl⟩) hP hD hS [0, 1] [] rfl rfl rfl (by decide) (fun ce q9 H locs hce hcv hcl hP hD hS => ?_)
  have hP : va_P D CL [(x, .inr (10, xC inp par pla dra lat his f1 f2 hd ec ea g)), (pla, .inr (5, pC 0 0 0 gp))] H := hP
  have hD : va_D A [(x, .inr (10, xC inp par pla dra lat his f1 f2 hd ec ea g)), (pla, .inr (5, pC 0 0 0 gp))] := hD
  refine vx_widen (k := 1) (n := 6) (Nat.le_of_ble_eq_true rfl) (Nat.le_of_ble_eq_true rfl) ?_
  exact r_out C htab hce hcv hcl hP hD hS rfl (Nat.le_of_ble_eq_true rfl) (Nat.le_of_ble_eq_true rfl)
set_option maxHeartbeats 4000000 in
set_option maxRecDepth 100000 in
theorem k_moveGuard (l : Launch) (hlt : l.stackTraces = false) (D : va_G) (cI cZ cJ : ClassId) (x : Nat) (inp : Nat) (par : Nat) (pla : Nat) (dra : Nat) (lat : Nat) (his : Nat) (f1 : Nat) (f2 : Nat) (hd : Int32) (ec : Int32) (ea : Int32) (g : Nat → Value) (gp : Nat → Value) (a0 : Int32) (a1 : Int32)  : cX l yX11_moveGuard cX11_moveGuard 4 (some .int) D (TT cI cZ cJ) [.ref x, .int a0, .int a1] [(x, .inr (10, xC inp par pla dra lat his f1 f2 hd ec ea g)), (pla, .inr (5, pC 0 0 0 gp))] "java/lang/IllegalStateException" [(x, .inr (10, xC inp par pla dra lat his f1 f2 hd ec ea g)), (pla, .inr (5, pC 0 0 0 gp))] 1 1 6 := by
  refine enterX (by decide) (Nat.le_of_ble_eq_true rfl) ?_
  intro p e s m below meth c ls A C htab hP hD hS hl
  have hx := C.1
  have hb := C.2.1
  have hl : lv_has ls 4 [(0, .ref x), (1, .int a0), (2, .int a1)] := hl
  refine lv_aload_n hx hb dX11_moveGuard_0 rfl (lv_at hl 0 rfl) ?_
  refine call_X (wr := []) C (run_VX (As := []) (rest := []) C (k_needPolygon l hlt D cI cZ cJ x inp par pla dra lat his f1 f2 hd ec ea g gp ) cV_X11_155 hP hD hS [0, 1] rfl rfl 0 rfl rfl rfl rfl hl.1 rfl (Nat.le_of_ble_eq_true rfl) dX11_moveGuard_1 ⟨Nat.le_of_ble_eq_true rfl, Nat.le_of_ble_eq_true rfl⟩ ⟨Nat.le_of_ble_eq_true rfl, Nat.le_of_ble_eq_true rfl⟩) hP hD hS [0, 1] [] rfl rfl rfl (by decide) (fun ce q9 H locs hce hcv hcl hP hD hS => ?_)
  have hP : va_P D CL [(x, .inr (10, xC inp par pla dra lat his f1 f2 hd ec ea g)), (pla, .inr (5, pC 0 0 0 gp))] H := hP
  have hD : va_D A [(x, .inr (10, xC inp par pla dra lat his f1 f2 hd ec ea g)), (pla, .inr (5, pC 0 0 0 gp))] := hD
  refine vx_widen (k := 1) (n := 6) (Nat.le_of_ble_eq_true rfl) (Nat.le_of_ble_eq_true rfl) ?_
  exact r_out C htab hce hcv hcl hP hD hS rfl (Nat.le_of_ble_eq_true rfl) (Nat.le_of_ble_eq_true rfl)
set_option maxHeartbeats 4000000 in
set_option maxRecDepth 100000 in
theorem k_setRange (l : Launch) (hlt : l.stackTraces = false) (D : va_G) (cI cZ cJ : ClassId) (x : Nat) (inp : Nat) (par : Nat) (pla : Nat) (dra : Nat) (lat : Nat) (his : Nat) (f1 : Nat) (f2 : Nat) (hd : Int32) (ec : Int32) (ea : Int32) (g : Nat → Value) (gp : Nat → Value) (a0 : Int32) (a1 : Int32)  : cX l yX11_setRange cX11_setRange 4 (some .int) D (TT cI cZ cJ) [.ref x, .int a0, .int a1] [(x, .inr (10, xC inp par pla dra lat his f1 f2 hd ec ea g)), (pla, .inr (5, pC 0 0 0 gp))] "java/lang/IllegalStateException" [(x, .inr (10, xC inp par pla dra lat his f1 f2 hd ec ea g)), (pla, .inr (5, pC 0 0 0 gp))] 1 1 6 := by
  refine enterX (by decide) (Nat.le_of_ble_eq_true rfl) ?_
  intro p e s m below meth c ls A C htab hP hD hS hl
  have hx := C.1
  have hb := C.2.1
  have hl : lv_has ls 4 [(0, .ref x), (1, .int a0), (2, .int a1)] := hl
  refine lv_aload_n hx hb dX11_setRange_0 rfl (lv_at hl 0 rfl) ?_
  refine call_X (wr := []) C (run_VX (As := []) (rest := []) C (k_needPolygon l hlt D cI cZ cJ x inp par pla dra lat his f1 f2 hd ec ea g gp ) cV_X11_155 hP hD hS [0, 1] rfl rfl 0 rfl rfl rfl rfl hl.1 rfl (Nat.le_of_ble_eq_true rfl) dX11_setRange_1 ⟨Nat.le_of_ble_eq_true rfl, Nat.le_of_ble_eq_true rfl⟩ ⟨Nat.le_of_ble_eq_true rfl, Nat.le_of_ble_eq_true rfl⟩) hP hD hS [0, 1] [] rfl rfl rfl (by decide) (fun ce q9 H locs hce hcv hcl hP hD hS => ?_)
  have hP : va_P D CL [(x, .inr (10, xC inp par pla dra lat his f1 f2 hd ec ea g)), (pla, .inr (5, pC 0 0 0 gp))] H := hP
  have hD : va_D A [(x, .inr (10, xC inp par pla dra lat his f1 f2 hd ec ea g)), (pla, .inr (5, pC 0 0 0 gp))] := hD
  refine vx_widen (k := 1) (n := 6) (Nat.le_of_ble_eq_true rfl) (Nat.le_of_ble_eq_true rfl) ?_
  exact r_out C htab hce hcv hcl hP hD hS rfl (Nat.le_of_ble_eq_true rfl) (Nat.le_of_ble_eq_true rfl)
set_option maxHeartbeats 4000000 in
set_option maxRecDepth 100000 in
theorem k_moveVertex (l : Launch) (hlt : l.stackTraces = false) (D : va_G) (cI cZ cJ : ClassId) (x : Nat) (inp : Nat) (par : Nat) (pla : Nat) (dra : Nat) (lat : Nat) (his : Nat) (f1 : Nat) (f2 : Nat) (hd : Int32) (ec : Int32) (ea : Int32) (g : Nat → Value) (gp : Nat → Value) (a0 : Int32) (a1 : Int32) (a2 : Int32)  : cX l yX11_moveVertex cX11_moveVertex 4 (some .int) D (TT cI cZ cJ) [.ref x, .int a0, .int a1, .int a2] [(x, .inr (10, xC inp par pla dra lat his f1 f2 hd ec ea g)), (pla, .inr (5, pC 0 0 0 gp))] "java/lang/IllegalStateException" [(x, .inr (10, xC inp par pla dra lat his f1 f2 hd ec ea g)), (pla, .inr (5, pC 0 0 0 gp))] 1 1 6 := by
  refine enterX (by decide) (Nat.le_of_ble_eq_true rfl) ?_
  intro p e s m below meth c ls A C htab hP hD hS hl
  have hx := C.1
  have hb := C.2.1
  have hl : lv_has ls 4 [(0, .ref x), (1, .int a0), (2, .int a1), (3, .int a2)] := hl
  refine lv_aload_n hx hb dX11_moveVertex_0 rfl (lv_at hl 0 rfl) ?_
  refine call_X (wr := []) C (run_VX (As := []) (rest := []) C (k_needPolygon l hlt D cI cZ cJ x inp par pla dra lat his f1 f2 hd ec ea g gp ) cV_X11_155 hP hD hS [0, 1] rfl rfl 0 rfl rfl rfl rfl hl.1 rfl (Nat.le_of_ble_eq_true rfl) dX11_moveVertex_1 ⟨Nat.le_of_ble_eq_true rfl, Nat.le_of_ble_eq_true rfl⟩ ⟨Nat.le_of_ble_eq_true rfl, Nat.le_of_ble_eq_true rfl⟩) hP hD hS [0, 1] [] rfl rfl rfl (by decide) (fun ce q9 H locs hce hcv hcl hP hD hS => ?_)
  have hP : va_P D CL [(x, .inr (10, xC inp par pla dra lat his f1 f2 hd ec ea g)), (pla, .inr (5, pC 0 0 0 gp))] H := hP
  have hD : va_D A [(x, .inr (10, xC inp par pla dra lat his f1 f2 hd ec ea g)), (pla, .inr (5, pC 0 0 0 gp))] := hD
  refine vx_widen (k := 1) (n := 6) (Nat.le_of_ble_eq_true rfl) (Nat.le_of_ble_eq_true rfl) ?_
  exact r_out C htab hce hcv hcl hP hD hS rfl (Nat.le_of_ble_eq_true rfl) (Nat.le_of_ble_eq_true rfl)
set_option maxHeartbeats 4000000 in
set_option maxRecDepth 100000 in
theorem k_insertVertex (l : Launch) (hlt : l.stackTraces = false) (D : va_G) (cI cZ cJ : ClassId) (x : Nat) (inp : Nat) (par : Nat) (pla : Nat) (dra : Nat) (lat : Nat) (his : Nat) (f1 : Nat) (f2 : Nat) (hd : Int32) (ec : Int32) (ea : Int32) (g : Nat → Value) (gp : Nat → Value) (a0 : Int32) (a1 : Int32) (a2 : Int32)  : cX l yX11_insertVertex cX11_insertVertex 4 (some .int) D (TT cI cZ cJ) [.ref x, .int a0, .int a1, .int a2] [(x, .inr (10, xC inp par pla dra lat his f1 f2 hd ec ea g)), (pla, .inr (5, pC 0 0 0 gp))] "java/lang/IllegalStateException" [(x, .inr (10, xC inp par pla dra lat his f1 f2 hd ec ea g)), (pla, .inr (5, pC 0 0 0 gp))] 1 1 6 := by
  refine enterX (by decide) (Nat.le_of_ble_eq_true rfl) ?_
  intro p e s m below meth c ls A C htab hP hD hS hl
  have hx := C.1
  have hb := C.2.1
  have hl : lv_has ls 4 [(0, .ref x), (1, .int a0), (2, .int a1), (3, .int a2)] := hl
  refine lv_aload_n hx hb dX11_insertVertex_0 rfl (lv_at hl 0 rfl) ?_
  refine call_X (wr := []) C (run_VX (As := []) (rest := []) C (k_needPolygon l hlt D cI cZ cJ x inp par pla dra lat his f1 f2 hd ec ea g gp ) cV_X11_155 hP hD hS [0, 1] rfl rfl 0 rfl rfl rfl rfl hl.1 rfl (Nat.le_of_ble_eq_true rfl) dX11_insertVertex_1 ⟨Nat.le_of_ble_eq_true rfl, Nat.le_of_ble_eq_true rfl⟩ ⟨Nat.le_of_ble_eq_true rfl, Nat.le_of_ble_eq_true rfl⟩) hP hD hS [0, 1] [] rfl rfl rfl (by decide) (fun ce q9 H locs hce hcv hcl hP hD hS => ?_)
  have hP : va_P D CL [(x, .inr (10, xC inp par pla dra lat his f1 f2 hd ec ea g)), (pla, .inr (5, pC 0 0 0 gp))] H := hP
  have hD : va_D A [(x, .inr (10, xC inp par pla dra lat his f1 f2 hd ec ea g)), (pla, .inr (5, pC 0 0 0 gp))] := hD
  refine vx_widen (k := 1) (n := 6) (Nat.le_of_ble_eq_true rfl) (Nat.le_of_ble_eq_true rfl) ?_
  exact r_out C htab hce hcv hcl hP hD hS rfl (Nat.le_of_ble_eq_true rfl) (Nat.le_of_ble_eq_true rfl)
set_option maxHeartbeats 4000000 in
set_option maxRecDepth 100000 in
theorem k_deleteVertex (l : Launch) (hlt : l.stackTraces = false) (D : va_G) (cI cZ cJ : ClassId) (x : Nat) (inp : Nat) (par : Nat) (pla : Nat) (dra : Nat) (lat : Nat) (his : Nat) (f1 : Nat) (f2 : Nat) (hd : Int32) (ec : Int32) (ea : Int32) (g : Nat → Value) (gp : Nat → Value) (a0 : Int32)  : cX l yX11_deleteVertex cX11_deleteVertex 2 (some .int) D (TT cI cZ cJ) [.ref x, .int a0] [(x, .inr (10, xC inp par pla dra lat his f1 f2 hd ec ea g)), (pla, .inr (5, pC 0 0 0 gp))] "java/lang/IllegalStateException" [(x, .inr (10, xC inp par pla dra lat his f1 f2 hd ec ea g)), (pla, .inr (5, pC 0 0 0 gp))] 1 1 6 := by
  refine enterX (by decide) (Nat.le_of_ble_eq_true rfl) ?_
  intro p e s m below meth c ls A C htab hP hD hS hl
  have hx := C.1
  have hb := C.2.1
  have hl : lv_has ls 2 [(0, .ref x), (1, .int a0)] := hl
  refine lv_aload_n hx hb dX11_deleteVertex_0 rfl (lv_at hl 0 rfl) ?_
  refine call_X (wr := []) C (run_VX (As := []) (rest := []) C (k_needPolygon l hlt D cI cZ cJ x inp par pla dra lat his f1 f2 hd ec ea g gp ) cV_X11_155 hP hD hS [0, 1] rfl rfl 0 rfl rfl rfl rfl hl.1 rfl (Nat.le_of_ble_eq_true rfl) dX11_deleteVertex_1 ⟨Nat.le_of_ble_eq_true rfl, Nat.le_of_ble_eq_true rfl⟩ ⟨Nat.le_of_ble_eq_true rfl, Nat.le_of_ble_eq_true rfl⟩) hP hD hS [0, 1] [] rfl rfl rfl (by decide) (fun ce q9 H locs hce hcv hcl hP hD hS => ?_)
  have hP : va_P D CL [(x, .inr (10, xC inp par pla dra lat his f1 f2 hd ec ea g)), (pla, .inr (5, pC 0 0 0 gp))] H := hP
  have hD : va_D A [(x, .inr (10, xC inp par pla dra lat his f1 f2 hd ec ea g)), (pla, .inr (5, pC 0 0 0 gp))] := hD
  refine vx_widen (k := 1) (n := 6) (Nat.le_of_ble_eq_true rfl) (Nat.le_of_ble_eq_true rfl) ?_
  exact r_out C htab hce hcv hcl hP hD hS rfl (Nat.le_of_ble_eq_true rfl) (Nat.le_of_ble_eq_true rfl)
set_option maxHeartbeats 4000000 in
set_option maxRecDepth 100000 in
theorem k_save (l : Launch) (hlt : l.stackTraces = false) (D : va_G) (cI cZ cJ : ClassId) (x : Nat) (inp : Nat) (par : Nat) (pla : Nat) (dra : Nat) (lat : Nat) (his : Nat) (f1 : Nat) (f2 : Nat) (hd : Int32) (ec : Int32) (ea : Int32) (g : Nat → Value) (gp : Nat → Value) (a0 : Int32)  : cX l yX11_save cX11_save 2 (some .int) D (TT cI cZ cJ) [.ref x, .int a0] [(x, .inr (10, xC inp par pla dra lat his f1 f2 hd ec ea g)), (pla, .inr (5, pC 0 0 0 gp))] "java/lang/IllegalStateException" [(x, .inr (10, xC inp par pla dra lat his f1 f2 hd ec ea g)), (pla, .inr (5, pC 0 0 0 gp))] 1 1 6 := by
  refine enterX (by decide) (Nat.le_of_ble_eq_true rfl) ?_
  intro p e s m below meth c ls A C htab hP hD hS hl
  have hx := C.1
  have hb := C.2.1
  have hl : lv_has ls 2 [(0, .ref x), (1, .int a0)] := hl
  refine lv_aload_n hx hb dX11_save_0 rfl (lv_at hl 0 rfl) ?_
  refine call_X (wr := []) C (run_VX (As := []) (rest := []) C (k_needPolygon l hlt D cI cZ cJ x inp par pla dra lat his f1 f2 hd ec ea g gp ) cV_X11_155 hP hD hS [0, 1] rfl rfl 0 rfl rfl rfl rfl hl.1 rfl (Nat.le_of_ble_eq_true rfl) dX11_save_1 ⟨Nat.le_of_ble_eq_true rfl, Nat.le_of_ble_eq_true rfl⟩ ⟨Nat.le_of_ble_eq_true rfl, Nat.le_of_ble_eq_true rfl⟩) hP hD hS [0, 1] [] rfl rfl rfl (by decide) (fun ce q9 H locs hce hcv hcl hP hD hS => ?_)
  have hP : va_P D CL [(x, .inr (10, xC inp par pla dra lat his f1 f2 hd ec ea g)), (pla, .inr (5, pC 0 0 0 gp))] H := hP
  have hD : va_D A [(x, .inr (10, xC inp par pla dra lat his f1 f2 hd ec ea g)), (pla, .inr (5, pC 0 0 0 gp))] := hD
  refine vx_widen (k := 1) (n := 6) (Nat.le_of_ble_eq_true rfl) (Nat.le_of_ble_eq_true rfl) ?_
  exact r_out C htab hce hcv hcl hP hD hS rfl (Nat.le_of_ble_eq_true rfl) (Nat.le_of_ble_eq_true rfl)
end
section
set_option maxHeartbeats 4000000 in
set_option maxRecDepth 100000 in
theorem h_vertexX (l : Launch) (hlt : l.stackTraces = false) (D : va_G) (cI cZ cJ : ClassId) (x : Nat) (inp : Nat) (par : Nat) (pla : Nat) (dra : Nat) (lat : Nat) (his : Nat) (f1 : Nat) (f2 : Nat) (hd : Int32) (ec : Int32) (ea : Int32) (g : Nat → Value) (gp : Nat → Value) (a0 : Int32) (o : Nat)  : cMW l yL_vertexX cL_vertexX 4 (some .int) [(0, 9, 12, 20), (0, 9, 15, 13)] D (TT cI cZ cJ) [.ref x, .int a0, .ref o] [(x, .inr (10, xC inp par pla dra lat his f1 f2 hd ec ea g)), (pla, .inr (5, pC 0 0 0 gp))] (qI D (TT cI cZ cJ) (fun u : Unit => 1) (fun u : Unit => [(x, .inr (10, xC inp par pla dra lat his f1 f2 hd ec ea g)), (pla, .inr (5, pC 0 0 0 gp))])) 2 1 6 := by
  refine enterW (by decide) (Nat.le_of_ble_eq_true rfl) ?_
  intro p e s m below meth c ls A C htab hP hD hS hl
  have hx := C.1
  have hb := C.2.1
  have hl : lv_has ls 4 [(0, .ref x), (1, .int a0), (2, .ref o)] := hl
  refine lv_aload_n hx hb dL_vertexX_0 rfl (lv_at hl 2 rfl) ?_
  refine lv_iconst (v := 0) hx hb dL_vertexX_1 (by decide) ?_
  refine lv_aload_n hx hb dL_vertexX_2 rfl (lv_at hl 0 rfl) ?_
  refine lv_iload_n hx hb dL_vertexX_3 rfl (lv_at hl 1 rfl) ?_
  refine call_X (wr := []) C (run_VX (As := [.int a0]) (rest := [.int 0, .ref o]) C (k_vertexX l hlt D cI cZ cJ x inp par pla dra lat his f1 f2 hd ec ea g gp a0 ) cV_L_17 hP hD hS [0, 1] rfl rfl 0 rfl rfl rfl rfl hl.1 rfl (Nat.le_of_ble_eq_true rfl) dL_vertexX_4 ⟨Nat.le_of_ble_eq_true rfl, Nat.le_of_ble_eq_true rfl⟩ ⟨Nat.le_of_ble_eq_true rfl, Nat.le_of_ble_eq_true rfl⟩) hP hD hS [0, 1] [] rfl rfl rfl (by decide) (fun ce q9 H locs hce hcv hcl hP hD hS => ?_)
  have hP : va_P D CL [(x, .inr (10, xC inp par pla dra lat his f1 f2 hd ec ea g)), (pla, .inr (5, pC 0 0 0 gp))] H := hP
  have hD : va_D A [(x, .inr (10, xC inp par pla dra lat his f1 f2 hd ec ea g)), (pla, .inr (5, pC 0 0 0 gp))] := hD
  refine vx_widen (k := 1) (n := 6) (Nat.le_of_ble_eq_true rfl) (Nat.le_of_ble_eq_true rfl) ?_
  refine r_catch C (by decide) [] ⟨0, 9, 12, 20⟩ [⟨0, 9, 15, 13⟩] (htab.trans rfl) (fun z hz => nomatch hz) rfl (by decide) w_42 hce hcv hcl ?_
  refine W.eq (g2 := F0 m 12 ls [.ref q9]) rfl ?_
  refine lv_astore_n (lv' := [(3, .ref q9), (0, .ref x), (1, .int a0), (2, .ref o)]) hx hb dL_vertexX_12 rfl hl (by decide) rfl (fun ls hl => ?_)
  refine lv_iconst (v := 1) hx hb dL_vertexX_13 (by decide) ?_
  exact r_iret C hP hD hS () rfl rfl (Nat.le_of_ble_eq_true rfl) (Nat.le_of_ble_eq_true rfl) dL_vertexX_14
set_option maxHeartbeats 4000000 in
set_option maxRecDepth 100000 in
theorem h_vertexY (l : Launch) (hlt : l.stackTraces = false) (D : va_G) (cI cZ cJ : ClassId) (x : Nat) (inp : Nat) (par : Nat) (pla : Nat) (dra : Nat) (lat : Nat) (his : Nat) (f1 : Nat) (f2 : Nat) (hd : Int32) (ec : Int32) (ea : Int32) (g : Nat → Value) (gp : Nat → Value) (a0 : Int32) (o : Nat)  : cMW l yL_vertexY cL_vertexY 4 (some .int) [(0, 9, 12, 20), (0, 9, 15, 13)] D (TT cI cZ cJ) [.ref x, .int a0, .ref o] [(x, .inr (10, xC inp par pla dra lat his f1 f2 hd ec ea g)), (pla, .inr (5, pC 0 0 0 gp))] (qI D (TT cI cZ cJ) (fun u : Unit => 1) (fun u : Unit => [(x, .inr (10, xC inp par pla dra lat his f1 f2 hd ec ea g)), (pla, .inr (5, pC 0 0 0 gp))])) 2 1 6 := by
  refine enterW (by decide) (Nat.le_of_ble_eq_true rfl) ?_
  intro p e s m below meth c ls A C htab hP hD hS hl
  have hx := C.1
  have hb := C.2.1
  have hl : lv_has ls 4 [(0, .ref x), (1, .int a0), (2, .ref o)] := hl
  refine lv_aload_n hx hb dL_vertexY_0 rfl (lv_at hl 2 rfl) ?_
  refine lv_iconst (v := 0) hx hb dL_vertexY_1 (by decide) ?_
  refine lv_aload_n hx hb dL_vertexY_2 rfl (lv_at hl 0 rfl) ?_
  refine lv_iload_n hx hb dL_vertexY_3 rfl (lv_at hl 1 rfl) ?_
  refine call_X (wr := []) C (run_VX (As := [.int a0]) (rest := [.int 0, .ref o]) C (k_vertexY l hlt D cI cZ cJ x inp par pla dra lat his f1 f2 hd ec ea g gp a0 ) cV_L_22 hP hD hS [0, 1] rfl rfl 0 rfl rfl rfl rfl hl.1 rfl (Nat.le_of_ble_eq_true rfl) dL_vertexY_4 ⟨Nat.le_of_ble_eq_true rfl, Nat.le_of_ble_eq_true rfl⟩ ⟨Nat.le_of_ble_eq_true rfl, Nat.le_of_ble_eq_true rfl⟩) hP hD hS [0, 1] [] rfl rfl rfl (by decide) (fun ce q9 H locs hce hcv hcl hP hD hS => ?_)
  have hP : va_P D CL [(x, .inr (10, xC inp par pla dra lat his f1 f2 hd ec ea g)), (pla, .inr (5, pC 0 0 0 gp))] H := hP
  have hD : va_D A [(x, .inr (10, xC inp par pla dra lat his f1 f2 hd ec ea g)), (pla, .inr (5, pC 0 0 0 gp))] := hD
  refine vx_widen (k := 1) (n := 6) (Nat.le_of_ble_eq_true rfl) (Nat.le_of_ble_eq_true rfl) ?_
  refine r_catch C (by decide) [] ⟨0, 9, 12, 20⟩ [⟨0, 9, 15, 13⟩] (htab.trans rfl) (fun z hz => nomatch hz) rfl (by decide) w_42 hce hcv hcl ?_
  refine W.eq (g2 := F0 m 12 ls [.ref q9]) rfl ?_
  refine lv_astore_n (lv' := [(3, .ref q9), (0, .ref x), (1, .int a0), (2, .ref o)]) hx hb dL_vertexY_12 rfl hl (by decide) rfl (fun ls hl => ?_)
  refine lv_iconst (v := 1) hx hb dL_vertexY_13 (by decide) ?_
  exact r_iret C hP hD hS () rfl rfl (Nat.le_of_ble_eq_true rfl) (Nat.le_of_ble_eq_true rfl) dL_vertexY_14
set_option maxHeartbeats 4000000 in
set_option maxRecDepth 100000 in
theorem h_doubleArea (l : Launch) (hlt : l.stackTraces = false) (D : va_G) (cI cZ cJ : ClassId) (x : Nat) (inp : Nat) (par : Nat) (pla : Nat) (dra : Nat) (lat : Nat) (his : Nat) (f1 : Nat) (f2 : Nat) (hd : Int32) (ec : Int32) (ea : Int32) (g : Nat → Value) (gp : Nat → Value) (o : Nat)  : cMW l yL_doubleArea cL_doubleArea 3 (some .int) [(0, 8, 11, 20)] D (TT cI cZ cJ) [.ref x, .ref o] [(x, .inr (10, xC inp par pla dra lat his f1 f2 hd ec ea g)), (pla, .inr (5, pC 0 0 0 gp))] (qI D (TT cI cZ cJ) (fun u : Unit => 1) (fun u : Unit => [(x, .inr (10, xC inp par pla dra lat his f1 f2 hd ec ea g)), (pla, .inr (5, pC 0 0 0 gp))])) 2 1 6 := by
  refine enterW (by decide) (Nat.le_of_ble_eq_true rfl) ?_
  intro p e s m below meth c ls A C htab hP hD hS hl
  have hx := C.1
  have hb := C.2.1
  have hl : lv_has ls 3 [(0, .ref x), (1, .ref o)] := hl
  refine lv_aload_n hx hb dL_doubleArea_0 rfl (lv_at hl 1 rfl) ?_
  refine lv_iconst (v := 0) hx hb dL_doubleArea_1 (by decide) ?_
  refine lv_aload_n hx hb dL_doubleArea_2 rfl (lv_at hl 0 rfl) ?_
  refine call_X (wr := []) C (run_VX (As := []) (rest := [.int 0, .ref o]) C (k_doubleArea l hlt D cI cZ cJ x inp par pla dra lat his f1 f2 hd ec ea g gp ) cV_L_25 hP hD hS [0, 1] rfl rfl 0 rfl rfl rfl rfl hl.1 rfl (Nat.le_of_ble_eq_true rfl) dL_doubleArea_3 ⟨Nat.le_of_ble_eq_true rfl, Nat.le_of_ble_eq_true rfl⟩ ⟨Nat.le_of_ble_eq_true rfl, Nat.le_of_ble_eq_true rfl⟩) hP hD hS [0, 1] [] rfl rfl rfl (by decide) (fun ce q9 H locs hce hcv hcl hP hD hS => ?_)
  have hP : va_P D CL [(x, .inr (10, xC inp par pla dra lat his f1 f2 hd ec ea g)), (pla, .inr (5, pC 0 0 0 gp))] H := hP
  have hD : va_D A [(x, .inr (10, xC inp par pla dra lat his f1 f2 hd ec ea g)), (pla, .inr (5, pC 0 0 0 gp))] := hD
  refine vx_widen (k := 1) (n := 6) (Nat.le_of_ble_eq_true rfl) (Nat.le_of_ble_eq_true rfl) ?_
  refine r_catch C (by decide) [] ⟨0, 8, 11, 20⟩ [] (htab.trans rfl) (fun z hz => nomatch hz) rfl (by decide) w_42 hce hcv hcl ?_
  refine W.eq (g2 := F0 m 11 ls [.ref q9]) rfl ?_
  refine lv_astore_n (lv' := [(2, .ref q9), (0, .ref x), (1, .ref o)]) hx hb dL_doubleArea_11 rfl hl (by decide) rfl (fun ls hl => ?_)
  refine lv_iconst (v := 1) hx hb dL_doubleArea_12 (by decide) ?_
  exact r_iret C hP hD hS () rfl rfl (Nat.le_of_ble_eq_true rfl) (Nat.le_of_ble_eq_true rfl) dL_doubleArea_13
set_option maxHeartbeats 4000000 in
set_option maxRecDepth 100000 in
theorem h_reflexVertices (l : Launch) (hlt : l.stackTraces = false) (D : va_G) (cI cZ cJ : ClassId) (x : Nat) (inp : Nat) (par : Nat) (pla : Nat) (dra : Nat) (lat : Nat) (his : Nat) (f1 : Nat) (f2 : Nat) (hd : Int32) (ec : Int32) (ea : Int32) (g : Nat → Value) (gp : Nat → Value) (o : Nat)  : cMW l yL_reflexVertices cL_reflexVertices 3 (some .int) [(0, 8, 11, 20)] D (TT cI cZ cJ) [.ref x, .ref o] [(x, .inr (10, xC inp par pla dra lat his f1 f2 hd ec ea g)), (pla, .inr (5, pC 0 0 0 gp))] (qI D (TT cI cZ cJ) (fun u : Unit => 1) (fun u : Unit => [(x, .inr (10, xC inp par pla dra lat his f1 f2 hd ec ea g)), (pla, .inr (5, pC 0 0 0 gp))])) 2 1 6 := by
  refine enterW (by decide) (Nat.le_of_ble_eq_true rfl) ?_
  intro p e s m below meth c ls A C htab hP hD hS hl
  have hx := C.1
  have hb := C.2.1
  have hl : lv_has ls 3 [(0, .ref x), (1, .ref o)] := hl
  refine lv_aload_n hx hb dL_reflexVertices_0 rfl (lv_at hl 1 rfl) ?_
  refine lv_iconst (v := 0) hx hb dL_reflexVertices_1 (by decide) ?_
  refine lv_aload_n hx hb dL_reflexVertices_2 rfl (lv_at hl 0 rfl) ?_
  refine call_X (wr := []) C (run_VX (As := []) (rest := [.int 0, .ref o]) C (k_reflexVertices l hlt D cI cZ cJ x inp par pla dra lat his f1 f2 hd ec ea g gp ) cV_L_29 hP hD hS [0, 1] rfl rfl 0 rfl rfl rfl rfl hl.1 rfl (Nat.le_of_ble_eq_true rfl) dL_reflexVertices_3 ⟨Nat.le_of_ble_eq_true rfl, Nat.le_of_ble_eq_true rfl⟩ ⟨Nat.le_of_ble_eq_true rfl, Nat.le_of_ble_eq_true rfl⟩) hP hD hS [0, 1] [] rfl rfl rfl (by decide) (fun ce q9 H locs hce hcv hcl hP hD hS => ?_)
  have hP : va_P D CL [(x, .inr (10, xC inp par pla dra lat his f1 f2 hd ec ea g)), (pla, .inr (5, pC 0 0 0 gp))] H := hP
  have hD : va_D A [(x, .inr (10, xC inp par pla dra lat his f1 f2 hd ec ea g)), (pla, .inr (5, pC 0 0 0 gp))] := hD
  refine vx_widen (k := 1) (n := 6) (Nat.le_of_ble_eq_true rfl) (Nat.le_of_ble_eq_true rfl) ?_
  refine r_catch C (by decide) [] ⟨0, 8, 11, 20⟩ [] (htab.trans rfl) (fun z hz => nomatch hz) rfl (by decide) w_42 hce hcv hcl ?_
  refine W.eq (g2 := F0 m 11 ls [.ref q9]) rfl ?_
  refine lv_astore_n (lv' := [(2, .ref q9), (0, .ref x), (1, .ref o)]) hx hb dL_reflexVertices_11 rfl hl (by decide) rfl (fun ls hl => ?_)
  refine lv_iconst (v := 1) hx hb dL_reflexVertices_12 (by decide) ?_
  exact r_iret C hP hD hS () rfl rfl (Nat.le_of_ble_eq_true rfl) (Nat.le_of_ble_eq_true rfl) dL_reflexVertices_13
set_option maxHeartbeats 4000000 in
set_option maxRecDepth 100000 in
theorem h_pointX (l : Launch) (hlt : l.stackTraces = false) (D : va_G) (cI cZ cJ : ClassId) (x : Nat) (inp : Nat) (par : Nat) (pla : Nat) (dra : Nat) (lat : Nat) (his : Nat) (f1 : Nat) (f2 : Nat) (hd : Int32) (ec : Int32) (ea : Int32) (g : Nat → Value) (gp : Nat → Value) (a0 : Int32) (o : Nat)  : cMW l yL_pointX cL_pointX 4 (some .int) [(0, 9, 12, 20), (0, 9, 15, 13)] D (TT cI cZ cJ) [.ref x, .int a0, .ref o] [(x, .inr (10, xC inp par pla dra lat his f1 f2 hd ec ea g)), (pla, .inr (5, pC 0 0 0 gp))] (qI D (TT cI cZ cJ) (fun u : Unit => 1) (fun u : Unit => [(x, .inr (10, xC inp par pla dra lat his f1 f2 hd ec ea g)), (pla, .inr (5, pC 0 0 0 gp))])) 2 1 6 := by
  refine enterW (by decide) (Nat.le_of_ble_eq_true rfl) ?_
  intro p e s m below meth c ls A C htab hP hD hS hl
  have hx := C.1
  have hb := C.2.1
  have hl : lv_has ls 4 [(0, .ref x), (1, .int a0), (2, .ref o)] := hl
  refine lv_aload_n hx hb dL_pointX_0 rfl (lv_at hl 2 rfl) ?_
  refine lv_iconst (v := 0) hx hb dL_pointX_1 (by decide) ?_
  refine lv_aload_n hx hb dL_pointX_2 rfl (lv_at hl 0 rfl) ?_
  refine lv_iload_n hx hb dL_pointX_3 rfl (lv_at hl 1 rfl) ?_
  refine call_X (wr := []) C (run_VX (As := [.int a0]) (rest := [.int 0, .ref o]) C (k_pointX l hlt D cI cZ cJ x inp par pla dra lat his f1 f2 hd ec ea g gp a0 ) cV_L_32 hP hD hS [0, 1] rfl rfl 0 rfl rfl rfl rfl hl.1 rfl (Nat.le_of_ble_eq_true rfl) dL_pointX_4 ⟨Nat.le_of_ble_eq_true rfl, Nat.le_of_ble_eq_true rfl⟩ ⟨Nat.le_of_ble_eq_true rfl, Nat.le_of_ble_eq_true rfl⟩) hP hD hS [0, 1] [] rfl rfl rfl (by decide) (fun ce q9 H locs hce hcv hcl hP hD hS => ?_)
  have hP : va_P D CL [(x, .inr (10, xC inp par pla dra lat his f1 f2 hd ec ea g)), (pla, .inr (5, pC 0 0 0 gp))] H := hP
  have hD : va_D A [(x, .inr (10, xC inp par pla dra lat his f1 f2 hd ec ea g)), (pla, .inr (5, pC 0 0 0 gp))] := hD
  refine vx_widen (k := 1) (n := 6) (Nat.le_of_ble_eq_true rfl) (Nat.le_of_ble_eq_true rfl) ?_
  refine r_catch C (by decide) [] ⟨0, 9, 12, 20⟩ [⟨0, 9, 15, 13⟩] (htab.trans rfl) (fun z hz => nomatch hz) rfl (by decide) w_42 hce hcv hcl ?_
  refine W.eq (g2 := F0 m 12 ls [.ref q9]) rfl ?_
  refine lv_astore_n (lv' := [(3, .ref q9), (0, .ref x), (1, .int a0), (2, .ref o)]) hx hb dL_pointX_12 rfl hl (by decide) rfl (fun ls hl => ?_)
  refine lv_iconst (v := 1) hx hb dL_pointX_13 (by decide) ?_
  exact r_iret C hP hD hS () rfl rfl (Nat.le_of_ble_eq_true rfl) (Nat.le_of_ble_eq_true rfl) dL_pointX_14
set_option maxHeartbeats 4000000 in
set_option maxRecDepth 100000 in
theorem h_pointY (l : Launch) (hlt : l.stackTraces = false) (D : va_G) (cI cZ cJ : ClassId) (x : Nat) (inp : Nat) (par : Nat) (pla : Nat) (dra : Nat) (lat : Nat) (his : Nat) (f1 : Nat) (f2 : Nat) (hd : Int32) (ec : Int32) (ea : Int32) (g : Nat → Value) (gp : Nat → Value) (a0 : Int32) (o : Nat)  : cMW l yL_pointY cL_pointY 4 (some .int) [(0, 9, 12, 20), (0, 9, 15, 13)] D (TT cI cZ cJ) [.ref x, .int a0, .ref o] [(x, .inr (10, xC inp par pla dra lat his f1 f2 hd ec ea g)), (pla, .inr (5, pC 0 0 0 gp))] (qI D (TT cI cZ cJ) (fun u : Unit => 1) (fun u : Unit => [(x, .inr (10, xC inp par pla dra lat his f1 f2 hd ec ea g)), (pla, .inr (5, pC 0 0 0 gp))])) 2 1 6 := by
  refine enterW (by decide) (Nat.le_of_ble_eq_true rfl) ?_
  intro p e s m below meth c ls A C htab hP hD hS hl
  have hx := C.1
  have hb := C.2.1
  have hl : lv_has ls 4 [(0, .ref x), (1, .int a0), (2, .ref o)] := hl
  refine lv_aload_n hx hb dL_pointY_0 rfl (lv_at hl 2 rfl) ?_
  refine lv_iconst (v := 0) hx hb dL_pointY_1 (by decide) ?_
  refine lv_aload_n hx hb dL_pointY_2 rfl (lv_at hl 0 rfl) ?_
  refine lv_iload_n hx hb dL_pointY_3 rfl (lv_at hl 1 rfl) ?_
  refine call_X (wr := []) C (run_VX (As := [.int a0]) (rest := [.int 0, .ref o]) C (k_pointY l hlt D cI cZ cJ x inp par pla dra lat his f1 f2 hd ec ea g gp a0 ) cV_L_35 hP hD hS [0, 1] rfl rfl 0 rfl rfl rfl rfl hl.1 rfl (Nat.le_of_ble_eq_true rfl) dL_pointY_4 ⟨Nat.le_of_ble_eq_true rfl, Nat.le_of_ble_eq_true rfl⟩ ⟨Nat.le_of_ble_eq_true rfl, Nat.le_of_ble_eq_true rfl⟩) hP hD hS [0, 1] [] rfl rfl rfl (by decide) (fun ce q9 H locs hce hcv hcl hP hD hS => ?_)
  have hP : va_P D CL [(x, .inr (10, xC inp par pla dra lat his f1 f2 hd ec ea g)), (pla, .inr (5, pC 0 0 0 gp))] H := hP
  have hD : va_D A [(x, .inr (10, xC inp par pla dra lat his f1 f2 hd ec ea g)), (pla, .inr (5, pC 0 0 0 gp))] := hD
  refine vx_widen (k := 1) (n := 6) (Nat.le_of_ble_eq_true rfl) (Nat.le_of_ble_eq_true rfl) ?_
  refine r_catch C (by decide) [] ⟨0, 9, 12, 20⟩ [⟨0, 9, 15, 13⟩] (htab.trans rfl) (fun z hz => nomatch hz) rfl (by decide) w_42 hce hcv hcl ?_
  refine W.eq (g2 := F0 m 12 ls [.ref q9]) rfl ?_
  refine lv_astore_n (lv' := [(3, .ref q9), (0, .ref x), (1, .int a0), (2, .ref o)]) hx hb dL_pointY_12 rfl hl (by decide) rfl (fun ls hl => ?_)
  refine lv_iconst (v := 1) hx hb dL_pointY_13 (by decide) ?_
  exact r_iret C hP hD hS () rfl rfl (Nat.le_of_ble_eq_true rfl) (Nat.le_of_ble_eq_true rfl) dL_pointY_14
set_option maxHeartbeats 4000000 in
set_option maxRecDepth 100000 in
theorem h_pointAt (l : Launch) (hlt : l.stackTraces = false) (D : va_G) (cI cZ cJ : ClassId) (x : Nat) (inp : Nat) (par : Nat) (pla : Nat) (dra : Nat) (lat : Nat) (his : Nat) (f1 : Nat) (f2 : Nat) (hd : Int32) (ec : Int32) (ea : Int32) (g : Nat → Value) (gp : Nat → Value) (a0 : Int32) (a1 : Int32) (o : Nat)  : cMW l yL_pointAt cL_pointAt 5 (some .int) [(0, 10, 13, 20)] D (TT cI cZ cJ) [.ref x, .int a0, .int a1, .ref o] [(x, .inr (10, xC inp par pla dra lat his f1 f2 hd ec ea g)), (pla, .inr (5, pC 0 0 0 gp))] (qI D (TT cI cZ cJ) (fun u : Unit => 1) (fun u : Unit => [(x, .inr (10, xC inp par pla dra lat his f1 f2 hd ec ea g)), (pla, .inr (5, pC 0 0 0 gp))])) 2 1 6 := by
  refine enterW (by decide) (Nat.le_of_ble_eq_true rfl) ?_
  intro p e s m below meth c ls A C htab hP hD hS hl
  have hx := C.1
  have hb := C.2.1
  have hl : lv_has ls 5 [(0, .ref x), (1, .int a0), (2, .int a1), (3, .ref o)] := hl
  refine lv_aload_n hx hb dL_pointAt_0 rfl (lv_at hl 3 rfl) ?_
  refine lv_iconst (v := 0) hx hb dL_pointAt_1 (by decide) ?_
  refine lv_aload_n hx hb dL_pointAt_2 rfl (lv_at hl 0 rfl) ?_
  refine lv_iload_n hx hb dL_pointAt_3 rfl (lv_at hl 1 rfl) ?_
  refine lv_iload_n hx hb dL_pointAt_4 rfl (lv_at hl 2 rfl) ?_
  refine call_X (wr := []) C (run_VX (As := [.int a0, .int a1]) (rest := [.int 0, .ref o]) C (k_pointAt l hlt D cI cZ cJ x inp par pla dra lat his f1 f2 hd ec ea g gp a0 a1 ) cV_L_38 hP hD hS [0, 1] rfl rfl 0 rfl rfl rfl rfl hl.1 rfl (Nat.le_of_ble_eq_true rfl) dL_pointAt_5 ⟨Nat.le_of_ble_eq_true rfl, Nat.le_of_ble_eq_true rfl⟩ ⟨Nat.le_of_ble_eq_true rfl, Nat.le_of_ble_eq_true rfl⟩) hP hD hS [0, 1] [] rfl rfl rfl (by decide) (fun ce q9 H locs hce hcv hcl hP hD hS => ?_)
  have hP : va_P D CL [(x, .inr (10, xC inp par pla dra lat his f1 f2 hd ec ea g)), (pla, .inr (5, pC 0 0 0 gp))] H := hP
  have hD : va_D A [(x, .inr (10, xC inp par pla dra lat his f1 f2 hd ec ea g)), (pla, .inr (5, pC 0 0 0 gp))] := hD
  refine vx_widen (k := 1) (n := 6) (Nat.le_of_ble_eq_true rfl) (Nat.le_of_ble_eq_true rfl) ?_
  refine r_catch C (by decide) [] ⟨0, 10, 13, 20⟩ [] (htab.trans rfl) (fun z hz => nomatch hz) rfl (by decide) w_42 hce hcv hcl ?_
  refine W.eq (g2 := F0 m 13 ls [.ref q9]) rfl ?_
  refine lv_astore (lv' := [(4, .ref q9), (0, .ref x), (1, .int a0), (2, .int a1), (3, .ref o)]) hx hb dL_pointAt_13 hl (by decide) rfl (fun ls hl => ?_)
  refine lv_iconst (v := 1) hx hb dL_pointAt_15 (by decide) ?_
  exact r_iret C hP hD hS () rfl rfl (Nat.le_of_ble_eq_true rfl) (Nat.le_of_ble_eq_true rfl) dL_pointAt_16
set_option maxHeartbeats 4000000 in
set_option maxRecDepth 100000 in
theorem h_boundary (l : Launch) (hlt : l.stackTraces = false) (D : va_G) (cI cZ cJ : ClassId) (x : Nat) (inp : Nat) (par : Nat) (pla : Nat) (dra : Nat) (lat : Nat) (his : Nat) (f1 : Nat) (f2 : Nat) (hd : Int32) (ec : Int32) (ea : Int32) (g : Nat → Value) (gp : Nat → Value) (o : Nat)  : cMW l yL_boundary cL_boundary 3 (some .int) [(0, 7, 10, 20)] D (TT cI cZ cJ) [.ref x, .ref o] [(x, .inr (10, xC inp par pla dra lat his f1 f2 hd ec ea g)), (pla, .inr (5, pC 0 0 0 gp))] (qI D (TT cI cZ cJ) (fun u : Unit => 1) (fun u : Unit => [(x, .inr (10, xC inp par pla dra lat his f1 f2 hd ec ea g)), (pla, .inr (5, pC 0 0 0 gp))])) 2 1 6 := by
  refine enterW (by decide) (Nat.le_of_ble_eq_true rfl) ?_
  intro p e s m below meth c ls A C htab hP hD hS hl
  have hx := C.1
  have hb := C.2.1
  have hl : lv_has ls 3 [(0, .ref x), (1, .ref o)] := hl
  refine lv_aload_n hx hb dL_boundary_0 rfl (lv_at hl 1 rfl) ?_
  refine lv_iconst (v := 0) hx hb dL_boundary_1 (by decide) ?_
  refine lv_aload_n hx hb dL_boundary_2 rfl (lv_at hl 0 rfl) ?_
  refine call_X (wr := []) C (run_VX (As := []) (rest := [.int 0, .ref o]) C (k_boundary l hlt D cI cZ cJ x inp par pla dra lat his f1 f2 hd ec ea g gp ) cV_L_42 hP hD hS [0, 1] rfl rfl 0 rfl rfl rfl rfl hl.1 rfl (Nat.le_of_ble_eq_true rfl) dL_boundary_3 ⟨Nat.le_of_ble_eq_true rfl, Nat.le_of_ble_eq_true rfl⟩ ⟨Nat.le_of_ble_eq_true rfl, Nat.le_of_ble_eq_true rfl⟩) hP hD hS [0, 1] [] rfl rfl rfl (by decide) (fun ce q9 H locs hce hcv hcl hP hD hS => ?_)
  have hP : va_P D CL [(x, .inr (10, xC inp par pla dra lat his f1 f2 hd ec ea g)), (pla, .inr (5, pC 0 0 0 gp))] H := hP
  have hD : va_D A [(x, .inr (10, xC inp par pla dra lat his f1 f2 hd ec ea g)), (pla, .inr (5, pC 0 0 0 gp))] := hD
  refine vx_widen (k := 1) (n := 6) (Nat.le_of_ble_eq_true rfl) (Nat.le_of_ble_eq_true rfl) ?_
  refine r_catch C (by decide) [] ⟨0, 7, 10, 20⟩ [] (htab.trans rfl) (fun z hz => nomatch hz) rfl (by decide) w_42 hce hcv hcl ?_
  refine W.eq (g2 := F0 m 10 ls [.ref q9]) rfl ?_
  refine lv_astore_n (lv' := [(2, .ref q9), (0, .ref x), (1, .ref o)]) hx hb dL_boundary_10 rfl hl (by decide) rfl (fun ls hl => ?_)
  refine lv_iconst (v := 1) hx hb dL_boundary_11 (by decide) ?_
  exact r_iret C hP hD hS () rfl rfl (Nat.le_of_ble_eq_true rfl) (Nat.le_of_ble_eq_true rfl) dL_boundary_12
set_option maxHeartbeats 4000000 in
set_option maxRecDepth 100000 in
theorem h_sees (l : Launch) (hlt : l.stackTraces = false) (D : va_G) (cI cZ cJ : ClassId) (x : Nat) (inp : Nat) (par : Nat) (pla : Nat) (dra : Nat) (lat : Nat) (his : Nat) (f1 : Nat) (f2 : Nat) (hd : Int32) (ec : Int32) (ea : Int32) (g : Nat → Value) (gp : Nat → Value) (a0 : Int32) (a1 : Int32) (o : Nat)  : cMW l yL_sees cL_sees 5 (some .int) [(0, 17, 20, 20), (0, 17, 24, 13)] D (TT cI cZ cJ) [.ref x, .int a0, .int a1, .ref o] [(x, .inr (10, xC inp par pla dra lat his f1 f2 hd ec ea g)), (pla, .inr (5, pC 0 0 0 gp))] (qI D (TT cI cZ cJ) (fun u : Unit => 1) (fun u : Unit => [(x, .inr (10, xC inp par pla dra lat his f1 f2 hd ec ea g)), (pla, .inr (5, pC 0 0 0 gp))])) 2 1 6 := by
  refine enterW (by decide) (Nat.le_of_ble_eq_true rfl) ?_
  intro p e s m below meth c ls A C htab hP hD hS hl
  have hx := C.1
  have hb := C.2.1
  have hl : lv_has ls 5 [(0, .ref x), (1, .int a0), (2, .int a1), (3, .ref o)] := hl
  refine lv_aload_n hx hb dL_sees_0 rfl (lv_at hl 3 rfl) ?_
  refine lv_iconst (v := 0) hx hb dL_sees_1 (by decide) ?_
  refine lv_aload_n hx hb dL_sees_2 rfl (lv_at hl 0 rfl) ?_
  refine lv_iload_n hx hb dL_sees_3 rfl (lv_at hl 1 rfl) ?_
  refine lv_iload_n hx hb dL_sees_4 rfl (lv_at hl 2 rfl) ?_
  refine call_X (wr := []) C (run_VX (As := [.int a0, .int a1]) (rest := [.int 0, .ref o]) C (k_sees l hlt D cI cZ cJ x inp par pla dra lat his f1 f2 hd ec ea g gp a0 a1 ) cV_L_46 hP hD hS [0, 1] rfl rfl 0 rfl rfl rfl rfl hl.1 rfl (Nat.le_of_ble_eq_true rfl) dL_sees_5 ⟨Nat.le_of_ble_eq_true rfl, Nat.le_of_ble_eq_true rfl⟩ ⟨Nat.le_of_ble_eq_true rfl, Nat.le_of_ble_eq_true rfl⟩) hP hD hS [0, 1] [] rfl rfl rfl (by decide) (fun ce q9 H locs hce hcv hcl hP hD hS => ?_)
  have hP : va_P D CL [(x, .inr (10, xC inp par pla dra lat his f1 f2 hd ec ea g)), (pla, .inr (5, pC 0 0 0 gp))] H := hP
  have hD : va_D A [(x, .inr (10, xC inp par pla dra lat his f1 f2 hd ec ea g)), (pla, .inr (5, pC 0 0 0 gp))] := hD
  refine vx_widen (k := 1) (n := 6) (Nat.le_of_ble_eq_true rfl) (Nat.le_of_ble_eq_true rfl) ?_
  refine r_catch C (by decide) [] ⟨0, 17, 20, 20⟩ [⟨0, 17, 24, 13⟩] (htab.trans rfl) (fun z hz => nomatch hz) rfl (by decide) w_42 hce hcv hcl ?_
  refine W.eq (g2 := F0 m 20 ls [.ref q9]) rfl ?_
  refine lv_astore (lv' := [(4, .ref q9), (0, .ref x), (1, .int a0), (2, .int a1), (3, .ref o)]) hx hb dL_sees_20 hl (by decide) rfl (fun ls hl => ?_)
  refine lv_iconst (v := 1) hx hb dL_sees_22 (by decide) ?_
  exact r_iret C hP hD hS () rfl rfl (Nat.le_of_ble_eq_true rfl) (Nat.le_of_ble_eq_true rfl) dL_sees_23
set_option maxHeartbeats 4000000 in
set_option maxRecDepth 100000 in
theorem h_visible (l : Launch) (hlt : l.stackTraces = false) (D : va_G) (cI cZ cJ : ClassId) (x : Nat) (inp : Nat) (par : Nat) (pla : Nat) (dra : Nat) (lat : Nat) (his : Nat) (f1 : Nat) (f2 : Nat) (hd : Int32) (ec : Int32) (ea : Int32) (g : Nat → Value) (gp : Nat → Value) (a0 : Int32) (o : Nat)  : cMW l yL_visible cL_visible 4 (some .int) [(0, 8, 11, 20), (0, 8, 14, 13)] D (TT cI cZ cJ) [.ref x, .int a0, .ref o] [(x, .inr (10, xC inp par pla dra lat his f1 f2 hd ec ea g)), (pla, .inr (5, pC 0 0 0 gp))] (qI D (TT cI cZ cJ) (fun u : Unit => 1) (fun u : Unit => [(x, .inr (10, xC inp par pla dra lat his f1 f2 hd ec ea g)), (pla, .inr (5, pC 0 0 0 gp))])) 2 1 6 := by
  refine enterW (by decide) (Nat.le_of_ble_eq_true rfl) ?_
  intro p e s m below meth c ls A C htab hP hD hS hl
  have hx := C.1
  have hb := C.2.1
  have hl : lv_has ls 4 [(0, .ref x), (1, .int a0), (2, .ref o)] := hl
  refine lv_aload_n hx hb dL_visible_0 rfl (lv_at hl 2 rfl) ?_
  refine lv_iconst (v := 0) hx hb dL_visible_1 (by decide) ?_
  refine lv_aload_n hx hb dL_visible_2 rfl (lv_at hl 0 rfl) ?_
  refine lv_iload_n hx hb dL_visible_3 rfl (lv_at hl 1 rfl) ?_
  refine call_X (wr := []) C (run_VX (As := [.int a0]) (rest := [.int 0, .ref o]) C (k_visible l hlt D cI cZ cJ x inp par pla dra lat his f1 f2 hd ec ea g gp a0 ) cV_L_50 hP hD hS [0, 1] rfl rfl 0 rfl rfl rfl rfl hl.1 rfl (Nat.le_of_ble_eq_true rfl) dL_visible_4 ⟨Nat.le_of_ble_eq_true rfl, Nat.le_of_ble_eq_true rfl⟩ ⟨Nat.le_of_ble_eq_true rfl, Nat.le_of_ble_eq_true rfl⟩) hP hD hS [0, 1] [] rfl rfl rfl (by decide) (fun ce q9 H locs hce hcv hcl hP hD hS => ?_)
  have hP : va_P D CL [(x, .inr (10, xC inp par pla dra lat his f1 f2 hd ec ea g)), (pla, .inr (5, pC 0 0 0 gp))] H := hP
  have hD : va_D A [(x, .inr (10, xC inp par pla dra lat his f1 f2 hd ec ea g)), (pla, .inr (5, pC 0 0 0 gp))] := hD
  refine vx_widen (k := 1) (n := 6) (Nat.le_of_ble_eq_true rfl) (Nat.le_of_ble_eq_true rfl) ?_
  refine r_catch C (by decide) [] ⟨0, 8, 11, 20⟩ [⟨0, 8, 14, 13⟩] (htab.trans rfl) (fun z hz => nomatch hz) rfl (by decide) w_42 hce hcv hcl ?_
  refine W.eq (g2 := F0 m 11 ls [.ref q9]) rfl ?_
  refine lv_astore_n (lv' := [(3, .ref q9), (0, .ref x), (1, .int a0), (2, .ref o)]) hx hb dL_visible_11 rfl hl (by decide) rfl (fun ls hl => ?_)
  refine lv_iconst (v := 1) hx hb dL_visible_12 (by decide) ?_
  exact r_iret C hP hD hS () rfl rfl (Nat.le_of_ble_eq_true rfl) (Nat.le_of_ble_eq_true rfl) dL_visible_13
set_option maxHeartbeats 4000000 in
set_option maxRecDepth 100000 in
theorem h_kernel (l : Launch) (hlt : l.stackTraces = false) (D : va_G) (cI cZ cJ : ClassId) (x : Nat) (inp : Nat) (par : Nat) (pla : Nat) (dra : Nat) (lat : Nat) (his : Nat) (f1 : Nat) (f2 : Nat) (hd : Int32) (ec : Int32) (ea : Int32) (g : Nat → Value) (gp : Nat → Value) (o : Nat)  : cMW l yL_kernel cL_kernel 3 (some .int) [(0, 7, 10, 20)] D (TT cI cZ cJ) [.ref x, .ref o] [(x, .inr (10, xC inp par pla dra lat his f1 f2 hd ec ea g)), (pla, .inr (5, pC 0 0 0 gp))] (qI D (TT cI cZ cJ) (fun u : Unit => 1) (fun u : Unit => [(x, .inr (10, xC inp par pla dra lat his f1 f2 hd ec ea g)), (pla, .inr (5, pC 0 0 0 gp))])) 2 1 6 := by
  refine enterW (by decide) (Nat.le_of_ble_eq_true rfl) ?_
  intro p e s m below meth c ls A C htab hP hD hS hl
  have hx := C.1
  have hb := C.2.1
  have hl : lv_has ls 3 [(0, .ref x), (1, .ref o)] := hl
  refine lv_aload_n hx hb dL_kernel_0 rfl (lv_at hl 1 rfl) ?_
  refine lv_iconst (v := 0) hx hb dL_kernel_1 (by decide) ?_
  refine lv_aload_n hx hb dL_kernel_2 rfl (lv_at hl 0 rfl) ?_
  refine call_X (wr := []) C (run_VX (As := []) (rest := [.int 0, .ref o]) C (k_kernel l hlt D cI cZ cJ x inp par pla dra lat his f1 f2 hd ec ea g gp ) cV_L_54 hP hD hS [0, 1] rfl rfl 0 rfl rfl rfl rfl hl.1 rfl (Nat.le_of_ble_eq_true rfl) dL_kernel_3 ⟨Nat.le_of_ble_eq_true rfl, Nat.le_of_ble_eq_true rfl⟩ ⟨Nat.le_of_ble_eq_true rfl, Nat.le_of_ble_eq_true rfl⟩) hP hD hS [0, 1] [] rfl rfl rfl (by decide) (fun ce q9 H locs hce hcv hcl hP hD hS => ?_)
  have hP : va_P D CL [(x, .inr (10, xC inp par pla dra lat his f1 f2 hd ec ea g)), (pla, .inr (5, pC 0 0 0 gp))] H := hP
  have hD : va_D A [(x, .inr (10, xC inp par pla dra lat his f1 f2 hd ec ea g)), (pla, .inr (5, pC 0 0 0 gp))] := hD
  refine vx_widen (k := 1) (n := 6) (Nat.le_of_ble_eq_true rfl) (Nat.le_of_ble_eq_true rfl) ?_
  refine r_catch C (by decide) [] ⟨0, 7, 10, 20⟩ [] (htab.trans rfl) (fun z hz => nomatch hz) rfl (by decide) w_42 hce hcv hcl ?_
  refine W.eq (g2 := F0 m 10 ls [.ref q9]) rfl ?_
  refine lv_astore_n (lv' := [(2, .ref q9), (0, .ref x), (1, .ref o)]) hx hb dL_kernel_10 rfl hl (by decide) rfl (fun ls hl => ?_)
  refine lv_iconst (v := 1) hx hb dL_kernel_11 (by decide) ?_
  exact r_iret C hP hD hS () rfl rfl (Nat.le_of_ble_eq_true rfl) (Nat.le_of_ble_eq_true rfl) dL_kernel_12
set_option maxHeartbeats 4000000 in
set_option maxRecDepth 100000 in
theorem h_linkDistance (l : Launch) (hlt : l.stackTraces = false) (D : va_G) (cI cZ cJ : ClassId) (x : Nat) (inp : Nat) (par : Nat) (pla : Nat) (dra : Nat) (lat : Nat) (his : Nat) (f1 : Nat) (f2 : Nat) (hd : Int32) (ec : Int32) (ea : Int32) (g : Nat → Value) (gp : Nat → Value) (a0 : Int32) (a1 : Int32) (o : Nat)  : cMW l yL_linkDistance cL_linkDistance 5 (some .int) [(0, 10, 13, 20), (0, 10, 17, 13)] D (TT cI cZ cJ) [.ref x, .int a0, .int a1, .ref o] [(x, .inr (10, xC inp par pla dra lat his f1 f2 hd ec ea g)), (pla, .inr (5, pC 0 0 0 gp))] (qI D (TT cI cZ cJ) (fun u : Unit => 1) (fun u : Unit => [(x, .inr (10, xC inp par pla dra lat his f1 f2 hd ec ea g)), (pla, .inr (5, pC 0 0 0 gp))])) 2 1 6 := by
  refine enterW (by decide) (Nat.le_of_ble_eq_true rfl) ?_
  intro p e s m below meth c ls A C htab hP hD hS hl
  have hx := C.1
  have hb := C.2.1
  have hl : lv_has ls 5 [(0, .ref x), (1, .int a0), (2, .int a1), (3, .ref o)] := hl
  refine lv_aload_n hx hb dL_linkDistance_0 rfl (lv_at hl 3 rfl) ?_
  refine lv_iconst (v := 0) hx hb dL_linkDistance_1 (by decide) ?_
  refine lv_aload_n hx hb dL_linkDistance_2 rfl (lv_at hl 0 rfl) ?_
  refine lv_iload_n hx hb dL_linkDistance_3 rfl (lv_at hl 1 rfl) ?_
  refine lv_iload_n hx hb dL_linkDistance_4 rfl (lv_at hl 2 rfl) ?_
  refine call_X (wr := []) C (run_VX (As := [.int a0, .int a1]) (rest := [.int 0, .ref o]) C (k_linkDistance l hlt D cI cZ cJ x inp par pla dra lat his f1 f2 hd ec ea g gp a0 a1 ) cV_L_57 hP hD hS [0, 1] rfl rfl 0 rfl rfl rfl rfl hl.1 rfl (Nat.le_of_ble_eq_true rfl) dL_linkDistance_5 ⟨Nat.le_of_ble_eq_true rfl, Nat.le_of_ble_eq_true rfl⟩ ⟨Nat.le_of_ble_eq_true rfl, Nat.le_of_ble_eq_true rfl⟩) hP hD hS [0, 1] [] rfl rfl rfl (by decide) (fun ce q9 H locs hce hcv hcl hP hD hS => ?_)
  have hP : va_P D CL [(x, .inr (10, xC inp par pla dra lat his f1 f2 hd ec ea g)), (pla, .inr (5, pC 0 0 0 gp))] H := hP
  have hD : va_D A [(x, .inr (10, xC inp par pla dra lat his f1 f2 hd ec ea g)), (pla, .inr (5, pC 0 0 0 gp))] := hD
  refine vx_widen (k := 1) (n := 6) (Nat.le_of_ble_eq_true rfl) (Nat.le_of_ble_eq_true rfl) ?_
  refine r_catch C (by decide) [] ⟨0, 10, 13, 20⟩ [⟨0, 10, 17, 13⟩] (htab.trans rfl) (fun z hz => nomatch hz) rfl (by decide) w_42 hce hcv hcl ?_
  refine W.eq (g2 := F0 m 13 ls [.ref q9]) rfl ?_
  refine lv_astore (lv' := [(4, .ref q9), (0, .ref x), (1, .int a0), (2, .int a1), (3, .ref o)]) hx hb dL_linkDistance_13 hl (by decide) rfl (fun ls hl => ?_)
  refine lv_iconst (v := 1) hx hb dL_linkDistance_15 (by decide) ?_
  exact r_iret C hP hD hS () rfl rfl (Nat.le_of_ble_eq_true rfl) (Nat.le_of_ble_eq_true rfl) dL_linkDistance_16
set_option maxHeartbeats 4000000 in
set_option maxRecDepth 100000 in
theorem h_diameter (l : Launch) (hlt : l.stackTraces = false) (D : va_G) (cI cZ cJ : ClassId) (x : Nat) (inp : Nat) (par : Nat) (pla : Nat) (dra : Nat) (lat : Nat) (his : Nat) (f1 : Nat) (f2 : Nat) (hd : Int32) (ec : Int32) (ea : Int32) (g : Nat → Value) (gp : Nat → Value) (o : Nat)  : cMW l yL_diameter cL_diameter 3 (some .int) [(0, 8, 11, 20)] D (TT cI cZ cJ) [.ref x, .ref o] [(x, .inr (10, xC inp par pla dra lat his f1 f2 hd ec ea g)), (pla, .inr (5, pC 0 0 0 gp))] (qI D (TT cI cZ cJ) (fun u : Unit => 1) (fun u : Unit => [(x, .inr (10, xC inp par pla dra lat his f1 f2 hd ec ea g)), (pla, .inr (5, pC 0 0 0 gp))])) 2 1 6 := by
  refine enterW (by decide) (Nat.le_of_ble_eq_true rfl) ?_
  intro p e s m below meth c ls A C htab hP hD hS hl
  have hx := C.1
  have hb := C.2.1
  have hl : lv_has ls 3 [(0, .ref x), (1, .ref o)] := hl
  refine lv_aload_n hx hb dL_diameter_0 rfl (lv_at hl 1 rfl) ?_
  refine lv_iconst (v := 0) hx hb dL_diameter_1 (by decide) ?_
  refine lv_aload_n hx hb dL_diameter_2 rfl (lv_at hl 0 rfl) ?_
  refine call_X (wr := []) C (run_VX (As := []) (rest := [.int 0, .ref o]) C (k_diameter l hlt D cI cZ cJ x inp par pla dra lat his f1 f2 hd ec ea g gp ) cV_L_60 hP hD hS [0, 1] rfl rfl 0 rfl rfl rfl rfl hl.1 rfl (Nat.le_of_ble_eq_true rfl) dL_diameter_3 ⟨Nat.le_of_ble_eq_true rfl, Nat.le_of_ble_eq_true rfl⟩ ⟨Nat.le_of_ble_eq_true rfl, Nat.le_of_ble_eq_true rfl⟩) hP hD hS [0, 1] [] rfl rfl rfl (by decide) (fun ce q9 H locs hce hcv hcl hP hD hS => ?_)
  have hP : va_P D CL [(x, .inr (10, xC inp par pla dra lat his f1 f2 hd ec ea g)), (pla, .inr (5, pC 0 0 0 gp))] H := hP
  have hD : va_D A [(x, .inr (10, xC inp par pla dra lat his f1 f2 hd ec ea g)), (pla, .inr (5, pC 0 0 0 gp))] := hD
  refine vx_widen (k := 1) (n := 6) (Nat.le_of_ble_eq_true rfl) (Nat.le_of_ble_eq_true rfl) ?_
  refine r_catch C (by decide) [] ⟨0, 8, 11, 20⟩ [] (htab.trans rfl) (fun z hz => nomatch hz) rfl (by decide) w_42 hce hcv hcl ?_
  refine W.eq (g2 := F0 m 11 ls [.ref q9]) rfl ?_
  refine lv_astore_n (lv' := [(2, .ref q9), (0, .ref x), (1, .ref o)]) hx hb dL_diameter_11 rfl hl (by decide) rfl (fun ls hl => ?_)
  refine lv_iconst (v := 1) hx hb dL_diameter_12 (by decide) ?_
  exact r_iret C hP hD hS () rfl rfl (Nat.le_of_ble_eq_true rfl) (Nat.le_of_ble_eq_true rfl) dL_diameter_13
set_option maxHeartbeats 4000000 in
set_option maxRecDepth 100000 in
theorem h_farthest (l : Launch) (hlt : l.stackTraces = false) (D : va_G) (cI cZ cJ : ClassId) (x : Nat) (inp : Nat) (par : Nat) (pla : Nat) (dra : Nat) (lat : Nat) (his : Nat) (f1 : Nat) (f2 : Nat) (hd : Int32) (ec : Int32) (ea : Int32) (g : Nat → Value) (gp : Nat → Value) (a0 : Int32) (o : Nat)  : cMW l yL_farthest cL_farthest 4 (some .int) [(0, 9, 12, 20), (0, 9, 15, 13)] D (TT cI cZ cJ) [.ref x, .int a0, .ref o] [(x, .inr (10, xC inp par pla dra lat his f1 f2 hd ec ea g)), (pla, .inr (5, pC 0 0 0 gp))] (qI D (TT cI cZ cJ) (fun u : Unit => 1) (fun u : Unit => [(x, .inr (10, xC inp par pla dra lat his f1 f2 hd ec ea g)), (pla, .inr (5, pC 0 0 0 gp))])) 2 1 6 := by
  refine enterW (by decide) (Nat.le_of_ble_eq_true rfl) ?_
  intro p e s m below meth c ls A C htab hP hD hS hl
  have hx := C.1
  have hb := C.2.1
  have hl : lv_has ls 4 [(0, .ref x), (1, .int a0), (2, .ref o)] := hl
  refine lv_aload_n hx hb dL_farthest_0 rfl (lv_at hl 2 rfl) ?_
  refine lv_iconst (v := 0) hx hb dL_farthest_1 (by decide) ?_
  refine lv_aload_n hx hb dL_farthest_2 rfl (lv_at hl 0 rfl) ?_
  refine lv_iload_n hx hb dL_farthest_3 rfl (lv_at hl 1 rfl) ?_
  refine call_X (wr := []) C (run_VX (As := [.int a0]) (rest := [.int 0, .ref o]) C (k_farthest l hlt D cI cZ cJ x inp par pla dra lat his f1 f2 hd ec ea g gp a0 ) cV_L_63 hP hD hS [0, 1] rfl rfl 0 rfl rfl rfl rfl hl.1 rfl (Nat.le_of_ble_eq_true rfl) dL_farthest_4 ⟨Nat.le_of_ble_eq_true rfl, Nat.le_of_ble_eq_true rfl⟩ ⟨Nat.le_of_ble_eq_true rfl, Nat.le_of_ble_eq_true rfl⟩) hP hD hS [0, 1] [] rfl rfl rfl (by decide) (fun ce q9 H locs hce hcv hcl hP hD hS => ?_)
  have hP : va_P D CL [(x, .inr (10, xC inp par pla dra lat his f1 f2 hd ec ea g)), (pla, .inr (5, pC 0 0 0 gp))] H := hP
  have hD : va_D A [(x, .inr (10, xC inp par pla dra lat his f1 f2 hd ec ea g)), (pla, .inr (5, pC 0 0 0 gp))] := hD
  refine vx_widen (k := 1) (n := 6) (Nat.le_of_ble_eq_true rfl) (Nat.le_of_ble_eq_true rfl) ?_
  refine r_catch C (by decide) [] ⟨0, 9, 12, 20⟩ [⟨0, 9, 15, 13⟩] (htab.trans rfl) (fun z hz => nomatch hz) rfl (by decide) w_42 hce hcv hcl ?_
  refine W.eq (g2 := F0 m 12 ls [.ref q9]) rfl ?_
  refine lv_astore_n (lv' := [(3, .ref q9), (0, .ref x), (1, .int a0), (2, .ref o)]) hx hb dL_farthest_12 rfl hl (by decide) rfl (fun ls hl => ?_)
  refine lv_iconst (v := 1) hx hb dL_farthest_13 (by decide) ?_
  exact r_iret C hP hD hS () rfl rfl (Nat.le_of_ble_eq_true rfl) (Nat.le_of_ble_eq_true rfl) dL_farthest_14
set_option maxHeartbeats 4000000 in
set_option maxRecDepth 100000 in
theorem h_seenFromEdge (l : Launch) (hlt : l.stackTraces = false) (D : va_G) (cI cZ cJ : ClassId) (x : Nat) (inp : Nat) (par : Nat) (pla : Nat) (dra : Nat) (lat : Nat) (his : Nat) (f1 : Nat) (f2 : Nat) (hd : Int32) (ec : Int32) (ea : Int32) (g : Nat → Value) (gp : Nat → Value) (a0 : Int32) (o : Nat)  : cMW l yL_seenFromEdge cL_seenFromEdge 4 (some .int) [(0, 8, 11, 20), (0, 8, 14, 13)] D (TT cI cZ cJ) [.ref x, .int a0, .ref o] [(x, .inr (10, xC inp par pla dra lat his f1 f2 hd ec ea g)), (pla, .inr (5, pC 0 0 0 gp))] (qI D (TT cI cZ cJ) (fun u : Unit => 1) (fun u : Unit => [(x, .inr (10, xC inp par pla dra lat his f1 f2 hd ec ea g)), (pla, .inr (5, pC 0 0 0 gp))])) 2 1 6 := by
  refine enterW (by decide) (Nat.le_of_ble_eq_true rfl) ?_
  intro p e s m below meth c ls A C htab hP hD hS hl
  have hx := C.1
  have hb := C.2.1
  have hl : lv_has ls 4 [(0, .ref x), (1, .int a0), (2, .ref o)] := hl
  refine lv_aload_n hx hb dL_seenFromEdge_0 rfl (lv_at hl 2 rfl) ?_
  refine lv_iconst (v := 0) hx hb dL_seenFromEdge_1 (by decide) ?_
  refine lv_aload_n hx hb dL_seenFromEdge_2 rfl (lv_at hl 0 rfl) ?_
  refine lv_iload_n hx hb dL_seenFromEdge_3 rfl (lv_at hl 1 rfl) ?_
  refine call_X (wr := []) C (run_VX (As := [.int a0]) (rest := [.int 0, .ref o]) C (k_seenFromEdge l hlt D cI cZ cJ x inp par pla dra lat his f1 f2 hd ec ea g gp a0 ) cV_L_66 hP hD hS [0, 1] rfl rfl 0 rfl rfl rfl rfl hl.1 rfl (Nat.le_of_ble_eq_true rfl) dL_seenFromEdge_4 ⟨Nat.le_of_ble_eq_true rfl, Nat.le_of_ble_eq_true rfl⟩ ⟨Nat.le_of_ble_eq_true rfl, Nat.le_of_ble_eq_true rfl⟩) hP hD hS [0, 1] [] rfl rfl rfl (by decide) (fun ce q9 H locs hce hcv hcl hP hD hS => ?_)
  have hP : va_P D CL [(x, .inr (10, xC inp par pla dra lat his f1 f2 hd ec ea g)), (pla, .inr (5, pC 0 0 0 gp))] H := hP
  have hD : va_D A [(x, .inr (10, xC inp par pla dra lat his f1 f2 hd ec ea g)), (pla, .inr (5, pC 0 0 0 gp))] := hD
  refine vx_widen (k := 1) (n := 6) (Nat.le_of_ble_eq_true rfl) (Nat.le_of_ble_eq_true rfl) ?_
  refine r_catch C (by decide) [] ⟨0, 8, 11, 20⟩ [⟨0, 8, 14, 13⟩] (htab.trans rfl) (fun z hz => nomatch hz) rfl (by decide) w_42 hce hcv hcl ?_
  refine W.eq (g2 := F0 m 11 ls [.ref q9]) rfl ?_
  refine lv_astore_n (lv' := [(3, .ref q9), (0, .ref x), (1, .int a0), (2, .ref o)]) hx hb dL_seenFromEdge_11 rfl hl (by decide) rfl (fun ls hl => ?_)
  refine lv_iconst (v := 1) hx hb dL_seenFromEdge_12 (by decide) ?_
  exact r_iret C hP hD hS () rfl rfl (Nat.le_of_ble_eq_true rfl) (Nat.le_of_ble_eq_true rfl) dL_seenFromEdge_13
set_option maxHeartbeats 4000000 in
set_option maxRecDepth 100000 in
theorem h_triangleVertex (l : Launch) (hlt : l.stackTraces = false) (D : va_G) (cI cZ cJ : ClassId) (x : Nat) (inp : Nat) (par : Nat) (pla : Nat) (dra : Nat) (lat : Nat) (his : Nat) (f1 : Nat) (f2 : Nat) (hd : Int32) (ec : Int32) (ea : Int32) (g : Nat → Value) (gp : Nat → Value) (a0 : Int32) (a1 : Int32) (o : Nat)  : cMW l yL_triangleVertex cL_triangleVertex 5 (some .int) [(0, 10, 13, 20), (0, 10, 17, 13), (0, 10, 21, 15)] D (TT cI cZ cJ) [.ref x, .int a0, .int a1, .ref o] [(x, .inr (10, xC inp par pla dra lat his f1 f2 hd ec ea g)), (pla, .inr (5, pC 0 0 0 gp))] (qI D (TT cI cZ cJ) (fun u : Unit => 1) (fun u : Unit => [(x, .inr (10, xC inp par pla dra lat his f1 f2 hd ec ea g)), (pla, .inr (5, pC 0 0 0 gp))])) 2 1 6 := by
  refine enterW (by decide) (Nat.le_of_ble_eq_true rfl) ?_
  intro p e s m below meth c ls A C htab hP hD hS hl
  have hx := C.1
  have hb := C.2.1
  have hl : lv_has ls 5 [(0, .ref x), (1, .int a0), (2, .int a1), (3, .ref o)] := hl
  refine lv_aload_n hx hb dL_triangleVertex_0 rfl (lv_at hl 3 rfl) ?_
  refine lv_iconst (v := 0) hx hb dL_triangleVertex_1 (by decide) ?_
  refine lv_aload_n hx hb dL_triangleVertex_2 rfl (lv_at hl 0 rfl) ?_
  refine lv_iload_n hx hb dL_triangleVertex_3 rfl (lv_at hl 1 rfl) ?_
  refine lv_iload_n hx hb dL_triangleVertex_4 rfl (lv_at hl 2 rfl) ?_
  refine call_X (wr := []) C (run_VX (As := [.int a0, .int a1]) (rest := [.int 0, .ref o]) C (k_triangleVertex l hlt D cI cZ cJ x inp par pla dra lat his f1 f2 hd ec ea g gp a0 a1 ) cV_L_69 hP hD hS [0, 1] rfl rfl 0 rfl rfl rfl rfl hl.1 rfl (Nat.le_of_ble_eq_true rfl) dL_triangleVertex_5 ⟨Nat.le_of_ble_eq_true rfl, Nat.le_of_ble_eq_true rfl⟩ ⟨Nat.le_of_ble_eq_true rfl, Nat.le_of_ble_eq_true rfl⟩) hP hD hS [0, 1] [] rfl rfl rfl (by decide) (fun ce q9 H locs hce hcv hcl hP hD hS => ?_)
  have hP : va_P D CL [(x, .inr (10, xC inp par pla dra lat his f1 f2 hd ec ea g)), (pla, .inr (5, pC 0 0 0 gp))] H := hP
  have hD : va_D A [(x, .inr (10, xC inp par pla dra lat his f1 f2 hd ec ea g)), (pla, .inr (5, pC 0 0 0 gp))] := hD
  refine vx_widen (k := 1) (n := 6) (Nat.le_of_ble_eq_true rfl) (Nat.le_of_ble_eq_true rfl) ?_
  refine r_catch C (by decide) [] ⟨0, 10, 13, 20⟩ [⟨0, 10, 17, 13⟩, ⟨0, 10, 21, 15⟩] (htab.trans rfl) (fun z hz => nomatch hz) rfl (by decide) w_42 hce hcv hcl ?_
  refine W.eq (g2 := F0 m 13 ls [.ref q9]) rfl ?_
  refine lv_astore (lv' := [(4, .ref q9), (0, .ref x), (1, .int a0), (2, .int a1), (3, .ref o)]) hx hb dL_triangleVertex_13 hl (by decide) rfl (fun ls hl => ?_)
  refine lv_iconst (v := 1) hx hb dL_triangleVertex_15 (by decide) ?_
  exact r_iret C hP hD hS () rfl rfl (Nat.le_of_ble_eq_true rfl) (Nat.le_of_ble_eq_true rfl) dL_triangleVertex_16
set_option maxHeartbeats 4000000 in
set_option maxRecDepth 100000 in
theorem h_triangleArea (l : Launch) (hlt : l.stackTraces = false) (D : va_G) (cI cZ cJ : ClassId) (x : Nat) (inp : Nat) (par : Nat) (pla : Nat) (dra : Nat) (lat : Nat) (his : Nat) (f1 : Nat) (f2 : Nat) (hd : Int32) (ec : Int32) (ea : Int32) (g : Nat → Value) (gp : Nat → Value) (a0 : Int32) (o : Nat)  : cMW l yL_triangleArea cL_triangleArea 4 (some .int) [(0, 9, 12, 20), (0, 9, 15, 13)] D (TT cI cZ cJ) [.ref x, .int a0, .ref o] [(x, .inr (10, xC inp par pla dra lat his f1 f2 hd ec ea g)), (pla, .inr (5, pC 0 0 0 gp))] (qI D (TT cI cZ cJ) (fun u : Unit => 1) (fun u : Unit => [(x, .inr (10, xC inp par pla dra lat his f1 f2 hd ec ea g)), (pla, .inr (5, pC 0 0 0 gp))])) 2 1 6 := by
  refine enterW (by decide) (Nat.le_of_ble_eq_true rfl) ?_
  intro p e s m below meth c ls A C htab hP hD hS hl
  have hx := C.1
  have hb := C.2.1
  have hl : lv_has ls 4 [(0, .ref x), (1, .int a0), (2, .ref o)] := hl
  refine lv_aload_n hx hb dL_triangleArea_0 rfl (lv_at hl 2 rfl) ?_
  refine lv_iconst (v := 0) hx hb dL_triangleArea_1 (by decide) ?_
  refine lv_aload_n hx hb dL_triangleArea_2 rfl (lv_at hl 0 rfl) ?_
  refine lv_iload_n hx hb dL_triangleArea_3 rfl (lv_at hl 1 rfl) ?_
  refine call_X (wr := []) C (run_VX (As := [.int a0]) (rest := [.int 0, .ref o]) C (k_triangleArea l hlt D cI cZ cJ x inp par pla dra lat his f1 f2 hd ec ea g gp a0 ) cV_L_72 hP hD hS [0, 1] rfl rfl 0 rfl rfl rfl rfl hl.1 rfl (Nat.le_of_ble_eq_true rfl) dL_triangleArea_4 ⟨Nat.le_of_ble_eq_true rfl, Nat.le_of_ble_eq_true rfl⟩ ⟨Nat.le_of_ble_eq_true rfl, Nat.le_of_ble_eq_true rfl⟩) hP hD hS [0, 1] [] rfl rfl rfl (by decide) (fun ce q9 H locs hce hcv hcl hP hD hS => ?_)
  have hP : va_P D CL [(x, .inr (10, xC inp par pla dra lat his f1 f2 hd ec ea g)), (pla, .inr (5, pC 0 0 0 gp))] H := hP
  have hD : va_D A [(x, .inr (10, xC inp par pla dra lat his f1 f2 hd ec ea g)), (pla, .inr (5, pC 0 0 0 gp))] := hD
  refine vx_widen (k := 1) (n := 6) (Nat.le_of_ble_eq_true rfl) (Nat.le_of_ble_eq_true rfl) ?_
  refine r_catch C (by decide) [] ⟨0, 9, 12, 20⟩ [⟨0, 9, 15, 13⟩] (htab.trans rfl) (fun z hz => nomatch hz) rfl (by decide) w_42 hce hcv hcl ?_
  refine W.eq (g2 := F0 m 12 ls [.ref q9]) rfl ?_
  refine lv_astore_n (lv' := [(3, .ref q9), (0, .ref x), (1, .int a0), (2, .ref o)]) hx hb dL_triangleArea_12 rfl hl (by decide) rfl (fun ls hl => ?_)
  refine lv_iconst (v := 1) hx hb dL_triangleArea_13 (by decide) ?_
  exact r_iret C hP hD hS () rfl rfl (Nat.le_of_ble_eq_true rfl) (Nat.le_of_ble_eq_true rfl) dL_triangleArea_14
set_option maxHeartbeats 4000000 in
set_option maxRecDepth 100000 in
theorem h_colour (l : Launch) (hlt : l.stackTraces = false) (D : va_G) (cI cZ cJ : ClassId) (x : Nat) (inp : Nat) (par : Nat) (pla : Nat) (dra : Nat) (lat : Nat) (his : Nat) (f1 : Nat) (f2 : Nat) (hd : Int32) (ec : Int32) (ea : Int32) (g : Nat → Value) (gp : Nat → Value) (a0 : Int32) (o : Nat)  : cMW l yL_colour cL_colour 4 (some .int) [(0, 9, 12, 20), (0, 9, 15, 13)] D (TT cI cZ cJ) [.ref x, .int a0, .ref o] [(x, .inr (10, xC inp par pla dra lat his f1 f2 hd ec ea g)), (pla, .inr (5, pC 0 0 0 gp))] (qI D (TT cI cZ cJ) (fun u : Unit => 1) (fun u : Unit => [(x, .inr (10, xC inp par pla dra lat his f1 f2 hd ec ea g)), (pla, .inr (5, pC 0 0 0 gp))])) 2 1 6 := by
  refine enterW (by decide) (Nat.le_of_ble_eq_true rfl) ?_
  intro p e s m below meth c ls A C htab hP hD hS hl
  have hx := C.1
  have hb := C.2.1
  have hl : lv_has ls 4 [(0, .ref x), (1, .int a0), (2, .ref o)] := hl
  refine lv_aload_n hx hb dL_colour_0 rfl (lv_at hl 2 rfl) ?_
  refine lv_iconst (v := 0) hx hb dL_colour_1 (by decide) ?_
  refine lv_aload_n hx hb dL_colour_2 rfl (lv_at hl 0 rfl) ?_
  refine lv_iload_n hx hb dL_colour_3 rfl (lv_at hl 1 rfl) ?_
  refine call_X (wr := []) C (run_VX (As := [.int a0]) (rest := [.int 0, .ref o]) C (k_colour l hlt D cI cZ cJ x inp par pla dra lat his f1 f2 hd ec ea g gp a0 ) cV_L_75 hP hD hS [0, 1] rfl rfl 0 rfl rfl rfl rfl hl.1 rfl (Nat.le_of_ble_eq_true rfl) dL_colour_4 ⟨Nat.le_of_ble_eq_true rfl, Nat.le_of_ble_eq_true rfl⟩ ⟨Nat.le_of_ble_eq_true rfl, Nat.le_of_ble_eq_true rfl⟩) hP hD hS [0, 1] [] rfl rfl rfl (by decide) (fun ce q9 H locs hce hcv hcl hP hD hS => ?_)
  have hP : va_P D CL [(x, .inr (10, xC inp par pla dra lat his f1 f2 hd ec ea g)), (pla, .inr (5, pC 0 0 0 gp))] H := hP
  have hD : va_D A [(x, .inr (10, xC inp par pla dra lat his f1 f2 hd ec ea g)), (pla, .inr (5, pC 0 0 0 gp))] := hD
  refine vx_widen (k := 1) (n := 6) (Nat.le_of_ble_eq_true rfl) (Nat.le_of_ble_eq_true rfl) ?_
  refine r_catch C (by decide) [] ⟨0, 9, 12, 20⟩ [⟨0, 9, 15, 13⟩] (htab.trans rfl) (fun z hz => nomatch hz) rfl (by decide) w_42 hce hcv hcl ?_
  refine W.eq (g2 := F0 m 12 ls [.ref q9]) rfl ?_
  refine lv_astore_n (lv' := [(3, .ref q9), (0, .ref x), (1, .int a0), (2, .ref o)]) hx hb dL_colour_12 rfl hl (by decide) rfl (fun ls hl => ?_)
  refine lv_iconst (v := 1) hx hb dL_colour_13 (by decide) ?_
  exact r_iret C hP hD hS () rfl rfl (Nat.le_of_ble_eq_true rfl) (Nat.le_of_ble_eq_true rfl) dL_colour_14
set_option maxHeartbeats 4000000 in
set_option maxRecDepth 100000 in
theorem h_colourGuards (l : Launch) (hlt : l.stackTraces = false) (D : va_G) (cI cZ cJ : ClassId) (x : Nat) (inp : Nat) (par : Nat) (pla : Nat) (dra : Nat) (lat : Nat) (his : Nat) (f1 : Nat) (f2 : Nat) (hd : Int32) (ec : Int32) (ea : Int32) (g : Nat → Value) (gp : Nat → Value) (o : Nat)  : cMW l yL_colourGuards cL_colourGuards 3 (some .int) [(0, 8, 11, 20)] D (TT cI cZ cJ) [.ref x, .ref o] [(x, .inr (10, xC inp par pla dra lat his f1 f2 hd ec ea g)), (pla, .inr (5, pC 0 0 0 gp))] (qI D (TT cI cZ cJ) (fun u : Unit => 1) (fun u : Unit => [(x, .inr (10, xC inp par pla dra lat his f1 f2 hd ec ea g)), (pla, .inr (5, pC 0 0 0 gp))])) 2 1 6 := by
  refine enterW (by decide) (Nat.le_of_ble_eq_true rfl) ?_
  intro p e s m below meth c ls A C htab hP hD hS hl
  have hx := C.1
  have hb := C.2.1
  have hl : lv_has ls 3 [(0, .ref x), (1, .ref o)] := hl
  refine lv_aload_n hx hb dL_colourGuards_0 rfl (lv_at hl 1 rfl) ?_
  refine lv_iconst (v := 0) hx hb dL_colourGuards_1 (by decide) ?_
  refine lv_aload_n hx hb dL_colourGuards_2 rfl (lv_at hl 0 rfl) ?_
  refine call_X (wr := []) C (run_VX (As := []) (rest := [.int 0, .ref o]) C (k_colourGuards l hlt D cI cZ cJ x inp par pla dra lat his f1 f2 hd ec ea g gp ) cV_L_78 hP hD hS [0, 1] rfl rfl 0 rfl rfl rfl rfl hl.1 rfl (Nat.le_of_ble_eq_true rfl) dL_colourGuards_3 ⟨Nat.le_of_ble_eq_true rfl, Nat.le_of_ble_eq_true rfl⟩ ⟨Nat.le_of_ble_eq_true rfl, Nat.le_of_ble_eq_true rfl⟩) hP hD hS [0, 1] [] rfl rfl rfl (by decide) (fun ce q9 H locs hce hcv hcl hP hD hS => ?_)
  have hP : va_P D CL [(x, .inr (10, xC inp par pla dra lat his f1 f2 hd ec ea g)), (pla, .inr (5, pC 0 0 0 gp))] H := hP
  have hD : va_D A [(x, .inr (10, xC inp par pla dra lat his f1 f2 hd ec ea g)), (pla, .inr (5, pC 0 0 0 gp))] := hD
  refine vx_widen (k := 1) (n := 6) (Nat.le_of_ble_eq_true rfl) (Nat.le_of_ble_eq_true rfl) ?_
  refine r_catch C (by decide) [] ⟨0, 8, 11, 20⟩ [] (htab.trans rfl) (fun z hz => nomatch hz) rfl (by decide) w_42 hce hcv hcl ?_
  refine W.eq (g2 := F0 m 11 ls [.ref q9]) rfl ?_
  refine lv_astore_n (lv' := [(2, .ref q9), (0, .ref x), (1, .ref o)]) hx hb dL_colourGuards_11 rfl hl (by decide) rfl (fun ls hl => ?_)
  refine lv_iconst (v := 1) hx hb dL_colourGuards_12 (by decide) ?_
  exact r_iret C hP hD hS () rfl rfl (Nat.le_of_ble_eq_true rfl) (Nat.le_of_ble_eq_true rfl) dL_colourGuards_13
set_option maxHeartbeats 4000000 in
set_option maxRecDepth 100000 in
theorem h_vertexGuards (l : Launch) (hlt : l.stackTraces = false) (D : va_G) (cI cZ cJ : ClassId) (x : Nat) (inp : Nat) (par : Nat) (pla : Nat) (dra : Nat) (lat : Nat) (his : Nat) (f1 : Nat) (f2 : Nat) (hd : Int32) (ec : Int32) (ea : Int32) (g : Nat → Value) (gp : Nat → Value) (o : Nat)  : cMW l yL_vertexGuards cL_vertexGuards 3 (some .int) [(0, 8, 11, 20)] D (TT cI cZ cJ) [.ref x, .ref o] [(x, .inr (10, xC inp par pla dra lat his f1 f2 hd ec ea g)), (pla, .inr (5, pC 0 0 0 gp))] (qI D (TT cI cZ cJ) (fun u : Unit => 1) (fun u : Unit => [(x, .inr (10, xC inp par pla dra lat his f1 f2 hd ec ea g)), (pla, .inr (5, pC 0 0 0 gp))])) 2 1 6 := by
  refine enterW (by decide) (Nat.le_of_ble_eq_true rfl) ?_
  intro p e s m below meth c ls A C htab hP hD hS hl
  have hx := C.1
  have hb := C.2.1
  have hl : lv_has ls 3 [(0, .ref x), (1, .ref o)] := hl
  refine lv_aload_n hx hb dL_vertexGuards_0 rfl (lv_at hl 1 rfl) ?_
  refine lv_iconst (v := 0) hx hb dL_vertexGuards_1 (by decide) ?_
  refine lv_aload_n hx hb dL_vertexGuards_2 rfl (lv_at hl 0 rfl) ?_
  refine call_X (wr := []) C (run_VX (As := []) (rest := [.int 0, .ref o]) C (k_vertexGuards l hlt D cI cZ cJ x inp par pla dra lat his f1 f2 hd ec ea g gp ) cV_L_81 hP hD hS [0, 1] rfl rfl 0 rfl rfl rfl rfl hl.1 rfl (Nat.le_of_ble_eq_true rfl) dL_vertexGuards_3 ⟨Nat.le_of_ble_eq_true rfl, Nat.le_of_ble_eq_true rfl⟩ ⟨Nat.le_of_ble_eq_true rfl, Nat.le_of_ble_eq_true rfl⟩) hP hD hS [0, 1] [] rfl rfl rfl (by decide) (fun ce q9 H locs hce hcv hcl hP hD hS => ?_)
  have hP : va_P D CL [(x, .inr (10, xC inp par pla dra lat his f1 f2 hd ec ea g)), (pla, .inr (5, pC 0 0 0 gp))] H := hP
  have hD : va_D A [(x, .inr (10, xC inp par pla dra lat his f1 f2 hd ec ea g)), (pla, .inr (5, pC 0 0 0 gp))] := hD
  refine vx_widen (k := 1) (n := 6) (Nat.le_of_ble_eq_true rfl) (Nat.le_of_ble_eq_true rfl) ?_
  refine r_catch C (by decide) [] ⟨0, 8, 11, 20⟩ [] (htab.trans rfl) (fun z hz => nomatch hz) rfl (by decide) w_42 hce hcv hcl ?_
  refine W.eq (g2 := F0 m 11 ls [.ref q9]) rfl ?_
  refine lv_astore_n (lv' := [(2, .ref q9), (0, .ref x), (1, .ref o)]) hx hb dL_vertexGuards_11 rfl hl (by decide) rfl (fun ls hl => ?_)
  refine lv_iconst (v := 1) hx hb dL_vertexGuards_12 (by decide) ?_
  exact r_iret C hP hD hS () rfl rfl (Nat.le_of_ble_eq_true rfl) (Nat.le_of_ble_eq_true rfl) dL_vertexGuards_13
set_option maxHeartbeats 4000000 in
set_option maxRecDepth 100000 in
theorem h_edgeGuards (l : Launch) (hlt : l.stackTraces = false) (D : va_G) (cI cZ cJ : ClassId) (x : Nat) (inp : Nat) (par : Nat) (pla : Nat) (dra : Nat) (lat : Nat) (his : Nat) (f1 : Nat) (f2 : Nat) (hd : Int32) (ec : Int32) (ea : Int32) (g : Nat → Value) (gp : Nat → Value) (o : Nat)  : cMW l yL_edgeGuards cL_edgeGuards 3 (some .int) [(0, 8, 11, 20)] D (TT cI cZ cJ) [.ref x, .ref o] [(x, .inr (10, xC inp par pla dra lat his f1 f2 hd ec ea g)), (pla, .inr (5, pC 0 0 0 gp))] (qI D (TT cI cZ cJ) (fun u : Unit => 1) (fun u : Unit => [(x, .inr (10, xC inp par pla dra lat his f1 f2 hd ec ea g)), (pla, .inr (5, pC 0 0 0 gp))])) 2 1 6 := by
  refine enterW (by decide) (Nat.le_of_ble_eq_true rfl) ?_
  intro p e s m below meth c ls A C htab hP hD hS hl
  have hx := C.1
  have hb := C.2.1
  have hl : lv_has ls 3 [(0, .ref x), (1, .ref o)] := hl
  refine lv_aload_n hx hb dL_edgeGuards_0 rfl (lv_at hl 1 rfl) ?_
  refine lv_iconst (v := 0) hx hb dL_edgeGuards_1 (by decide) ?_
  refine lv_aload_n hx hb dL_edgeGuards_2 rfl (lv_at hl 0 rfl) ?_
  refine call_X (wr := []) C (run_VX (As := []) (rest := [.int 0, .ref o]) C (k_edgeGuards l hlt D cI cZ cJ x inp par pla dra lat his f1 f2 hd ec ea g gp ) cV_L_84 hP hD hS [0, 1] rfl rfl 0 rfl rfl rfl rfl hl.1 rfl (Nat.le_of_ble_eq_true rfl) dL_edgeGuards_3 ⟨Nat.le_of_ble_eq_true rfl, Nat.le_of_ble_eq_true rfl⟩ ⟨Nat.le_of_ble_eq_true rfl, Nat.le_of_ble_eq_true rfl⟩) hP hD hS [0, 1] [] rfl rfl rfl (by decide) (fun ce q9 H locs hce hcv hcl hP hD hS => ?_)
  have hP : va_P D CL [(x, .inr (10, xC inp par pla dra lat his f1 f2 hd ec ea g)), (pla, .inr (5, pC 0 0 0 gp))] H := hP
  have hD : va_D A [(x, .inr (10, xC inp par pla dra lat his f1 f2 hd ec ea g)), (pla, .inr (5, pC 0 0 0 gp))] := hD
  refine vx_widen (k := 1) (n := 6) (Nat.le_of_ble_eq_true rfl) (Nat.le_of_ble_eq_true rfl) ?_
  refine r_catch C (by decide) [] ⟨0, 8, 11, 20⟩ [] (htab.trans rfl) (fun z hz => nomatch hz) rfl (by decide) w_42 hce hcv hcl ?_
  refine W.eq (g2 := F0 m 11 ls [.ref q9]) rfl ?_
  refine lv_astore_n (lv' := [(2, .ref q9), (0, .ref x), (1, .ref o)]) hx hb dL_edgeGuards_11 rfl hl (by decide) rfl (fun ls hl => ?_)
  refine lv_iconst (v := 1) hx hb dL_edgeGuards_12 (by decide) ?_
  exact r_iret C hP hD hS () rfl rfl (Nat.le_of_ble_eq_true rfl) (Nat.le_of_ble_eq_true rfl) dL_edgeGuards_13
set_option maxHeartbeats 4000000 in
set_option maxRecDepth 100000 in
theorem h_guardNumber (l : Launch) (hlt : l.stackTraces = false) (D : va_G) (cI cZ cJ : ClassId) (x : Nat) (inp : Nat) (par : Nat) (pla : Nat) (dra : Nat) (lat : Nat) (his : Nat) (f1 : Nat) (f2 : Nat) (hd : Int32) (ec : Int32) (ea : Int32) (g : Nat → Value) (gp : Nat → Value) (o : Nat)  : cMW l yL_guardNumber cL_guardNumber 3 (some .int) [(0, 8, 11, 20)] D (TT cI cZ cJ) [.ref x, .ref o] [(x, .inr (10, xC inp par pla dra lat his f1 f2 hd ec ea g)), (pla, .inr (5, pC 0 0 0 gp))] (qI D (TT cI cZ cJ) (fun u : Unit => 1) (fun u : Unit => [(x, .inr (10, xC inp par pla dra lat his f1 f2 hd ec ea g)), (pla, .inr (5, pC 0 0 0 gp))])) 2 1 6 := by
  refine enterW (by decide) (Nat.le_of_ble_eq_true rfl) ?_
  intro p e s m below meth c ls A C htab hP hD hS hl
  have hx := C.1
  have hb := C.2.1
  have hl : lv_has ls 3 [(0, .ref x), (1, .ref o)] := hl
  refine lv_aload_n hx hb dL_guardNumber_0 rfl (lv_at hl 1 rfl) ?_
  refine lv_iconst (v := 0) hx hb dL_guardNumber_1 (by decide) ?_
  refine lv_aload_n hx hb dL_guardNumber_2 rfl (lv_at hl 0 rfl) ?_
  refine call_X (wr := []) C (run_VX (As := []) (rest := [.int 0, .ref o]) C (k_guardNumber l hlt D cI cZ cJ x inp par pla dra lat his f1 f2 hd ec ea g gp ) cV_L_87 hP hD hS [0, 1] rfl rfl 0 rfl rfl rfl rfl hl.1 rfl (Nat.le_of_ble_eq_true rfl) dL_guardNumber_3 ⟨Nat.le_of_ble_eq_true rfl, Nat.le_of_ble_eq_true rfl⟩ ⟨Nat.le_of_ble_eq_true rfl, Nat.le_of_ble_eq_true rfl⟩) hP hD hS [0, 1] [] rfl rfl rfl (by decide) (fun ce q9 H locs hce hcv hcl hP hD hS => ?_)
  have hP : va_P D CL [(x, .inr (10, xC inp par pla dra lat his f1 f2 hd ec ea g)), (pla, .inr (5, pC 0 0 0 gp))] H := hP
  have hD : va_D A [(x, .inr (10, xC inp par pla dra lat his f1 f2 hd ec ea g)), (pla, .inr (5, pC 0 0 0 gp))] := hD
  refine vx_widen (k := 1) (n := 6) (Nat.le_of_ble_eq_true rfl) (Nat.le_of_ble_eq_true rfl) ?_
  refine r_catch C (by decide) [] ⟨0, 8, 11, 20⟩ [] (htab.trans rfl) (fun z hz => nomatch hz) rfl (by decide) w_42 hce hcv hcl ?_
  refine W.eq (g2 := F0 m 11 ls [.ref q9]) rfl ?_
  refine lv_astore_n (lv' := [(2, .ref q9), (0, .ref x), (1, .ref o)]) hx hb dL_guardNumber_11 rfl hl (by decide) rfl (fun ls hl => ?_)
  refine lv_iconst (v := 1) hx hb dL_guardNumber_12 (by decide) ?_
  exact r_iret C hP hD hS () rfl rfl (Nat.le_of_ble_eq_true rfl) (Nat.le_of_ble_eq_true rfl) dL_guardNumber_13
set_option maxHeartbeats 4000000 in
set_option maxRecDepth 100000 in
theorem h_guardPoint (l : Launch) (hlt : l.stackTraces = false) (D : va_G) (cI cZ cJ : ClassId) (x : Nat) (inp : Nat) (par : Nat) (pla : Nat) (dra : Nat) (lat : Nat) (his : Nat) (f1 : Nat) (f2 : Nat) (hd : Int32) (ec : Int32) (ea : Int32) (g : Nat → Value) (gp : Nat → Value) (a0 : Int32) (o : Nat)  : cMW l yL_guardPoint cL_guardPoint 4 (some .int) [(0, 9, 12, 20), (0, 9, 15, 13)] D (TT cI cZ cJ) [.ref x, .int a0, .ref o] [(x, .inr (10, xC inp par pla dra lat his f1 f2 hd ec ea g)), (pla, .inr (5, pC 0 0 0 gp))] (qI D (TT cI cZ cJ) (fun u : Unit => 1) (fun u : Unit => [(x, .inr (10, xC inp par pla dra lat his f1 f2 hd ec ea g)), (pla, .inr (5, pC 0 0 0 gp))])) 2 1 6 := by
  refine enterW (by decide) (Nat.le_of_ble_eq_true rfl) ?_
  intro p e s m below meth c ls A C htab hP hD hS hl
  have hx := C.1
  have hb := C.2.1
  have hl : lv_has ls 4 [(0, .ref x), (1, .int a0), (2, .ref o)] := hl
  refine lv_aload_n hx hb dL_guardPoint_0 rfl (lv_at hl 2 rfl) ?_
  refine lv_iconst (v := 0) hx hb dL_guardPoint_1 (by decide) ?_
  refine lv_aload_n hx hb dL_guardPoint_2 rfl (lv_at hl 0 rfl) ?_
  refine lv_iload_n hx hb dL_guardPoint_3 rfl (lv_at hl 1 rfl) ?_
  refine call_X (wr := []) C (run_VX (As := [.int a0]) (rest := [.int 0, .ref o]) C (k_guardPoint l hlt D cI cZ cJ x inp par pla dra lat his f1 f2 hd ec ea g gp a0 ) cV_L_90 hP hD hS [0, 1] rfl rfl 0 rfl rfl rfl rfl hl.1 rfl (Nat.le_of_ble_eq_true rfl) dL_guardPoint_4 ⟨Nat.le_of_ble_eq_true rfl, Nat.le_of_ble_eq_true rfl⟩ ⟨Nat.le_of_ble_eq_true rfl, Nat.le_of_ble_eq_true rfl⟩) hP hD hS [0, 1] [] rfl rfl rfl (by decide) (fun ce q9 H locs hce hcv hcl hP hD hS => ?_)
  have hP : va_P D CL [(x, .inr (10, xC inp par pla dra lat his f1 f2 hd ec ea g)), (pla, .inr (5, pC 0 0 0 gp))] H := hP
  have hD : va_D A [(x, .inr (10, xC inp par pla dra lat his f1 f2 hd ec ea g)), (pla, .inr (5, pC 0 0 0 gp))] := hD
  refine vx_widen (k := 1) (n := 6) (Nat.le_of_ble_eq_true rfl) (Nat.le_of_ble_eq_true rfl) ?_
  refine r_catch C (by decide) [] ⟨0, 9, 12, 20⟩ [⟨0, 9, 15, 13⟩] (htab.trans rfl) (fun z hz => nomatch hz) rfl (by decide) w_42 hce hcv hcl ?_
  refine W.eq (g2 := F0 m 12 ls [.ref q9]) rfl ?_
  refine lv_astore_n (lv' := [(3, .ref q9), (0, .ref x), (1, .int a0), (2, .ref o)]) hx hb dL_guardPoint_12 rfl hl (by decide) rfl (fun ls hl => ?_)
  refine lv_iconst (v := 1) hx hb dL_guardPoint_13 (by decide) ?_
  exact r_iret C hP hD hS () rfl rfl (Nat.le_of_ble_eq_true rfl) (Nat.le_of_ble_eq_true rfl) dL_guardPoint_14
set_option maxHeartbeats 4000000 in
set_option maxRecDepth 100000 in
theorem h_witnessNumber (l : Launch) (hlt : l.stackTraces = false) (D : va_G) (cI cZ cJ : ClassId) (x : Nat) (inp : Nat) (par : Nat) (pla : Nat) (dra : Nat) (lat : Nat) (his : Nat) (f1 : Nat) (f2 : Nat) (hd : Int32) (ec : Int32) (ea : Int32) (g : Nat → Value) (gp : Nat → Value) (o : Nat)  : cMW l yL_witnessNumber cL_witnessNumber 3 (some .int) [(0, 8, 11, 20)] D (TT cI cZ cJ) [.ref x, .ref o] [(x, .inr (10, xC inp par pla dra lat his f1 f2 hd ec ea g)), (pla, .inr (5, pC 0 0 0 gp))] (qI D (TT cI cZ cJ) (fun u : Unit => 1) (fun u : Unit => [(x, .inr (10, xC inp par pla dra lat his f1 f2 hd ec ea g)), (pla, .inr (5, pC 0 0 0 gp))])) 2 1 6 := by
  refine enterW (by decide) (Nat.le_of_ble_eq_true rfl) ?_
  intro p e s m below meth c ls A C htab hP hD hS hl
  have hx := C.1
  have hb := C.2.1
  have hl : lv_has ls 3 [(0, .ref x), (1, .ref o)] := hl
  refine lv_aload_n hx hb dL_witnessNumber_0 rfl (lv_at hl 1 rfl) ?_
  refine lv_iconst (v := 0) hx hb dL_witnessNumber_1 (by decide) ?_
  refine lv_aload_n hx hb dL_witnessNumber_2 rfl (lv_at hl 0 rfl) ?_
  refine call_X (wr := []) C (run_VX (As := []) (rest := [.int 0, .ref o]) C (k_witnessNumber l hlt D cI cZ cJ x inp par pla dra lat his f1 f2 hd ec ea g gp ) cV_L_93 hP hD hS [0, 1] rfl rfl 0 rfl rfl rfl rfl hl.1 rfl (Nat.le_of_ble_eq_true rfl) dL_witnessNumber_3 ⟨Nat.le_of_ble_eq_true rfl, Nat.le_of_ble_eq_true rfl⟩ ⟨Nat.le_of_ble_eq_true rfl, Nat.le_of_ble_eq_true rfl⟩) hP hD hS [0, 1] [] rfl rfl rfl (by decide) (fun ce q9 H locs hce hcv hcl hP hD hS => ?_)
  have hP : va_P D CL [(x, .inr (10, xC inp par pla dra lat his f1 f2 hd ec ea g)), (pla, .inr (5, pC 0 0 0 gp))] H := hP
  have hD : va_D A [(x, .inr (10, xC inp par pla dra lat his f1 f2 hd ec ea g)), (pla, .inr (5, pC 0 0 0 gp))] := hD
  refine vx_widen (k := 1) (n := 6) (Nat.le_of_ble_eq_true rfl) (Nat.le_of_ble_eq_true rfl) ?_
  refine r_catch C (by decide) [] ⟨0, 8, 11, 20⟩ [] (htab.trans rfl) (fun z hz => nomatch hz) rfl (by decide) w_42 hce hcv hcl ?_
  refine W.eq (g2 := F0 m 11 ls [.ref q9]) rfl ?_
  refine lv_astore_n (lv' := [(2, .ref q9), (0, .ref x), (1, .ref o)]) hx hb dL_witnessNumber_11 rfl hl (by decide) rfl (fun ls hl => ?_)
  refine lv_iconst (v := 1) hx hb dL_witnessNumber_12 (by decide) ?_
  exact r_iret C hP hD hS () rfl rfl (Nat.le_of_ble_eq_true rfl) (Nat.le_of_ble_eq_true rfl) dL_witnessNumber_13
set_option maxHeartbeats 4000000 in
set_option maxRecDepth 100000 in
theorem h_witness (l : Launch) (hlt : l.stackTraces = false) (D : va_G) (cI cZ cJ : ClassId) (x : Nat) (inp : Nat) (par : Nat) (pla : Nat) (dra : Nat) (lat : Nat) (his : Nat) (f1 : Nat) (f2 : Nat) (hd : Int32) (ec : Int32) (ea : Int32) (g : Nat → Value) (gp : Nat → Value) (a0 : Int32) (o : Nat)  : cMW l yL_witness cL_witness 4 (some .int) [(0, 9, 12, 20), (0, 9, 15, 13)] D (TT cI cZ cJ) [.ref x, .int a0, .ref o] [(x, .inr (10, xC inp par pla dra lat his f1 f2 hd ec ea g)), (pla, .inr (5, pC 0 0 0 gp))] (qI D (TT cI cZ cJ) (fun u : Unit => 1) (fun u : Unit => [(x, .inr (10, xC inp par pla dra lat his f1 f2 hd ec ea g)), (pla, .inr (5, pC 0 0 0 gp))])) 2 1 6 := by
  refine enterW (by decide) (Nat.le_of_ble_eq_true rfl) ?_
  intro p e s m below meth c ls A C htab hP hD hS hl
  have hx := C.1
  have hb := C.2.1
  have hl : lv_has ls 4 [(0, .ref x), (1, .int a0), (2, .ref o)] := hl
  refine lv_aload_n hx hb dL_witness_0 rfl (lv_at hl 2 rfl) ?_
  refine lv_iconst (v := 0) hx hb dL_witness_1 (by decide) ?_
  refine lv_aload_n hx hb dL_witness_2 rfl (lv_at hl 0 rfl) ?_
  refine lv_iload_n hx hb dL_witness_3 rfl (lv_at hl 1 rfl) ?_
  refine call_X (wr := []) C (run_VX (As := [.int a0]) (rest := [.int 0, .ref o]) C (k_witness l hlt D cI cZ cJ x inp par pla dra lat his f1 f2 hd ec ea g gp a0 ) cV_L_96 hP hD hS [0, 1] rfl rfl 0 rfl rfl rfl rfl hl.1 rfl (Nat.le_of_ble_eq_true rfl) dL_witness_4 ⟨Nat.le_of_ble_eq_true rfl, Nat.le_of_ble_eq_true rfl⟩ ⟨Nat.le_of_ble_eq_true rfl, Nat.le_of_ble_eq_true rfl⟩) hP hD hS [0, 1] [] rfl rfl rfl (by decide) (fun ce q9 H locs hce hcv hcl hP hD hS => ?_)
  have hP : va_P D CL [(x, .inr (10, xC inp par pla dra lat his f1 f2 hd ec ea g)), (pla, .inr (5, pC 0 0 0 gp))] H := hP
  have hD : va_D A [(x, .inr (10, xC inp par pla dra lat his f1 f2 hd ec ea g)), (pla, .inr (5, pC 0 0 0 gp))] := hD
  refine vx_widen (k := 1) (n := 6) (Nat.le_of_ble_eq_true rfl) (Nat.le_of_ble_eq_true rfl) ?_
  refine r_catch C (by decide) [] ⟨0, 9, 12, 20⟩ [⟨0, 9, 15, 13⟩] (htab.trans rfl) (fun z hz => nomatch hz) rfl (by decide) w_42 hce hcv hcl ?_
  refine W.eq (g2 := F0 m 12 ls [.ref q9]) rfl ?_
  refine lv_astore_n (lv' := [(3, .ref q9), (0, .ref x), (1, .int a0), (2, .ref o)]) hx hb dL_witness_12 rfl hl (by decide) rfl (fun ls hl => ?_)
  refine lv_iconst (v := 1) hx hb dL_witness_13 (by decide) ?_
  exact r_iret C hP hD hS () rfl rfl (Nat.le_of_ble_eq_true rfl) (Nat.le_of_ble_eq_true rfl) dL_witness_14
set_option maxHeartbeats 4000000 in
set_option maxRecDepth 100000 in
theorem h_hiddenNumber (l : Launch) (hlt : l.stackTraces = false) (D : va_G) (cI cZ cJ : ClassId) (x : Nat) (inp : Nat) (par : Nat) (pla : Nat) (dra : Nat) (lat : Nat) (his : Nat) (f1 : Nat) (f2 : Nat) (hd : Int32) (ec : Int32) (ea : Int32) (g : Nat → Value) (gp : Nat → Value) (o : Nat)  : cMW l yL_hiddenNumber cL_hiddenNumber 3 (some .int) [(0, 8, 11, 20)] D (TT cI cZ cJ) [.ref x, .ref o] [(x, .inr (10, xC inp par pla dra lat his f1 f2 hd ec ea g)), (pla, .inr (5, pC 0 0 0 gp))] (qI D (TT cI cZ cJ) (fun u : Unit => 1) (fun u : Unit => [(x, .inr (10, xC inp par pla dra lat his f1 f2 hd ec ea g)), (pla, .inr (5, pC 0 0 0 gp))])) 2 1 6 := by
  refine enterW (by decide) (Nat.le_of_ble_eq_true rfl) ?_
  intro p e s m below meth c ls A C htab hP hD hS hl
  have hx := C.1
  have hb := C.2.1
  have hl : lv_has ls 3 [(0, .ref x), (1, .ref o)] := hl
  refine lv_aload_n hx hb dL_hiddenNumber_0 rfl (lv_at hl 1 rfl) ?_
  refine lv_iconst (v := 0) hx hb dL_hiddenNumber_1 (by decide) ?_
  refine lv_aload_n hx hb dL_hiddenNumber_2 rfl (lv_at hl 0 rfl) ?_
  refine call_X (wr := []) C (run_VX (As := []) (rest := [.int 0, .ref o]) C (k_hiddenNumber l hlt D cI cZ cJ x inp par pla dra lat his f1 f2 hd ec ea g gp ) cV_L_99 hP hD hS [0, 1] rfl rfl 0 rfl rfl rfl rfl hl.1 rfl (Nat.le_of_ble_eq_true rfl) dL_hiddenNumber_3 ⟨Nat.le_of_ble_eq_true rfl, Nat.le_of_ble_eq_true rfl⟩ ⟨Nat.le_of_ble_eq_true rfl, Nat.le_of_ble_eq_true rfl⟩) hP hD hS [0, 1] [] rfl rfl rfl (by decide) (fun ce q9 H locs hce hcv hcl hP hD hS => ?_)
  have hP : va_P D CL [(x, .inr (10, xC inp par pla dra lat his f1 f2 hd ec ea g)), (pla, .inr (5, pC 0 0 0 gp))] H := hP
  have hD : va_D A [(x, .inr (10, xC inp par pla dra lat his f1 f2 hd ec ea g)), (pla, .inr (5, pC 0 0 0 gp))] := hD
  refine vx_widen (k := 1) (n := 6) (Nat.le_of_ble_eq_true rfl) (Nat.le_of_ble_eq_true rfl) ?_
  refine r_catch C (by decide) [] ⟨0, 8, 11, 20⟩ [] (htab.trans rfl) (fun z hz => nomatch hz) rfl (by decide) w_42 hce hcv hcl ?_
  refine W.eq (g2 := F0 m 11 ls [.ref q9]) rfl ?_
  refine lv_astore_n (lv' := [(2, .ref q9), (0, .ref x), (1, .ref o)]) hx hb dL_hiddenNumber_11 rfl hl (by decide) rfl (fun ls hl => ?_)
  refine lv_iconst (v := 1) hx hb dL_hiddenNumber_12 (by decide) ?_
  exact r_iret C hP hD hS () rfl rfl (Nat.le_of_ble_eq_true rfl) (Nat.le_of_ble_eq_true rfl) dL_hiddenNumber_13
set_option maxHeartbeats 4000000 in
set_option maxRecDepth 100000 in
theorem h_guardAt (l : Launch) (hlt : l.stackTraces = false) (D : va_G) (cI cZ cJ : ClassId) (x : Nat) (inp : Nat) (par : Nat) (pla : Nat) (dra : Nat) (lat : Nat) (his : Nat) (f1 : Nat) (f2 : Nat) (hd : Int32) (ec : Int32) (ea : Int32) (g : Nat → Value) (gp : Nat → Value) (a0 : Int32) (o : Nat)  : cMW l yL_guardAt cL_guardAt 4 (some .int) [(0, 9, 12, 20), (0, 9, 15, 13)] D (TT cI cZ cJ) [.ref x, .int a0, .ref o] [(x, .inr (10, xC inp par pla dra lat his f1 f2 hd ec ea g)), (pla, .inr (5, pC 0 0 0 gp))] (qI D (TT cI cZ cJ) (fun u : Unit => 1) (fun u : Unit => [(x, .inr (10, xC inp par pla dra lat his f1 f2 hd ec ea g)), (pla, .inr (5, pC 0 0 0 gp))])) 2 1 6 := by
  refine enterW (by decide) (Nat.le_of_ble_eq_true rfl) ?_
  intro p e s m below meth c ls A C htab hP hD hS hl
  have hx := C.1
  have hb := C.2.1
  have hl : lv_has ls 4 [(0, .ref x), (1, .int a0), (2, .ref o)] := hl
  refine lv_aload_n hx hb dL_guardAt_0 rfl (lv_at hl 2 rfl) ?_
  refine lv_iconst (v := 0) hx hb dL_guardAt_1 (by decide) ?_
  refine lv_aload_n hx hb dL_guardAt_2 rfl (lv_at hl 0 rfl) ?_
  refine lv_iload_n hx hb dL_guardAt_3 rfl (lv_at hl 1 rfl) ?_
  refine call_X (wr := []) C (run_VX (As := [.int a0]) (rest := [.int 0, .ref o]) C (k_guardAt l hlt D cI cZ cJ x inp par pla dra lat his f1 f2 hd ec ea g gp a0 ) cV_L_102 hP hD hS [0, 1] rfl rfl 0 rfl rfl rfl rfl hl.1 rfl (Nat.le_of_ble_eq_true rfl) dL_guardAt_4 ⟨Nat.le_of_ble_eq_true rfl, Nat.le_of_ble_eq_true rfl⟩ ⟨Nat.le_of_ble_eq_true rfl, Nat.le_of_ble_eq_true rfl⟩) hP hD hS [0, 1] [] rfl rfl rfl (by decide) (fun ce q9 H locs hce hcv hcl hP hD hS => ?_)
  have hP : va_P D CL [(x, .inr (10, xC inp par pla dra lat his f1 f2 hd ec ea g)), (pla, .inr (5, pC 0 0 0 gp))] H := hP
  have hD : va_D A [(x, .inr (10, xC inp par pla dra lat his f1 f2 hd ec ea g)), (pla, .inr (5, pC 0 0 0 gp))] := hD
  refine vx_widen (k := 1) (n := 6) (Nat.le_of_ble_eq_true rfl) (Nat.le_of_ble_eq_true rfl) ?_
  refine r_catch C (by decide) [] ⟨0, 9, 12, 20⟩ [⟨0, 9, 15, 13⟩] (htab.trans rfl) (fun z hz => nomatch hz) rfl (by decide) w_42 hce hcv hcl ?_
  refine W.eq (g2 := F0 m 12 ls [.ref q9]) rfl ?_
  refine lv_astore_n (lv' := [(3, .ref q9), (0, .ref x), (1, .int a0), (2, .ref o)]) hx hb dL_guardAt_12 rfl hl (by decide) rfl (fun ls hl => ?_)
  refine lv_iconst (v := 1) hx hb dL_guardAt_13 (by decide) ?_
  exact r_iret C hP hD hS () rfl rfl (Nat.le_of_ble_eq_true rfl) (Nat.le_of_ble_eq_true rfl) dL_guardAt_14
set_option maxHeartbeats 4000000 in
set_option maxRecDepth 100000 in
theorem h_guardRange (l : Launch) (hlt : l.stackTraces = false) (D : va_G) (cI cZ cJ : ClassId) (x : Nat) (inp : Nat) (par : Nat) (pla : Nat) (dra : Nat) (lat : Nat) (his : Nat) (f1 : Nat) (f2 : Nat) (hd : Int32) (ec : Int32) (ea : Int32) (g : Nat → Value) (gp : Nat → Value) (a0 : Int32) (o : Nat)  : cMW l yL_guardRange cL_guardRange 4 (some .int) [(0, 9, 12, 20), (0, 9, 15, 13)] D (TT cI cZ cJ) [.ref x, .int a0, .ref o] [(x, .inr (10, xC inp par pla dra lat his f1 f2 hd ec ea g)), (pla, .inr (5, pC 0 0 0 gp))] (qI D (TT cI cZ cJ) (fun u : Unit => 1) (fun u : Unit => [(x, .inr (10, xC inp par pla dra lat his f1 f2 hd ec ea g)), (pla, .inr (5, pC 0 0 0 gp))])) 2 1 6 := by
  refine enterW (by decide) (Nat.le_of_ble_eq_true rfl) ?_
  intro p e s m below meth c ls A C htab hP hD hS hl
  have hx := C.1
  have hb := C.2.1
  have hl : lv_has ls 4 [(0, .ref x), (1, .int a0), (2, .ref o)] := hl
  refine lv_aload_n hx hb dL_guardRange_0 rfl (lv_at hl 2 rfl) ?_
  refine lv_iconst (v := 0) hx hb dL_guardRange_1 (by decide) ?_
  refine lv_aload_n hx hb dL_guardRange_2 rfl (lv_at hl 0 rfl) ?_
  refine lv_iload_n hx hb dL_guardRange_3 rfl (lv_at hl 1 rfl) ?_
  refine call_X (wr := []) C (run_VX (As := [.int a0]) (rest := [.int 0, .ref o]) C (k_guardRange l hlt D cI cZ cJ x inp par pla dra lat his f1 f2 hd ec ea g gp a0 ) cV_L_105 hP hD hS [0, 1] rfl rfl 0 rfl rfl rfl rfl hl.1 rfl (Nat.le_of_ble_eq_true rfl) dL_guardRange_4 ⟨Nat.le_of_ble_eq_true rfl, Nat.le_of_ble_eq_true rfl⟩ ⟨Nat.le_of_ble_eq_true rfl, Nat.le_of_ble_eq_true rfl⟩) hP hD hS [0, 1] [] rfl rfl rfl (by decide) (fun ce q9 H locs hce hcv hcl hP hD hS => ?_)
  have hP : va_P D CL [(x, .inr (10, xC inp par pla dra lat his f1 f2 hd ec ea g)), (pla, .inr (5, pC 0 0 0 gp))] H := hP
  have hD : va_D A [(x, .inr (10, xC inp par pla dra lat his f1 f2 hd ec ea g)), (pla, .inr (5, pC 0 0 0 gp))] := hD
  refine vx_widen (k := 1) (n := 6) (Nat.le_of_ble_eq_true rfl) (Nat.le_of_ble_eq_true rfl) ?_
  refine r_catch C (by decide) [] ⟨0, 9, 12, 20⟩ [⟨0, 9, 15, 13⟩] (htab.trans rfl) (fun z hz => nomatch hz) rfl (by decide) w_42 hce hcv hcl ?_
  refine W.eq (g2 := F0 m 12 ls [.ref q9]) rfl ?_
  refine lv_astore_n (lv' := [(3, .ref q9), (0, .ref x), (1, .int a0), (2, .ref o)]) hx hb dL_guardRange_12 rfl hl (by decide) rfl (fun ls hl => ?_)
  refine lv_iconst (v := 1) hx hb dL_guardRange_13 (by decide) ?_
  exact r_iret C hP hD hS () rfl rfl (Nat.le_of_ble_eq_true rfl) (Nat.le_of_ble_eq_true rfl) dL_guardRange_14
set_option maxHeartbeats 4000000 in
set_option maxRecDepth 100000 in
theorem h_watched (l : Launch) (hlt : l.stackTraces = false) (D : va_G) (cI cZ cJ : ClassId) (x : Nat) (inp : Nat) (par : Nat) (pla : Nat) (dra : Nat) (lat : Nat) (his : Nat) (f1 : Nat) (f2 : Nat) (hd : Int32) (ec : Int32) (ea : Int32) (g : Nat → Value) (gp : Nat → Value) (a0 : Int32) (o : Nat)  : cMW l yL_watched cL_watched 4 (some .int) [(0, 8, 11, 20), (0, 8, 14, 13)] D (TT cI cZ cJ) [.ref x, .int a0, .ref o] [(x, .inr (10, xC inp par pla dra lat his f1 f2 hd ec ea g)), (pla, .inr (5, pC 0 0 0 gp))] (qI D (TT cI cZ cJ) (fun u : Unit => 1) (fun u : Unit => [(x, .inr (10, xC inp par pla dra lat his f1 f2 hd ec ea g)), (pla, .inr (5, pC 0 0 0 gp))])) 2 1 6 := by
  refine enterW (by decide) (Nat.le_of_ble_eq_true rfl) ?_
  intro p e s m below meth c ls A C htab hP hD hS hl
  have hx := C.1
  have hb := C.2.1
  have hl : lv_has ls 4 [(0, .ref x), (1, .int a0), (2, .ref o)] := hl
  refine lv_aload_n hx hb dL_watched_0 rfl (lv_at hl 2 rfl) ?_
  refine lv_iconst (v := 0) hx hb dL_watched_1 (by decide) ?_
  refine lv_aload_n hx hb dL_watched_2 rfl (lv_at hl 0 rfl) ?_
  refine lv_iload_n hx hb dL_watched_3 rfl (lv_at hl 1 rfl) ?_
  refine call_X (wr := []) C (run_VX (As := [.int a0]) (rest := [.int 0, .ref o]) C (k_watched l hlt D cI cZ cJ x inp par pla dra lat his f1 f2 hd ec ea g gp a0 ) cV_L_108 hP hD hS [0, 1] rfl rfl 0 rfl rfl rfl rfl hl.1 rfl (Nat.le_of_ble_eq_true rfl) dL_watched_4 ⟨Nat.le_of_ble_eq_true rfl, Nat.le_of_ble_eq_true rfl⟩ ⟨Nat.le_of_ble_eq_true rfl, Nat.le_of_ble_eq_true rfl⟩) hP hD hS [0, 1] [] rfl rfl rfl (by decide) (fun ce q9 H locs hce hcv hcl hP hD hS => ?_)
  have hP : va_P D CL [(x, .inr (10, xC inp par pla dra lat his f1 f2 hd ec ea g)), (pla, .inr (5, pC 0 0 0 gp))] H := hP
  have hD : va_D A [(x, .inr (10, xC inp par pla dra lat his f1 f2 hd ec ea g)), (pla, .inr (5, pC 0 0 0 gp))] := hD
  refine vx_widen (k := 1) (n := 6) (Nat.le_of_ble_eq_true rfl) (Nat.le_of_ble_eq_true rfl) ?_
  refine r_catch C (by decide) [] ⟨0, 8, 11, 20⟩ [⟨0, 8, 14, 13⟩] (htab.trans rfl) (fun z hz => nomatch hz) rfl (by decide) w_42 hce hcv hcl ?_
  refine W.eq (g2 := F0 m 11 ls [.ref q9]) rfl ?_
  refine lv_astore_n (lv' := [(3, .ref q9), (0, .ref x), (1, .int a0), (2, .ref o)]) hx hb dL_watched_11 rfl hl (by decide) rfl (fun ls hl => ?_)
  refine lv_iconst (v := 1) hx hb dL_watched_12 (by decide) ?_
  exact r_iret C hP hD hS () rfl rfl (Nat.le_of_ble_eq_true rfl) (Nat.le_of_ble_eq_true rfl) dL_watched_13
set_option maxHeartbeats 4000000 in
set_option maxRecDepth 100000 in
theorem h_unwatched (l : Launch) (hlt : l.stackTraces = false) (D : va_G) (cI cZ cJ : ClassId) (x : Nat) (inp : Nat) (par : Nat) (pla : Nat) (dra : Nat) (lat : Nat) (his : Nat) (f1 : Nat) (f2 : Nat) (hd : Int32) (ec : Int32) (ea : Int32) (g : Nat → Value) (gp : Nat → Value) (o : Nat)  : cMW l yL_unwatched cL_unwatched 3 (some .int) [(0, 7, 10, 20)] D (TT cI cZ cJ) [.ref x, .ref o] [(x, .inr (10, xC inp par pla dra lat his f1 f2 hd ec ea g)), (pla, .inr (5, pC 0 0 0 gp))] (qI D (TT cI cZ cJ) (fun u : Unit => 1) (fun u : Unit => [(x, .inr (10, xC inp par pla dra lat his f1 f2 hd ec ea g)), (pla, .inr (5, pC 0 0 0 gp))])) 2 1 6 := by
  refine enterW (by decide) (Nat.le_of_ble_eq_true rfl) ?_
  intro p e s m below meth c ls A C htab hP hD hS hl
  have hx := C.1
  have hb := C.2.1
  have hl : lv_has ls 3 [(0, .ref x), (1, .ref o)] := hl
  refine lv_aload_n hx hb dL_unwatched_0 rfl (lv_at hl 1 rfl) ?_
  refine lv_iconst (v := 0) hx hb dL_unwatched_1 (by decide) ?_
  refine lv_aload_n hx hb dL_unwatched_2 rfl (lv_at hl 0 rfl) ?_
  refine call_X (wr := []) C (run_VX (As := []) (rest := [.int 0, .ref o]) C (k_unwatched l hlt D cI cZ cJ x inp par pla dra lat his f1 f2 hd ec ea g gp ) cV_L_111 hP hD hS [0, 1] rfl rfl 0 rfl rfl rfl rfl hl.1 rfl (Nat.le_of_ble_eq_true rfl) dL_unwatched_3 ⟨Nat.le_of_ble_eq_true rfl, Nat.le_of_ble_eq_true rfl⟩ ⟨Nat.le_of_ble_eq_true rfl, Nat.le_of_ble_eq_true rfl⟩) hP hD hS [0, 1] [] rfl rfl rfl (by decide) (fun ce q9 H locs hce hcv hcl hP hD hS => ?_)
  have hP : va_P D CL [(x, .inr (10, xC inp par pla dra lat his f1 f2 hd ec ea g)), (pla, .inr (5, pC 0 0 0 gp))] H := hP
  have hD : va_D A [(x, .inr (10, xC inp par pla dra lat his f1 f2 hd ec ea g)), (pla, .inr (5, pC 0 0 0 gp))] := hD
  refine vx_widen (k := 1) (n := 6) (Nat.le_of_ble_eq_true rfl) (Nat.le_of_ble_eq_true rfl) ?_
  refine r_catch C (by decide) [] ⟨0, 7, 10, 20⟩ [] (htab.trans rfl) (fun z hz => nomatch hz) rfl (by decide) w_42 hce hcv hcl ?_
  refine W.eq (g2 := F0 m 10 ls [.ref q9]) rfl ?_
  refine lv_astore_n (lv' := [(2, .ref q9), (0, .ref x), (1, .ref o)]) hx hb dL_unwatched_10 rfl hl (by decide) rfl (fun ls hl => ?_)
  refine lv_iconst (v := 1) hx hb dL_unwatched_11 (by decide) ?_
  exact r_iret C hP hD hS () rfl rfl (Nat.le_of_ble_eq_true rfl) (Nat.le_of_ble_eq_true rfl) dL_unwatched_12
set_option maxHeartbeats 4000000 in
set_option maxRecDepth 100000 in
theorem h_watchers (l : Launch) (hlt : l.stackTraces = false) (D : va_G) (cI cZ cJ : ClassId) (x : Nat) (inp : Nat) (par : Nat) (pla : Nat) (dra : Nat) (lat : Nat) (his : Nat) (f1 : Nat) (f2 : Nat) (hd : Int32) (ec : Int32) (ea : Int32) (g : Nat → Value) (gp : Nat → Value) (a0 : Int32) (o : Nat)  : cMW l yL_watchers cL_watchers 4 (some .int) [(0, 9, 12, 20), (0, 9, 15, 13)] D (TT cI cZ cJ) [.ref x, .int a0, .ref o] [(x, .inr (10, xC inp par pla dra lat his f1 f2 hd ec ea g)), (pla, .inr (5, pC 0 0 0 gp))] (qI D (TT cI cZ cJ) (fun u : Unit => 1) (fun u : Unit => [(x, .inr (10, xC inp par pla dra lat his f1 f2 hd ec ea g)), (pla, .inr (5, pC 0 0 0 gp))])) 2 1 6 := by
  refine enterW (by decide) (Nat.le_of_ble_eq_true rfl) ?_
  intro p e s m below meth c ls A C htab hP hD hS hl
  have hx := C.1
  have hb := C.2.1
  have hl : lv_has ls 4 [(0, .ref x), (1, .int a0), (2, .ref o)] := hl
  refine lv_aload_n hx hb dL_watchers_0 rfl (lv_at hl 2 rfl) ?_
  refine lv_iconst (v := 0) hx hb dL_watchers_1 (by decide) ?_
  refine lv_aload_n hx hb dL_watchers_2 rfl (lv_at hl 0 rfl) ?_
  refine lv_iload_n hx hb dL_watchers_3 rfl (lv_at hl 1 rfl) ?_
  refine call_X (wr := []) C (run_VX (As := [.int a0]) (rest := [.int 0, .ref o]) C (k_watchers l hlt D cI cZ cJ x inp par pla dra lat his f1 f2 hd ec ea g gp a0 ) cV_L_114 hP hD hS [0, 1] rfl rfl 0 rfl rfl rfl rfl hl.1 rfl (Nat.le_of_ble_eq_true rfl) dL_watchers_4 ⟨Nat.le_of_ble_eq_true rfl, Nat.le_of_ble_eq_true rfl⟩ ⟨Nat.le_of_ble_eq_true rfl, Nat.le_of_ble_eq_true rfl⟩) hP hD hS [0, 1] [] rfl rfl rfl (by decide) (fun ce q9 H locs hce hcv hcl hP hD hS => ?_)
  have hP : va_P D CL [(x, .inr (10, xC inp par pla dra lat his f1 f2 hd ec ea g)), (pla, .inr (5, pC 0 0 0 gp))] H := hP
  have hD : va_D A [(x, .inr (10, xC inp par pla dra lat his f1 f2 hd ec ea g)), (pla, .inr (5, pC 0 0 0 gp))] := hD
  refine vx_widen (k := 1) (n := 6) (Nat.le_of_ble_eq_true rfl) (Nat.le_of_ble_eq_true rfl) ?_
  refine r_catch C (by decide) [] ⟨0, 9, 12, 20⟩ [⟨0, 9, 15, 13⟩] (htab.trans rfl) (fun z hz => nomatch hz) rfl (by decide) w_42 hce hcv hcl ?_
  refine W.eq (g2 := F0 m 12 ls [.ref q9]) rfl ?_
  refine lv_astore_n (lv' := [(3, .ref q9), (0, .ref x), (1, .int a0), (2, .ref o)]) hx hb dL_watchers_12 rfl hl (by decide) rfl (fun ls hl => ?_)
  refine lv_iconst (v := 1) hx hb dL_watchers_13 (by decide) ?_
  exact r_iret C hP hD hS () rfl rfl (Nat.le_of_ble_eq_true rfl) (Nat.le_of_ble_eq_true rfl) dL_watchers_14
set_option maxHeartbeats 4000000 in
set_option maxRecDepth 100000 in
theorem h_redundantGuards (l : Launch) (hlt : l.stackTraces = false) (D : va_G) (cI cZ cJ : ClassId) (x : Nat) (inp : Nat) (par : Nat) (pla : Nat) (dra : Nat) (lat : Nat) (his : Nat) (f1 : Nat) (f2 : Nat) (hd : Int32) (ec : Int32) (ea : Int32) (g : Nat → Value) (gp : Nat → Value) (o : Nat)  : cMW l yL_redundantGuards cL_redundantGuards 3 (some .int) [(0, 8, 11, 20)] D (TT cI cZ cJ) [.ref x, .ref o] [(x, .inr (10, xC inp par pla dra lat his f1 f2 hd ec ea g)), (pla, .inr (5, pC 0 0 0 gp))] (qI D (TT cI cZ cJ) (fun u : Unit => 1) (fun u : Unit => [(x, .inr (10, xC inp par pla dra lat his f1 f2 hd ec ea g)), (pla, .inr (5, pC 0 0 0 gp))])) 2 1 6 := by
  refine enterW (by decide) (Nat.le_of_ble_eq_true rfl) ?_
  intro p e s m below meth c ls A C htab hP hD hS hl
  have hx := C.1
  have hb := C.2.1
  have hl : lv_has ls 3 [(0, .ref x), (1, .ref o)] := hl
  refine lv_aload_n hx hb dL_redundantGuards_0 rfl (lv_at hl 1 rfl) ?_
  refine lv_iconst (v := 0) hx hb dL_redundantGuards_1 (by decide) ?_
  refine lv_aload_n hx hb dL_redundantGuards_2 rfl (lv_at hl 0 rfl) ?_
  refine call_X (wr := []) C (run_VX (As := []) (rest := [.int 0, .ref o]) C (k_redundantGuards l hlt D cI cZ cJ x inp par pla dra lat his f1 f2 hd ec ea g gp ) cV_L_117 hP hD hS [0, 1] rfl rfl 0 rfl rfl rfl rfl hl.1 rfl (Nat.le_of_ble_eq_true rfl) dL_redundantGuards_3 ⟨Nat.le_of_ble_eq_true rfl, Nat.le_of_ble_eq_true rfl⟩ ⟨Nat.le_of_ble_eq_true rfl, Nat.le_of_ble_eq_true rfl⟩) hP hD hS [0, 1] [] rfl rfl rfl (by decide) (fun ce q9 H locs hce hcv hcl hP hD hS => ?_)
  have hP : va_P D CL [(x, .inr (10, xC inp par pla dra lat his f1 f2 hd ec ea g)), (pla, .inr (5, pC 0 0 0 gp))] H := hP
  have hD : va_D A [(x, .inr (10, xC inp par pla dra lat his f1 f2 hd ec ea g)), (pla, .inr (5, pC 0 0 0 gp))] := hD
  refine vx_widen (k := 1) (n := 6) (Nat.le_of_ble_eq_true rfl) (Nat.le_of_ble_eq_true rfl) ?_
  refine r_catch C (by decide) [] ⟨0, 8, 11, 20⟩ [] (htab.trans rfl) (fun z hz => nomatch hz) rfl (by decide) w_42 hce hcv hcl ?_
  refine W.eq (g2 := F0 m 11 ls [.ref q9]) rfl ?_
  refine lv_astore_n (lv' := [(2, .ref q9), (0, .ref x), (1, .ref o)]) hx hb dL_redundantGuards_11 rfl hl (by decide) rfl (fun ls hl => ?_)
  refine lv_iconst (v := 1) hx hb dL_redundantGuards_12 (by decide) ?_
  exact r_iret C hP hD hS () rfl rfl (Nat.le_of_ble_eq_true rfl) (Nat.le_of_ble_eq_true rfl) dL_redundantGuards_13
set_option maxHeartbeats 4000000 in
set_option maxRecDepth 100000 in
theorem h_bestPoint (l : Launch) (hlt : l.stackTraces = false) (D : va_G) (cI cZ cJ : ClassId) (x : Nat) (inp : Nat) (par : Nat) (pla : Nat) (dra : Nat) (lat : Nat) (his : Nat) (f1 : Nat) (f2 : Nat) (hd : Int32) (ec : Int32) (ea : Int32) (g : Nat → Value) (gp : Nat → Value) (o : Nat)  : cMW l yL_bestPoint cL_bestPoint 3 (some .int) [(0, 8, 11, 20)] D (TT cI cZ cJ) [.ref x, .ref o] [(x, .inr (10, xC inp par pla dra lat his f1 f2 hd ec ea g)), (pla, .inr (5, pC 0 0 0 gp))] (qI D (TT cI cZ cJ) (fun u : Unit => 1) (fun u : Unit => [(x, .inr (10, xC inp par pla dra lat his f1 f2 hd ec ea g)), (pla, .inr (5, pC 0 0 0 gp))])) 2 1 6 := by
  refine enterW (by decide) (Nat.le_of_ble_eq_true rfl) ?_
  intro p e s m below meth c ls A C htab hP hD hS hl
  have hx := C.1
  have hb := C.2.1
  have hl : lv_has ls 3 [(0, .ref x), (1, .ref o)] := hl
  refine lv_aload_n hx hb dL_bestPoint_0 rfl (lv_at hl 1 rfl) ?_
  refine lv_iconst (v := 0) hx hb dL_bestPoint_1 (by decide) ?_
  refine lv_aload_n hx hb dL_bestPoint_2 rfl (lv_at hl 0 rfl) ?_
  refine call_X (wr := []) C (run_VX (As := []) (rest := [.int 0, .ref o]) C (k_bestPoint l hlt D cI cZ cJ x inp par pla dra lat his f1 f2 hd ec ea g gp ) cV_L_120 hP hD hS [0, 1] rfl rfl 0 rfl rfl rfl rfl hl.1 rfl (Nat.le_of_ble_eq_true rfl) dL_bestPoint_3 ⟨Nat.le_of_ble_eq_true rfl, Nat.le_of_ble_eq_true rfl⟩ ⟨Nat.le_of_ble_eq_true rfl, Nat.le_of_ble_eq_true rfl⟩) hP hD hS [0, 1] [] rfl rfl rfl (by decide) (fun ce q9 H locs hce hcv hcl hP hD hS => ?_)
  have hP : va_P D CL [(x, .inr (10, xC inp par pla dra lat his f1 f2 hd ec ea g)), (pla, .inr (5, pC 0 0 0 gp))] H := hP
  have hD : va_D A [(x, .inr (10, xC inp par pla dra lat his f1 f2 hd ec ea g)), (pla, .inr (5, pC 0 0 0 gp))] := hD
  refine vx_widen (k := 1) (n := 6) (Nat.le_of_ble_eq_true rfl) (Nat.le_of_ble_eq_true rfl) ?_
  refine r_catch C (by decide) [] ⟨0, 8, 11, 20⟩ [] (htab.trans rfl) (fun z hz => nomatch hz) rfl (by decide) w_42 hce hcv hcl ?_
  refine W.eq (g2 := F0 m 11 ls [.ref q9]) rfl ?_
  refine lv_astore_n (lv' := [(2, .ref q9), (0, .ref x), (1, .ref o)]) hx hb dL_bestPoint_11 rfl hl (by decide) rfl (fun ls hl => ?_)
  refine lv_iconst (v := 1) hx hb dL_bestPoint_12 (by decide) ?_
  exact r_iret C hP hD hS () rfl rfl (Nat.le_of_ble_eq_true rfl) (Nat.le_of_ble_eq_true rfl) dL_bestPoint_13
set_option maxHeartbeats 4000000 in
set_option maxRecDepth 100000 in
theorem h_greedyGuards (l : Launch) (hlt : l.stackTraces = false) (D : va_G) (cI cZ cJ : ClassId) (x : Nat) (inp : Nat) (par : Nat) (pla : Nat) (dra : Nat) (lat : Nat) (his : Nat) (f1 : Nat) (f2 : Nat) (hd : Int32) (ec : Int32) (ea : Int32) (g : Nat → Value) (gp : Nat → Value) (o : Nat)  : cMW l yL_greedyGuards cL_greedyGuards 3 (some .int) [(0, 8, 11, 20)] D (TT cI cZ cJ) [.ref x, .ref o] [(x, .inr (10, xC inp par pla dra lat his f1 f2 hd ec ea g)), (pla, .inr (5, pC 0 0 0 gp))] (qI D (TT cI cZ cJ) (fun u : Unit => 1) (fun u : Unit => [(x, .inr (10, xC inp par pla dra lat his f1 f2 hd ec ea g)), (pla, .inr (5, pC 0 0 0 gp))])) 2 1 6 := by
  refine enterW (by decide) (Nat.le_of_ble_eq_true rfl) ?_
  intro p e s m below meth c ls A C htab hP hD hS hl
  have hx := C.1
  have hb := C.2.1
  have hl : lv_has ls 3 [(0, .ref x), (1, .ref o)] := hl
  refine lv_aload_n hx hb dL_greedyGuards_0 rfl (lv_at hl 1 rfl) ?_
  refine lv_iconst (v := 0) hx hb dL_greedyGuards_1 (by decide) ?_
  refine lv_aload_n hx hb dL_greedyGuards_2 rfl (lv_at hl 0 rfl) ?_
  refine call_X (wr := []) C (run_VX (As := []) (rest := [.int 0, .ref o]) C (k_greedyGuards l hlt D cI cZ cJ x inp par pla dra lat his f1 f2 hd ec ea g gp ) cV_L_123 hP hD hS [0, 1] rfl rfl 0 rfl rfl rfl rfl hl.1 rfl (Nat.le_of_ble_eq_true rfl) dL_greedyGuards_3 ⟨Nat.le_of_ble_eq_true rfl, Nat.le_of_ble_eq_true rfl⟩ ⟨Nat.le_of_ble_eq_true rfl, Nat.le_of_ble_eq_true rfl⟩) hP hD hS [0, 1] [] rfl rfl rfl (by decide) (fun ce q9 H locs hce hcv hcl hP hD hS => ?_)
  have hP : va_P D CL [(x, .inr (10, xC inp par pla dra lat his f1 f2 hd ec ea g)), (pla, .inr (5, pC 0 0 0 gp))] H := hP
  have hD : va_D A [(x, .inr (10, xC inp par pla dra lat his f1 f2 hd ec ea g)), (pla, .inr (5, pC 0 0 0 gp))] := hD
  refine vx_widen (k := 1) (n := 6) (Nat.le_of_ble_eq_true rfl) (Nat.le_of_ble_eq_true rfl) ?_
  refine r_catch C (by decide) [] ⟨0, 8, 11, 20⟩ [] (htab.trans rfl) (fun z hz => nomatch hz) rfl (by decide) w_42 hce hcv hcl ?_
  refine W.eq (g2 := F0 m 11 ls [.ref q9]) rfl ?_
  refine lv_astore_n (lv' := [(2, .ref q9), (0, .ref x), (1, .ref o)]) hx hb dL_greedyGuards_11 rfl hl (by decide) rfl (fun ls hl => ?_)
  refine lv_iconst (v := 1) hx hb dL_greedyGuards_12 (by decide) ?_
  exact r_iret C hP hD hS () rfl rfl (Nat.le_of_ble_eq_true rfl) (Nat.le_of_ble_eq_true rfl) dL_greedyGuards_13
set_option maxHeartbeats 4000000 in
set_option maxRecDepth 100000 in
theorem h_treasureAt (l : Launch) (hlt : l.stackTraces = false) (D : va_G) (cI cZ cJ : ClassId) (x : Nat) (inp : Nat) (par : Nat) (pla : Nat) (dra : Nat) (lat : Nat) (his : Nat) (f1 : Nat) (f2 : Nat) (hd : Int32) (ec : Int32) (ea : Int32) (g : Nat → Value) (gp : Nat → Value) (a0 : Int32) (o : Nat)  : cMW l yL_treasureAt cL_treasureAt 4 (some .int) [(0, 9, 12, 20), (0, 9, 15, 13)] D (TT cI cZ cJ) [.ref x, .int a0, .ref o] [(x, .inr (10, xC inp par pla dra lat his f1 f2 hd ec ea g)), (pla, .inr (5, pC 0 0 0 gp))] (qI D (TT cI cZ cJ) (fun u : Unit => 1) (fun u : Unit => [(x, .inr (10, xC inp par pla dra lat his f1 f2 hd ec ea g)), (pla, .inr (5, pC 0 0 0 gp))])) 2 1 6 := by
  refine enterW (by decide) (Nat.le_of_ble_eq_true rfl) ?_
  intro p e s m below meth c ls A C htab hP hD hS hl
  have hx := C.1
  have hb := C.2.1
  have hl : lv_has ls 4 [(0, .ref x), (1, .int a0), (2, .ref o)] := hl
  refine lv_aload_n hx hb dL_treasureAt_0 rfl (lv_at hl 2 rfl) ?_
  refine lv_iconst (v := 0) hx hb dL_treasureAt_1 (by decide) ?_
  refine lv_aload_n hx hb dL_treasureAt_2 rfl (lv_at hl 0 rfl) ?_
  refine lv_iload_n hx hb dL_treasureAt_3 rfl (lv_at hl 1 rfl) ?_
  refine call_X (wr := []) C (run_VX (As := [.int a0]) (rest := [.int 0, .ref o]) C (k_treasureAt l hlt D cI cZ cJ x inp par pla dra lat his f1 f2 hd ec ea g gp a0 ) cV_L_126 hP hD hS [0, 1] rfl rfl 0 rfl rfl rfl rfl hl.1 rfl (Nat.le_of_ble_eq_true rfl) dL_treasureAt_4 ⟨Nat.le_of_ble_eq_true rfl, Nat.le_of_ble_eq_true rfl⟩ ⟨Nat.le_of_ble_eq_true rfl, Nat.le_of_ble_eq_true rfl⟩) hP hD hS [0, 1] [] rfl rfl rfl (by decide) (fun ce q9 H locs hce hcv hcl hP hD hS => ?_)
  have hP : va_P D CL [(x, .inr (10, xC inp par pla dra lat his f1 f2 hd ec ea g)), (pla, .inr (5, pC 0 0 0 gp))] H := hP
  have hD : va_D A [(x, .inr (10, xC inp par pla dra lat his f1 f2 hd ec ea g)), (pla, .inr (5, pC 0 0 0 gp))] := hD
  refine vx_widen (k := 1) (n := 6) (Nat.le_of_ble_eq_true rfl) (Nat.le_of_ble_eq_true rfl) ?_
  refine r_catch C (by decide) [] ⟨0, 9, 12, 20⟩ [⟨0, 9, 15, 13⟩] (htab.trans rfl) (fun z hz => nomatch hz) rfl (by decide) w_42 hce hcv hcl ?_
  refine W.eq (g2 := F0 m 12 ls [.ref q9]) rfl ?_
  refine lv_astore_n (lv' := [(3, .ref q9), (0, .ref x), (1, .int a0), (2, .ref o)]) hx hb dL_treasureAt_12 rfl hl (by decide) rfl (fun ls hl => ?_)
  refine lv_iconst (v := 1) hx hb dL_treasureAt_13 (by decide) ?_
  exact r_iret C hP hD hS () rfl rfl (Nat.le_of_ble_eq_true rfl) (Nat.le_of_ble_eq_true rfl) dL_treasureAt_14
set_option maxHeartbeats 4000000 in
set_option maxRecDepth 100000 in
theorem h_watchedValue (l : Launch) (hlt : l.stackTraces = false) (D : va_G) (cI cZ cJ : ClassId) (x : Nat) (inp : Nat) (par : Nat) (pla : Nat) (dra : Nat) (lat : Nat) (his : Nat) (f1 : Nat) (f2 : Nat) (hd : Int32) (ec : Int32) (ea : Int32) (g : Nat → Value) (gp : Nat → Value) (o : Nat)  : cMW l yL_watchedValue cL_watchedValue 3 (some .int) [(0, 8, 11, 20)] D (TT cI cZ cJ) [.ref x, .ref o] [(x, .inr (10, xC inp par pla dra lat his f1 f2 hd ec ea g)), (pla, .inr (5, pC 0 0 0 gp))] (qI D (TT cI cZ cJ) (fun u : Unit => 1) (fun u : Unit => [(x, .inr (10, xC inp par pla dra lat his f1 f2 hd ec ea g)), (pla, .inr (5, pC 0 0 0 gp))])) 2 1 6 := by
  refine enterW (by decide) (Nat.le_of_ble_eq_true rfl) ?_
  intro p e s m below meth c ls A C htab hP hD hS hl
  have hx := C.1
  have hb := C.2.1
  have hl : lv_has ls 3 [(0, .ref x), (1, .ref o)] := hl
  refine lv_aload_n hx hb dL_watchedValue_0 rfl (lv_at hl 1 rfl) ?_
  refine lv_iconst (v := 0) hx hb dL_watchedValue_1 (by decide) ?_
  refine lv_aload_n hx hb dL_watchedValue_2 rfl (lv_at hl 0 rfl) ?_
  refine call_X (wr := []) C (run_VX (As := []) (rest := [.int 0, .ref o]) C (k_watchedValue l hlt D cI cZ cJ x inp par pla dra lat his f1 f2 hd ec ea g gp ) cV_L_129 hP hD hS [0, 1] rfl rfl 0 rfl rfl rfl rfl hl.1 rfl (Nat.le_of_ble_eq_true rfl) dL_watchedValue_3 ⟨Nat.le_of_ble_eq_true rfl, Nat.le_of_ble_eq_true rfl⟩ ⟨Nat.le_of_ble_eq_true rfl, Nat.le_of_ble_eq_true rfl⟩) hP hD hS [0, 1] [] rfl rfl rfl (by decide) (fun ce q9 H locs hce hcv hcl hP hD hS => ?_)
  have hP : va_P D CL [(x, .inr (10, xC inp par pla dra lat his f1 f2 hd ec ea g)), (pla, .inr (5, pC 0 0 0 gp))] H := hP
  have hD : va_D A [(x, .inr (10, xC inp par pla dra lat his f1 f2 hd ec ea g)), (pla, .inr (5, pC 0 0 0 gp))] := hD
  refine vx_widen (k := 1) (n := 6) (Nat.le_of_ble_eq_true rfl) (Nat.le_of_ble_eq_true rfl) ?_
  refine r_catch C (by decide) [] ⟨0, 8, 11, 20⟩ [] (htab.trans rfl) (fun z hz => nomatch hz) rfl (by decide) w_42 hce hcv hcl ?_
  refine W.eq (g2 := F0 m 11 ls [.ref q9]) rfl ?_
  refine lv_astore_n (lv' := [(2, .ref q9), (0, .ref x), (1, .ref o)]) hx hb dL_watchedValue_11 rfl hl (by decide) rfl (fun ls hl => ?_)
  refine lv_iconst (v := 1) hx hb dL_watchedValue_12 (by decide) ?_
  exact r_iret C hP hD hS () rfl rfl (Nat.le_of_ble_eq_true rfl) (Nat.le_of_ble_eq_true rfl) dL_watchedValue_13
set_option maxHeartbeats 4000000 in
set_option maxRecDepth 100000 in
theorem h_bestValue (l : Launch) (hlt : l.stackTraces = false) (D : va_G) (cI cZ cJ : ClassId) (x : Nat) (inp : Nat) (par : Nat) (pla : Nat) (dra : Nat) (lat : Nat) (his : Nat) (f1 : Nat) (f2 : Nat) (hd : Int32) (ec : Int32) (ea : Int32) (g : Nat → Value) (gp : Nat → Value) (o : Nat)  : cMW l yL_bestValue cL_bestValue 3 (some .int) [(0, 8, 11, 20)] D (TT cI cZ cJ) [.ref x, .ref o] [(x, .inr (10, xC inp par pla dra lat his f1 f2 hd ec ea g)), (pla, .inr (5, pC 0 0 0 gp))] (qI D (TT cI cZ cJ) (fun u : Unit => 1) (fun u : Unit => [(x, .inr (10, xC inp par pla dra lat his f1 f2 hd ec ea g)), (pla, .inr (5, pC 0 0 0 gp))])) 2 1 6 := by
  refine enterW (by decide) (Nat.le_of_ble_eq_true rfl) ?_
  intro p e s m below meth c ls A C htab hP hD hS hl
  have hx := C.1
  have hb := C.2.1
  have hl : lv_has ls 3 [(0, .ref x), (1, .ref o)] := hl
  refine lv_aload_n hx hb dL_bestValue_0 rfl (lv_at hl 1 rfl) ?_
  refine lv_iconst (v := 0) hx hb dL_bestValue_1 (by decide) ?_
  refine lv_aload_n hx hb dL_bestValue_2 rfl (lv_at hl 0 rfl) ?_
  refine call_X (wr := []) C (run_VX (As := []) (rest := [.int 0, .ref o]) C (k_bestValue l hlt D cI cZ cJ x inp par pla dra lat his f1 f2 hd ec ea g gp ) cV_L_132 hP hD hS [0, 1] rfl rfl 0 rfl rfl rfl rfl hl.1 rfl (Nat.le_of_ble_eq_true rfl) dL_bestValue_3 ⟨Nat.le_of_ble_eq_true rfl, Nat.le_of_ble_eq_true rfl⟩ ⟨Nat.le_of_ble_eq_true rfl, Nat.le_of_ble_eq_true rfl⟩) hP hD hS [0, 1] [] rfl rfl rfl (by decide) (fun ce q9 H locs hce hcv hcl hP hD hS => ?_)
  have hP : va_P D CL [(x, .inr (10, xC inp par pla dra lat his f1 f2 hd ec ea g)), (pla, .inr (5, pC 0 0 0 gp))] H := hP
  have hD : va_D A [(x, .inr (10, xC inp par pla dra lat his f1 f2 hd ec ea g)), (pla, .inr (5, pC 0 0 0 gp))] := hD
  refine vx_widen (k := 1) (n := 6) (Nat.le_of_ble_eq_true rfl) (Nat.le_of_ble_eq_true rfl) ?_
  refine r_catch C (by decide) [] ⟨0, 8, 11, 20⟩ [] (htab.trans rfl) (fun z hz => nomatch hz) rfl (by decide) w_42 hce hcv hcl ?_
  refine W.eq (g2 := F0 m 11 ls [.ref q9]) rfl ?_
  refine lv_astore_n (lv' := [(2, .ref q9), (0, .ref x), (1, .ref o)]) hx hb dL_bestValue_11 rfl hl (by decide) rfl (fun ls hl => ?_)
  refine lv_iconst (v := 1) hx hb dL_bestValue_12 (by decide) ?_
  exact r_iret C hP hD hS () rfl rfl (Nat.le_of_ble_eq_true rfl) (Nat.le_of_ble_eq_true rfl) dL_bestValue_13
set_option maxHeartbeats 4000000 in
set_option maxRecDepth 100000 in
theorem h_draw (l : Launch) (hlt : l.stackTraces = false) (D : va_G) (cI cZ cJ : ClassId) (x : Nat) (inp : Nat) (par : Nat) (pla : Nat) (dra : Nat) (lat : Nat) (his : Nat) (f1 : Nat) (f2 : Nat) (hd : Int32) (ec : Int32) (ea : Int32) (g : Nat → Value) (gp : Nat → Value) (a0 : Int32) (o : Nat)  : cMW l yL_draw cL_draw 4 (some .int) [(0, 9, 12, 20), (0, 9, 15, 15)] D (TT cI cZ cJ) [.ref x, .int a0, .ref o] [(x, .inr (10, xC inp par pla dra lat his f1 f2 hd ec ea g)), (pla, .inr (5, pC 0 0 0 gp))] (qI D (TT cI cZ cJ) (fun u : Unit => 1) (fun u : Unit => [(x, .inr (10, xC inp par pla dra lat his f1 f2 hd ec ea g)), (pla, .inr (5, pC 0 0 0 gp))])) 2 1 6 := by
  refine enterW (by decide) (Nat.le_of_ble_eq_true rfl) ?_
  intro p e s m below meth c ls A C htab hP hD hS hl
  have hx := C.1
  have hb := C.2.1
  have hl : lv_has ls 4 [(0, .ref x), (1, .int a0), (2, .ref o)] := hl
  refine lv_aload_n hx hb dL_draw_0 rfl (lv_at hl 2 rfl) ?_
  refine lv_iconst (v := 0) hx hb dL_draw_1 (by decide) ?_
  refine lv_aload_n hx hb dL_draw_2 rfl (lv_at hl 0 rfl) ?_
  refine lv_iload_n hx hb dL_draw_3 rfl (lv_at hl 1 rfl) ?_
  refine call_X (wr := []) C (run_VX (As := [.int a0]) (rest := [.int 0, .ref o]) C (k_draw l hlt D cI cZ cJ x inp par pla dra lat his f1 f2 hd ec ea g gp a0 ) cV_L_135 hP hD hS [0, 1] rfl rfl 0 rfl rfl rfl rfl hl.1 rfl (Nat.le_of_ble_eq_true rfl) dL_draw_4 ⟨Nat.le_of_ble_eq_true rfl, Nat.le_of_ble_eq_true rfl⟩ ⟨Nat.le_of_ble_eq_true rfl, Nat.le_of_ble_eq_true rfl⟩) hP hD hS [0, 1] [] rfl rfl rfl (by decide) (fun ce q9 H locs hce hcv hcl hP hD hS => ?_)
  have hP : va_P D CL [(x, .inr (10, xC inp par pla dra lat his f1 f2 hd ec ea g)), (pla, .inr (5, pC 0 0 0 gp))] H := hP
  have hD : va_D A [(x, .inr (10, xC inp par pla dra lat his f1 f2 hd ec ea g)), (pla, .inr (5, pC 0 0 0 gp))] := hD
  refine vx_widen (k := 1) (n := 6) (Nat.le_of_ble_eq_true rfl) (Nat.le_of_ble_eq_true rfl) ?_
  refine r_catch C (by decide) [] ⟨0, 9, 12, 20⟩ [⟨0, 9, 15, 15⟩] (htab.trans rfl) (fun z hz => nomatch hz) rfl (by decide) w_42 hce hcv hcl ?_
  refine W.eq (g2 := F0 m 12 ls [.ref q9]) rfl ?_
  refine lv_astore_n (lv' := [(3, .ref q9), (0, .ref x), (1, .int a0), (2, .ref o)]) hx hb dL_draw_12 rfl hl (by decide) rfl (fun ls hl => ?_)
  refine lv_iconst (v := 1) hx hb dL_draw_13 (by decide) ?_
  exact r_iret C hP hD hS () rfl rfl (Nat.le_of_ble_eq_true rfl) (Nat.le_of_ble_eq_true rfl) dL_draw_14
set_option maxHeartbeats 4000000 in
set_option maxRecDepth 100000 in
theorem h_addGuard (l : Launch) (hlt : l.stackTraces = false) (D : va_G) (cI cZ cJ : ClassId) (x : Nat) (inp : Nat) (par : Nat) (pla : Nat) (dra : Nat) (lat : Nat) (his : Nat) (f1 : Nat) (f2 : Nat) (hd : Int32) (ec : Int32) (ea : Int32) (g : Nat → Value) (gp : Nat → Value) (a0 : Int32) (a1 : Int32) (o : Nat)  : cMW l yL_addGuard cL_addGuard 5 (some .int) [(0, 10, 13, 20), (0, 10, 17, 13), (0, 10, 21, 15)] D (TT cI cZ cJ) [.ref x, .int a0, .int a1, .ref o] [(x, .inr (10, xC inp par pla dra lat his f1 f2 hd ec ea g)), (pla, .inr (5, pC 0 0 0 gp))] (qI D (TT cI cZ cJ) (fun u : Unit => 1) (fun u : Unit => [(x, .inr (10, xC inp par pla dra lat his f1 f2 hd ec ea g)), (pla, .inr (5, pC 0 0 0 gp))])) 2 1 6 := by
  refine enterW (by decide) (Nat.le_of_ble_eq_true rfl) ?_
  intro p e s m below meth c ls A C htab hP hD hS hl
  have hx := C.1
  have hb := C.2.1
  have hl : lv_has ls 5 [(0, .ref x), (1, .int a0), (2, .int a1), (3, .ref o)] := hl
  refine lv_aload_n hx hb dL_addGuard_0 rfl (lv_at hl 3 rfl) ?_
  refine lv_iconst (v := 0) hx hb dL_addGuard_1 (by decide) ?_
  refine lv_aload_n hx hb dL_addGuard_2 rfl (lv_at hl 0 rfl) ?_
  refine lv_iload_n hx hb dL_addGuard_3 rfl (lv_at hl 1 rfl) ?_
  refine lv_iload_n hx hb dL_addGuard_4 rfl (lv_at hl 2 rfl) ?_
  refine call_X (wr := []) C (run_VX (As := [.int a0, .int a1]) (rest := [.int 0, .ref o]) C (k_addGuard l hlt D cI cZ cJ x inp par pla dra lat his f1 f2 hd ec ea g gp a0 a1 ) cV_L_141 hP hD hS [0, 1] rfl rfl 0 rfl rfl rfl rfl hl.1 rfl (Nat.le_of_ble_eq_true rfl) dL_addGuard_5 ⟨Nat.le_of_ble_eq_true rfl, Nat.le_of_ble_eq_true rfl⟩ ⟨Nat.le_of_ble_eq_true rfl, Nat.le_of_ble_eq_true rfl⟩) hP hD hS [0, 1] [] rfl rfl rfl (by decide) (fun ce q9 H locs hce hcv hcl hP hD hS => ?_)
  have hP : va_P D CL [(x, .inr (10, xC inp par pla dra lat his f1 f2 hd ec ea g)), (pla, .inr (5, pC 0 0 0 gp))] H := hP
  have hD : va_D A [(x, .inr (10, xC inp par pla dra lat his f1 f2 hd ec ea g)), (pla, .inr (5, pC 0 0 0 gp))] := hD
  refine vx_widen (k := 1) (n := 6) (Nat.le_of_ble_eq_true rfl) (Nat.le_of_ble_eq_true rfl) ?_
  refine r_catch C (by decide) [] ⟨0, 10, 13, 20⟩ [⟨0, 10, 17, 13⟩, ⟨0, 10, 21, 15⟩] (htab.trans rfl) (fun z hz => nomatch hz) rfl (by decide) w_42 hce hcv hcl ?_
  refine W.eq (g2 := F0 m 13 ls [.ref q9]) rfl ?_
  refine lv_astore (lv' := [(4, .ref q9), (0, .ref x), (1, .int a0), (2, .int a1), (3, .ref o)]) hx hb dL_addGuard_13 hl (by decide) rfl (fun ls hl => ?_)
  refine lv_iconst (v := 1) hx hb dL_addGuard_15 (by decide) ?_
  exact r_iret C hP hD hS () rfl rfl (Nat.le_of_ble_eq_true rfl) (Nat.le_of_ble_eq_true rfl) dL_addGuard_16
set_option maxHeartbeats 4000000 in
set_option maxRecDepth 100000 in
theorem h_removeGuard (l : Launch) (hlt : l.stackTraces = false) (D : va_G) (cI cZ cJ : ClassId) (x : Nat) (inp : Nat) (par : Nat) (pla : Nat) (dra : Nat) (lat : Nat) (his : Nat) (f1 : Nat) (f2 : Nat) (hd : Int32) (ec : Int32) (ea : Int32) (g : Nat → Value) (gp : Nat → Value) (a0 : Int32) (o : Nat)  : cMW l yL_removeGuard cL_removeGuard 4 (some .int) [(0, 9, 12, 20), (0, 9, 15, 13)] D (TT cI cZ cJ) [.ref x, .int a0, .ref o] [(x, .inr (10, xC inp par pla dra lat his f1 f2 hd ec ea g)), (pla, .inr (5, pC 0 0 0 gp))] (qI D (TT cI cZ cJ) (fun u : Unit => 1) (fun u : Unit => [(x, .inr (10, xC inp par pla dra lat his f1 f2 hd ec ea g)), (pla, .inr (5, pC 0 0 0 gp))])) 2 1 6 := by
  refine enterW (by decide) (Nat.le_of_ble_eq_true rfl) ?_
  intro p e s m below meth c ls A C htab hP hD hS hl
  have hx := C.1
  have hb := C.2.1
  have hl : lv_has ls 4 [(0, .ref x), (1, .int a0), (2, .ref o)] := hl
  refine lv_aload_n hx hb dL_removeGuard_0 rfl (lv_at hl 2 rfl) ?_
  refine lv_iconst (v := 0) hx hb dL_removeGuard_1 (by decide) ?_
  refine lv_aload_n hx hb dL_removeGuard_2 rfl (lv_at hl 0 rfl) ?_
  refine lv_iload_n hx hb dL_removeGuard_3 rfl (lv_at hl 1 rfl) ?_
  refine call_X (wr := []) C (run_VX (As := [.int a0]) (rest := [.int 0, .ref o]) C (k_removeGuard l hlt D cI cZ cJ x inp par pla dra lat his f1 f2 hd ec ea g gp a0 ) cV_L_144 hP hD hS [0, 1] rfl rfl 0 rfl rfl rfl rfl hl.1 rfl (Nat.le_of_ble_eq_true rfl) dL_removeGuard_4 ⟨Nat.le_of_ble_eq_true rfl, Nat.le_of_ble_eq_true rfl⟩ ⟨Nat.le_of_ble_eq_true rfl, Nat.le_of_ble_eq_true rfl⟩) hP hD hS [0, 1] [] rfl rfl rfl (by decide) (fun ce q9 H locs hce hcv hcl hP hD hS => ?_)
  have hP : va_P D CL [(x, .inr (10, xC inp par pla dra lat his f1 f2 hd ec ea g)), (pla, .inr (5, pC 0 0 0 gp))] H := hP
  have hD : va_D A [(x, .inr (10, xC inp par pla dra lat his f1 f2 hd ec ea g)), (pla, .inr (5, pC 0 0 0 gp))] := hD
  refine vx_widen (k := 1) (n := 6) (Nat.le_of_ble_eq_true rfl) (Nat.le_of_ble_eq_true rfl) ?_
  refine r_catch C (by decide) [] ⟨0, 9, 12, 20⟩ [⟨0, 9, 15, 13⟩] (htab.trans rfl) (fun z hz => nomatch hz) rfl (by decide) w_42 hce hcv hcl ?_
  refine W.eq (g2 := F0 m 12 ls [.ref q9]) rfl ?_
  refine lv_astore_n (lv' := [(3, .ref q9), (0, .ref x), (1, .int a0), (2, .ref o)]) hx hb dL_removeGuard_12 rfl hl (by decide) rfl (fun ls hl => ?_)
  refine lv_iconst (v := 1) hx hb dL_removeGuard_13 (by decide) ?_
  exact r_iret C hP hD hS () rfl rfl (Nat.le_of_ble_eq_true rfl) (Nat.le_of_ble_eq_true rfl) dL_removeGuard_14
set_option maxHeartbeats 4000000 in
set_option maxRecDepth 100000 in
theorem h_moveGuard (l : Launch) (hlt : l.stackTraces = false) (D : va_G) (cI cZ cJ : ClassId) (x : Nat) (inp : Nat) (par : Nat) (pla : Nat) (dra : Nat) (lat : Nat) (his : Nat) (f1 : Nat) (f2 : Nat) (hd : Int32) (ec : Int32) (ea : Int32) (g : Nat → Value) (gp : Nat → Value) (a0 : Int32) (a1 : Int32) (o : Nat)  : cMW l yL_moveGuard cL_moveGuard 5 (some .int) [(0, 10, 13, 20), (0, 10, 17, 13)] D (TT cI cZ cJ) [.ref x, .int a0, .int a1, .ref o] [(x, .inr (10, xC inp par pla dra lat his f1 f2 hd ec ea g)), (pla, .inr (5, pC 0 0 0 gp))] (qI D (TT cI cZ cJ) (fun u : Unit => 1) (fun u : Unit => [(x, .inr (10, xC inp par pla dra lat his f1 f2 hd ec ea g)), (pla, .inr (5, pC 0 0 0 gp))])) 2 1 6 := by
  refine enterW (by decide) (Nat.le_of_ble_eq_true rfl) ?_
  intro p e s m below meth c ls A C htab hP hD hS hl
  have hx := C.1
  have hb := C.2.1
  have hl : lv_has ls 5 [(0, .ref x), (1, .int a0), (2, .int a1), (3, .ref o)] := hl
  refine lv_aload_n hx hb dL_moveGuard_0 rfl (lv_at hl 3 rfl) ?_
  refine lv_iconst (v := 0) hx hb dL_moveGuard_1 (by decide) ?_
  refine lv_aload_n hx hb dL_moveGuard_2 rfl (lv_at hl 0 rfl) ?_
  refine lv_iload_n hx hb dL_moveGuard_3 rfl (lv_at hl 1 rfl) ?_
  refine lv_iload_n hx hb dL_moveGuard_4 rfl (lv_at hl 2 rfl) ?_
  refine call_X (wr := []) C (run_VX (As := [.int a0, .int a1]) (rest := [.int 0, .ref o]) C (k_moveGuard l hlt D cI cZ cJ x inp par pla dra lat his f1 f2 hd ec ea g gp a0 a1 ) cV_L_147 hP hD hS [0, 1] rfl rfl 0 rfl rfl rfl rfl hl.1 rfl (Nat.le_of_ble_eq_true rfl) dL_moveGuard_5 ⟨Nat.le_of_ble_eq_true rfl, Nat.le_of_ble_eq_true rfl⟩ ⟨Nat.le_of_ble_eq_true rfl, Nat.le_of_ble_eq_true rfl⟩) hP hD hS [0, 1] [] rfl rfl rfl (by decide) (fun ce q9 H locs hce hcv hcl hP hD hS => ?_)
  have hP : va_P D CL [(x, .inr (10, xC inp par pla dra lat his f1 f2 hd ec ea g)), (pla, .inr (5, pC 0 0 0 gp))] H := hP
  have hD : va_D A [(x, .inr (10, xC inp par pla dra lat his f1 f2 hd ec ea g)), (pla, .inr (5, pC 0 0 0 gp))] := hD
  refine vx_widen (k := 1) (n := 6) (Nat.le_of_ble_eq_true rfl) (Nat.le_of_ble_eq_true rfl) ?_
  refine r_catch C (by decide) [] ⟨0, 10, 13, 20⟩ [⟨0, 10, 17, 13⟩] (htab.trans rfl) (fun z hz => nomatch hz) rfl (by decide) w_42 hce hcv hcl ?_
  refine W.eq (g2 := F0 m 13 ls [.ref q9]) rfl ?_
  refine lv_astore (lv' := [(4, .ref q9), (0, .ref x), (1, .int a0), (2, .int a1), (3, .ref o)]) hx hb dL_moveGuard_13 hl (by decide) rfl (fun ls hl => ?_)
  refine lv_iconst (v := 1) hx hb dL_moveGuard_15 (by decide) ?_
  exact r_iret C hP hD hS () rfl rfl (Nat.le_of_ble_eq_true rfl) (Nat.le_of_ble_eq_true rfl) dL_moveGuard_16
set_option maxHeartbeats 4000000 in
set_option maxRecDepth 100000 in
theorem h_setRange (l : Launch) (hlt : l.stackTraces = false) (D : va_G) (cI cZ cJ : ClassId) (x : Nat) (inp : Nat) (par : Nat) (pla : Nat) (dra : Nat) (lat : Nat) (his : Nat) (f1 : Nat) (f2 : Nat) (hd : Int32) (ec : Int32) (ea : Int32) (g : Nat → Value) (gp : Nat → Value) (a0 : Int32) (a1 : Int32) (o : Nat)  : cMW l yL_setRange cL_setRange 5 (some .int) [(0, 10, 13, 20), (0, 10, 17, 13), (0, 10, 21, 15)] D (TT cI cZ cJ) [.ref x, .int a0, .int a1, .ref o] [(x, .inr (10, xC inp par pla dra lat his f1 f2 hd ec ea g)), (pla, .inr (5, pC 0 0 0 gp))] (qI D (TT cI cZ cJ) (fun u : Unit => 1) (fun u : Unit => [(x, .inr (10, xC inp par pla dra lat his f1 f2 hd ec ea g)), (pla, .inr (5, pC 0 0 0 gp))])) 2 1 6 := by
  refine enterW (by decide) (Nat.le_of_ble_eq_true rfl) ?_
  intro p e s m below meth c ls A C htab hP hD hS hl
  have hx := C.1
  have hb := C.2.1
  have hl : lv_has ls 5 [(0, .ref x), (1, .int a0), (2, .int a1), (3, .ref o)] := hl
  refine lv_aload_n hx hb dL_setRange_0 rfl (lv_at hl 3 rfl) ?_
  refine lv_iconst (v := 0) hx hb dL_setRange_1 (by decide) ?_
  refine lv_aload_n hx hb dL_setRange_2 rfl (lv_at hl 0 rfl) ?_
  refine lv_iload_n hx hb dL_setRange_3 rfl (lv_at hl 1 rfl) ?_
  refine lv_iload_n hx hb dL_setRange_4 rfl (lv_at hl 2 rfl) ?_
  refine call_X (wr := []) C (run_VX (As := [.int a0, .int a1]) (rest := [.int 0, .ref o]) C (k_setRange l hlt D cI cZ cJ x inp par pla dra lat his f1 f2 hd ec ea g gp a0 a1 ) cV_L_150 hP hD hS [0, 1] rfl rfl 0 rfl rfl rfl rfl hl.1 rfl (Nat.le_of_ble_eq_true rfl) dL_setRange_5 ⟨Nat.le_of_ble_eq_true rfl, Nat.le_of_ble_eq_true rfl⟩ ⟨Nat.le_of_ble_eq_true rfl, Nat.le_of_ble_eq_true rfl⟩) hP hD hS [0, 1] [] rfl rfl rfl (by decide) (fun ce q9 H locs hce hcv hcl hP hD hS => ?_)
  have hP : va_P D CL [(x, .inr (10, xC inp par pla dra lat his f1 f2 hd ec ea g)), (pla, .inr (5, pC 0 0 0 gp))] H := hP
  have hD : va_D A [(x, .inr (10, xC inp par pla dra lat his f1 f2 hd ec ea g)), (pla, .inr (5, pC 0 0 0 gp))] := hD
  refine vx_widen (k := 1) (n := 6) (Nat.le_of_ble_eq_true rfl) (Nat.le_of_ble_eq_true rfl) ?_
  refine r_catch C (by decide) [] ⟨0, 10, 13, 20⟩ [⟨0, 10, 17, 13⟩, ⟨0, 10, 21, 15⟩] (htab.trans rfl) (fun z hz => nomatch hz) rfl (by decide) w_42 hce hcv hcl ?_
  refine W.eq (g2 := F0 m 13 ls [.ref q9]) rfl ?_
  refine lv_astore (lv' := [(4, .ref q9), (0, .ref x), (1, .int a0), (2, .int a1), (3, .ref o)]) hx hb dL_setRange_13 hl (by decide) rfl (fun ls hl => ?_)
  refine lv_iconst (v := 1) hx hb dL_setRange_15 (by decide) ?_
  exact r_iret C hP hD hS () rfl rfl (Nat.le_of_ble_eq_true rfl) (Nat.le_of_ble_eq_true rfl) dL_setRange_16
set_option maxHeartbeats 4000000 in
set_option maxRecDepth 100000 in
theorem h_moveVertex (l : Launch) (hlt : l.stackTraces = false) (D : va_G) (cI cZ cJ : ClassId) (x : Nat) (inp : Nat) (par : Nat) (pla : Nat) (dra : Nat) (lat : Nat) (his : Nat) (f1 : Nat) (f2 : Nat) (hd : Int32) (ec : Int32) (ea : Int32) (g : Nat → Value) (gp : Nat → Value) (a0 : Int32) (a1 : Int32) (a2 : Int32) (o : Nat)  : cMW l yL_moveVertex cL_moveVertex 6 (some .int) [(0, 12, 15, 20), (0, 12, 19, 13), (0, 12, 23, 15)] D (TT cI cZ cJ) [.ref x, .int a0, .int a1, .int a2, .ref o] [(x, .inr (10, xC inp par pla dra lat his f1 f2 hd ec ea g)), (pla, .inr (5, pC 0 0 0 gp))] (qI D (TT cI cZ cJ) (fun u : Unit => 1) (fun u : Unit => [(x, .inr (10, xC inp par pla dra lat his f1 f2 hd ec ea g)), (pla, .inr (5, pC 0 0 0 gp))])) 2 1 6 := by
  refine enterW (by decide) (Nat.le_of_ble_eq_true rfl) ?_
  intro p e s m below meth c ls A C htab hP hD hS hl
  have hx := C.1
  have hb := C.2.1
  have hl : lv_has ls 6 [(0, .ref x), (1, .int a0), (2, .int a1), (3, .int a2), (4, .ref o)] := hl
  refine lv_aload hx hb dL_moveVertex_0 (lv_at hl 4 rfl) ?_
  refine lv_iconst (v := 0) hx hb dL_moveVertex_2 (by decide) ?_
  refine lv_aload_n hx hb dL_moveVertex_3 rfl (lv_at hl 0 rfl) ?_
  refine lv_iload_n hx hb dL_moveVertex_4 rfl (lv_at hl 1 rfl) ?_
  refine lv_iload_n hx hb dL_moveVertex_5 rfl (lv_at hl 2 rfl) ?_
  refine lv_iload_n hx hb dL_moveVertex_6 rfl (lv_at hl 3 rfl) ?_
  refine call_X (wr := []) C (run_VX (As := [.int a0, .int a1, .int a2]) (rest := [.int 0, .ref o]) C (k_moveVertex l hlt D cI cZ cJ x inp par pla dra lat his f1 f2 hd ec ea g gp a0 a1 a2 ) cV_L_153 hP hD hS [0, 1] rfl rfl 0 rfl rfl rfl rfl hl.1 rfl (Nat.le_of_ble_eq_true rfl) dL_moveVertex_7 ⟨Nat.le_of_ble_eq_true rfl, Nat.le_of_ble_eq_true rfl⟩ ⟨Nat.le_of_ble_eq_true rfl, Nat.le_of_ble_eq_true rfl⟩) hP hD hS [0, 1] [] rfl rfl rfl (by decide) (fun ce q9 H locs hce hcv hcl hP hD hS => ?_)
  have hP : va_P D CL [(x, .inr (10, xC inp par pla dra lat his f1 f2 hd ec ea g)), (pla, .inr (5, pC 0 0 0 gp))] H := hP
  have hD : va_D A [(x, .inr (10, xC inp par pla dra lat his f1 f2 hd ec ea g)), (pla, .inr (5, pC 0 0 0 gp))] := hD
  refine vx_widen (k := 1) (n := 6) (Nat.le_of_ble_eq_true rfl) (Nat.le_of_ble_eq_true rfl) ?_
  refine r_catch C (by decide) [] ⟨0, 12, 15, 20⟩ [⟨0, 12, 19, 13⟩, ⟨0, 12, 23, 15⟩] (htab.trans rfl) (fun z hz => nomatch hz) rfl (by decide) w_42 hce hcv hcl ?_
  refine W.eq (g2 := F0 m 15 ls [.ref q9]) rfl ?_
  refine lv_astore (lv' := [(5, .ref q9), (0, .ref x), (1, .int a0), (2, .int a1), (3, .int a2), (4, .ref o)]) hx hb dL_moveVertex_15 hl (by decide) rfl (fun ls hl => ?_)
  refine lv_iconst (v := 1) hx hb dL_moveVertex_17 (by decide) ?_
  exact r_iret C hP hD hS () rfl rfl (Nat.le_of_ble_eq_true rfl) (Nat.le_of_ble_eq_true rfl) dL_moveVertex_18
set_option maxHeartbeats 4000000 in
set_option maxRecDepth 100000 in
theorem h_insertVertex (l : Launch) (hlt : l.stackTraces = false) (D : va_G) (cI cZ cJ : ClassId) (x : Nat) (inp : Nat) (par : Nat) (pla : Nat) (dra : Nat) (lat : Nat) (his : Nat) (f1 : Nat) (f2 : Nat) (hd : Int32) (ec : Int32) (ea : Int32) (g : Nat → Value) (gp : Nat → Value) (a0 : Int32) (a1 : Int32) (a2 : Int32) (o : Nat)  : cMW l yL_insertVertex cL_insertVertex 6 (some .int) [(0, 12, 15, 20), (0, 12, 19, 13), (0, 12, 23, 15)] D (TT cI cZ cJ) [.ref x, .int a0, .int a1, .int a2, .ref o] [(x, .inr (10, xC inp par pla dra lat his f1 f2 hd ec ea g)), (pla, .inr (5, pC 0 0 0 gp))] (qI D (TT cI cZ cJ) (fun u : Unit => 1) (fun u : Unit => [(x, .inr (10, xC inp par pla dra lat his f1 f2 hd ec ea g)), (pla, .inr (5, pC 0 0 0 gp))])) 2 1 6 := by
  refine enterW (by decide) (Nat.le_of_ble_eq_true rfl) ?_
  intro p e s m below meth c ls A C htab hP hD hS hl
  have hx := C.1
  have hb := C.2.1
  have hl : lv_has ls 6 [(0, .ref x), (1, .int a0), (2, .int a1), (3, .int a2), (4, .ref o)] := hl
  refine lv_aload hx hb dL_insertVertex_0 (lv_at hl 4 rfl) ?_
  refine lv_iconst (v := 0) hx hb dL_insertVertex_2 (by decide) ?_
  refine lv_aload_n hx hb dL_insertVertex_3 rfl (lv_at hl 0 rfl) ?_
  refine lv_iload_n hx hb dL_insertVertex_4 rfl (lv_at hl 1 rfl) ?_
  refine lv_iload_n hx hb dL_insertVertex_5 rfl (lv_at hl 2 rfl) ?_
  refine lv_iload_n hx hb dL_insertVertex_6 rfl (lv_at hl 3 rfl) ?_
  refine call_X (wr := []) C (run_VX (As := [.int a0, .int a1, .int a2]) (rest := [.int 0, .ref o]) C (k_insertVertex l hlt D cI cZ cJ x inp par pla dra lat his f1 f2 hd ec ea g gp a0 a1 a2 ) cV_L_157 hP hD hS [0, 1] rfl rfl 0 rfl rfl rfl rfl hl.1 rfl (Nat.le_of_ble_eq_true rfl) dL_insertVertex_7 ⟨Nat.le_of_ble_eq_true rfl, Nat.le_of_ble_eq_true rfl⟩ ⟨Nat.le_of_ble_eq_true rfl, Nat.le_of_ble_eq_true rfl⟩) hP hD hS [0, 1] [] rfl rfl rfl (by decide) (fun ce q9 H locs hce hcv hcl hP hD hS => ?_)
  have hP : va_P D CL [(x, .inr (10, xC inp par pla dra lat his f1 f2 hd ec ea g)), (pla, .inr (5, pC 0 0 0 gp))] H := hP
  have hD : va_D A [(x, .inr (10, xC inp par pla dra lat his f1 f2 hd ec ea g)), (pla, .inr (5, pC 0 0 0 gp))] := hD
  refine vx_widen (k := 1) (n := 6) (Nat.le_of_ble_eq_true rfl) (Nat.le_of_ble_eq_true rfl) ?_
  refine r_catch C (by decide) [] ⟨0, 12, 15, 20⟩ [⟨0, 12, 19, 13⟩, ⟨0, 12, 23, 15⟩] (htab.trans rfl) (fun z hz => nomatch hz) rfl (by decide) w_42 hce hcv hcl ?_
  refine W.eq (g2 := F0 m 15 ls [.ref q9]) rfl ?_
  refine lv_astore (lv' := [(5, .ref q9), (0, .ref x), (1, .int a0), (2, .int a1), (3, .int a2), (4, .ref o)]) hx hb dL_insertVertex_15 hl (by decide) rfl (fun ls hl => ?_)
  refine lv_iconst (v := 1) hx hb dL_insertVertex_17 (by decide) ?_
  exact r_iret C hP hD hS () rfl rfl (Nat.le_of_ble_eq_true rfl) (Nat.le_of_ble_eq_true rfl) dL_insertVertex_18
set_option maxHeartbeats 4000000 in
set_option maxRecDepth 100000 in
theorem h_deleteVertex (l : Launch) (hlt : l.stackTraces = false) (D : va_G) (cI cZ cJ : ClassId) (x : Nat) (inp : Nat) (par : Nat) (pla : Nat) (dra : Nat) (lat : Nat) (his : Nat) (f1 : Nat) (f2 : Nat) (hd : Int32) (ec : Int32) (ea : Int32) (g : Nat → Value) (gp : Nat → Value) (a0 : Int32) (o : Nat)  : cMW l yL_deleteVertex cL_deleteVertex 4 (some .int) [(0, 9, 12, 20), (0, 9, 15, 13), (0, 9, 18, 15)] D (TT cI cZ cJ) [.ref x, .int a0, .ref o] [(x, .inr (10, xC inp par pla dra lat his f1 f2 hd ec ea g)), (pla, .inr (5, pC 0 0 0 gp))] (qI D (TT cI cZ cJ) (fun u : Unit => 1) (fun u : Unit => [(x, .inr (10, xC inp par pla dra lat his f1 f2 hd ec ea g)), (pla, .inr (5, pC 0 0 0 gp))])) 2 1 6 := by
  refine enterW (by decide) (Nat.le_of_ble_eq_true rfl) ?_
  intro p e s m below meth c ls A C htab hP hD hS hl
  have hx := C.1
  have hb := C.2.1
  have hl : lv_has ls 4 [(0, .ref x), (1, .int a0), (2, .ref o)] := hl
  refine lv_aload_n hx hb dL_deleteVertex_0 rfl (lv_at hl 2 rfl) ?_
  refine lv_iconst (v := 0) hx hb dL_deleteVertex_1 (by decide) ?_
  refine lv_aload_n hx hb dL_deleteVertex_2 rfl (lv_at hl 0 rfl) ?_
  refine lv_iload_n hx hb dL_deleteVertex_3 rfl (lv_at hl 1 rfl) ?_
  refine call_X (wr := []) C (run_VX (As := [.int a0]) (rest := [.int 0, .ref o]) C (k_deleteVertex l hlt D cI cZ cJ x inp par pla dra lat his f1 f2 hd ec ea g gp a0 ) cV_L_160 hP hD hS [0, 1] rfl rfl 0 rfl rfl rfl rfl hl.1 rfl (Nat.le_of_ble_eq_true rfl) dL_deleteVertex_4 ⟨Nat.le_of_ble_eq_true rfl, Nat.le_of_ble_eq_true rfl⟩ ⟨Nat.le_of_ble_eq_true rfl, Nat.le_of_ble_eq_true rfl⟩) hP hD hS [0, 1] [] rfl rfl rfl (by decide) (fun ce q9 H locs hce hcv hcl hP hD hS => ?_)
  have hP : va_P D CL [(x, .inr (10, xC inp par pla dra lat his f1 f2 hd ec ea g)), (pla, .inr (5, pC 0 0 0 gp))] H := hP
  have hD : va_D A [(x, .inr (10, xC inp par pla dra lat his f1 f2 hd ec ea g)), (pla, .inr (5, pC 0 0 0 gp))] := hD
  refine vx_widen (k := 1) (n := 6) (Nat.le_of_ble_eq_true rfl) (Nat.le_of_ble_eq_true rfl) ?_
  refine r_catch C (by decide) [] ⟨0, 9, 12, 20⟩ [⟨0, 9, 15, 13⟩, ⟨0, 9, 18, 15⟩] (htab.trans rfl) (fun z hz => nomatch hz) rfl (by decide) w_42 hce hcv hcl ?_
  refine W.eq (g2 := F0 m 12 ls [.ref q9]) rfl ?_
  refine lv_astore_n (lv' := [(3, .ref q9), (0, .ref x), (1, .int a0), (2, .ref o)]) hx hb dL_deleteVertex_12 rfl hl (by decide) rfl (fun ls hl => ?_)
  refine lv_iconst (v := 1) hx hb dL_deleteVertex_13 (by decide) ?_
  exact r_iret C hP hD hS () rfl rfl (Nat.le_of_ble_eq_true rfl) (Nat.le_of_ble_eq_true rfl) dL_deleteVertex_14
set_option maxHeartbeats 4000000 in
set_option maxRecDepth 100000 in
theorem h_save (l : Launch) (hlt : l.stackTraces = false) (D : va_G) (cI cZ cJ : ClassId) (x : Nat) (inp : Nat) (par : Nat) (pla : Nat) (dra : Nat) (lat : Nat) (his : Nat) (f1 : Nat) (f2 : Nat) (hd : Int32) (ec : Int32) (ea : Int32) (g : Nat → Value) (gp : Nat → Value) (a0 : Int32) (o : Nat)  : cMW l yL_save cL_save 4 (some .int) [(0, 9, 12, 20), (0, 9, 15, 13)] D (TT cI cZ cJ) [.ref x, .int a0, .ref o] [(x, .inr (10, xC inp par pla dra lat his f1 f2 hd ec ea g)), (pla, .inr (5, pC 0 0 0 gp))] (qI D (TT cI cZ cJ) (fun u : Unit => 1) (fun u : Unit => [(x, .inr (10, xC inp par pla dra lat his f1 f2 hd ec ea g)), (pla, .inr (5, pC 0 0 0 gp))])) 2 1 6 := by
  refine enterW (by decide) (Nat.le_of_ble_eq_true rfl) ?_
  intro p e s m below meth c ls A C htab hP hD hS hl
  have hx := C.1
  have hb := C.2.1
  have hl : lv_has ls 4 [(0, .ref x), (1, .int a0), (2, .ref o)] := hl
  refine lv_aload_n hx hb dL_save_0 rfl (lv_at hl 2 rfl) ?_
  refine lv_iconst (v := 0) hx hb dL_save_1 (by decide) ?_
  refine lv_aload_n hx hb dL_save_2 rfl (lv_at hl 0 rfl) ?_
  refine lv_iload_n hx hb dL_save_3 rfl (lv_at hl 1 rfl) ?_
  refine call_X (wr := []) C (run_VX (As := [.int a0]) (rest := [.int 0, .ref o]) C (k_save l hlt D cI cZ cJ x inp par pla dra lat his f1 f2 hd ec ea g gp a0 ) cV_L_166 hP hD hS [0, 1] rfl rfl 0 rfl rfl rfl rfl hl.1 rfl (Nat.le_of_ble_eq_true rfl) dL_save_4 ⟨Nat.le_of_ble_eq_true rfl, Nat.le_of_ble_eq_true rfl⟩ ⟨Nat.le_of_ble_eq_true rfl, Nat.le_of_ble_eq_true rfl⟩) hP hD hS [0, 1] [] rfl rfl rfl (by decide) (fun ce q9 H locs hce hcv hcl hP hD hS => ?_)
  have hP : va_P D CL [(x, .inr (10, xC inp par pla dra lat his f1 f2 hd ec ea g)), (pla, .inr (5, pC 0 0 0 gp))] H := hP
  have hD : va_D A [(x, .inr (10, xC inp par pla dra lat his f1 f2 hd ec ea g)), (pla, .inr (5, pC 0 0 0 gp))] := hD
  refine vx_widen (k := 1) (n := 6) (Nat.le_of_ble_eq_true rfl) (Nat.le_of_ble_eq_true rfl) ?_
  refine r_catch C (by decide) [] ⟨0, 9, 12, 20⟩ [⟨0, 9, 15, 13⟩] (htab.trans rfl) (fun z hz => nomatch hz) rfl (by decide) w_42 hce hcv hcl ?_
  refine W.eq (g2 := F0 m 12 ls [.ref q9]) rfl ?_
  refine lv_astore_n (lv' := [(3, .ref q9), (0, .ref x), (1, .int a0), (2, .ref o)]) hx hb dL_save_12 rfl hl (by decide) rfl (fun ls hl => ?_)
  refine lv_iconst (v := 1) hx hb dL_save_13 (by decide) ?_
  exact r_iret C hP hD hS () rfl rfl (Nat.le_of_ble_eq_true rfl) (Nat.le_of_ble_eq_true rfl) dL_save_14
end
section
theorem vin2 {x : Int32} (h1 : ¬ x < 0) (h2 : ¬ (1 : Int32) < x) : vp_in x 2 := by
  rw [vp_in_iff]
  rw [Int32.lt_iff_toInt_lt] at h1 h2
  have e0 : (0 : Int32).toInt = 0 := by decide
  have e1 : (1 : Int32).toInt = 1 := by decide
  rw [e0] at h1
  rw [e1] at h2
  omega
theorem ge2 {x : Int32} (h : ¬ x < 2) : (1 : Int32) < x := by
  rw [Int32.lt_iff_toInt_lt] at h ⊢
  have e2 : (2 : Int32).toInt = 2 := by decide
  have e1 : (1 : Int32).toInt = 1 := by decide
  rw [e2] at h
  rw [e1]
  omega
theorem lt2 {x : Int32} (h : x < 2) : ¬ (1 : Int32) < x := by
  rw [Int32.lt_iff_toInt_lt] at h ⊢
  have e2 : (2 : Int32).toInt = 2 := by decide
  have e1 : (1 : Int32).toInt = 1 := by decide
  rw [e2] at h
  rw [e1]
  omega
theorem eq0 {x : Int32} (h1 : ¬ x < 0) (h2 : ¬ (0 : Int32) < x) : x = 0 := by
  rw [Int32.lt_iff_toInt_lt] at h1 h2
  have e0 : (0 : Int32).toInt = 0 := by decide
  rw [e0] at h1 h2
  exact Int32.toInt_inj.mp (by rw [e0]; omega)

theorem w_223 : Cond.lays RX12 "GalleryGuardsModel" "thrown" "I" ∈ Big := big_t 1546 (by decide +kernel) rfl
theorem w_224 : Cond.lays RX12 "GalleryGuardsModel" "hasPolygon" "Z" ∈ Big := big_t 1548 (by decide +kernel) rfl
theorem w_225 : Cond.laysFinal RX12 "GalleryGuardsModel" "s" "[I" ∈ Big := big_t 1550 (by decide +kernel) rfl
theorem w_226 : Cond.laysFinal RX12 "GalleryGuardsModel" "stores" "[I" ∈ Big := big_t 1552 (by decide +kernel) rfl
theorem w_227 : Cond.lays RX12 "GalleryGuardsModel" "changes" "I" ∈ Big := big_t 1554 (by decide +kernel) rfl
theorem w_228 : Cond.laysFinal RX12 "GalleryGuardsModel" "isKept" "[Z" ∈ Big := big_t 1556 (by decide +kernel) rfl
theorem w_229 : Cond.laysFinal RX12 "GalleryGuardsModel" "buffe\x72" "[I" ∈ Big := big_t 1558 (by decide +kernel) rfl
theorem w_230 : Cond.lays RX12 "GalleryGuardsModel" "buffered" "I" ∈ Big := big_t 1560 (by decide +kernel) rfl
theorem w_231 : Cond.lays RX12 "GalleryGuardsModel" "parseErro\x72" "I" ∈ Big := big_t 1562 (by decide +kernel) rfl
theorem w_232 : Cond.lays RX12 "GalleryGuardsModel" "errorPosition" "I" ∈ Big := big_t 1564 (by decide +kernel) rfl
theorem w_233 : Cond.lays RX12 "GalleryGuardsModel" "size" "I" ∈ Big := big_t 1566 (by decide +kernel) rfl
theorem w_234 : Cond.lays RX12 "GalleryGuardsModel" "next" "I" ∈ Big := big_t 1568 (by decide +kernel) rfl
theorem w_235 : Cond.lays RX12 "GalleryGuardsModel" "from" "I" ∈ Big := big_t 1570 (by decide +kernel) rfl
theorem w_236 : Cond.lays RX12 "GalleryGuardsModel" "sort" "I" ∈ Big := big_t 1572 (by decide +kernel) rfl
theorem w_237 : Cond.laysFinal RX12 "GalleryGuardsModel" "word" "[I" ∈ Big := big_t 1574 (by decide +kernel) rfl
theorem w_238 : Cond.lays RX12 "GalleryGuardsModel" "wordLong" "I" ∈ Big := big_t 1576 (by decide +kernel) rfl
theorem w_239 : Cond.lays RX12 "GalleryGuardsModel" "numbe\x72" "I" ∈ Big := big_t 1578 (by decide +kernel) rfl
theorem w_240 : Cond.lays RX12 "GalleryGuardsModel" "wrong" "I" ∈ Big := big_t 1580 (by decide +kernel) rfl
theorem w_241 : Cond.lays RX12 "GalleryGuardsModel" "wrongAt" "I" ∈ Big := big_t 1582 (by decide +kernel) rfl
theorem w_242 : Cond.laysFinal RX12 "GalleryGuardsModel" "\x72" "[I" ∈ Big := big_t 1584 (by decide +kernel) rfl
theorem w_243 : Cond.lays RX12 "GalleryGuardsModel" "points" "I" ∈ Big := big_t 1586 (by decide +kernel) rfl
theorem w_244 : Cond.laysFinal RX12 "GalleryGuardsModel" "px" "[I" ∈ Big := big_t 1588 (by decide +kernel) rfl
theorem w_245 : Cond.laysFinal RX12 "GalleryGuardsModel" "py" "[I" ∈ Big := big_t 1590 (by decide +kernel) rfl
theorem w_246 : Cond.laysFinal RX12 "GalleryGuardsModel" "numberAt" "[I" ∈ Big := big_t 1592 (by decide +kernel) rfl
theorem w_247 : Cond.laysFinal RX12 "GalleryGuardsModel" "wayX" "[J" ∈ Big := big_t 1594 (by decide +kernel) rfl
theorem w_248 : Cond.laysFinal RX12 "GalleryGuardsModel" "wayY" "[J" ∈ Big := big_t 1596 (by decide +kernel) rfl
theorem w_249 : Cond.laysFinal RX12 "GalleryGuardsModel" "wayFa\x72" "[J" ∈ Big := big_t 1598 (by decide +kernel) rfl
theorem w_250 : Cond.lays RX12 "GalleryGuardsModel" "isLaid" "Z" ∈ Big := big_t 1600 (by decide +kernel) rfl
theorem w_251 : Cond.laysFinal RX12 "GalleryGuardsModel" "sight" "[J" ∈ Big := big_t 1602 (by decide +kernel) rfl
theorem w_252 : Cond.laysFinal RX12 "GalleryGuardsModel" "edgeSight" "[J" ∈ Big := big_t 1604 (by decide +kernel) rfl
theorem w_253 : Cond.laysFinal RX12 "GalleryGuardsModel" "links" "[I" ∈ Big := big_t 1606 (by decide +kernel) rfl
theorem w_254 : Cond.laysFinal RX12 "GalleryGuardsModel" "ring" "[I" ∈ Big := big_t 1608 (by decide +kernel) rfl
theorem w_255 : Cond.laysFinal RX12 "GalleryGuardsModel" "corners" "[I" ∈ Big := big_t 1610 (by decide +kernel) rfl
theorem w_256 : Cond.laysFinal RX12 "GalleryGuardsModel" "colours" "[I" ∈ Big := big_t 1612 (by decide +kernel) rfl
theorem w_257 : Cond.lays RX12 "GalleryGuardsModel" "guardMany" "I" ∈ Big := big_t 1614 (by decide +kernel) rfl
theorem w_258 : Cond.laysFinal RX12 "GalleryGuardsModel" "guardSet" "[I" ∈ Big := big_t 1616 (by decide +kernel) rfl
theorem w_259 : Cond.lays RX12 "GalleryGuardsModel" "witnessMany" "I" ∈ Big := big_t 1618 (by decide +kernel) rfl
theorem w_260 : Cond.laysFinal RX12 "GalleryGuardsModel" "witnessSet" "[I" ∈ Big := big_t 1620 (by decide +kernel) rfl
theorem w_261 : Cond.lays RX12 "GalleryGuardsModel" "hidden" "I" ∈ Big := big_t 1622 (by decide +kernel) rfl
theorem w_262 : Cond.laysFinal RX12 "GalleryGuardsModel" "map" "[I" ∈ Big := big_t 1624 (by decide +kernel) rfl
theorem w_263 : Cond.lays RX12 "GalleryGuardsModel" "isDrawn" "Z" ∈ Big := big_t 1626 (by decide +kernel) rfl
theorem w_264 : Cond.fieldLink RX12 79 "GalleryGuardsModel" "thrown" "I" ∈ Big := big_t 1505 (by decide +kernel) rfl
theorem w_265 : Cond.fieldLink RX12 82 "GalleryGuardsModel" "hasPolygon" "Z" ∈ Big := big_t 1506 (by decide +kernel) rfl
theorem w_266 : Cond.methodLink RX12 86 yX12_refuse ∈ Big := big_t 1657 (by decide +kernel) rfl
theorem w_267 : Cond.instanceMethod yX12_refuse ∈ Big := big_t 1659 (by decide +kernel) rfl
theorem w_268 : Cond.selects RX12 yX12_refuse yX12_refuse ∈ Big := big_s 35 (y := yX12_refuse) (k := 41) (by decide +kernel)
theorem w_269 : Cond.initialized RX12 ∈ Big := big_t 12 (by decide +kernel) rfl
theorem w_270 : Cond.code yX12_refuse cX12_refuse 3 (some .boolean) ∈ Big := big_t 1660 (by decide +kernel) rfl
theorem w_271 : Cond.methodLink RX12 247 yX12_noPolygon ∈ Big := big_t 1785 (by decide +kernel) rfl
theorem w_272 : Cond.instanceMethod yX12_noPolygon ∈ Big := big_t 1787 (by decide +kernel) rfl
theorem w_273 : Cond.selects RX12 yX12_noPolygon yX12_noPolygon ∈ Big := big_s 49 (y := yX12_noPolygon) (k := 41) (by decide +kernel)
theorem w_274 : Cond.code yX12_noPolygon cX12_noPolygon 1 (some .boolean) ∈ Big := big_t 1788 (by decide +kernel) rfl
theorem w_275 : Cond.methodLink RX12 251 yX12_noVertex ∈ Big := big_t 1781 (by decide +kernel) rfl
theorem w_276 : Cond.instanceMethod yX12_noVertex ∈ Big := big_t 1783 (by decide +kernel) rfl
theorem w_277 : Cond.selects RX12 yX12_noVertex yX12_noVertex ∈ Big := big_s 48 (y := yX12_noVertex) (k := 41) (by decide +kernel)
theorem w_278 : Cond.code yX12_noVertex cX12_noVertex 2 (some .boolean) ∈ Big := big_t 1784 (by decide +kernel) rfl
theorem w_279 : Cond.methodLink RX12 254 yX12_noPoint ∈ Big := big_t 1797 (by decide +kernel) rfl
theorem w_280 : Cond.instanceMethod yX12_noPoint ∈ Big := big_t 1799 (by decide +kernel) rfl
theorem w_281 : Cond.selects RX12 yX12_noPoint yX12_noPoint ∈ Big := big_s 50 (y := yX12_noPoint) (k := 41) (by decide +kernel)
theorem w_282 : Cond.code yX12_noPoint cX12_noPoint 2 (some .boolean) ∈ Big := big_t 1800 (by decide +kernel) rfl
theorem w_283 : Cond.methodLink RX12 301 yX12_noTriangle ∈ Big := big_t 1886 (by decide +kernel) rfl
theorem w_284 : Cond.instanceMethod yX12_noTriangle ∈ Big := big_t 1888 (by decide +kernel) rfl
theorem w_285 : Cond.selects RX12 yX12_noTriangle yX12_noTriangle ∈ Big := big_s 58 (y := yX12_noTriangle) (k := 41) (by decide +kernel)
theorem w_286 : Cond.code yX12_noTriangle cX12_noTriangle 2 (some .boolean) ∈ Big := big_t 1889 (by decide +kernel) rfl
theorem w_287 : Cond.methodLink RX12 356 yX12_noGuard ∈ Big := big_t 1992 (by decide +kernel) rfl
theorem w_288 : Cond.instanceMethod yX12_noGuard ∈ Big := big_t 1994 (by decide +kernel) rfl
theorem w_289 : Cond.selects RX12 yX12_noGuard yX12_noGuard ∈ Big := big_s 72 (y := yX12_noGuard) (k := 41) (by decide +kernel)
theorem w_290 : Cond.code yX12_noGuard cX12_noGuard 2 (some .boolean) ∈ Big := big_t 1995 (by decide +kernel) rfl
theorem w_291 : Cond.fieldLink RX12 93 "GalleryGuardsModel" "parseErro\x72" "I" ∈ Big := big_t 1513 (by decide +kernel) rfl
theorem w_292 : Cond.fieldLink RX12 23 "GalleryGuardsModel" "errorPosition" "I" ∈ Big := big_t 1514 (by decide +kernel) rfl
theorem w_293 : Cond.fieldLink RX12 90 "GalleryGuardsModel" "buffered" "I" ∈ Big := big_t 1512 (by decide +kernel) rfl
theorem w_294 : Cond.fieldLink RX12 201 "GalleryGuardsModel" "points" "I" ∈ Big := big_t 1525 (by decide +kernel) rfl
theorem w_295 : Cond.methodLink RX12 244 yX12_told ∈ Big := big_t 1757 (by decide +kernel) rfl
theorem w_296 : Cond.instanceMethod yX12_told ∈ Big := big_t 1759 (by decide +kernel) rfl
theorem w_297 : Cond.selects RX12 yX12_told yX12_told ∈ Big := big_s 47 (y := yX12_told) (k := 41) (by decide +kernel)
theorem w_298 : Cond.code yX12_told cX12_told 2 (some .int) ∈ Big := big_t 1760 (by decide +kernel) rfl
theorem w_299 : Cond.fieldLink RX12 192 "GalleryGuardsModel" "changes" "I" ∈ Big := big_t 1509 (by decide +kernel) rfl
theorem w_300 : Cond.fieldLink RX12 7 "GalleryGuardsModel" "s" "[I" ∈ Big := big_t 1507 (by decide +kernel) rfl
theorem w_301 : Cond.fieldLink RX12 370 "GalleryGuardsModel" "isDrawn" "Z" ∈ Big := big_t 1545 (by decide +kernel) rfl
theorem w_302 : Cond.methodLink RX12 148 yX12_in ∈ Big := big_t 1654 (by decide +kernel) rfl
theorem w_303 : Cond.static yX12_in ∈ Big := big_t 1655 (by decide +kernel) rfl
theorem w_304 : Cond.code yX12_in cX12_in 3 (some .boolean) ∈ Big := big_t 1656 (by decide +kernel) rfl
theorem w_305 : Cond.fieldLink RX12 16 "GalleryGuardsModel" "isKept" "[Z" ∈ Big := big_t 1510 (by decide +kernel) rfl
theorem kc_X12 : Kc 11 RX12 TX12 41 tyX12 := ⟨rfl, big_ws (lt_s (lt_s (lt_s (lt_s (lt_s (lt_s (lt_s (lt_s (lt_s (lt_s (lt_s (lt_s (lt_s (lt_s (lt_s (lt_s (lt_s (lt_s (lt_s (lt_s (lt_s (lt_s (lt_s (lt_s (lt_s (lt_s (lt_s (lt_s (lt_s (lt_s (lt_s (lt_s (lt_s (lt_s (lt_s (lt_s (lt_s (lt_s (lt_s (lt_s (lt_s lt_0 w_223) w_224) w_225) w_226) w_227) w_228) w_229) w_230) w_231) w_232) w_233) w_234) w_235) w_236) w_237) w_238) w_239) w_240) w_241) w_242) w_243) w_244) w_245) w_246) w_247) w_248) w_249) w_250) w_251) w_252) w_253) w_254) w_255) w_256) w_257) w_258) w_259) w_260) w_261) w_262) w_263), tyX12_ok, nmX12⟩
theorem fg_X12_79 : Fg RX12 79 11 0 (.int) false true := ⟨_, _, _, _, kc_X12, by decide, w_264, by decide +kernel, rfl, fun _ => rfl⟩
theorem fg_X12_82 : Fg RX12 82 11 1 (.boolean) false true := ⟨_, _, _, _, kc_X12, by decide, w_265, by decide +kernel, rfl, fun _ => rfl⟩
theorem cd_yX12_refuse : Cd yX12_refuse 2 := ⟨by decide +kernel, by decide +kernel, by decide +kernel⟩
theorem cV_X12_86 : CV RX12 86 yX12_refuse cX12_refuse 3 (some .boolean) 2 := ⟨w_266, w_267, w_268, w_269, w_270, cd_yX12_refuse⟩
theorem cd_yX12_noPolygon : Cd yX12_noPolygon 0 := ⟨by decide +kernel, by decide +kernel, by decide +kernel⟩
theorem cV_X12_247 : CV RX12 247 yX12_noPolygon cX12_noPolygon 1 (some .boolean) 0 := ⟨w_271, w_272, w_273, w_269, w_274, cd_yX12_noPolygon⟩
theorem cd_yX12_noVertex : Cd yX12_noVertex 1 := ⟨by decide +kernel, by decide +kernel, by decide +kernel⟩
theorem cV_X12_251 : CV RX12 251 yX12_noVertex cX12_noVertex 2 (some .boolean) 1 := ⟨w_275, w_276, w_277, w_269, w_278, cd_yX12_noVertex⟩
theorem cd_yX12_noPoint : Cd yX12_noPoint 1 := ⟨by decide +kernel, by decide +kernel, by decide +kernel⟩
theorem cV_X12_254 : CV RX12 254 yX12_noPoint cX12_noPoint 2 (some .boolean) 1 := ⟨w_279, w_280, w_281, w_269, w_282, cd_yX12_noPoint⟩
theorem cd_yX12_noTriangle : Cd yX12_noTriangle 1 := ⟨by decide +kernel, by decide +kernel, by decide +kernel⟩
theorem cV_X12_301 : CV RX12 301 yX12_noTriangle cX12_noTriangle 2 (some .boolean) 1 := ⟨w_283, w_284, w_285, w_269, w_286, cd_yX12_noTriangle⟩
theorem cd_yX12_noGuard : Cd yX12_noGuard 1 := ⟨by decide +kernel, by decide +kernel, by decide +kernel⟩
theorem cV_X12_356 : CV RX12 356 yX12_noGuard cX12_noGuard 2 (some .boolean) 1 := ⟨w_287, w_288, w_289, w_269, w_290, cd_yX12_noGuard⟩
theorem fg_X12_93 : Fg RX12 93 11 8 (.int) false true := ⟨_, _, _, _, kc_X12, by decide, w_291, by decide +kernel, rfl, fun _ => rfl⟩
theorem fg_X12_23 : Fg RX12 23 11 9 (.int) false true := ⟨_, _, _, _, kc_X12, by decide, w_292, by decide +kernel, rfl, fun _ => rfl⟩
theorem fg_X12_90 : Fg RX12 90 11 7 (.int) false true := ⟨_, _, _, _, kc_X12, by decide, w_293, by decide +kernel, rfl, fun _ => rfl⟩
theorem fg_X12_201 : Fg RX12 201 11 20 (.int) false true := ⟨_, _, _, _, kc_X12, by decide, w_294, by decide +kernel, rfl, fun _ => rfl⟩
theorem cd_yX12_told : Cd yX12_told 1 := ⟨by decide +kernel, by decide +kernel, by decide +kernel⟩
theorem cV_X12_244 : CV RX12 244 yX12_told cX12_told 2 (some .int) 1 := ⟨w_295, w_296, w_297, w_269, w_298, cd_yX12_told⟩
theorem fg_X12_192 : Fg RX12 192 11 4 (.int) false true := ⟨_, _, _, _, kc_X12, by decide, w_299, by decide +kernel, rfl, fun _ => rfl⟩
theorem fg_X12_7 : Fg RX12 7 11 2 (.array .int) true true := ⟨_, _, _, _, kc_X12, by decide, w_300, by decide +kernel, rfl, fun _ => rfl⟩
theorem fg_X12_370 : Fg RX12 370 11 40 (.boolean) false true := ⟨_, _, _, _, kc_X12, by decide, w_301, by decide +kernel, rfl, fun _ => rfl⟩
theorem cd_yX12_in : Cd yX12_in 3 := ⟨by decide +kernel, by decide +kernel, by decide +kernel⟩
theorem cS_X12_148 : CS RX12 148 yX12_in cX12_in 3 (some .boolean) 3 := ⟨w_302, w_303, w_269, w_304, cd_yX12_in⟩
theorem fg_X12_16 : Fg RX12 16 11 5 (.array .boolean) true true := ⟨_, _, _, _, kc_X12, by decide, w_305, by decide +kernel, rfl, fun _ => rfl⟩
theorem dX12_addGuard_0 : decode cX12_addGuard 0 = .ok (.aload_n 0, 1) := by decide +kernel
theorem dX12_addGuard_1 : decode cX12_addGuard 1 = .ok (.iload_n 1, 1) := by decide +kernel
theorem dX12_addGuard_2 : decode cX12_addGuard 2 = .ok (.invokevirtual 254, 3) := by decide +kernel
theorem dX12_addGuard_5 : decode cX12_addGuard 5 = .ok (.ifCond .ne 50, 3) := by decide +kernel
theorem dX12_addGuard_55 : decode cX12_addGuard 55 = .ok (.iconst 0, 1) := by decide +kernel
theorem dX12_addGuard_56 : decode cX12_addGuard 56 = .ok (.ireturn, 1) := by decide +kernel
theorem dX12_bestPoint_0 : decode cX12_bestPoint 0 = .ok (.aload_n 0, 1) := by decide +kernel
theorem dX12_bestPoint_1 : decode cX12_bestPoint 1 = .ok (.invokevirtual 247, 3) := by decide +kernel
theorem dX12_bestPoint_4 : decode cX12_bestPoint 4 = .ok (.ifCond .eq 7, 3) := by decide +kernel
theorem dX12_bestPoint_7 : decode cX12_bestPoint 7 = .ok (.iconst 0, 1) := by decide +kernel
theorem dX12_bestPoint_8 : decode cX12_bestPoint 8 = .ok (.goto 21, 3) := by decide +kernel
theorem dX12_bestPoint_29 : decode cX12_bestPoint 29 = .ok (.ireturn, 1) := by decide +kernel
theorem dX12_bestValue_0 : decode cX12_bestValue 0 = .ok (.aload_n 0, 1) := by decide +kernel
theorem dX12_bestValue_1 : decode cX12_bestValue 1 = .ok (.invokevirtual 247, 3) := by decide +kernel
theorem dX12_bestValue_4 : decode cX12_bestValue 4 = .ok (.ifCond .eq 5, 3) := by decide +kernel
theorem dX12_bestValue_7 : decode cX12_bestValue 7 = .ok (.iconst 0, 1) := by decide +kernel
theorem dX12_bestValue_8 : decode cX12_bestValue 8 = .ok (.ireturn, 1) := by decide +kernel
theorem dX12_boundary_0 : decode cX12_boundary 0 = .ok (.aload_n 0, 1) := by decide +kernel
theorem dX12_boundary_1 : decode cX12_boundary 1 = .ok (.invokevirtual 247, 3) := by decide +kernel
theorem dX12_boundary_4 : decode cX12_boundary 4 = .ok (.ifCond .eq 5, 3) := by decide +kernel
theorem dX12_boundary_7 : decode cX12_boundary 7 = .ok (.lconst 0, 1) := by decide +kernel
theorem dX12_boundary_8 : decode cX12_boundary 8 = .ok (.lreturn, 1) := by decide +kernel
theorem dX12_buffered_0 : decode cX12_buffered 0 = .ok (.aload_n 0, 1) := by decide +kernel
theorem dX12_buffered_1 : decode cX12_buffered 1 = .ok (.iconst 0, 1) := by decide +kernel
theorem dX12_buffered_2 : decode cX12_buffered 2 = .ok (.putfield 79, 3) := by decide +kernel
theorem dX12_buffered_5 : decode cX12_buffered 5 = .ok (.aload_n 0, 1) := by decide +kernel
theorem dX12_buffered_6 : decode cX12_buffered 6 = .ok (.getfield 90, 3) := by decide +kernel
theorem dX12_buffered_9 : decode cX12_buffered 9 = .ok (.ireturn, 1) := by decide +kernel
theorem dX12_colour_0 : decode cX12_colour 0 = .ok (.aload_n 0, 1) := by decide +kernel
theorem dX12_colour_1 : decode cX12_colour 1 = .ok (.iload_n 1, 1) := by decide +kernel
theorem dX12_colour_2 : decode cX12_colour 2 = .ok (.invokevirtual 251, 3) := by decide +kernel
theorem dX12_colour_5 : decode cX12_colour 5 = .ok (.ifCond .eq 5, 3) := by decide +kernel
theorem dX12_colour_8 : decode cX12_colour 8 = .ok (.iconst 0, 1) := by decide +kernel
theorem dX12_colour_9 : decode cX12_colour 9 = .ok (.ireturn, 1) := by decide +kernel
theorem dX12_colourGuards_0 : decode cX12_colourGuards 0 = .ok (.aload_n 0, 1) := by decide +kernel
theorem dX12_colourGuards_1 : decode cX12_colourGuards 1 = .ok (.invokevirtual 247, 3) := by decide +kernel
theorem dX12_colourGuards_4 : decode cX12_colourGuards 4 = .ok (.ifCond .eq 5, 3) := by decide +kernel
theorem dX12_colourGuards_7 : decode cX12_colourGuards 7 = .ok (.iconst 0, 1) := by decide +kernel
theorem dX12_colourGuards_8 : decode cX12_colourGuards 8 = .ok (.ireturn, 1) := by decide +kernel
theorem dX12_deleteVertex_0 : decode cX12_deleteVertex 0 = .ok (.aload_n 0, 1) := by decide +kernel
theorem dX12_deleteVertex_1 : decode cX12_deleteVertex 1 = .ok (.iload_n 1, 1) := by decide +kernel
theorem dX12_deleteVertex_2 : decode cX12_deleteVertex 2 = .ok (.invokevirtual 251, 3) := by decide +kernel
theorem dX12_deleteVertex_5 : decode cX12_deleteVertex 5 = .ok (.ifCond .ne 26, 3) := by decide +kernel
theorem dX12_deleteVertex_31 : decode cX12_deleteVertex 31 = .ok (.iconst 0, 1) := by decide +kernel
theorem dX12_deleteVertex_32 : decode cX12_deleteVertex 32 = .ok (.ireturn, 1) := by decide +kernel
theorem dX12_diameter_0 : decode cX12_diameter 0 = .ok (.aload_n 0, 1) := by decide +kernel
theorem dX12_diameter_1 : decode cX12_diameter 1 = .ok (.invokevirtual 247, 3) := by decide +kernel
theorem dX12_diameter_4 : decode cX12_diameter 4 = .ok (.ifCond .eq 5, 3) := by decide +kernel
theorem dX12_diameter_7 : decode cX12_diameter 7 = .ok (.iconst 0, 1) := by decide +kernel
theorem dX12_diameter_8 : decode cX12_diameter 8 = .ok (.ireturn, 1) := by decide +kernel
theorem dX12_doubleArea_0 : decode cX12_doubleArea 0 = .ok (.aload_n 0, 1) := by decide +kernel
theorem dX12_doubleArea_1 : decode cX12_doubleArea 1 = .ok (.invokevirtual 247, 3) := by decide +kernel
theorem dX12_doubleArea_4 : decode cX12_doubleArea 4 = .ok (.ifCond .eq 5, 3) := by decide +kernel
theorem dX12_doubleArea_7 : decode cX12_doubleArea 7 = .ok (.iconst 0, 1) := by decide +kernel
theorem dX12_doubleArea_8 : decode cX12_doubleArea 8 = .ok (.ireturn, 1) := by decide +kernel
theorem dX12_draw_0 : decode cX12_draw 0 = .ok (.aload_n 0, 1) := by decide +kernel
theorem dX12_draw_1 : decode cX12_draw 1 = .ok (.invokevirtual 247, 3) := by decide +kernel
theorem dX12_draw_4 : decode cX12_draw 4 = .ok (.ifCond .ne 26, 3) := by decide +kernel
theorem dX12_draw_30 : decode cX12_draw 30 = .ok (.iconst 0, 1) := by decide +kernel
theorem dX12_draw_31 : decode cX12_draw 31 = .ok (.ireturn, 1) := by decide +kernel
theorem dX12_drawnByte_0 : decode cX12_drawnByte 0 = .ok (.aload_n 0, 1) := by decide +kernel
theorem dX12_drawnByte_1 : decode cX12_drawnByte 1 = .ok (.iconst 0, 1) := by decide +kernel
theorem dX12_drawnByte_2 : decode cX12_drawnByte 2 = .ok (.putfield 79, 3) := by decide +kernel
theorem dX12_drawnByte_5 : decode cX12_drawnByte 5 = .ok (.aload_n 0, 1) := by decide +kernel
theorem dX12_drawnByte_6 : decode cX12_drawnByte 6 = .ok (.aload_n 0, 1) := by decide +kernel
theorem dX12_drawnByte_7 : decode cX12_drawnByte 7 = .ok (.getfield 370, 3) := by decide +kernel
theorem dX12_drawnByte_10 : decode cX12_drawnByte 10 = .ok (.ifCond .eq 13, 3) := by decide +kernel
theorem dX12_drawnByte_23 : decode cX12_drawnByte 23 = .ok (.iconst 1, 1) := by decide +kernel
theorem dX12_drawnByte_24 : decode cX12_drawnByte 24 = .ok (.goto 4, 3) := by decide +kernel
theorem dX12_drawnByte_28 : decode cX12_drawnByte 28 = .ok (.iconst 1, 1) := by decide +kernel
theorem dX12_drawnByte_29 : decode cX12_drawnByte 29 = .ok (.invokevirtual 86, 3) := by decide +kernel
theorem dX12_drawnByte_32 : decode cX12_drawnByte 32 = .ok (.ifCond .eq 7, 3) := by decide +kernel
theorem dX12_drawnByte_35 : decode cX12_drawnByte 35 = .ok (.iconst 0, 1) := by decide +kernel
theorem dX12_drawnByte_36 : decode cX12_drawnByte 36 = .ok (.goto 9, 3) := by decide +kernel
theorem dX12_drawnByte_45 : decode cX12_drawnByte 45 = .ok (.ireturn, 1) := by decide +kernel
theorem dX12_edgeGuards_0 : decode cX12_edgeGuards 0 = .ok (.aload_n 0, 1) := by decide +kernel
theorem dX12_edgeGuards_1 : decode cX12_edgeGuards 1 = .ok (.invokevirtual 247, 3) := by decide +kernel
theorem dX12_edgeGuards_4 : decode cX12_edgeGuards 4 = .ok (.ifCond .eq 7, 3) := by decide +kernel
theorem dX12_edgeGuards_7 : decode cX12_edgeGuards 7 = .ok (.iconst 0, 1) := by decide +kernel
theorem dX12_edgeGuards_8 : decode cX12_edgeGuards 8 = .ok (.goto 8, 3) := by decide +kernel
theorem dX12_edgeGuards_16 : decode cX12_edgeGuards 16 = .ok (.ireturn, 1) := by decide +kernel
theorem dX12_errorPosition_0 : decode cX12_errorPosition 0 = .ok (.aload_n 0, 1) := by decide +kernel
theorem dX12_errorPosition_1 : decode cX12_errorPosition 1 = .ok (.iconst 0, 1) := by decide +kernel
theorem dX12_errorPosition_2 : decode cX12_errorPosition 2 = .ok (.putfield 79, 3) := by decide +kernel
theorem dX12_errorPosition_5 : decode cX12_errorPosition 5 = .ok (.aload_n 0, 1) := by decide +kernel
theorem dX12_errorPosition_6 : decode cX12_errorPosition 6 = .ok (.getfield 23, 3) := by decide +kernel
theorem dX12_errorPosition_9 : decode cX12_errorPosition 9 = .ok (.ireturn, 1) := by decide +kernel
theorem dX12_farthest_0 : decode cX12_farthest 0 = .ok (.aload_n 0, 1) := by decide +kernel
theorem dX12_farthest_1 : decode cX12_farthest 1 = .ok (.iload_n 1, 1) := by decide +kernel
theorem dX12_farthest_2 : decode cX12_farthest 2 = .ok (.invokevirtual 254, 3) := by decide +kernel
theorem dX12_farthest_5 : decode cX12_farthest 5 = .ok (.ifCond .eq 5, 3) := by decide +kernel
theorem dX12_farthest_8 : decode cX12_farthest 8 = .ok (.iconst 0, 1) := by decide +kernel
theorem dX12_farthest_9 : decode cX12_farthest 9 = .ok (.ireturn, 1) := by decide +kernel
theorem dX12_greedyGuards_0 : decode cX12_greedyGuards 0 = .ok (.aload_n 0, 1) := by decide +kernel
theorem dX12_greedyGuards_1 : decode cX12_greedyGuards 1 = .ok (.invokevirtual 247, 3) := by decide +kernel
theorem dX12_greedyGuards_4 : decode cX12_greedyGuards 4 = .ok (.ifCond .eq 5, 3) := by decide +kernel
theorem dX12_greedyGuards_7 : decode cX12_greedyGuards 7 = .ok (.iconst 0, 1) := by decide +kernel
theorem dX12_greedyGuards_8 : decode cX12_greedyGuards 8 = .ok (.ireturn, 1) := by decide +kernel
theorem dX12_guardAt_0 : decode cX12_guardAt 0 = .ok (.aload_n 0, 1) := by decide +kernel
theorem dX12_guardAt_1 : decode cX12_guardAt 1 = .ok (.iload_n 1, 1) := by decide +kernel
theorem dX12_guardAt_2 : decode cX12_guardAt 2 = .ok (.invokevirtual 356, 3) := by decide +kernel
theorem dX12_guardAt_5 : decode cX12_guardAt 5 = .ok (.ifCond .eq 7, 3) := by decide +kernel
theorem dX12_guardAt_8 : decode cX12_guardAt 8 = .ok (.iconst 0, 1) := by decide +kernel
theorem dX12_guardAt_9 : decode cX12_guardAt 9 = .ok (.goto 19, 3) := by decide +kernel
theorem dX12_guardAt_28 : decode cX12_guardAt 28 = .ok (.ireturn, 1) := by decide +kernel
theorem dX12_guardNumber_0 : decode cX12_guardNumber 0 = .ok (.aload_n 0, 1) := by decide +kernel
theorem dX12_guardNumber_1 : decode cX12_guardNumber 1 = .ok (.invokevirtual 247, 3) := by decide +kernel
theorem dX12_guardNumber_4 : decode cX12_guardNumber 4 = .ok (.ifCond .eq 5, 3) := by decide +kernel
theorem dX12_guardNumber_7 : decode cX12_guardNumber 7 = .ok (.iconst 0, 1) := by decide +kernel
theorem dX12_guardNumber_8 : decode cX12_guardNumber 8 = .ok (.ireturn, 1) := by decide +kernel
theorem dX12_guardPoint_0 : decode cX12_guardPoint 0 = .ok (.aload_n 0, 1) := by decide +kernel
theorem dX12_guardPoint_1 : decode cX12_guardPoint 1 = .ok (.invokevirtual 247, 3) := by decide +kernel
theorem dX12_guardPoint_4 : decode cX12_guardPoint 4 = .ok (.ifCond .eq 5, 3) := by decide +kernel
theorem dX12_guardPoint_7 : decode cX12_guardPoint 7 = .ok (.iconst 0, 1) := by decide +kernel
theorem dX12_guardPoint_8 : decode cX12_guardPoint 8 = .ok (.ireturn, 1) := by decide +kernel
theorem dX12_guardRange_0 : decode cX12_guardRange 0 = .ok (.aload_n 0, 1) := by decide +kernel
theorem dX12_guardRange_1 : decode cX12_guardRange 1 = .ok (.iload_n 1, 1) := by decide +kernel
theorem dX12_guardRange_2 : decode cX12_guardRange 2 = .ok (.invokevirtual 356, 3) := by decide +kernel
theorem dX12_guardRange_5 : decode cX12_guardRange 5 = .ok (.ifCond .eq 7, 3) := by decide +kernel
theorem dX12_guardRange_8 : decode cX12_guardRange 8 = .ok (.iconst 0, 1) := by decide +kernel
theorem dX12_guardRange_9 : decode cX12_guardRange 9 = .ok (.goto 9, 3) := by decide +kernel
theorem dX12_guardRange_18 : decode cX12_guardRange 18 = .ok (.ireturn, 1) := by decide +kernel
theorem dX12_guards_0 : decode cX12_guards 0 = .ok (.aload_n 0, 1) := by decide +kernel
theorem dX12_guards_1 : decode cX12_guards 1 = .ok (.aload_n 0, 1) := by decide +kernel
theorem dX12_guards_2 : decode cX12_guards 2 = .ok (.getfield 7, 3) := by decide +kernel
theorem dX12_guards_5 : decode cX12_guards 5 = .ok (.iconst 1, 1) := by decide +kernel
theorem dX12_guards_6 : decode cX12_guards 6 = .ok (.iaload, 1) := by decide +kernel
theorem dX12_guards_7 : decode cX12_guards 7 = .ok (.invokevirtual 244, 3) := by decide +kernel
theorem dX12_guards_10 : decode cX12_guards 10 = .ok (.ireturn, 1) := by decide +kernel
theorem dX12_hiddenNumber_0 : decode cX12_hiddenNumber 0 = .ok (.aload_n 0, 1) := by decide +kernel
theorem dX12_hiddenNumber_1 : decode cX12_hiddenNumber 1 = .ok (.invokevirtual 247, 3) := by decide +kernel
theorem dX12_hiddenNumber_4 : decode cX12_hiddenNumber 4 = .ok (.ifCond .eq 5, 3) := by decide +kernel
theorem dX12_hiddenNumber_7 : decode cX12_hiddenNumber 7 = .ok (.iconst 0, 1) := by decide +kernel
theorem dX12_hiddenNumber_8 : decode cX12_hiddenNumber 8 = .ok (.ireturn, 1) := by decide +kernel
theorem dX12_in_0 : decode cX12_in 0 = .ok (.iload_n 0, 1) := by decide +kernel
theorem dX12_in_1 : decode cX12_in 1 = .ok (.iload_n 1, 1) := by decide +kernel
theorem dX12_in_2 : decode cX12_in 2 = .ok (.if_icmp .lt 12, 3) := by decide +kernel
theorem dX12_in_5 : decode cX12_in 5 = .ok (.iload_n 0, 1) := by decide +kernel
theorem dX12_in_6 : decode cX12_in 6 = .ok (.iload_n 2, 1) := by decide +kernel
theorem dX12_in_7 : decode cX12_in 7 = .ok (.if_icmp .gt 7, 3) := by decide +kernel
theorem dX12_in_10 : decode cX12_in 10 = .ok (.iconst 1, 1) := by decide +kernel
theorem dX12_in_11 : decode cX12_in 11 = .ok (.goto 4, 3) := by decide +kernel
theorem dX12_in_14 : decode cX12_in 14 = .ok (.iconst 0, 1) := by decide +kernel
theorem dX12_in_15 : decode cX12_in 15 = .ok (.ireturn, 1) := by decide +kernel
theorem dX12_insertVertex_0 : decode cX12_insertVertex 0 = .ok (.aload_n 0, 1) := by decide +kernel
theorem dX12_insertVertex_1 : decode cX12_insertVertex 1 = .ok (.iload_n 1, 1) := by decide +kernel
theorem dX12_insertVertex_2 : decode cX12_insertVertex 2 = .ok (.invokevirtual 251, 3) := by decide +kernel
theorem dX12_insertVertex_5 : decode cX12_insertVertex 5 = .ok (.ifCond .ne 36, 3) := by decide +kernel
theorem dX12_insertVertex_41 : decode cX12_insertVertex 41 = .ok (.iconst 0, 1) := by decide +kernel
theorem dX12_insertVertex_42 : decode cX12_insertVertex 42 = .ok (.ireturn, 1) := by decide +kernel
theorem dX12_kernel_0 : decode cX12_kernel 0 = .ok (.aload_n 0, 1) := by decide +kernel
theorem dX12_kernel_1 : decode cX12_kernel 1 = .ok (.invokevirtual 247, 3) := by decide +kernel
theorem dX12_kernel_4 : decode cX12_kernel 4 = .ok (.ifCond .eq 5, 3) := by decide +kernel
theorem dX12_kernel_7 : decode cX12_kernel 7 = .ok (.lconst 0, 1) := by decide +kernel
theorem dX12_kernel_8 : decode cX12_kernel 8 = .ok (.lreturn, 1) := by decide +kernel
theorem dX12_linkDistance_0 : decode cX12_linkDistance 0 = .ok (.aload_n 0, 1) := by decide +kernel
theorem dX12_linkDistance_1 : decode cX12_linkDistance 1 = .ok (.iload_n 1, 1) := by decide +kernel
theorem dX12_linkDistance_2 : decode cX12_linkDistance 2 = .ok (.invokevirtual 254, 3) := by decide +kernel
theorem dX12_linkDistance_5 : decode cX12_linkDistance 5 = .ok (.ifCond .ne 30, 3) := by decide +kernel
theorem dX12_linkDistance_35 : decode cX12_linkDistance 35 = .ok (.iconst 0, 1) := by decide +kernel
theorem dX12_linkDistance_36 : decode cX12_linkDistance 36 = .ok (.ireturn, 1) := by decide +kernel
theorem dX12_moveGuard_0 : decode cX12_moveGuard 0 = .ok (.aload_n 0, 1) := by decide +kernel
theorem dX12_moveGuard_1 : decode cX12_moveGuard 1 = .ok (.iload_n 1, 1) := by decide +kernel
theorem dX12_moveGuard_2 : decode cX12_moveGuard 2 = .ok (.invokevirtual 356, 3) := by decide +kernel
theorem dX12_moveGuard_5 : decode cX12_moveGuard 5 = .ok (.ifCond .ne 30, 3) := by decide +kernel
theorem dX12_moveGuard_35 : decode cX12_moveGuard 35 = .ok (.iconst 0, 1) := by decide +kernel
theorem dX12_moveGuard_36 : decode cX12_moveGuard 36 = .ok (.ireturn, 1) := by decide +kernel
theorem dX12_moveVertex_0 : decode cX12_moveVertex 0 = .ok (.aload_n 0, 1) := by decide +kernel
theorem dX12_moveVertex_1 : decode cX12_moveVertex 1 = .ok (.iload_n 1, 1) := by decide +kernel
theorem dX12_moveVertex_2 : decode cX12_moveVertex 2 = .ok (.invokevirtual 251, 3) := by decide +kernel
theorem dX12_moveVertex_5 : decode cX12_moveVertex 5 = .ok (.ifCond .ne 17, 3) := by decide +kernel
theorem dX12_moveVertex_22 : decode cX12_moveVertex 22 = .ok (.iconst 0, 1) := by decide +kernel
theorem dX12_moveVertex_23 : decode cX12_moveVertex 23 = .ok (.ireturn, 1) := by decide +kernel
theorem dX12_noGuard_0 : decode cX12_noGuard 0 = .ok (.aload_n 0, 1) := by decide +kernel
theorem dX12_noGuard_1 : decode cX12_noGuard 1 = .ok (.invokevirtual 247, 3) := by decide +kernel
theorem dX12_noGuard_4 : decode cX12_noGuard 4 = .ok (.ifCond .ne 32, 3) := by decide +kernel
theorem dX12_noGuard_36 : decode cX12_noGuard 36 = .ok (.iconst 1, 1) := by decide +kernel
theorem dX12_noGuard_37 : decode cX12_noGuard 37 = .ok (.goto 4, 3) := by decide +kernel
theorem dX12_noGuard_41 : decode cX12_noGuard 41 = .ok (.ireturn, 1) := by decide +kernel
theorem dX12_noPoint_0 : decode cX12_noPoint 0 = .ok (.aload_n 0, 1) := by decide +kernel
theorem dX12_noPoint_1 : decode cX12_noPoint 1 = .ok (.invokevirtual 247, 3) := by decide +kernel
theorem dX12_noPoint_4 : decode cX12_noPoint 4 = .ok (.ifCond .ne 30, 3) := by decide +kernel
theorem dX12_noPoint_34 : decode cX12_noPoint 34 = .ok (.iconst 1, 1) := by decide +kernel
theorem dX12_noPoint_35 : decode cX12_noPoint 35 = .ok (.goto 4, 3) := by decide +kernel
theorem dX12_noPoint_39 : decode cX12_noPoint 39 = .ok (.ireturn, 1) := by decide +kernel
theorem dX12_noPolygon_0 : decode cX12_noPolygon 0 = .ok (.aload_n 0, 1) := by decide +kernel
theorem dX12_noPolygon_1 : decode cX12_noPolygon 1 = .ok (.iconst 0, 1) := by decide +kernel
theorem dX12_noPolygon_2 : decode cX12_noPolygon 2 = .ok (.putfield 79, 3) := by decide +kernel
theorem dX12_noPolygon_5 : decode cX12_noPolygon 5 = .ok (.aload_n 0, 1) := by decide +kernel
theorem dX12_noPolygon_6 : decode cX12_noPolygon 6 = .ok (.aload_n 0, 1) := by decide +kernel
theorem dX12_noPolygon_7 : decode cX12_noPolygon 7 = .ok (.getfield 82, 3) := by decide +kernel
theorem dX12_noPolygon_10 : decode cX12_noPolygon 10 = .ok (.ifCond .ne 7, 3) := by decide +kernel
theorem dX12_noPolygon_13 : decode cX12_noPolygon 13 = .ok (.iconst 1, 1) := by decide +kernel
theorem dX12_noPolygon_14 : decode cX12_noPolygon 14 = .ok (.goto 4, 3) := by decide +kernel
theorem dX12_noPolygon_18 : decode cX12_noPolygon 18 = .ok (.iconst 1, 1) := by decide +kernel
theorem dX12_noPolygon_19 : decode cX12_noPolygon 19 = .ok (.invokevirtual 86, 3) := by decide +kernel
theorem dX12_noPolygon_22 : decode cX12_noPolygon 22 = .ok (.ireturn, 1) := by decide +kernel
theorem dX12_noTriangle_0 : decode cX12_noTriangle 0 = .ok (.aload_n 0, 1) := by decide +kernel
theorem dX12_noTriangle_1 : decode cX12_noTriangle 1 = .ok (.invokevirtual 247, 3) := by decide +kernel
theorem dX12_noTriangle_4 : decode cX12_noTriangle 4 = .ok (.ifCond .ne 32, 3) := by decide +kernel
theorem dX12_noTriangle_36 : decode cX12_noTriangle 36 = .ok (.iconst 1, 1) := by decide +kernel
theorem dX12_noTriangle_37 : decode cX12_noTriangle 37 = .ok (.goto 4, 3) := by decide +kernel
theorem dX12_noTriangle_41 : decode cX12_noTriangle 41 = .ok (.ireturn, 1) := by decide +kernel
theorem dX12_noVertex_0 : decode cX12_noVertex 0 = .ok (.aload_n 0, 1) := by decide +kernel
theorem dX12_noVertex_1 : decode cX12_noVertex 1 = .ok (.invokevirtual 247, 3) := by decide +kernel
theorem dX12_noVertex_4 : decode cX12_noVertex 4 = .ok (.ifCond .ne 32, 3) := by decide +kernel
theorem dX12_noVertex_36 : decode cX12_noVertex 36 = .ok (.iconst 1, 1) := by decide +kernel
theorem dX12_noVertex_37 : decode cX12_noVertex 37 = .ok (.goto 4, 3) := by decide +kernel
theorem dX12_noVertex_41 : decode cX12_noVertex 41 = .ok (.ireturn, 1) := by decide +kernel
theorem dX12_parseError_0 : decode cX12_parseError 0 = .ok (.aload_n 0, 1) := by decide +kernel
theorem dX12_parseError_1 : decode cX12_parseError 1 = .ok (.iconst 0, 1) := by decide +kernel
theorem dX12_parseError_2 : decode cX12_parseError 2 = .ok (.putfield 79, 3) := by decide +kernel
theorem dX12_parseError_5 : decode cX12_parseError 5 = .ok (.aload_n 0, 1) := by decide +kernel
theorem dX12_parseError_6 : decode cX12_parseError 6 = .ok (.getfield 93, 3) := by decide +kernel
theorem dX12_parseError_9 : decode cX12_parseError 9 = .ok (.ireturn, 1) := by decide +kernel
theorem dX12_pointAt_0 : decode cX12_pointAt 0 = .ok (.aload_n 0, 1) := by decide +kernel
theorem dX12_pointAt_1 : decode cX12_pointAt 1 = .ok (.invokevirtual 247, 3) := by decide +kernel
theorem dX12_pointAt_4 : decode cX12_pointAt 4 = .ok (.ifCond .eq 7, 3) := by decide +kernel
theorem dX12_pointAt_7 : decode cX12_pointAt 7 = .ok (.iconst 0, 1) := by decide +kernel
theorem dX12_pointAt_8 : decode cX12_pointAt 8 = .ok (.goto 9, 3) := by decide +kernel
theorem dX12_pointAt_17 : decode cX12_pointAt 17 = .ok (.ireturn, 1) := by decide +kernel
theorem dX12_pointX_0 : decode cX12_pointX 0 = .ok (.aload_n 0, 1) := by decide +kernel
theorem dX12_pointX_1 : decode cX12_pointX 1 = .ok (.iload_n 1, 1) := by decide +kernel
theorem dX12_pointX_2 : decode cX12_pointX 2 = .ok (.invokevirtual 254, 3) := by decide +kernel
theorem dX12_pointX_5 : decode cX12_pointX 5 = .ok (.ifCond .eq 7, 3) := by decide +kernel
theorem dX12_pointX_8 : decode cX12_pointX 8 = .ok (.iconst 0, 1) := by decide +kernel
theorem dX12_pointX_9 : decode cX12_pointX 9 = .ok (.goto 9, 3) := by decide +kernel
theorem dX12_pointX_18 : decode cX12_pointX 18 = .ok (.ireturn, 1) := by decide +kernel
theorem dX12_pointY_0 : decode cX12_pointY 0 = .ok (.aload_n 0, 1) := by decide +kernel
theorem dX12_pointY_1 : decode cX12_pointY 1 = .ok (.iload_n 1, 1) := by decide +kernel
theorem dX12_pointY_2 : decode cX12_pointY 2 = .ok (.invokevirtual 254, 3) := by decide +kernel
theorem dX12_pointY_5 : decode cX12_pointY 5 = .ok (.ifCond .eq 7, 3) := by decide +kernel
theorem dX12_pointY_8 : decode cX12_pointY 8 = .ok (.iconst 0, 1) := by decide +kernel
theorem dX12_pointY_9 : decode cX12_pointY 9 = .ok (.goto 9, 3) := by decide +kernel
theorem dX12_pointY_18 : decode cX12_pointY 18 = .ok (.ireturn, 1) := by decide +kernel
theorem dX12_points_0 : decode cX12_points 0 = .ok (.aload_n 0, 1) := by decide +kernel
theorem dX12_points_1 : decode cX12_points 1 = .ok (.aload_n 0, 1) := by decide +kernel
theorem dX12_points_2 : decode cX12_points 2 = .ok (.getfield 201, 3) := by decide +kernel
theorem dX12_points_5 : decode cX12_points 5 = .ok (.invokevirtual 244, 3) := by decide +kernel
theorem dX12_points_8 : decode cX12_points 8 = .ok (.ireturn, 1) := by decide +kernel
theorem dX12_redundantGuards_0 : decode cX12_redundantGuards 0 = .ok (.aload_n 0, 1) := by decide +kernel
theorem dX12_redundantGuards_1 : decode cX12_redundantGuards 1 = .ok (.invokevirtual 247, 3) := by decide +kernel
theorem dX12_redundantGuards_4 : decode cX12_redundantGuards 4 = .ok (.ifCond .eq 5, 3) := by decide +kernel
theorem dX12_redundantGuards_7 : decode cX12_redundantGuards 7 = .ok (.iconst 0, 1) := by decide +kernel
theorem dX12_redundantGuards_8 : decode cX12_redundantGuards 8 = .ok (.ireturn, 1) := by decide +kernel
theorem dX12_reflexVertices_0 : decode cX12_reflexVertices 0 = .ok (.aload_n 0, 1) := by decide +kernel
theorem dX12_reflexVertices_1 : decode cX12_reflexVertices 1 = .ok (.invokevirtual 247, 3) := by decide +kernel
theorem dX12_reflexVertices_4 : decode cX12_reflexVertices 4 = .ok (.ifCond .eq 5, 3) := by decide +kernel
theorem dX12_reflexVertices_7 : decode cX12_reflexVertices 7 = .ok (.iconst 0, 1) := by decide +kernel
theorem dX12_reflexVertices_8 : decode cX12_reflexVertices 8 = .ok (.ireturn, 1) := by decide +kernel
theorem dX12_refuse_0 : decode cX12_refuse 0 = .ok (.aload_n 0, 1) := by decide +kernel
theorem dX12_refuse_1 : decode cX12_refuse 1 = .ok (.getfield 79, 3) := by decide +kernel
theorem dX12_refuse_4 : decode cX12_refuse 4 = .ok (.ifCond .ne 12, 3) := by decide +kernel
theorem dX12_refuse_7 : decode cX12_refuse 7 = .ok (.iload_n 1, 1) := by decide +kernel
theorem dX12_refuse_8 : decode cX12_refuse 8 = .ok (.ifCond .eq 8, 3) := by decide +kernel
theorem dX12_refuse_11 : decode cX12_refuse 11 = .ok (.aload_n 0, 1) := by decide +kernel
theorem dX12_refuse_12 : decode cX12_refuse 12 = .ok (.iload_n 2, 1) := by decide +kernel
theorem dX12_refuse_13 : decode cX12_refuse 13 = .ok (.putfield 79, 3) := by decide +kernel
theorem dX12_refuse_16 : decode cX12_refuse 16 = .ok (.aload_n 0, 1) := by decide +kernel
theorem dX12_refuse_17 : decode cX12_refuse 17 = .ok (.getfield 79, 3) := by decide +kernel
theorem dX12_refuse_20 : decode cX12_refuse 20 = .ok (.ifCond .eq 7, 3) := by decide +kernel
theorem dX12_refuse_23 : decode cX12_refuse 23 = .ok (.iconst 1, 1) := by decide +kernel
theorem dX12_refuse_24 : decode cX12_refuse 24 = .ok (.goto 4, 3) := by decide +kernel
theorem dX12_refuse_27 : decode cX12_refuse 27 = .ok (.iconst 0, 1) := by decide +kernel
theorem dX12_refuse_28 : decode cX12_refuse 28 = .ok (.ireturn, 1) := by decide +kernel
theorem dX12_removeGuard_0 : decode cX12_removeGuard 0 = .ok (.aload_n 0, 1) := by decide +kernel
theorem dX12_removeGuard_1 : decode cX12_removeGuard 1 = .ok (.iload_n 1, 1) := by decide +kernel
theorem dX12_removeGuard_2 : decode cX12_removeGuard 2 = .ok (.invokevirtual 356, 3) := by decide +kernel
theorem dX12_removeGuard_5 : decode cX12_removeGuard 5 = .ok (.ifCond .eq 5, 3) := by decide +kernel
theorem dX12_removeGuard_8 : decode cX12_removeGuard 8 = .ok (.iconst 0, 1) := by decide +kernel
theorem dX12_removeGuard_9 : decode cX12_removeGuard 9 = .ok (.ireturn, 1) := by decide +kernel
theorem dX12_restore_0 : decode cX12_restore 0 = .ok (.aload_n 0, 1) := by decide +kernel
theorem dX12_restore_1 : decode cX12_restore 1 = .ok (.iconst 0, 1) := by decide +kernel
theorem dX12_restore_2 : decode cX12_restore 2 = .ok (.putfield 79, 3) := by decide +kernel
theorem dX12_restore_5 : decode cX12_restore 5 = .ok (.aload_n 0, 1) := by decide +kernel
theorem dX12_restore_6 : decode cX12_restore 6 = .ok (.iload_n 1, 1) := by decide +kernel
theorem dX12_restore_7 : decode cX12_restore 7 = .ok (.iconst 0, 1) := by decide +kernel
theorem dX12_restore_8 : decode cX12_restore 8 = .ok (.iconst 1, 1) := by decide +kernel
theorem dX12_restore_9 : decode cX12_restore 9 = .ok (.invokestatic 148, 3) := by decide +kernel
theorem dX12_restore_12 : decode cX12_restore 12 = .ok (.ifCond .ne 7, 3) := by decide +kernel
theorem dX12_restore_15 : decode cX12_restore 15 = .ok (.iconst 1, 1) := by decide +kernel
theorem dX12_restore_16 : decode cX12_restore 16 = .ok (.goto 4, 3) := by decide +kernel
theorem dX12_restore_19 : decode cX12_restore 19 = .ok (.iconst 0, 1) := by decide +kernel
theorem dX12_restore_20 : decode cX12_restore 20 = .ok (.iconst 1, 1) := by decide +kernel
theorem dX12_restore_21 : decode cX12_restore 21 = .ok (.invokevirtual 86, 3) := by decide +kernel
theorem dX12_restore_24 : decode cX12_restore 24 = .ok (.ifCond .ne 25, 3) := by decide +kernel
theorem dX12_restore_27 : decode cX12_restore 27 = .ok (.aload_n 0, 1) := by decide +kernel
theorem dX12_restore_28 : decode cX12_restore 28 = .ok (.aload_n 0, 1) := by decide +kernel
theorem dX12_restore_29 : decode cX12_restore 29 = .ok (.getfield 16, 3) := by decide +kernel
theorem dX12_restore_32 : decode cX12_restore 32 = .ok (.iload_n 1, 1) := by decide +kernel
theorem dX12_restore_33 : decode cX12_restore 33 = .ok (.baload, 1) := by decide +kernel
theorem dX12_restore_34 : decode cX12_restore 34 = .ok (.ifCond .ne 7, 3) := by decide +kernel
theorem dX12_restore_37 : decode cX12_restore 37 = .ok (.iconst 1, 1) := by decide +kernel
theorem dX12_restore_38 : decode cX12_restore 38 = .ok (.goto 4, 3) := by decide +kernel
theorem dX12_restore_42 : decode cX12_restore 42 = .ok (.iconst 2, 1) := by decide +kernel
theorem dX12_restore_43 : decode cX12_restore 43 = .ok (.invokevirtual 86, 3) := by decide +kernel
theorem dX12_restore_46 : decode cX12_restore 46 = .ok (.ifCond .eq 5, 3) := by decide +kernel
theorem dX12_restore_49 : decode cX12_restore 49 = .ok (.iconst 0, 1) := by decide +kernel
theorem dX12_restore_50 : decode cX12_restore 50 = .ok (.ireturn, 1) := by decide +kernel
theorem dX12_save_0 : decode cX12_save 0 = .ok (.aload_n 0, 1) := by decide +kernel
theorem dX12_save_1 : decode cX12_save 1 = .ok (.invokevirtual 247, 3) := by decide +kernel
theorem dX12_save_4 : decode cX12_save 4 = .ok (.ifCond .ne 25, 3) := by decide +kernel
theorem dX12_save_29 : decode cX12_save 29 = .ok (.iconst 0, 1) := by decide +kernel
theorem dX12_save_30 : decode cX12_save 30 = .ok (.ireturn, 1) := by decide +kernel
theorem dX12_seenFromEdge_0 : decode cX12_seenFromEdge 0 = .ok (.aload_n 0, 1) := by decide +kernel
theorem dX12_seenFromEdge_1 : decode cX12_seenFromEdge 1 = .ok (.iload_n 1, 1) := by decide +kernel
theorem dX12_seenFromEdge_2 : decode cX12_seenFromEdge 2 = .ok (.invokevirtual 251, 3) := by decide +kernel
theorem dX12_seenFromEdge_5 : decode cX12_seenFromEdge 5 = .ok (.ifCond .eq 5, 3) := by decide +kernel
theorem dX12_seenFromEdge_8 : decode cX12_seenFromEdge 8 = .ok (.lconst 0, 1) := by decide +kernel
theorem dX12_seenFromEdge_9 : decode cX12_seenFromEdge 9 = .ok (.lreturn, 1) := by decide +kernel
theorem dX12_sees_0 : decode cX12_sees 0 = .ok (.aload_n 0, 1) := by decide +kernel
theorem dX12_sees_1 : decode cX12_sees 1 = .ok (.iload_n 1, 1) := by decide +kernel
theorem dX12_sees_2 : decode cX12_sees 2 = .ok (.invokevirtual 254, 3) := by decide +kernel
theorem dX12_sees_5 : decode cX12_sees 5 = .ok (.ifCond .ne 30, 3) := by decide +kernel
theorem dX12_sees_35 : decode cX12_sees 35 = .ok (.iconst 0, 1) := by decide +kernel
theorem dX12_sees_36 : decode cX12_sees 36 = .ok (.ireturn, 1) := by decide +kernel
theorem dX12_setRange_0 : decode cX12_setRange 0 = .ok (.aload_n 0, 1) := by decide +kernel
theorem dX12_setRange_1 : decode cX12_setRange 1 = .ok (.iload_n 1, 1) := by decide +kernel
theorem dX12_setRange_2 : decode cX12_setRange 2 = .ok (.invokevirtual 356, 3) := by decide +kernel
theorem dX12_setRange_5 : decode cX12_setRange 5 = .ok (.ifCond .ne 26, 3) := by decide +kernel
theorem dX12_setRange_31 : decode cX12_setRange 31 = .ok (.iconst 0, 1) := by decide +kernel
theorem dX12_setRange_32 : decode cX12_setRange 32 = .ok (.ireturn, 1) := by decide +kernel
theorem dX12_thrown_0 : decode cX12_thrown 0 = .ok (.aload_n 0, 1) := by decide +kernel
theorem dX12_thrown_1 : decode cX12_thrown 1 = .ok (.getfield 79, 3) := by decide +kernel
theorem dX12_thrown_4 : decode cX12_thrown 4 = .ok (.ireturn, 1) := by decide +kernel
theorem dX12_told_0 : decode cX12_told 0 = .ok (.aload_n 0, 1) := by decide +kernel
theorem dX12_told_1 : decode cX12_told 1 = .ok (.iconst 0, 1) := by decide +kernel
theorem dX12_told_2 : decode cX12_told 2 = .ok (.putfield 79, 3) := by decide +kernel
theorem dX12_told_5 : decode cX12_told 5 = .ok (.aload_n 0, 1) := by decide +kernel
theorem dX12_told_6 : decode cX12_told 6 = .ok (.getfield 82, 3) := by decide +kernel
theorem dX12_told_9 : decode cX12_told 9 = .ok (.ifCond .eq 7, 3) := by decide +kernel
theorem dX12_told_16 : decode cX12_told 16 = .ok (.iconst 0, 1) := by decide +kernel
theorem dX12_told_17 : decode cX12_told 17 = .ok (.ireturn, 1) := by decide +kernel
theorem dX12_treasureAt_0 : decode cX12_treasureAt 0 = .ok (.aload_n 0, 1) := by decide +kernel
theorem dX12_treasureAt_1 : decode cX12_treasureAt 1 = .ok (.invokevirtual 247, 3) := by decide +kernel
theorem dX12_treasureAt_4 : decode cX12_treasureAt 4 = .ok (.ifCond .ne 32, 3) := by decide +kernel
theorem dX12_treasureAt_36 : decode cX12_treasureAt 36 = .ok (.iconst 0, 1) := by decide +kernel
theorem dX12_treasureAt_37 : decode cX12_treasureAt 37 = .ok (.goto 19, 3) := by decide +kernel
theorem dX12_treasureAt_56 : decode cX12_treasureAt 56 = .ok (.ireturn, 1) := by decide +kernel
theorem dX12_treasures_0 : decode cX12_treasures 0 = .ok (.aload_n 0, 1) := by decide +kernel
theorem dX12_treasures_1 : decode cX12_treasures 1 = .ok (.aload_n 0, 1) := by decide +kernel
theorem dX12_treasures_2 : decode cX12_treasures 2 = .ok (.getfield 7, 3) := by decide +kernel
theorem dX12_treasures_5 : decode cX12_treasures 5 = .ok (.iconst 2, 1) := by decide +kernel
theorem dX12_treasures_6 : decode cX12_treasures 6 = .ok (.iaload, 1) := by decide +kernel
theorem dX12_treasures_7 : decode cX12_treasures 7 = .ok (.invokevirtual 244, 3) := by decide +kernel
theorem dX12_treasures_10 : decode cX12_treasures 10 = .ok (.ireturn, 1) := by decide +kernel
theorem dX12_triangleArea_0 : decode cX12_triangleArea 0 = .ok (.aload_n 0, 1) := by decide +kernel
theorem dX12_triangleArea_1 : decode cX12_triangleArea 1 = .ok (.iload_n 1, 1) := by decide +kernel
theorem dX12_triangleArea_2 : decode cX12_triangleArea 2 = .ok (.invokevirtual 301, 3) := by decide +kernel
theorem dX12_triangleArea_5 : decode cX12_triangleArea 5 = .ok (.ifCond .eq 5, 3) := by decide +kernel
theorem dX12_triangleArea_8 : decode cX12_triangleArea 8 = .ok (.iconst 0, 1) := by decide +kernel
theorem dX12_triangleArea_9 : decode cX12_triangleArea 9 = .ok (.ireturn, 1) := by decide +kernel
theorem dX12_triangleVertex_0 : decode cX12_triangleVertex 0 = .ok (.aload_n 0, 1) := by decide +kernel
theorem dX12_triangleVertex_1 : decode cX12_triangleVertex 1 = .ok (.iload_n 1, 1) := by decide +kernel
theorem dX12_triangleVertex_2 : decode cX12_triangleVertex 2 = .ok (.invokevirtual 301, 3) := by decide +kernel
theorem dX12_triangleVertex_5 : decode cX12_triangleVertex 5 = .ok (.ifCond .ne 25, 3) := by decide +kernel
theorem dX12_triangleVertex_30 : decode cX12_triangleVertex 30 = .ok (.iconst 0, 1) := by decide +kernel
theorem dX12_triangleVertex_31 : decode cX12_triangleVertex 31 = .ok (.ireturn, 1) := by decide +kernel
theorem dX12_undo_0 : decode cX12_undo 0 = .ok (.aload_n 0, 1) := by decide +kernel
theorem dX12_undo_1 : decode cX12_undo 1 = .ok (.iconst 0, 1) := by decide +kernel
theorem dX12_undo_2 : decode cX12_undo 2 = .ok (.putfield 79, 3) := by decide +kernel
theorem dX12_undo_5 : decode cX12_undo 5 = .ok (.aload_n 0, 1) := by decide +kernel
theorem dX12_undo_6 : decode cX12_undo 6 = .ok (.aload_n 0, 1) := by decide +kernel
theorem dX12_undo_7 : decode cX12_undo 7 = .ok (.getfield 192, 3) := by decide +kernel
theorem dX12_undo_10 : decode cX12_undo 10 = .ok (.ifCond .ne 7, 3) := by decide +kernel
theorem dX12_undo_13 : decode cX12_undo 13 = .ok (.iconst 1, 1) := by decide +kernel
theorem dX12_undo_14 : decode cX12_undo 14 = .ok (.goto 4, 3) := by decide +kernel
theorem dX12_undo_18 : decode cX12_undo 18 = .ok (.iconst 1, 1) := by decide +kernel
theorem dX12_undo_19 : decode cX12_undo 19 = .ok (.invokevirtual 86, 3) := by decide +kernel
theorem dX12_undo_22 : decode cX12_undo 22 = .ok (.ifCond .eq 5, 3) := by decide +kernel
theorem dX12_undo_25 : decode cX12_undo 25 = .ok (.iconst 0, 1) := by decide +kernel
theorem dX12_undo_26 : decode cX12_undo 26 = .ok (.ireturn, 1) := by decide +kernel
theorem dX12_undoable_0 : decode cX12_undoable 0 = .ok (.aload_n 0, 1) := by decide +kernel
theorem dX12_undoable_1 : decode cX12_undoable 1 = .ok (.aload_n 0, 1) := by decide +kernel
theorem dX12_undoable_2 : decode cX12_undoable 2 = .ok (.getfield 192, 3) := by decide +kernel
theorem dX12_undoable_5 : decode cX12_undoable 5 = .ok (.invokevirtual 244, 3) := by decide +kernel
theorem dX12_undoable_8 : decode cX12_undoable 8 = .ok (.ireturn, 1) := by decide +kernel
theorem dX12_unwatched_0 : decode cX12_unwatched 0 = .ok (.aload_n 0, 1) := by decide +kernel
theorem dX12_unwatched_1 : decode cX12_unwatched 1 = .ok (.invokevirtual 247, 3) := by decide +kernel
theorem dX12_unwatched_4 : decode cX12_unwatched 4 = .ok (.ifCond .eq 7, 3) := by decide +kernel
theorem dX12_unwatched_7 : decode cX12_unwatched 7 = .ok (.lconst 0, 1) := by decide +kernel
theorem dX12_unwatched_8 : decode cX12_unwatched 8 = .ok (.goto 17, 3) := by decide +kernel
theorem dX12_unwatched_25 : decode cX12_unwatched 25 = .ok (.lreturn, 1) := by decide +kernel
theorem dX12_vertexGuards_0 : decode cX12_vertexGuards 0 = .ok (.aload_n 0, 1) := by decide +kernel
theorem dX12_vertexGuards_1 : decode cX12_vertexGuards 1 = .ok (.invokevirtual 247, 3) := by decide +kernel
theorem dX12_vertexGuards_4 : decode cX12_vertexGuards 4 = .ok (.ifCond .eq 7, 3) := by decide +kernel
theorem dX12_vertexGuards_7 : decode cX12_vertexGuards 7 = .ok (.iconst 0, 1) := by decide +kernel
theorem dX12_vertexGuards_8 : decode cX12_vertexGuards 8 = .ok (.goto 8, 3) := by decide +kernel
theorem dX12_vertexGuards_16 : decode cX12_vertexGuards 16 = .ok (.ireturn, 1) := by decide +kernel
theorem dX12_vertexX_0 : decode cX12_vertexX 0 = .ok (.aload_n 0, 1) := by decide +kernel
theorem dX12_vertexX_1 : decode cX12_vertexX 1 = .ok (.iload_n 1, 1) := by decide +kernel
theorem dX12_vertexX_2 : decode cX12_vertexX 2 = .ok (.invokevirtual 251, 3) := by decide +kernel
theorem dX12_vertexX_5 : decode cX12_vertexX 5 = .ok (.ifCond .eq 7, 3) := by decide +kernel
theorem dX12_vertexX_8 : decode cX12_vertexX 8 = .ok (.iconst 0, 1) := by decide +kernel
theorem dX12_vertexX_9 : decode cX12_vertexX 9 = .ok (.goto 11, 3) := by decide +kernel
theorem dX12_vertexX_20 : decode cX12_vertexX 20 = .ok (.ireturn, 1) := by decide +kernel
theorem dX12_vertexY_0 : decode cX12_vertexY 0 = .ok (.aload_n 0, 1) := by decide +kernel
theorem dX12_vertexY_1 : decode cX12_vertexY 1 = .ok (.iload_n 1, 1) := by decide +kernel
theorem dX12_vertexY_2 : decode cX12_vertexY 2 = .ok (.invokevirtual 251, 3) := by decide +kernel
theorem dX12_vertexY_5 : decode cX12_vertexY 5 = .ok (.ifCond .eq 7, 3) := by decide +kernel
theorem dX12_vertexY_8 : decode cX12_vertexY 8 = .ok (.iconst 0, 1) := by decide +kernel
theorem dX12_vertexY_9 : decode cX12_vertexY 9 = .ok (.goto 12, 3) := by decide +kernel
theorem dX12_vertexY_21 : decode cX12_vertexY 21 = .ok (.ireturn, 1) := by decide +kernel
theorem dX12_vertices_0 : decode cX12_vertices 0 = .ok (.aload_n 0, 1) := by decide +kernel
theorem dX12_vertices_1 : decode cX12_vertices 1 = .ok (.aload_n 0, 1) := by decide +kernel
theorem dX12_vertices_2 : decode cX12_vertices 2 = .ok (.getfield 7, 3) := by decide +kernel
theorem dX12_vertices_5 : decode cX12_vertices 5 = .ok (.iconst 0, 1) := by decide +kernel
theorem dX12_vertices_6 : decode cX12_vertices 6 = .ok (.iaload, 1) := by decide +kernel
theorem dX12_vertices_7 : decode cX12_vertices 7 = .ok (.invokevirtual 244, 3) := by decide +kernel
theorem dX12_vertices_10 : decode cX12_vertices 10 = .ok (.ireturn, 1) := by decide +kernel
theorem dX12_visible_0 : decode cX12_visible 0 = .ok (.aload_n 0, 1) := by decide +kernel
theorem dX12_visible_1 : decode cX12_visible 1 = .ok (.iload_n 1, 1) := by decide +kernel
theorem dX12_visible_2 : decode cX12_visible 2 = .ok (.invokevirtual 254, 3) := by decide +kernel
theorem dX12_visible_5 : decode cX12_visible 5 = .ok (.ifCond .eq 5, 3) := by decide +kernel
theorem dX12_visible_8 : decode cX12_visible 8 = .ok (.lconst 0, 1) := by decide +kernel
theorem dX12_visible_9 : decode cX12_visible 9 = .ok (.lreturn, 1) := by decide +kernel
theorem dX12_watched_0 : decode cX12_watched 0 = .ok (.aload_n 0, 1) := by decide +kernel
theorem dX12_watched_1 : decode cX12_watched 1 = .ok (.iload_n 1, 1) := by decide +kernel
theorem dX12_watched_2 : decode cX12_watched 2 = .ok (.invokevirtual 356, 3) := by decide +kernel
theorem dX12_watched_5 : decode cX12_watched 5 = .ok (.ifCond .eq 5, 3) := by decide +kernel
theorem dX12_watched_8 : decode cX12_watched 8 = .ok (.lconst 0, 1) := by decide +kernel
theorem dX12_watched_9 : decode cX12_watched 9 = .ok (.lreturn, 1) := by decide +kernel
theorem dX12_watchedValue_0 : decode cX12_watchedValue 0 = .ok (.aload_n 0, 1) := by decide +kernel
theorem dX12_watchedValue_1 : decode cX12_watchedValue 1 = .ok (.invokevirtual 247, 3) := by decide +kernel
theorem dX12_watchedValue_4 : decode cX12_watchedValue 4 = .ok (.ifCond .eq 7, 3) := by decide +kernel
theorem dX12_watchedValue_7 : decode cX12_watchedValue 7 = .ok (.iconst 0, 1) := by decide +kernel
theorem dX12_watchedValue_8 : decode cX12_watchedValue 8 = .ok (.goto 12, 3) := by decide +kernel
theorem dX12_watchedValue_20 : decode cX12_watchedValue 20 = .ok (.ireturn, 1) := by decide +kernel
theorem dX12_watchers_0 : decode cX12_watchers 0 = .ok (.aload_n 0, 1) := by decide +kernel
theorem dX12_watchers_1 : decode cX12_watchers 1 = .ok (.iload_n 1, 1) := by decide +kernel
theorem dX12_watchers_2 : decode cX12_watchers 2 = .ok (.invokevirtual 254, 3) := by decide +kernel
theorem dX12_watchers_5 : decode cX12_watchers 5 = .ok (.ifCond .eq 5, 3) := by decide +kernel
theorem dX12_watchers_8 : decode cX12_watchers 8 = .ok (.iconst 0, 1) := by decide +kernel
theorem dX12_watchers_9 : decode cX12_watchers 9 = .ok (.ireturn, 1) := by decide +kernel
theorem dX12_witness_0 : decode cX12_witness 0 = .ok (.aload_n 0, 1) := by decide +kernel
theorem dX12_witness_1 : decode cX12_witness 1 = .ok (.invokevirtual 247, 3) := by decide +kernel
theorem dX12_witness_4 : decode cX12_witness 4 = .ok (.ifCond .eq 5, 3) := by decide +kernel
theorem dX12_witness_7 : decode cX12_witness 7 = .ok (.iconst 0, 1) := by decide +kernel
theorem dX12_witness_8 : decode cX12_witness 8 = .ok (.ireturn, 1) := by decide +kernel
theorem dX12_witnessNumber_0 : decode cX12_witnessNumber 0 = .ok (.aload_n 0, 1) := by decide +kernel
theorem dX12_witnessNumber_1 : decode cX12_witnessNumber 1 = .ok (.invokevirtual 247, 3) := by decide +kernel
theorem dX12_witnessNumber_4 : decode cX12_witnessNumber 4 = .ok (.ifCond .eq 5, 3) := by decide +kernel
theorem dX12_witnessNumber_7 : decode cX12_witnessNumber 7 = .ok (.iconst 0, 1) := by decide +kernel
theorem dX12_witnessNumber_8 : decode cX12_witnessNumber 8 = .ok (.ireturn, 1) := by decide +kernel
end
section
set_option maxHeartbeats 4000000 in
set_option maxRecDepth 100000 in
theorem m_refuse_y (l : Launch) (D : va_G) (cI cZ cJ : ClassId) (mo : Nat) (bu : Int32) (pe : Int32) (ep : Int32) (sz : Int32) (nx : Int32) (fr : Int32) (so : Int32) (wr : Int32) (wa : Int32) (as : Nat) (ak : Nat) (ab : Nat) (ar : Nat) (g : Nat → Value) (cd0 : Int32) (hc : ¬ cd0 = 0) : cM l yX12_refuse cX12_refuse 3 (some .boolean) D (TT cI cZ cJ) [.ref mo, .int 1, .int cd0] [(mo, .inr (11, mC 0 bu pe ep sz nx fr so wr wa as ak ab ar g))] (qI D (TT cI cZ cJ) (fun u : Unit => 1) (fun u : Unit => [(mo, .inr (11, mC cd0 bu pe ep sz nx fr so wr wa as ak ab ar g))])) 0 0 0 := by
  refine enterM (by decide) (Nat.le_of_ble_eq_true rfl) ?_
  intro p e s m below meth c ls A C hP hD hS hl
  have hx := C.1
  have hb := C.2.1
  have hl : lv_has ls 3 [(0, .ref mo), (1, .int 1), (2, .int cd0)] := hl
  refine lv_aload_n hx hb dX12_refuse_0 rfl (lv_at hl 0 rfl) ?_
  refine r_get (v := .int 0) C hP 0 rfl fg_X12_79 rfl dX12_refuse_1 ?_
  refine lv_if_ne (tgt := 16) hx hb dX12_refuse_4 (by decide) (fun h => absurd h (by decide)) (fun _ => ?_)
  refine lv_iload_n hx hb dX12_refuse_7 rfl (lv_at hl 1 rfl) ?_
  refine lv_if_eq (tgt := 16) hx hb dX12_refuse_8 (by decide) (fun h => absurd h (by decide)) (fun _ => ?_)
  refine lv_aload_n hx hb dX12_refuse_11 rfl (lv_at hl 0 rfl) ?_
  refine lv_iload_n hx hb dX12_refuse_12 rfl (lv_at hl 2 rfl) ?_
  refine r_put C hP hD hS 0 rfl fg_X12_79 rfl rfl (Nat.le_of_ble_eq_true rfl) dX12_refuse_13 [(mo, .inr (11, mC cd0 bu pe ep sz nx fr so wr wa as ak ab ar g))] rfl (fun H locs hP hD hS => ?_)
  refine lv_aload_n hx hb dX12_refuse_16 rfl (lv_at hl 0 rfl) ?_
  refine r_get (v := .int cd0) C hP 0 rfl fg_X12_79 rfl dX12_refuse_17 ?_
  refine lv_if_eq (tgt := 27) hx hb dX12_refuse_20 (by decide) (fun h => absurd h hc) (fun _ => ?_)
  refine lv_iconst (v := 1) hx hb dX12_refuse_23 (by decide) ?_
  refine lv_goto (tgt := 28) hx hb dX12_refuse_24 (by decide) ?_
  exact r_zret C hP hD hS () rfl rfl rfl (Nat.le_of_ble_eq_true rfl) (Nat.le_of_ble_eq_true rfl) dX12_refuse_28
set_option maxHeartbeats 4000000 in
set_option maxRecDepth 100000 in
theorem m_refuse_n (l : Launch) (D : va_G) (cI cZ cJ : ClassId) (mo : Nat) (bu : Int32) (pe : Int32) (ep : Int32) (sz : Int32) (nx : Int32) (fr : Int32) (so : Int32) (wr : Int32) (wa : Int32) (as : Nat) (ak : Nat) (ab : Nat) (ar : Nat) (g : Nat → Value) (cd0 : Int32)  : cM l yX12_refuse cX12_refuse 3 (some .boolean) D (TT cI cZ cJ) [.ref mo, .int 0, .int cd0] [(mo, .inr (11, mC 0 bu pe ep sz nx fr so wr wa as ak ab ar g))] (qI D (TT cI cZ cJ) (fun u : Unit => 0) (fun u : Unit => [(mo, .inr (11, mC 0 bu pe ep sz nx fr so wr wa as ak ab ar g))])) 0 0 0 := by
  refine enterM (by decide) (Nat.le_of_ble_eq_true rfl) ?_
  intro p e s m below meth c ls A C hP hD hS hl
  have hx := C.1
  have hb := C.2.1
  have hl : lv_has ls 3 [(0, .ref mo), (1, .int 0), (2, .int cd0)] := hl
  refine lv_aload_n hx hb dX12_refuse_0 rfl (lv_at hl 0 rfl) ?_
  refine r_get (v := .int 0) C hP 0 rfl fg_X12_79 rfl dX12_refuse_1 ?_
  refine lv_if_ne (tgt := 16) hx hb dX12_refuse_4 (by decide) (fun h => absurd h (by decide)) (fun _ => ?_)
  refine lv_iload_n hx hb dX12_refuse_7 rfl (lv_at hl 1 rfl) ?_
  refine lv_if_eq (tgt := 16) hx hb dX12_refuse_8 (by decide) (fun _ => ?_) (fun h => absurd (by decide) h)
  refine lv_aload_n hx hb dX12_refuse_16 rfl (lv_at hl 0 rfl) ?_
  refine r_get (v := .int 0) C hP 0 rfl fg_X12_79 rfl dX12_refuse_17 ?_
  refine lv_if_eq (tgt := 27) hx hb dX12_refuse_20 (by decide) (fun _ => ?_) (fun h => absurd (by decide) h)
  refine lv_iconst (v := 0) hx hb dX12_refuse_27 (by decide) ?_
  exact r_zret C hP hD hS () rfl rfl rfl (Nat.le_of_ble_eq_true rfl) (Nat.le_of_ble_eq_true rfl) dX12_refuse_28
set_option maxHeartbeats 4000000 in
set_option maxRecDepth 100000 in
theorem m_in_t (l : Launch) (D : va_G) (cI cZ cJ : ClassId) (a0 : Int32) (a1 : Int32) (a2 : Int32) (h1 : ¬ a0 < a1) (h2 : ¬ a2 < a0) : cM l yX12_in cX12_in 3 (some .boolean) D (TT cI cZ cJ) [.int a0, .int a1, .int a2] [] (qI D (TT cI cZ cJ) (fun u : Unit => 1) (fun u : Unit => [])) 0 0 0 := by
  refine enterM (by decide) (Nat.le_of_ble_eq_true rfl) ?_
  intro p e s m below meth c ls A C hP hD hS hl
  have hx := C.1
  have hb := C.2.1
  have hl : lv_has ls 3 [(0, .int a0), (1, .int a1), (2, .int a2)] := hl
  refine lv_iload_n hx hb dX12_in_0 rfl (lv_at hl 0 rfl) ?_
  refine lv_iload_n hx hb dX12_in_1 rfl (lv_at hl 1 rfl) ?_
  refine lv_icmp_lt (tgt := 14) hx hb dX12_in_2 (by decide) (fun h => absurd h h1) (fun _ => ?_)
  refine lv_iload_n hx hb dX12_in_5 rfl (lv_at hl 0 rfl) ?_
  refine lv_iload_n hx hb dX12_in_6 rfl (lv_at hl 2 rfl) ?_
  refine lv_icmp_gt (tgt := 14) hx hb dX12_in_7 (by decide) (fun h => absurd h h2) (fun _ => ?_)
  refine lv_iconst (v := 1) hx hb dX12_in_10 (by decide) ?_
  refine lv_goto (tgt := 15) hx hb dX12_in_11 (by decide) ?_
  exact r_zret C hP hD hS () rfl rfl rfl (Nat.le_of_ble_eq_true rfl) (Nat.le_of_ble_eq_true rfl) dX12_in_15
set_option maxHeartbeats 4000000 in
set_option maxRecDepth 100000 in
theorem m_in_l (l : Launch) (D : va_G) (cI cZ cJ : ClassId) (a0 : Int32) (a1 : Int32) (a2 : Int32) (h1 : a0 < a1) : cM l yX12_in cX12_in 3 (some .boolean) D (TT cI cZ cJ) [.int a0, .int a1, .int a2] [] (qI D (TT cI cZ cJ) (fun u : Unit => 0) (fun u : Unit => [])) 0 0 0 := by
  refine enterM (by decide) (Nat.le_of_ble_eq_true rfl) ?_
  intro p e s m below meth c ls A C hP hD hS hl
  have hx := C.1
  have hb := C.2.1
  have hl : lv_has ls 3 [(0, .int a0), (1, .int a1), (2, .int a2)] := hl
  refine lv_iload_n hx hb dX12_in_0 rfl (lv_at hl 0 rfl) ?_
  refine lv_iload_n hx hb dX12_in_1 rfl (lv_at hl 1 rfl) ?_
  refine lv_icmp_lt (tgt := 14) hx hb dX12_in_2 (by decide) (fun _ => ?_) (fun h => absurd h1 h)
  refine lv_iconst (v := 0) hx hb dX12_in_14 (by decide) ?_
  exact r_zret C hP hD hS () rfl rfl rfl (Nat.le_of_ble_eq_true rfl) (Nat.le_of_ble_eq_true rfl) dX12_in_15
set_option maxHeartbeats 4000000 in
set_option maxRecDepth 100000 in
theorem m_in_g (l : Launch) (D : va_G) (cI cZ cJ : ClassId) (a0 : Int32) (a1 : Int32) (a2 : Int32) (h1 : ¬ a0 < a1) (h2 : a2 < a0) : cM l yX12_in cX12_in 3 (some .boolean) D (TT cI cZ cJ) [.int a0, .int a1, .int a2] [] (qI D (TT cI cZ cJ) (fun u : Unit => 0) (fun u : Unit => [])) 0 0 0 := by
  refine enterM (by decide) (Nat.le_of_ble_eq_true rfl) ?_
  intro p e s m below meth c ls A C hP hD hS hl
  have hx := C.1
  have hb := C.2.1
  have hl : lv_has ls 3 [(0, .int a0), (1, .int a1), (2, .int a2)] := hl
  refine lv_iload_n hx hb dX12_in_0 rfl (lv_at hl 0 rfl) ?_
  refine lv_iload_n hx hb dX12_in_1 rfl (lv_at hl 1 rfl) ?_
  refine lv_icmp_lt (tgt := 14) hx hb dX12_in_2 (by decide) (fun h => absurd h h1) (fun _ => ?_)
  refine lv_iload_n hx hb dX12_in_5 rfl (lv_at hl 0 rfl) ?_
  refine lv_iload_n hx hb dX12_in_6 rfl (lv_at hl 2 rfl) ?_
  refine lv_icmp_gt (tgt := 14) hx hb dX12_in_7 (by decide) (fun _ => ?_) (fun h => absurd h2 h)
  refine lv_iconst (v := 0) hx hb dX12_in_14 (by decide) ?_
  exact r_zret C hP hD hS () rfl rfl rfl (Nat.le_of_ble_eq_true rfl) (Nat.le_of_ble_eq_true rfl) dX12_in_15
set_option maxHeartbeats 4000000 in
set_option maxRecDepth 100000 in
theorem m_noPolygon (l : Launch) (D : va_G) (cI cZ cJ : ClassId) (mo : Nat) (bu : Int32) (pe : Int32) (ep : Int32) (sz : Int32) (nx : Int32) (fr : Int32) (so : Int32) (wr : Int32) (wa : Int32) (as : Nat) (ak : Nat) (ab : Nat) (ar : Nat) (g : Nat → Value) (th : Int32)  : cM l yX12_noPolygon cX12_noPolygon 1 (some .boolean) D (TT cI cZ cJ) [.ref mo] [(mo, .inr (11, mC th bu pe ep sz nx fr so wr wa as ak ab ar g))] (qI D (TT cI cZ cJ) (fun u : Unit => 1) (fun u : Unit => [(mo, .inr (11, mC 1 bu pe ep sz nx fr so wr wa as ak ab ar g))])) 1 0 0 := by
  refine enterM (by decide) (Nat.le_of_ble_eq_true rfl) ?_
  intro p e s m below meth c ls A C hP hD hS hl
  have hx := C.1
  have hb := C.2.1
  have hl : lv_has ls 1 [(0, .ref mo)] := hl
  refine lv_aload_n hx hb dX12_noPolygon_0 rfl (lv_at hl 0 rfl) ?_
  refine lv_iconst (v := 0) hx hb dX12_noPolygon_1 (by decide) ?_
  refine r_put C hP hD hS 0 rfl fg_X12_79 rfl rfl (Nat.le_of_ble_eq_true rfl) dX12_noPolygon_2 [(mo, .inr (11, mC 0 bu pe ep sz nx fr so wr wa as ak ab ar g))] rfl (fun H locs hP hD hS => ?_)
  refine lv_aload_n hx hb dX12_noPolygon_5 rfl (lv_at hl 0 rfl) ?_
  refine lv_aload_n hx hb dX12_noPolygon_6 rfl (lv_at hl 0 rfl) ?_
  refine r_get (v := .int 0) C hP 0 rfl fg_X12_82 rfl dX12_noPolygon_7 ?_
  refine lv_if_ne (tgt := 17) hx hb dX12_noPolygon_10 (by decide) (fun h => absurd h (by decide)) (fun _ => ?_)
  refine lv_iconst (v := 1) hx hb dX12_noPolygon_13 (by decide) ?_
  refine lv_goto (tgt := 18) hx hb dX12_noPolygon_14 (by decide) ?_
  refine lv_iconst (v := 1) hx hb dX12_noPolygon_18 (by decide) ?_
  refine call_i (wr := []) C (run_V (As := [.int 1, .int 1]) (rest := []) C (m_refuse_y l D cI cZ cJ mo bu pe ep sz nx fr so wr wa as ak ab ar g 1 (by decide)) cV_X12_86 hP hD hS [0] rfl rfl 0 rfl rfl rfl rfl hl.1 rfl (Nat.le_of_ble_eq_true rfl) dX12_noPolygon_19 ⟨Nat.le_of_ble_eq_true rfl, Nat.le_of_ble_eq_true rfl⟩ ⟨Nat.le_of_ble_eq_true rfl, Nat.le_of_ble_eq_true rfl⟩) hP hD hS [0] [] rfl rfl rfl (by decide) (fun u1 H locs hP hD hS => ?_)
  have hP : va_P D CL [(mo, .inr (11, mC 1 bu pe ep sz nx fr so wr wa as ak ab ar g))] H := hP
  have hD : va_D A [(mo, .inr (11, mC 1 bu pe ep sz nx fr so wr wa as ak ab ar g))] := hD
  refine W.widen (k := 0) (n := 0) (Nat.le_of_ble_eq_true rfl) (Nat.le_of_ble_eq_true rfl) ?_
  refine W.eq (g2 := F0 m 22 ls [.int 1]) rfl ?_
  exact r_zret C hP hD hS () rfl rfl rfl (Nat.le_of_ble_eq_true rfl) (Nat.le_of_ble_eq_true rfl) dX12_noPolygon_22
set_option maxHeartbeats 4000000 in
set_option maxRecDepth 100000 in
theorem m_noVertex (l : Launch) (D : va_G) (cI cZ cJ : ClassId) (mo : Nat) (bu : Int32) (pe : Int32) (ep : Int32) (sz : Int32) (nx : Int32) (fr : Int32) (so : Int32) (wr : Int32) (wa : Int32) (as : Nat) (ak : Nat) (ab : Nat) (ar : Nat) (g : Nat → Value) (th : Int32) (a0 : Int32)  : cM l yX12_noVertex cX12_noVertex 2 (some .boolean) D (TT cI cZ cJ) [.ref mo, .int a0] [(mo, .inr (11, mC th bu pe ep sz nx fr so wr wa as ak ab ar g))] (qI D (TT cI cZ cJ) (fun u : Unit => 1) (fun u : Unit => [(mo, .inr (11, mC 1 bu pe ep sz nx fr so wr wa as ak ab ar g))])) 2 0 0 := by
  refine enterM (by decide) (Nat.le_of_ble_eq_true rfl) ?_
  intro p e s m below meth c ls A C hP hD hS hl
  have hx := C.1
  have hb := C.2.1
  have hl : lv_has ls 2 [(0, .ref mo), (1, .int a0)] := hl
  refine lv_aload_n hx hb dX12_noVertex_0 rfl (lv_at hl 0 rfl) ?_
  refine call_i (wr := []) C (run_V (As := []) (rest := []) C (m_noPolygon l D cI cZ cJ mo bu pe ep sz nx fr so wr wa as ak ab ar g th ) cV_X12_247 hP hD hS [0] rfl rfl 0 rfl rfl rfl rfl hl.1 rfl (Nat.le_of_ble_eq_true rfl) dX12_noVertex_1 ⟨Nat.le_of_ble_eq_true rfl, Nat.le_of_ble_eq_true rfl⟩ ⟨Nat.le_of_ble_eq_true rfl, Nat.le_of_ble_eq_true rfl⟩) hP hD hS [0] [] rfl rfl rfl (by decide) (fun u1 H locs hP hD hS => ?_)
  have hP : va_P D CL [(mo, .inr (11, mC 1 bu pe ep sz nx fr so wr wa as ak ab ar g))] H := hP
  have hD : va_D A [(mo, .inr (11, mC 1 bu pe ep sz nx fr so wr wa as ak ab ar g))] := hD
  refine W.widen (k := 0) (n := 0) (Nat.le_of_ble_eq_true rfl) (Nat.le_of_ble_eq_true rfl) ?_
  refine W.eq (g2 := F0 m 4 ls [.int 1]) rfl ?_
  refine lv_if_ne (tgt := 36) hx hb dX12_noVertex_4 (by decide) (fun _ => ?_) (fun h => absurd h (by decide))
  refine lv_iconst (v := 1) hx hb dX12_noVertex_36 (by decide) ?_
  refine lv_goto (tgt := 41) hx hb dX12_noVertex_37 (by decide) ?_
  exact r_zret C hP hD hS () rfl rfl rfl (Nat.le_of_ble_eq_true rfl) (Nat.le_of_ble_eq_true rfl) dX12_noVertex_41
set_option maxHeartbeats 4000000 in
set_option maxRecDepth 100000 in
theorem m_noPoint (l : Launch) (D : va_G) (cI cZ cJ : ClassId) (mo : Nat) (bu : Int32) (pe : Int32) (ep : Int32) (sz : Int32) (nx : Int32) (fr : Int32) (so : Int32) (wr : Int32) (wa : Int32) (as : Nat) (ak : Nat) (ab : Nat) (ar : Nat) (g : Nat → Value) (th : Int32) (a0 : Int32)  : cM l yX12_noPoint cX12_noPoint 2 (some .boolean) D (TT cI cZ cJ) [.ref mo, .int a0] [(mo, .inr (11, mC th bu pe ep sz nx fr so wr wa as ak ab ar g))] (qI D (TT cI cZ cJ) (fun u : Unit => 1) (fun u : Unit => [(mo, .inr (11, mC 1 bu pe ep sz nx fr so wr wa as ak ab ar g))])) 2 0 0 := by
  refine enterM (by decide) (Nat.le_of_ble_eq_true rfl) ?_
  intro p e s m below meth c ls A C hP hD hS hl
  have hx := C.1
  have hb := C.2.1
  have hl : lv_has ls 2 [(0, .ref mo), (1, .int a0)] := hl
  refine lv_aload_n hx hb dX12_noPoint_0 rfl (lv_at hl 0 rfl) ?_
  refine call_i (wr := []) C (run_V (As := []) (rest := []) C (m_noPolygon l D cI cZ cJ mo bu pe ep sz nx fr so wr wa as ak ab ar g th ) cV_X12_247 hP hD hS [0] rfl rfl 0 rfl rfl rfl rfl hl.1 rfl (Nat.le_of_ble_eq_true rfl) dX12_noPoint_1 ⟨Nat.le_of_ble_eq_true rfl, Nat.le_of_ble_eq_true rfl⟩ ⟨Nat.le_of_ble_eq_true rfl, Nat.le_of_ble_eq_true rfl⟩) hP hD hS [0] [] rfl rfl rfl (by decide) (fun u1 H locs hP hD hS => ?_)
  have hP : va_P D CL [(mo, .inr (11, mC 1 bu pe ep sz nx fr so wr wa as ak ab ar g))] H := hP
  have hD : va_D A [(mo, .inr (11, mC 1 bu pe ep sz nx fr so wr wa as ak ab ar g))] := hD
  refine W.widen (k := 0) (n := 0) (Nat.le_of_ble_eq_true rfl) (Nat.le_of_ble_eq_true rfl) ?_
  refine W.eq (g2 := F0 m 4 ls [.int 1]) rfl ?_
  refine lv_if_ne (tgt := 34) hx hb dX12_noPoint_4 (by decide) (fun _ => ?_) (fun h => absurd h (by decide))
  refine lv_iconst (v := 1) hx hb dX12_noPoint_34 (by decide) ?_
  refine lv_goto (tgt := 39) hx hb dX12_noPoint_35 (by decide) ?_
  exact r_zret C hP hD hS () rfl rfl rfl (Nat.le_of_ble_eq_true rfl) (Nat.le_of_ble_eq_true rfl) dX12_noPoint_39
set_option maxHeartbeats 4000000 in
set_option maxRecDepth 100000 in
theorem m_noGuard (l : Launch) (D : va_G) (cI cZ cJ : ClassId) (mo : Nat) (bu : Int32) (pe : Int32) (ep : Int32) (sz : Int32) (nx : Int32) (fr : Int32) (so : Int32) (wr : Int32) (wa : Int32) (as : Nat) (ak : Nat) (ab : Nat) (ar : Nat) (g : Nat → Value) (th : Int32) (a0 : Int32)  : cM l yX12_noGuard cX12_noGuard 2 (some .boolean) D (TT cI cZ cJ) [.ref mo, .int a0] [(mo, .inr (11, mC th bu pe ep sz nx fr so wr wa as ak ab ar g))] (qI D (TT cI cZ cJ) (fun u : Unit => 1) (fun u : Unit => [(mo, .inr (11, mC 1 bu pe ep sz nx fr so wr wa as ak ab ar g))])) 2 0 0 := by
  refine enterM (by decide) (Nat.le_of_ble_eq_true rfl) ?_
  intro p e s m below meth c ls A C hP hD hS hl
  have hx := C.1
  have hb := C.2.1
  have hl : lv_has ls 2 [(0, .ref mo), (1, .int a0)] := hl
  refine lv_aload_n hx hb dX12_noGuard_0 rfl (lv_at hl 0 rfl) ?_
  refine call_i (wr := []) C (run_V (As := []) (rest := []) C (m_noPolygon l D cI cZ cJ mo bu pe ep sz nx fr so wr wa as ak ab ar g th ) cV_X12_247 hP hD hS [0] rfl rfl 0 rfl rfl rfl rfl hl.1 rfl (Nat.le_of_ble_eq_true rfl) dX12_noGuard_1 ⟨Nat.le_of_ble_eq_true rfl, Nat.le_of_ble_eq_true rfl⟩ ⟨Nat.le_of_ble_eq_true rfl, Nat.le_of_ble_eq_true rfl⟩) hP hD hS [0] [] rfl rfl rfl (by decide) (fun u1 H locs hP hD hS => ?_)
  have hP : va_P D CL [(mo, .inr (11, mC 1 bu pe ep sz nx fr so wr wa as ak ab ar g))] H := hP
  have hD : va_D A [(mo, .inr (11, mC 1 bu pe ep sz nx fr so wr wa as ak ab ar g))] := hD
  refine W.widen (k := 0) (n := 0) (Nat.le_of_ble_eq_true rfl) (Nat.le_of_ble_eq_true rfl) ?_
  refine W.eq (g2 := F0 m 4 ls [.int 1]) rfl ?_
  refine lv_if_ne (tgt := 36) hx hb dX12_noGuard_4 (by decide) (fun _ => ?_) (fun h => absurd h (by decide))
  refine lv_iconst (v := 1) hx hb dX12_noGuard_36 (by decide) ?_
  refine lv_goto (tgt := 41) hx hb dX12_noGuard_37 (by decide) ?_
  exact r_zret C hP hD hS () rfl rfl rfl (Nat.le_of_ble_eq_true rfl) (Nat.le_of_ble_eq_true rfl) dX12_noGuard_41
set_option maxHeartbeats 4000000 in
set_option maxRecDepth 100000 in
theorem m_noTriangle (l : Launch) (D : va_G) (cI cZ cJ : ClassId) (mo : Nat) (bu : Int32) (pe : Int32) (ep : Int32) (sz : Int32) (nx : Int32) (fr : Int32) (so : Int32) (wr : Int32) (wa : Int32) (as : Nat) (ak : Nat) (ab : Nat) (ar : Nat) (g : Nat → Value) (th : Int32) (a0 : Int32)  : cM l yX12_noTriangle cX12_noTriangle 2 (some .boolean) D (TT cI cZ cJ) [.ref mo, .int a0] [(mo, .inr (11, mC th bu pe ep sz nx fr so wr wa as ak ab ar g))] (qI D (TT cI cZ cJ) (fun u : Unit => 1) (fun u : Unit => [(mo, .inr (11, mC 1 bu pe ep sz nx fr so wr wa as ak ab ar g))])) 2 0 0 := by
  refine enterM (by decide) (Nat.le_of_ble_eq_true rfl) ?_
  intro p e s m below meth c ls A C hP hD hS hl
  have hx := C.1
  have hb := C.2.1
  have hl : lv_has ls 2 [(0, .ref mo), (1, .int a0)] := hl
  refine lv_aload_n hx hb dX12_noTriangle_0 rfl (lv_at hl 0 rfl) ?_
  refine call_i (wr := []) C (run_V (As := []) (rest := []) C (m_noPolygon l D cI cZ cJ mo bu pe ep sz nx fr so wr wa as ak ab ar g th ) cV_X12_247 hP hD hS [0] rfl rfl 0 rfl rfl rfl rfl hl.1 rfl (Nat.le_of_ble_eq_true rfl) dX12_noTriangle_1 ⟨Nat.le_of_ble_eq_true rfl, Nat.le_of_ble_eq_true rfl⟩ ⟨Nat.le_of_ble_eq_true rfl, Nat.le_of_ble_eq_true rfl⟩) hP hD hS [0] [] rfl rfl rfl (by decide) (fun u1 H locs hP hD hS => ?_)
  have hP : va_P D CL [(mo, .inr (11, mC 1 bu pe ep sz nx fr so wr wa as ak ab ar g))] H := hP
  have hD : va_D A [(mo, .inr (11, mC 1 bu pe ep sz nx fr so wr wa as ak ab ar g))] := hD
  refine W.widen (k := 0) (n := 0) (Nat.le_of_ble_eq_true rfl) (Nat.le_of_ble_eq_true rfl) ?_
  refine W.eq (g2 := F0 m 4 ls [.int 1]) rfl ?_
  refine lv_if_ne (tgt := 36) hx hb dX12_noTriangle_4 (by decide) (fun _ => ?_) (fun h => absurd h (by decide))
  refine lv_iconst (v := 1) hx hb dX12_noTriangle_36 (by decide) ?_
  refine lv_goto (tgt := 41) hx hb dX12_noTriangle_37 (by decide) ?_
  exact r_zret C hP hD hS () rfl rfl rfl (Nat.le_of_ble_eq_true rfl) (Nat.le_of_ble_eq_true rfl) dX12_noTriangle_41
set_option maxHeartbeats 4000000 in
set_option maxRecDepth 100000 in
theorem m_told (l : Launch) (D : va_G) (cI cZ cJ : ClassId) (mo : Nat) (bu : Int32) (pe : Int32) (ep : Int32) (sz : Int32) (nx : Int32) (fr : Int32) (so : Int32) (wr : Int32) (wa : Int32) (as : Nat) (ak : Nat) (ab : Nat) (ar : Nat) (g : Nat → Value) (th : Int32) (a0 : Int32)  : cM l yX12_told cX12_told 2 (some .int) D (TT cI cZ cJ) [.ref mo, .int a0] [(mo, .inr (11, mC th bu pe ep sz nx fr so wr wa as ak ab ar g))] (qI D (TT cI cZ cJ) (fun u : Unit => 0) (fun u : Unit => [(mo, .inr (11, mC 0 bu pe ep sz nx fr so wr wa as ak ab ar g))])) 0 0 0 := by
  refine enterM (by decide) (Nat.le_of_ble_eq_true rfl) ?_
  intro p e s m below meth c ls A C hP hD hS hl
  have hx := C.1
  have hb := C.2.1
  have hl : lv_has ls 2 [(0, .ref mo), (1, .int a0)] := hl
  refine lv_aload_n hx hb dX12_told_0 rfl (lv_at hl 0 rfl) ?_
  refine lv_iconst (v := 0) hx hb dX12_told_1 (by decide) ?_
  refine r_put C hP hD hS 0 rfl fg_X12_79 rfl rfl (Nat.le_of_ble_eq_true rfl) dX12_told_2 [(mo, .inr (11, mC 0 bu pe ep sz nx fr so wr wa as ak ab ar g))] rfl (fun H locs hP hD hS => ?_)
  refine lv_aload_n hx hb dX12_told_5 rfl (lv_at hl 0 rfl) ?_
  refine r_get (v := .int 0) C hP 0 rfl fg_X12_82 rfl dX12_told_6 ?_
  refine lv_if_eq (tgt := 16) hx hb dX12_told_9 (by decide) (fun _ => ?_) (fun h => absurd (by decide) h)
  refine lv_iconst (v := 0) hx hb dX12_told_16 (by decide) ?_
  exact r_iret C hP hD hS () rfl rfl (Nat.le_of_ble_eq_true rfl) (Nat.le_of_ble_eq_true rfl) dX12_told_17
end
section
set_option maxHeartbeats 4000000 in
set_option maxRecDepth 100000 in
theorem m_vertexX (l : Launch) (D : va_G) (cI cZ cJ : ClassId) (mo : Nat) (bu : Int32) (pe : Int32) (ep : Int32) (sz : Int32) (nx : Int32) (fr : Int32) (so : Int32) (wr : Int32) (wa : Int32) (as : Nat) (ak : Nat) (ab : Nat) (ar : Nat) (g : Nat → Value) (th : Int32) (a0 : Int32)  : cM l yX12_vertexX cX12_vertexX 2 (some .int) D (TT cI cZ cJ) [.ref mo, .int a0] [(mo, .inr (11, mC th bu pe ep sz nx fr so wr wa as ak ab ar g))] (qI D (TT cI cZ cJ) (fun u : Unit => 0) (fun u : Unit => [(mo, .inr (11, mC 1 bu pe ep sz nx fr so wr wa as ak ab ar g))])) 3 0 0 := by
  refine enterM (by decide) (Nat.le_of_ble_eq_true rfl) ?_
  intro p e s m below meth c ls A C hP hD hS hl
  have hx := C.1
  have hb := C.2.1
  have hl : lv_has ls 2 [(0, .ref mo), (1, .int a0)] := hl
  refine lv_aload_n hx hb dX12_vertexX_0 rfl (lv_at hl 0 rfl) ?_
  refine lv_iload_n hx hb dX12_vertexX_1 rfl (lv_at hl 1 rfl) ?_
  refine call_i (wr := []) C (run_V (As := [.int a0]) (rest := []) C (m_noVertex l D cI cZ cJ mo bu pe ep sz nx fr so wr wa as ak ab ar g th a0 ) cV_X12_251 hP hD hS [0] rfl rfl 0 rfl rfl rfl rfl hl.1 rfl (Nat.le_of_ble_eq_true rfl) dX12_vertexX_2 ⟨Nat.le_of_ble_eq_true rfl, Nat.le_of_ble_eq_true rfl⟩ ⟨Nat.le_of_ble_eq_true rfl, Nat.le_of_ble_eq_true rfl⟩) hP hD hS [0] [] rfl rfl rfl (by decide) (fun u1 H locs hP hD hS => ?_)
  have hP : va_P D CL [(mo, .inr (11, mC 1 bu pe ep sz nx fr so wr wa as ak ab ar g))] H := hP
  have hD : va_D A [(mo, .inr (11, mC 1 bu pe ep sz nx fr so wr wa as ak ab ar g))] := hD
  refine W.widen (k := 0) (n := 0) (Nat.le_of_ble_eq_true rfl) (Nat.le_of_ble_eq_true rfl) ?_
  refine W.eq (g2 := F0 m 5 ls [.int 1]) rfl ?_
  refine lv_if_eq (tgt := 12) hx hb dX12_vertexX_5 (by decide) (fun h => absurd h (by decide)) (fun _ => ?_)
  refine lv_iconst (v := 0) hx hb dX12_vertexX_8 (by decide) ?_
  refine lv_goto (tgt := 20) hx hb dX12_vertexX_9 (by decide) ?_
  exact r_iret C hP hD hS () rfl rfl (Nat.le_of_ble_eq_true rfl) (Nat.le_of_ble_eq_true rfl) dX12_vertexX_20
set_option maxHeartbeats 4000000 in
set_option maxRecDepth 100000 in
theorem m_vertexY (l : Launch) (D : va_G) (cI cZ cJ : ClassId) (mo : Nat) (bu : Int32) (pe : Int32) (ep : Int32) (sz : Int32) (nx : Int32) (fr : Int32) (so : Int32) (wr : Int32) (wa : Int32) (as : Nat) (ak : Nat) (ab : Nat) (ar : Nat) (g : Nat → Value) (th : Int32) (a0 : Int32)  : cM l yX12_vertexY cX12_vertexY 2 (some .int) D (TT cI cZ cJ) [.ref mo, .int a0] [(mo, .inr (11, mC th bu pe ep sz nx fr so wr wa as ak ab ar g))] (qI D (TT cI cZ cJ) (fun u : Unit => 0) (fun u : Unit => [(mo, .inr (11, mC 1 bu pe ep sz nx fr so wr wa as ak ab ar g))])) 3 0 0 := by
  refine enterM (by decide) (Nat.le_of_ble_eq_true rfl) ?_
  intro p e s m below meth c ls A C hP hD hS hl
  have hx := C.1
  have hb := C.2.1
  have hl : lv_has ls 2 [(0, .ref mo), (1, .int a0)] := hl
  refine lv_aload_n hx hb dX12_vertexY_0 rfl (lv_at hl 0 rfl) ?_
  refine lv_iload_n hx hb dX12_vertexY_1 rfl (lv_at hl 1 rfl) ?_
  refine call_i (wr := []) C (run_V (As := [.int a0]) (rest := []) C (m_noVertex l D cI cZ cJ mo bu pe ep sz nx fr so wr wa as ak ab ar g th a0 ) cV_X12_251 hP hD hS [0] rfl rfl 0 rfl rfl rfl rfl hl.1 rfl (Nat.le_of_ble_eq_true rfl) dX12_vertexY_2 ⟨Nat.le_of_ble_eq_true rfl, Nat.le_of_ble_eq_true rfl⟩ ⟨Nat.le_of_ble_eq_true rfl, Nat.le_of_ble_eq_true rfl⟩) hP hD hS [0] [] rfl rfl rfl (by decide) (fun u1 H locs hP hD hS => ?_)
  have hP : va_P D CL [(mo, .inr (11, mC 1 bu pe ep sz nx fr so wr wa as ak ab ar g))] H := hP
  have hD : va_D A [(mo, .inr (11, mC 1 bu pe ep sz nx fr so wr wa as ak ab ar g))] := hD
  refine W.widen (k := 0) (n := 0) (Nat.le_of_ble_eq_true rfl) (Nat.le_of_ble_eq_true rfl) ?_
  refine W.eq (g2 := F0 m 5 ls [.int 1]) rfl ?_
  refine lv_if_eq (tgt := 12) hx hb dX12_vertexY_5 (by decide) (fun h => absurd h (by decide)) (fun _ => ?_)
  refine lv_iconst (v := 0) hx hb dX12_vertexY_8 (by decide) ?_
  refine lv_goto (tgt := 21) hx hb dX12_vertexY_9 (by decide) ?_
  exact r_iret C hP hD hS () rfl rfl (Nat.le_of_ble_eq_true rfl) (Nat.le_of_ble_eq_true rfl) dX12_vertexY_21
set_option maxHeartbeats 4000000 in
set_option maxRecDepth 100000 in
theorem m_doubleArea (l : Launch) (D : va_G) (cI cZ cJ : ClassId) (mo : Nat) (bu : Int32) (pe : Int32) (ep : Int32) (sz : Int32) (nx : Int32) (fr : Int32) (so : Int32) (wr : Int32) (wa : Int32) (as : Nat) (ak : Nat) (ab : Nat) (ar : Nat) (g : Nat → Value) (th : Int32)  : cM l yX12_doubleArea cX12_doubleArea 1 (some .int) D (TT cI cZ cJ) [.ref mo] [(mo, .inr (11, mC th bu pe ep sz nx fr so wr wa as ak ab ar g))] (qI D (TT cI cZ cJ) (fun u : Unit => 0) (fun u : Unit => [(mo, .inr (11, mC 1 bu pe ep sz nx fr so wr wa as ak ab ar g))])) 3 0 0 := by
  refine enterM (by decide) (Nat.le_of_ble_eq_true rfl) ?_
  intro p e s m below meth c ls A C hP hD hS hl
  have hx := C.1
  have hb := C.2.1
  have hl : lv_has ls 1 [(0, .ref mo)] := hl
  refine lv_aload_n hx hb dX12_doubleArea_0 rfl (lv_at hl 0 rfl) ?_
  refine call_i (wr := []) C (run_V (As := []) (rest := []) C (m_noPolygon l D cI cZ cJ mo bu pe ep sz nx fr so wr wa as ak ab ar g th ) cV_X12_247 hP hD hS [0] rfl rfl 0 rfl rfl rfl rfl hl.1 rfl (Nat.le_of_ble_eq_true rfl) dX12_doubleArea_1 ⟨Nat.le_of_ble_eq_true rfl, Nat.le_of_ble_eq_true rfl⟩ ⟨Nat.le_of_ble_eq_true rfl, Nat.le_of_ble_eq_true rfl⟩) hP hD hS [0] [] rfl rfl rfl (by decide) (fun u1 H locs hP hD hS => ?_)
  have hP : va_P D CL [(mo, .inr (11, mC 1 bu pe ep sz nx fr so wr wa as ak ab ar g))] H := hP
  have hD : va_D A [(mo, .inr (11, mC 1 bu pe ep sz nx fr so wr wa as ak ab ar g))] := hD
  refine W.widen (k := 0) (n := 0) (Nat.le_of_ble_eq_true rfl) (Nat.le_of_ble_eq_true rfl) ?_
  refine W.eq (g2 := F0 m 4 ls [.int 1]) rfl ?_
  refine lv_if_eq (tgt := 9) hx hb dX12_doubleArea_4 (by decide) (fun h => absurd h (by decide)) (fun _ => ?_)
  refine lv_iconst (v := 0) hx hb dX12_doubleArea_7 (by decide) ?_
  exact r_iret C hP hD hS () rfl rfl (Nat.le_of_ble_eq_true rfl) (Nat.le_of_ble_eq_true rfl) dX12_doubleArea_8
set_option maxHeartbeats 4000000 in
set_option maxRecDepth 100000 in
theorem m_reflexVertices (l : Launch) (D : va_G) (cI cZ cJ : ClassId) (mo : Nat) (bu : Int32) (pe : Int32) (ep : Int32) (sz : Int32) (nx : Int32) (fr : Int32) (so : Int32) (wr : Int32) (wa : Int32) (as : Nat) (ak : Nat) (ab : Nat) (ar : Nat) (g : Nat → Value) (th : Int32)  : cM l yX12_reflexVertices cX12_reflexVertices 4 (some .int) D (TT cI cZ cJ) [.ref mo] [(mo, .inr (11, mC th bu pe ep sz nx fr so wr wa as ak ab ar g))] (qI D (TT cI cZ cJ) (fun u : Unit => 0) (fun u : Unit => [(mo, .inr (11, mC 1 bu pe ep sz nx fr so wr wa as ak ab ar g))])) 3 0 0 := by
  refine enterM (by decide) (Nat.le_of_ble_eq_true rfl) ?_
  intro p e s m below meth c ls A C hP hD hS hl
  have hx := C.1
  have hb := C.2.1
  have hl : lv_has ls 4 [(0, .ref mo)] := hl
  refine lv_aload_n hx hb dX12_reflexVertices_0 rfl (lv_at hl 0 rfl) ?_
  refine call_i (wr := []) C (run_V (As := []) (rest := []) C (m_noPolygon l D cI cZ cJ mo bu pe ep sz nx fr so wr wa as ak ab ar g th ) cV_X12_247 hP hD hS [0] rfl rfl 0 rfl rfl rfl rfl hl.1 rfl (Nat.le_of_ble_eq_true rfl) dX12_reflexVertices_1 ⟨Nat.le_of_ble_eq_true rfl, Nat.le_of_ble_eq_true rfl⟩ ⟨Nat.le_of_ble_eq_true rfl, Nat.le_of_ble_eq_true rfl⟩) hP hD hS [0] [] rfl rfl rfl (by decide) (fun u1 H locs hP hD hS => ?_)
  have hP : va_P D CL [(mo, .inr (11, mC 1 bu pe ep sz nx fr so wr wa as ak ab ar g))] H := hP
  have hD : va_D A [(mo, .inr (11, mC 1 bu pe ep sz nx fr so wr wa as ak ab ar g))] := hD
  refine W.widen (k := 0) (n := 0) (Nat.le_of_ble_eq_true rfl) (Nat.le_of_ble_eq_true rfl) ?_
  refine W.eq (g2 := F0 m 4 ls [.int 1]) rfl ?_
  refine lv_if_eq (tgt := 9) hx hb dX12_reflexVertices_4 (by decide) (fun h => absurd h (by decide)) (fun _ => ?_)
  refine lv_iconst (v := 0) hx hb dX12_reflexVertices_7 (by decide) ?_
  exact r_iret C hP hD hS () rfl rfl (Nat.le_of_ble_eq_true rfl) (Nat.le_of_ble_eq_true rfl) dX12_reflexVertices_8
set_option maxHeartbeats 4000000 in
set_option maxRecDepth 100000 in
theorem m_pointX (l : Launch) (D : va_G) (cI cZ cJ : ClassId) (mo : Nat) (bu : Int32) (pe : Int32) (ep : Int32) (sz : Int32) (nx : Int32) (fr : Int32) (so : Int32) (wr : Int32) (wa : Int32) (as : Nat) (ak : Nat) (ab : Nat) (ar : Nat) (g : Nat → Value) (th : Int32) (a0 : Int32)  : cM l yX12_pointX cX12_pointX 2 (some .int) D (TT cI cZ cJ) [.ref mo, .int a0] [(mo, .inr (11, mC th bu pe ep sz nx fr so wr wa as ak ab ar g))] (qI D (TT cI cZ cJ) (fun u : Unit => 0) (fun u : Unit => [(mo, .inr (11, mC 1 bu pe ep sz nx fr so wr wa as ak ab ar g))])) 3 0 0 := by
  refine enterM (by decide) (Nat.le_of_ble_eq_true rfl) ?_
  intro p e s m below meth c ls A C hP hD hS hl
  have hx := C.1
  have hb := C.2.1
  have hl : lv_has ls 2 [(0, .ref mo), (1, .int a0)] := hl
  refine lv_aload_n hx hb dX12_pointX_0 rfl (lv_at hl 0 rfl) ?_
  refine lv_iload_n hx hb dX12_pointX_1 rfl (lv_at hl 1 rfl) ?_
  refine call_i (wr := []) C (run_V (As := [.int a0]) (rest := []) C (m_noPoint l D cI cZ cJ mo bu pe ep sz nx fr so wr wa as ak ab ar g th a0 ) cV_X12_254 hP hD hS [0] rfl rfl 0 rfl rfl rfl rfl hl.1 rfl (Nat.le_of_ble_eq_true rfl) dX12_pointX_2 ⟨Nat.le_of_ble_eq_true rfl, Nat.le_of_ble_eq_true rfl⟩ ⟨Nat.le_of_ble_eq_true rfl, Nat.le_of_ble_eq_true rfl⟩) hP hD hS [0] [] rfl rfl rfl (by decide) (fun u1 H locs hP hD hS => ?_)
  have hP : va_P D CL [(mo, .inr (11, mC 1 bu pe ep sz nx fr so wr wa as ak ab ar g))] H := hP
  have hD : va_D A [(mo, .inr (11, mC 1 bu pe ep sz nx fr so wr wa as ak ab ar g))] := hD
  refine W.widen (k := 0) (n := 0) (Nat.le_of_ble_eq_true rfl) (Nat.le_of_ble_eq_true rfl) ?_
  refine W.eq (g2 := F0 m 5 ls [.int 1]) rfl ?_
  refine lv_if_eq (tgt := 12) hx hb dX12_pointX_5 (by decide) (fun h => absurd h (by decide)) (fun _ => ?_)
  refine lv_iconst (v := 0) hx hb dX12_pointX_8 (by decide) ?_
  refine lv_goto (tgt := 18) hx hb dX12_pointX_9 (by decide) ?_
  exact r_iret C hP hD hS () rfl rfl (Nat.le_of_ble_eq_true rfl) (Nat.le_of_ble_eq_true rfl) dX12_pointX_18
set_option maxHeartbeats 4000000 in
set_option maxRecDepth 100000 in
theorem m_pointY (l : Launch) (D : va_G) (cI cZ cJ : ClassId) (mo : Nat) (bu : Int32) (pe : Int32) (ep : Int32) (sz : Int32) (nx : Int32) (fr : Int32) (so : Int32) (wr : Int32) (wa : Int32) (as : Nat) (ak : Nat) (ab : Nat) (ar : Nat) (g : Nat → Value) (th : Int32) (a0 : Int32)  : cM l yX12_pointY cX12_pointY 2 (some .int) D (TT cI cZ cJ) [.ref mo, .int a0] [(mo, .inr (11, mC th bu pe ep sz nx fr so wr wa as ak ab ar g))] (qI D (TT cI cZ cJ) (fun u : Unit => 0) (fun u : Unit => [(mo, .inr (11, mC 1 bu pe ep sz nx fr so wr wa as ak ab ar g))])) 3 0 0 := by
  refine enterM (by decide) (Nat.le_of_ble_eq_true rfl) ?_
  intro p e s m below meth c ls A C hP hD hS hl
  have hx := C.1
  have hb := C.2.1
  have hl : lv_has ls 2 [(0, .ref mo), (1, .int a0)] := hl
  refine lv_aload_n hx hb dX12_pointY_0 rfl (lv_at hl 0 rfl) ?_
  refine lv_iload_n hx hb dX12_pointY_1 rfl (lv_at hl 1 rfl) ?_
  refine call_i (wr := []) C (run_V (As := [.int a0]) (rest := []) C (m_noPoint l D cI cZ cJ mo bu pe ep sz nx fr so wr wa as ak ab ar g th a0 ) cV_X12_254 hP hD hS [0] rfl rfl 0 rfl rfl rfl rfl hl.1 rfl (Nat.le_of_ble_eq_true rfl) dX12_pointY_2 ⟨Nat.le_of_ble_eq_true rfl, Nat.le_of_ble_eq_true rfl⟩ ⟨Nat.le_of_ble_eq_true rfl, Nat.le_of_ble_eq_true rfl⟩) hP hD hS [0] [] rfl rfl rfl (by decide) (fun u1 H locs hP hD hS => ?_)
  have hP : va_P D CL [(mo, .inr (11, mC 1 bu pe ep sz nx fr so wr wa as ak ab ar g))] H := hP
  have hD : va_D A [(mo, .inr (11, mC 1 bu pe ep sz nx fr so wr wa as ak ab ar g))] := hD
  refine W.widen (k := 0) (n := 0) (Nat.le_of_ble_eq_true rfl) (Nat.le_of_ble_eq_true rfl) ?_
  refine W.eq (g2 := F0 m 5 ls [.int 1]) rfl ?_
  refine lv_if_eq (tgt := 12) hx hb dX12_pointY_5 (by decide) (fun h => absurd h (by decide)) (fun _ => ?_)
  refine lv_iconst (v := 0) hx hb dX12_pointY_8 (by decide) ?_
  refine lv_goto (tgt := 18) hx hb dX12_pointY_9 (by decide) ?_
  exact r_iret C hP hD hS () rfl rfl (Nat.le_of_ble_eq_true rfl) (Nat.le_of_ble_eq_true rfl) dX12_pointY_18
set_option maxHeartbeats 4000000 in
set_option maxRecDepth 100000 in
theorem m_pointAt (l : Launch) (D : va_G) (cI cZ cJ : ClassId) (mo : Nat) (bu : Int32) (pe : Int32) (ep : Int32) (sz : Int32) (nx : Int32) (fr : Int32) (so : Int32) (wr : Int32) (wa : Int32) (as : Nat) (ak : Nat) (ab : Nat) (ar : Nat) (g : Nat → Value) (th : Int32) (a0 : Int32) (a1 : Int32)  : cM l yX12_pointAt cX12_pointAt 3 (some .int) D (TT cI cZ cJ) [.ref mo, .int a0, .int a1] [(mo, .inr (11, mC th bu pe ep sz nx fr so wr wa as ak ab ar g))] (qI D (TT cI cZ cJ) (fun u : Unit => 0) (fun u : Unit => [(mo, .inr (11, mC 1 bu pe ep sz nx fr so wr wa as ak ab ar g))])) 3 0 0 := by
  refine enterM (by decide) (Nat.le_of_ble_eq_true rfl) ?_
  intro p e s m below meth c ls A C hP hD hS hl
  have hx := C.1
  have hb := C.2.1
  have hl : lv_has ls 3 [(0, .ref mo), (1, .int a0), (2, .int a1)] := hl
  refine lv_aload_n hx hb dX12_pointAt_0 rfl (lv_at hl 0 rfl) ?_
  refine call_i (wr := []) C (run_V (As := []) (rest := []) C (m_noPolygon l D cI cZ cJ mo bu pe ep sz nx fr so wr wa as ak ab ar g th ) cV_X12_247 hP hD hS [0] rfl rfl 0 rfl rfl rfl rfl hl.1 rfl (Nat.le_of_ble_eq_true rfl) dX12_pointAt_1 ⟨Nat.le_of_ble_eq_true rfl, Nat.le_of_ble_eq_true rfl⟩ ⟨Nat.le_of_ble_eq_true rfl, Nat.le_of_ble_eq_true rfl⟩) hP hD hS [0] [] rfl rfl rfl (by decide) (fun u1 H locs hP hD hS => ?_)
  have hP : va_P D CL [(mo, .inr (11, mC 1 bu pe ep sz nx fr so wr wa as ak ab ar g))] H := hP
  have hD : va_D A [(mo, .inr (11, mC 1 bu pe ep sz nx fr so wr wa as ak ab ar g))] := hD
  refine W.widen (k := 0) (n := 0) (Nat.le_of_ble_eq_true rfl) (Nat.le_of_ble_eq_true rfl) ?_
  refine W.eq (g2 := F0 m 4 ls [.int 1]) rfl ?_
  refine lv_if_eq (tgt := 11) hx hb dX12_pointAt_4 (by decide) (fun h => absurd h (by decide)) (fun _ => ?_)
  refine lv_iconst (v := 0) hx hb dX12_pointAt_7 (by decide) ?_
  refine lv_goto (tgt := 17) hx hb dX12_pointAt_8 (by decide) ?_
  exact r_iret C hP hD hS () rfl rfl (Nat.le_of_ble_eq_true rfl) (Nat.le_of_ble_eq_true rfl) dX12_pointAt_17
set_option maxHeartbeats 4000000 in
set_option maxRecDepth 100000 in
theorem m_boundary (l : Launch) (D : va_G) (cI cZ cJ : ClassId) (mo : Nat) (bu : Int32) (pe : Int32) (ep : Int32) (sz : Int32) (nx : Int32) (fr : Int32) (so : Int32) (wr : Int32) (wa : Int32) (as : Nat) (ak : Nat) (ab : Nat) (ar : Nat) (g : Nat → Value) (th : Int32)  : cM l yX12_boundary cX12_boundary 4 (some .long) D (TT cI cZ cJ) [.ref mo] [(mo, .inr (11, mC th bu pe ep sz nx fr so wr wa as ak ab ar g))] (qL D (TT cI cZ cJ) (fun u : Unit => 0) (fun u : Unit => [(mo, .inr (11, mC 1 bu pe ep sz nx fr so wr wa as ak ab ar g))])) 3 0 0 := by
  refine enterM (by decide) (Nat.le_of_ble_eq_true rfl) ?_
  intro p e s m below meth c ls A C hP hD hS hl
  have hx := C.1
  have hb := C.2.1
  have hl : lv_has ls 4 [(0, .ref mo)] := hl
  refine lv_aload_n hx hb dX12_boundary_0 rfl (lv_at hl 0 rfl) ?_
  refine call_i (wr := []) C (run_V (As := []) (rest := []) C (m_noPolygon l D cI cZ cJ mo bu pe ep sz nx fr so wr wa as ak ab ar g th ) cV_X12_247 hP hD hS [0] rfl rfl 0 rfl rfl rfl rfl hl.1 rfl (Nat.le_of_ble_eq_true rfl) dX12_boundary_1 ⟨Nat.le_of_ble_eq_true rfl, Nat.le_of_ble_eq_true rfl⟩ ⟨Nat.le_of_ble_eq_true rfl, Nat.le_of_ble_eq_true rfl⟩) hP hD hS [0] [] rfl rfl rfl (by decide) (fun u1 H locs hP hD hS => ?_)
  have hP : va_P D CL [(mo, .inr (11, mC 1 bu pe ep sz nx fr so wr wa as ak ab ar g))] H := hP
  have hD : va_D A [(mo, .inr (11, mC 1 bu pe ep sz nx fr so wr wa as ak ab ar g))] := hD
  refine W.widen (k := 0) (n := 0) (Nat.le_of_ble_eq_true rfl) (Nat.le_of_ble_eq_true rfl) ?_
  refine W.eq (g2 := F0 m 4 ls [.int 1]) rfl ?_
  refine lv_if_eq (tgt := 9) hx hb dX12_boundary_4 (by decide) (fun h => absurd h (by decide)) (fun _ => ?_)
  refine lv_lconst (v := 0) hx hb dX12_boundary_7 (by decide) ?_
  exact r_lret C hP hD hS () rfl rfl (Nat.le_of_ble_eq_true rfl) (Nat.le_of_ble_eq_true rfl) dX12_boundary_8
set_option maxHeartbeats 4000000 in
set_option maxRecDepth 100000 in
theorem m_sees (l : Launch) (D : va_G) (cI cZ cJ : ClassId) (mo : Nat) (bu : Int32) (pe : Int32) (ep : Int32) (sz : Int32) (nx : Int32) (fr : Int32) (so : Int32) (wr : Int32) (wa : Int32) (as : Nat) (ak : Nat) (ab : Nat) (ar : Nat) (g : Nat → Value) (th : Int32) (a0 : Int32) (a1 : Int32)  : cM l yX12_sees cX12_sees 3 (some .boolean) D (TT cI cZ cJ) [.ref mo, .int a0, .int a1] [(mo, .inr (11, mC th bu pe ep sz nx fr so wr wa as ak ab ar g))] (qI D (TT cI cZ cJ) (fun u : Unit => 0) (fun u : Unit => [(mo, .inr (11, mC 1 bu pe ep sz nx fr so wr wa as ak ab ar g))])) 3 0 0 := by
  refine enterM (by decide) (Nat.le_of_ble_eq_true rfl) ?_
  intro p e s m below meth c ls A C hP hD hS hl
  have hx := C.1
  have hb := C.2.1
  have hl : lv_has ls 3 [(0, .ref mo), (1, .int a0), (2, .int a1)] := hl
  refine lv_aload_n hx hb dX12_sees_0 rfl (lv_at hl 0 rfl) ?_
  refine lv_iload_n hx hb dX12_sees_1 rfl (lv_at hl 1 rfl) ?_
  refine call_i (wr := []) C (run_V (As := [.int a0]) (rest := []) C (m_noPoint l D cI cZ cJ mo bu pe ep sz nx fr so wr wa as ak ab ar g th a0 ) cV_X12_254 hP hD hS [0] rfl rfl 0 rfl rfl rfl rfl hl.1 rfl (Nat.le_of_ble_eq_true rfl) dX12_sees_2 ⟨Nat.le_of_ble_eq_true rfl, Nat.le_of_ble_eq_true rfl⟩ ⟨Nat.le_of_ble_eq_true rfl, Nat.le_of_ble_eq_true rfl⟩) hP hD hS [0] [] rfl rfl rfl (by decide) (fun u1 H locs hP hD hS => ?_)
  have hP : va_P D CL [(mo, .inr (11, mC 1 bu pe ep sz nx fr so wr wa as ak ab ar g))] H := hP
  have hD : va_D A [(mo, .inr (11, mC 1 bu pe ep sz nx fr so wr wa as ak ab ar g))] := hD
  refine W.widen (k := 0) (n := 0) (Nat.le_of_ble_eq_true rfl) (Nat.le_of_ble_eq_true rfl) ?_
  refine W.eq (g2 := F0 m 5 ls [.int 1]) rfl ?_
  refine lv_if_ne (tgt := 35) hx hb dX12_sees_5 (by decide) (fun _ => ?_) (fun h => absurd h (by decide))
  refine lv_iconst (v := 0) hx hb dX12_sees_35 (by decide) ?_
  exact r_zret C hP hD hS () rfl rfl rfl (Nat.le_of_ble_eq_true rfl) (Nat.le_of_ble_eq_true rfl) dX12_sees_36
set_option maxHeartbeats 4000000 in
set_option maxRecDepth 100000 in
theorem m_visible (l : Launch) (D : va_G) (cI cZ cJ : ClassId) (mo : Nat) (bu : Int32) (pe : Int32) (ep : Int32) (sz : Int32) (nx : Int32) (fr : Int32) (so : Int32) (wr : Int32) (wa : Int32) (as : Nat) (ak : Nat) (ab : Nat) (ar : Nat) (g : Nat → Value) (th : Int32) (a0 : Int32)  : cM l yX12_visible cX12_visible 2 (some .long) D (TT cI cZ cJ) [.ref mo, .int a0] [(mo, .inr (11, mC th bu pe ep sz nx fr so wr wa as ak ab ar g))] (qL D (TT cI cZ cJ) (fun u : Unit => 0) (fun u : Unit => [(mo, .inr (11, mC 1 bu pe ep sz nx fr so wr wa as ak ab ar g))])) 3 0 0 := by
  refine enterM (by decide) (Nat.le_of_ble_eq_true rfl) ?_
  intro p e s m below meth c ls A C hP hD hS hl
  have hx := C.1
  have hb := C.2.1
  have hl : lv_has ls 2 [(0, .ref mo), (1, .int a0)] := hl
  refine lv_aload_n hx hb dX12_visible_0 rfl (lv_at hl 0 rfl) ?_
  refine lv_iload_n hx hb dX12_visible_1 rfl (lv_at hl 1 rfl) ?_
  refine call_i (wr := []) C (run_V (As := [.int a0]) (rest := []) C (m_noPoint l D cI cZ cJ mo bu pe ep sz nx fr so wr wa as ak ab ar g th a0 ) cV_X12_254 hP hD hS [0] rfl rfl 0 rfl rfl rfl rfl hl.1 rfl (Nat.le_of_ble_eq_true rfl) dX12_visible_2 ⟨Nat.le_of_ble_eq_true rfl, Nat.le_of_ble_eq_true rfl⟩ ⟨Nat.le_of_ble_eq_true rfl, Nat.le_of_ble_eq_true rfl⟩) hP hD hS [0] [] rfl rfl rfl (by decide) (fun u1 H locs hP hD hS => ?_)
  have hP : va_P D CL [(mo, .inr (11, mC 1 bu pe ep sz nx fr so wr wa as ak ab ar g))] H := hP
  have hD : va_D A [(mo, .inr (11, mC 1 bu pe ep sz nx fr so wr wa as ak ab ar g))] := hD
  refine W.widen (k := 0) (n := 0) (Nat.le_of_ble_eq_true rfl) (Nat.le_of_ble_eq_true rfl) ?_
  refine W.eq (g2 := F0 m 5 ls [.int 1]) rfl ?_
  refine lv_if_eq (tgt := 10) hx hb dX12_visible_5 (by decide) (fun h => absurd h (by decide)) (fun _ => ?_)
  refine lv_lconst (v := 0) hx hb dX12_visible_8 (by decide) ?_
  exact r_lret C hP hD hS () rfl rfl (Nat.le_of_ble_eq_true rfl) (Nat.le_of_ble_eq_true rfl) dX12_visible_9
set_option maxHeartbeats 4000000 in
set_option maxRecDepth 100000 in
theorem m_kernel (l : Launch) (D : va_G) (cI cZ cJ : ClassId) (mo : Nat) (bu : Int32) (pe : Int32) (ep : Int32) (sz : Int32) (nx : Int32) (fr : Int32) (so : Int32) (wr : Int32) (wa : Int32) (as : Nat) (ak : Nat) (ab : Nat) (ar : Nat) (g : Nat → Value) (th : Int32)  : cM l yX12_kernel cX12_kernel 4 (some .long) D (TT cI cZ cJ) [.ref mo] [(mo, .inr (11, mC th bu pe ep sz nx fr so wr wa as ak ab ar g))] (qL D (TT cI cZ cJ) (fun u : Unit => 0) (fun u : Unit => [(mo, .inr (11, mC 1 bu pe ep sz nx fr so wr wa as ak ab ar g))])) 3 0 0 := by
  refine enterM (by decide) (Nat.le_of_ble_eq_true rfl) ?_
  intro p e s m below meth c ls A C hP hD hS hl
  have hx := C.1
  have hb := C.2.1
  have hl : lv_has ls 4 [(0, .ref mo)] := hl
  refine lv_aload_n hx hb dX12_kernel_0 rfl (lv_at hl 0 rfl) ?_
  refine call_i (wr := []) C (run_V (As := []) (rest := []) C (m_noPolygon l D cI cZ cJ mo bu pe ep sz nx fr so wr wa as ak ab ar g th ) cV_X12_247 hP hD hS [0] rfl rfl 0 rfl rfl rfl rfl hl.1 rfl (Nat.le_of_ble_eq_true rfl) dX12_kernel_1 ⟨Nat.le_of_ble_eq_true rfl, Nat.le_of_ble_eq_true rfl⟩ ⟨Nat.le_of_ble_eq_true rfl, Nat.le_of_ble_eq_true rfl⟩) hP hD hS [0] [] rfl rfl rfl (by decide) (fun u1 H locs hP hD hS => ?_)
  have hP : va_P D CL [(mo, .inr (11, mC 1 bu pe ep sz nx fr so wr wa as ak ab ar g))] H := hP
  have hD : va_D A [(mo, .inr (11, mC 1 bu pe ep sz nx fr so wr wa as ak ab ar g))] := hD
  refine W.widen (k := 0) (n := 0) (Nat.le_of_ble_eq_true rfl) (Nat.le_of_ble_eq_true rfl) ?_
  refine W.eq (g2 := F0 m 4 ls [.int 1]) rfl ?_
  refine lv_if_eq (tgt := 9) hx hb dX12_kernel_4 (by decide) (fun h => absurd h (by decide)) (fun _ => ?_)
  refine lv_lconst (v := 0) hx hb dX12_kernel_7 (by decide) ?_
  exact r_lret C hP hD hS () rfl rfl (Nat.le_of_ble_eq_true rfl) (Nat.le_of_ble_eq_true rfl) dX12_kernel_8
set_option maxHeartbeats 4000000 in
set_option maxRecDepth 100000 in
theorem m_linkDistance (l : Launch) (D : va_G) (cI cZ cJ : ClassId) (mo : Nat) (bu : Int32) (pe : Int32) (ep : Int32) (sz : Int32) (nx : Int32) (fr : Int32) (so : Int32) (wr : Int32) (wa : Int32) (as : Nat) (ak : Nat) (ab : Nat) (ar : Nat) (g : Nat → Value) (th : Int32) (a0 : Int32) (a1 : Int32)  : cM l yX12_linkDistance cX12_linkDistance 4 (some .int) D (TT cI cZ cJ) [.ref mo, .int a0, .int a1] [(mo, .inr (11, mC th bu pe ep sz nx fr so wr wa as ak ab ar g))] (qI D (TT cI cZ cJ) (fun u : Unit => 0) (fun u : Unit => [(mo, .inr (11, mC 1 bu pe ep sz nx fr so wr wa as ak ab ar g))])) 3 0 0 := by
  refine enterM (by decide) (Nat.le_of_ble_eq_true rfl) ?_
  intro p e s m below meth c ls A C hP hD hS hl
  have hx := C.1
  have hb := C.2.1
  have hl : lv_has ls 4 [(0, .ref mo), (1, .int a0), (2, .int a1)] := hl
  refine lv_aload_n hx hb dX12_linkDistance_0 rfl (lv_at hl 0 rfl) ?_
  refine lv_iload_n hx hb dX12_linkDistance_1 rfl (lv_at hl 1 rfl) ?_
  refine call_i (wr := []) C (run_V (As := [.int a0]) (rest := []) C (m_noPoint l D cI cZ cJ mo bu pe ep sz nx fr so wr wa as ak ab ar g th a0 ) cV_X12_254 hP hD hS [0] rfl rfl 0 rfl rfl rfl rfl hl.1 rfl (Nat.le_of_ble_eq_true rfl) dX12_linkDistance_2 ⟨Nat.le_of_ble_eq_true rfl, Nat.le_of_ble_eq_true rfl⟩ ⟨Nat.le_of_ble_eq_true rfl, Nat.le_of_ble_eq_true rfl⟩) hP hD hS [0] [] rfl rfl rfl (by decide) (fun u1 H locs hP hD hS => ?_)
  have hP : va_P D CL [(mo, .inr (11, mC 1 bu pe ep sz nx fr so wr wa as ak ab ar g))] H := hP
  have hD : va_D A [(mo, .inr (11, mC 1 bu pe ep sz nx fr so wr wa as ak ab ar g))] := hD
  refine W.widen (k := 0) (n := 0) (Nat.le_of_ble_eq_true rfl) (Nat.le_of_ble_eq_true rfl) ?_
  refine W.eq (g2 := F0 m 5 ls [.int 1]) rfl ?_
  refine lv_if_ne (tgt := 35) hx hb dX12_linkDistance_5 (by decide) (fun _ => ?_) (fun h => absurd h (by decide))
  refine lv_iconst (v := 0) hx hb dX12_linkDistance_35 (by decide) ?_
  exact r_iret C hP hD hS () rfl rfl (Nat.le_of_ble_eq_true rfl) (Nat.le_of_ble_eq_true rfl) dX12_linkDistance_36
set_option maxHeartbeats 4000000 in
set_option maxRecDepth 100000 in
theorem m_diameter (l : Launch) (D : va_G) (cI cZ cJ : ClassId) (mo : Nat) (bu : Int32) (pe : Int32) (ep : Int32) (sz : Int32) (nx : Int32) (fr : Int32) (so : Int32) (wr : Int32) (wa : Int32) (as : Nat) (ak : Nat) (ab : Nat) (ar : Nat) (g : Nat → Value) (th : Int32)  : cM l yX12_diameter cX12_diameter 4 (some .int) D (TT cI cZ cJ) [.ref mo] [(mo, .inr (11, mC th bu pe ep sz nx fr so wr wa as ak ab ar g))] (qI D (TT cI cZ cJ) (fun u : Unit => 0) (fun u : Unit => [(mo, .inr (11, mC 1 bu pe ep sz nx fr so wr wa as ak ab ar g))])) 3 0 0 := by
  refine enterM (by decide) (Nat.le_of_ble_eq_true rfl) ?_
  intro p e s m below meth c ls A C hP hD hS hl
  have hx := C.1
  have hb := C.2.1
  have hl : lv_has ls 4 [(0, .ref mo)] := hl
  refine lv_aload_n hx hb dX12_diameter_0 rfl (lv_at hl 0 rfl) ?_
  refine call_i (wr := []) C (run_V (As := []) (rest := []) C (m_noPolygon l D cI cZ cJ mo bu pe ep sz nx fr so wr wa as ak ab ar g th ) cV_X12_247 hP hD hS [0] rfl rfl 0 rfl rfl rfl rfl hl.1 rfl (Nat.le_of_ble_eq_true rfl) dX12_diameter_1 ⟨Nat.le_of_ble_eq_true rfl, Nat.le_of_ble_eq_true rfl⟩ ⟨Nat.le_of_ble_eq_true rfl, Nat.le_of_ble_eq_true rfl⟩) hP hD hS [0] [] rfl rfl rfl (by decide) (fun u1 H locs hP hD hS => ?_)
  have hP : va_P D CL [(mo, .inr (11, mC 1 bu pe ep sz nx fr so wr wa as ak ab ar g))] H := hP
  have hD : va_D A [(mo, .inr (11, mC 1 bu pe ep sz nx fr so wr wa as ak ab ar g))] := hD
  refine W.widen (k := 0) (n := 0) (Nat.le_of_ble_eq_true rfl) (Nat.le_of_ble_eq_true rfl) ?_
  refine W.eq (g2 := F0 m 4 ls [.int 1]) rfl ?_
  refine lv_if_eq (tgt := 9) hx hb dX12_diameter_4 (by decide) (fun h => absurd h (by decide)) (fun _ => ?_)
  refine lv_iconst (v := 0) hx hb dX12_diameter_7 (by decide) ?_
  exact r_iret C hP hD hS () rfl rfl (Nat.le_of_ble_eq_true rfl) (Nat.le_of_ble_eq_true rfl) dX12_diameter_8
set_option maxHeartbeats 4000000 in
set_option maxRecDepth 100000 in
theorem m_farthest (l : Launch) (D : va_G) (cI cZ cJ : ClassId) (mo : Nat) (bu : Int32) (pe : Int32) (ep : Int32) (sz : Int32) (nx : Int32) (fr : Int32) (so : Int32) (wr : Int32) (wa : Int32) (as : Nat) (ak : Nat) (ab : Nat) (ar : Nat) (g : Nat → Value) (th : Int32) (a0 : Int32)  : cM l yX12_farthest cX12_farthest 4 (some .int) D (TT cI cZ cJ) [.ref mo, .int a0] [(mo, .inr (11, mC th bu pe ep sz nx fr so wr wa as ak ab ar g))] (qI D (TT cI cZ cJ) (fun u : Unit => 0) (fun u : Unit => [(mo, .inr (11, mC 1 bu pe ep sz nx fr so wr wa as ak ab ar g))])) 3 0 0 := by
  refine enterM (by decide) (Nat.le_of_ble_eq_true rfl) ?_
  intro p e s m below meth c ls A C hP hD hS hl
  have hx := C.1
  have hb := C.2.1
  have hl : lv_has ls 4 [(0, .ref mo), (1, .int a0)] := hl
  refine lv_aload_n hx hb dX12_farthest_0 rfl (lv_at hl 0 rfl) ?_
  refine lv_iload_n hx hb dX12_farthest_1 rfl (lv_at hl 1 rfl) ?_
  refine call_i (wr := []) C (run_V (As := [.int a0]) (rest := []) C (m_noPoint l D cI cZ cJ mo bu pe ep sz nx fr so wr wa as ak ab ar g th a0 ) cV_X12_254 hP hD hS [0] rfl rfl 0 rfl rfl rfl rfl hl.1 rfl (Nat.le_of_ble_eq_true rfl) dX12_farthest_2 ⟨Nat.le_of_ble_eq_true rfl, Nat.le_of_ble_eq_true rfl⟩ ⟨Nat.le_of_ble_eq_true rfl, Nat.le_of_ble_eq_true rfl⟩) hP hD hS [0] [] rfl rfl rfl (by decide) (fun u1 H locs hP hD hS => ?_)
  have hP : va_P D CL [(mo, .inr (11, mC 1 bu pe ep sz nx fr so wr wa as ak ab ar g))] H := hP
  have hD : va_D A [(mo, .inr (11, mC 1 bu pe ep sz nx fr so wr wa as ak ab ar g))] := hD
  refine W.widen (k := 0) (n := 0) (Nat.le_of_ble_eq_true rfl) (Nat.le_of_ble_eq_true rfl) ?_
  refine W.eq (g2 := F0 m 5 ls [.int 1]) rfl ?_
  refine lv_if_eq (tgt := 10) hx hb dX12_farthest_5 (by decide) (fun h => absurd h (by decide)) (fun _ => ?_)
  refine lv_iconst (v := 0) hx hb dX12_farthest_8 (by decide) ?_
  exact r_iret C hP hD hS () rfl rfl (Nat.le_of_ble_eq_true rfl) (Nat.le_of_ble_eq_true rfl) dX12_farthest_9
set_option maxHeartbeats 4000000 in
set_option maxRecDepth 100000 in
theorem m_seenFromEdge (l : Launch) (D : va_G) (cI cZ cJ : ClassId) (mo : Nat) (bu : Int32) (pe : Int32) (ep : Int32) (sz : Int32) (nx : Int32) (fr : Int32) (so : Int32) (wr : Int32) (wa : Int32) (as : Nat) (ak : Nat) (ab : Nat) (ar : Nat) (g : Nat → Value) (th : Int32) (a0 : Int32)  : cM l yX12_seenFromEdge cX12_seenFromEdge 2 (some .long) D (TT cI cZ cJ) [.ref mo, .int a0] [(mo, .inr (11, mC th bu pe ep sz nx fr so wr wa as ak ab ar g))] (qL D (TT cI cZ cJ) (fun u : Unit => 0) (fun u : Unit => [(mo, .inr (11, mC 1 bu pe ep sz nx fr so wr wa as ak ab ar g))])) 3 0 0 := by
  refine enterM (by decide) (Nat.le_of_ble_eq_true rfl) ?_
  intro p e s m below meth c ls A C hP hD hS hl
  have hx := C.1
  have hb := C.2.1
  have hl : lv_has ls 2 [(0, .ref mo), (1, .int a0)] := hl
  refine lv_aload_n hx hb dX12_seenFromEdge_0 rfl (lv_at hl 0 rfl) ?_
  refine lv_iload_n hx hb dX12_seenFromEdge_1 rfl (lv_at hl 1 rfl) ?_
  refine call_i (wr := []) C (run_V (As := [.int a0]) (rest := []) C (m_noVertex l D cI cZ cJ mo bu pe ep sz nx fr so wr wa as ak ab ar g th a0 ) cV_X12_251 hP hD hS [0] rfl rfl 0 rfl rfl rfl rfl hl.1 rfl (Nat.le_of_ble_eq_true rfl) dX12_seenFromEdge_2 ⟨Nat.le_of_ble_eq_true rfl, Nat.le_of_ble_eq_true rfl⟩ ⟨Nat.le_of_ble_eq_true rfl, Nat.le_of_ble_eq_true rfl⟩) hP hD hS [0] [] rfl rfl rfl (by decide) (fun u1 H locs hP hD hS => ?_)
  have hP : va_P D CL [(mo, .inr (11, mC 1 bu pe ep sz nx fr so wr wa as ak ab ar g))] H := hP
  have hD : va_D A [(mo, .inr (11, mC 1 bu pe ep sz nx fr so wr wa as ak ab ar g))] := hD
  refine W.widen (k := 0) (n := 0) (Nat.le_of_ble_eq_true rfl) (Nat.le_of_ble_eq_true rfl) ?_
  refine W.eq (g2 := F0 m 5 ls [.int 1]) rfl ?_
  refine lv_if_eq (tgt := 10) hx hb dX12_seenFromEdge_5 (by decide) (fun h => absurd h (by decide)) (fun _ => ?_)
  refine lv_lconst (v := 0) hx hb dX12_seenFromEdge_8 (by decide) ?_
  exact r_lret C hP hD hS () rfl rfl (Nat.le_of_ble_eq_true rfl) (Nat.le_of_ble_eq_true rfl) dX12_seenFromEdge_9
set_option maxHeartbeats 4000000 in
set_option maxRecDepth 100000 in
theorem m_triangleVertex (l : Launch) (D : va_G) (cI cZ cJ : ClassId) (mo : Nat) (bu : Int32) (pe : Int32) (ep : Int32) (sz : Int32) (nx : Int32) (fr : Int32) (so : Int32) (wr : Int32) (wa : Int32) (as : Nat) (ak : Nat) (ab : Nat) (ar : Nat) (g : Nat → Value) (th : Int32) (a0 : Int32) (a1 : Int32)  : cM l yX12_triangleVertex cX12_triangleVertex 3 (some .int) D (TT cI cZ cJ) [.ref mo, .int a0, .int a1] [(mo, .inr (11, mC th bu pe ep sz nx fr so wr wa as ak ab ar g))] (qI D (TT cI cZ cJ) (fun u : Unit => 0) (fun u : Unit => [(mo, .inr (11, mC 1 bu pe ep sz nx fr so wr wa as ak ab ar g))])) 3 0 0 := by
  refine enterM (by decide) (Nat.le_of_ble_eq_true rfl) ?_
  intro p e s m below meth c ls A C hP hD hS hl
  have hx := C.1
  have hb := C.2.1
  have hl : lv_has ls 3 [(0, .ref mo), (1, .int a0), (2, .int a1)] := hl
  refine lv_aload_n hx hb dX12_triangleVertex_0 rfl (lv_at hl 0 rfl) ?_
  refine lv_iload_n hx hb dX12_triangleVertex_1 rfl (lv_at hl 1 rfl) ?_
  refine call_i (wr := []) C (run_V (As := [.int a0]) (rest := []) C (m_noTriangle l D cI cZ cJ mo bu pe ep sz nx fr so wr wa as ak ab ar g th a0 ) cV_X12_301 hP hD hS [0] rfl rfl 0 rfl rfl rfl rfl hl.1 rfl (Nat.le_of_ble_eq_true rfl) dX12_triangleVertex_2 ⟨Nat.le_of_ble_eq_true rfl, Nat.le_of_ble_eq_true rfl⟩ ⟨Nat.le_of_ble_eq_true rfl, Nat.le_of_ble_eq_true rfl⟩) hP hD hS [0] [] rfl rfl rfl (by decide) (fun u1 H locs hP hD hS => ?_)
  have hP : va_P D CL [(mo, .inr (11, mC 1 bu pe ep sz nx fr so wr wa as ak ab ar g))] H := hP
  have hD : va_D A [(mo, .inr (11, mC 1 bu pe ep sz nx fr so wr wa as ak ab ar g))] := hD
  refine W.widen (k := 0) (n := 0) (Nat.le_of_ble_eq_true rfl) (Nat.le_of_ble_eq_true rfl) ?_
  refine W.eq (g2 := F0 m 5 ls [.int 1]) rfl ?_
  refine lv_if_ne (tgt := 30) hx hb dX12_triangleVertex_5 (by decide) (fun _ => ?_) (fun h => absurd h (by decide))
  refine lv_iconst (v := 0) hx hb dX12_triangleVertex_30 (by decide) ?_
  exact r_iret C hP hD hS () rfl rfl (Nat.le_of_ble_eq_true rfl) (Nat.le_of_ble_eq_true rfl) dX12_triangleVertex_31
set_option maxHeartbeats 4000000 in
set_option maxRecDepth 100000 in
theorem m_triangleArea (l : Launch) (D : va_G) (cI cZ cJ : ClassId) (mo : Nat) (bu : Int32) (pe : Int32) (ep : Int32) (sz : Int32) (nx : Int32) (fr : Int32) (so : Int32) (wr : Int32) (wa : Int32) (as : Nat) (ak : Nat) (ab : Nat) (ar : Nat) (g : Nat → Value) (th : Int32) (a0 : Int32)  : cM l yX12_triangleArea cX12_triangleArea 6 (some .int) D (TT cI cZ cJ) [.ref mo, .int a0] [(mo, .inr (11, mC th bu pe ep sz nx fr so wr wa as ak ab ar g))] (qI D (TT cI cZ cJ) (fun u : Unit => 0) (fun u : Unit => [(mo, .inr (11, mC 1 bu pe ep sz nx fr so wr wa as ak ab ar g))])) 3 0 0 := by
  refine enterM (by decide) (Nat.le_of_ble_eq_true rfl) ?_
  intro p e s m below meth c ls A C hP hD hS hl
  have hx := C.1
  have hb := C.2.1
  have hl : lv_has ls 6 [(0, .ref mo), (1, .int a0)] := hl
  refine lv_aload_n hx hb dX12_triangleArea_0 rfl (lv_at hl 0 rfl) ?_
  refine lv_iload_n hx hb dX12_triangleArea_1 rfl (lv_at hl 1 rfl) ?_
  refine call_i (wr := []) C (run_V (As := [.int a0]) (rest := []) C (m_noTriangle l D cI cZ cJ mo bu pe ep sz nx fr so wr wa as ak ab ar g th a0 ) cV_X12_301 hP hD hS [0] rfl rfl 0 rfl rfl rfl rfl hl.1 rfl (Nat.le_of_ble_eq_true rfl) dX12_triangleArea_2 ⟨Nat.le_of_ble_eq_true rfl, Nat.le_of_ble_eq_true rfl⟩ ⟨Nat.le_of_ble_eq_true rfl, Nat.le_of_ble_eq_true rfl⟩) hP hD hS [0] [] rfl rfl rfl (by decide) (fun u1 H locs hP hD hS => ?_)
  have hP : va_P D CL [(mo, .inr (11, mC 1 bu pe ep sz nx fr so wr wa as ak ab ar g))] H := hP
  have hD : va_D A [(mo, .inr (11, mC 1 bu pe ep sz nx fr so wr wa as ak ab ar g))] := hD
  refine W.widen (k := 0) (n := 0) (Nat.le_of_ble_eq_true rfl) (Nat.le_of_ble_eq_true rfl) ?_
  refine W.eq (g2 := F0 m 5 ls [.int 1]) rfl ?_
  refine lv_if_eq (tgt := 10) hx hb dX12_triangleArea_5 (by decide) (fun h => absurd h (by decide)) (fun _ => ?_)
  refine lv_iconst (v := 0) hx hb dX12_triangleArea_8 (by decide) ?_
  exact r_iret C hP hD hS () rfl rfl (Nat.le_of_ble_eq_true rfl) (Nat.le_of_ble_eq_true rfl) dX12_triangleArea_9
set_option maxHeartbeats 4000000 in
set_option maxRecDepth 100000 in
theorem m_colour (l : Launch) (D : va_G) (cI cZ cJ : ClassId) (mo : Nat) (bu : Int32) (pe : Int32) (ep : Int32) (sz : Int32) (nx : Int32) (fr : Int32) (so : Int32) (wr : Int32) (wa : Int32) (as : Nat) (ak : Nat) (ab : Nat) (ar : Nat) (g : Nat → Value) (th : Int32) (a0 : Int32)  : cM l yX12_colour cX12_colour 2 (some .int) D (TT cI cZ cJ) [.ref mo, .int a0] [(mo, .inr (11, mC th bu pe ep sz nx fr so wr wa as ak ab ar g))] (qI D (TT cI cZ cJ) (fun u : Unit => 0) (fun u : Unit => [(mo, .inr (11, mC 1 bu pe ep sz nx fr so wr wa as ak ab ar g))])) 3 0 0 := by
  refine enterM (by decide) (Nat.le_of_ble_eq_true rfl) ?_
  intro p e s m below meth c ls A C hP hD hS hl
  have hx := C.1
  have hb := C.2.1
  have hl : lv_has ls 2 [(0, .ref mo), (1, .int a0)] := hl
  refine lv_aload_n hx hb dX12_colour_0 rfl (lv_at hl 0 rfl) ?_
  refine lv_iload_n hx hb dX12_colour_1 rfl (lv_at hl 1 rfl) ?_
  refine call_i (wr := []) C (run_V (As := [.int a0]) (rest := []) C (m_noVertex l D cI cZ cJ mo bu pe ep sz nx fr so wr wa as ak ab ar g th a0 ) cV_X12_251 hP hD hS [0] rfl rfl 0 rfl rfl rfl rfl hl.1 rfl (Nat.le_of_ble_eq_true rfl) dX12_colour_2 ⟨Nat.le_of_ble_eq_true rfl, Nat.le_of_ble_eq_true rfl⟩ ⟨Nat.le_of_ble_eq_true rfl, Nat.le_of_ble_eq_true rfl⟩) hP hD hS [0] [] rfl rfl rfl (by decide) (fun u1 H locs hP hD hS => ?_)
  have hP : va_P D CL [(mo, .inr (11, mC 1 bu pe ep sz nx fr so wr wa as ak ab ar g))] H := hP
  have hD : va_D A [(mo, .inr (11, mC 1 bu pe ep sz nx fr so wr wa as ak ab ar g))] := hD
  refine W.widen (k := 0) (n := 0) (Nat.le_of_ble_eq_true rfl) (Nat.le_of_ble_eq_true rfl) ?_
  refine W.eq (g2 := F0 m 5 ls [.int 1]) rfl ?_
  refine lv_if_eq (tgt := 10) hx hb dX12_colour_5 (by decide) (fun h => absurd h (by decide)) (fun _ => ?_)
  refine lv_iconst (v := 0) hx hb dX12_colour_8 (by decide) ?_
  exact r_iret C hP hD hS () rfl rfl (Nat.le_of_ble_eq_true rfl) (Nat.le_of_ble_eq_true rfl) dX12_colour_9
set_option maxHeartbeats 4000000 in
set_option maxRecDepth 100000 in
theorem m_colourGuards (l : Launch) (D : va_G) (cI cZ cJ : ClassId) (mo : Nat) (bu : Int32) (pe : Int32) (ep : Int32) (sz : Int32) (nx : Int32) (fr : Int32) (so : Int32) (wr : Int32) (wa : Int32) (as : Nat) (ak : Nat) (ab : Nat) (ar : Nat) (g : Nat → Value) (th : Int32)  : cM l yX12_colourGuards cX12_colourGuards 3 (some .int) D (TT cI cZ cJ) [.ref mo] [(mo, .inr (11, mC th bu pe ep sz nx fr so wr wa as ak ab ar g))] (qI D (TT cI cZ cJ) (fun u : Unit => 0) (fun u : Unit => [(mo, .inr (11, mC 1 bu pe ep sz nx fr so wr wa as ak ab ar g))])) 3 0 0 := by
  refine enterM (by decide) (Nat.le_of_ble_eq_true rfl) ?_
  intro p e s m below meth c ls A C hP hD hS hl
  have hx := C.1
  have hb := C.2.1
  have hl : lv_has ls 3 [(0, .ref mo)] := hl
  refine lv_aload_n hx hb dX12_colourGuards_0 rfl (lv_at hl 0 rfl) ?_
  refine call_i (wr := []) C (run_V (As := []) (rest := []) C (m_noPolygon l D cI cZ cJ mo bu pe ep sz nx fr so wr wa as ak ab ar g th ) cV_X12_247 hP hD hS [0] rfl rfl 0 rfl rfl rfl rfl hl.1 rfl (Nat.le_of_ble_eq_true rfl) dX12_colourGuards_1 ⟨Nat.le_of_ble_eq_true rfl, Nat.le_of_ble_eq_true rfl⟩ ⟨Nat.le_of_ble_eq_true rfl, Nat.le_of_ble_eq_true rfl⟩) hP hD hS [0] [] rfl rfl rfl (by decide) (fun u1 H locs hP hD hS => ?_)
  have hP : va_P D CL [(mo, .inr (11, mC 1 bu pe ep sz nx fr so wr wa as ak ab ar g))] H := hP
  have hD : va_D A [(mo, .inr (11, mC 1 bu pe ep sz nx fr so wr wa as ak ab ar g))] := hD
  refine W.widen (k := 0) (n := 0) (Nat.le_of_ble_eq_true rfl) (Nat.le_of_ble_eq_true rfl) ?_
  refine W.eq (g2 := F0 m 4 ls [.int 1]) rfl ?_
  refine lv_if_eq (tgt := 9) hx hb dX12_colourGuards_4 (by decide) (fun h => absurd h (by decide)) (fun _ => ?_)
  refine lv_iconst (v := 0) hx hb dX12_colourGuards_7 (by decide) ?_
  exact r_iret C hP hD hS () rfl rfl (Nat.le_of_ble_eq_true rfl) (Nat.le_of_ble_eq_true rfl) dX12_colourGuards_8
set_option maxHeartbeats 4000000 in
set_option maxRecDepth 100000 in
theorem m_vertexGuards (l : Launch) (D : va_G) (cI cZ cJ : ClassId) (mo : Nat) (bu : Int32) (pe : Int32) (ep : Int32) (sz : Int32) (nx : Int32) (fr : Int32) (so : Int32) (wr : Int32) (wa : Int32) (as : Nat) (ak : Nat) (ab : Nat) (ar : Nat) (g : Nat → Value) (th : Int32)  : cM l yX12_vertexGuards cX12_vertexGuards 1 (some .int) D (TT cI cZ cJ) [.ref mo] [(mo, .inr (11, mC th bu pe ep sz nx fr so wr wa as ak ab ar g))] (qI D (TT cI cZ cJ) (fun u : Unit => 0) (fun u : Unit => [(mo, .inr (11, mC 1 bu pe ep sz nx fr so wr wa as ak ab ar g))])) 3 0 0 := by
  refine enterM (by decide) (Nat.le_of_ble_eq_true rfl) ?_
  intro p e s m below meth c ls A C hP hD hS hl
  have hx := C.1
  have hb := C.2.1
  have hl : lv_has ls 1 [(0, .ref mo)] := hl
  refine lv_aload_n hx hb dX12_vertexGuards_0 rfl (lv_at hl 0 rfl) ?_
  refine call_i (wr := []) C (run_V (As := []) (rest := []) C (m_noPolygon l D cI cZ cJ mo bu pe ep sz nx fr so wr wa as ak ab ar g th ) cV_X12_247 hP hD hS [0] rfl rfl 0 rfl rfl rfl rfl hl.1 rfl (Nat.le_of_ble_eq_true rfl) dX12_vertexGuards_1 ⟨Nat.le_of_ble_eq_true rfl, Nat.le_of_ble_eq_true rfl⟩ ⟨Nat.le_of_ble_eq_true rfl, Nat.le_of_ble_eq_true rfl⟩) hP hD hS [0] [] rfl rfl rfl (by decide) (fun u1 H locs hP hD hS => ?_)
  have hP : va_P D CL [(mo, .inr (11, mC 1 bu pe ep sz nx fr so wr wa as ak ab ar g))] H := hP
  have hD : va_D A [(mo, .inr (11, mC 1 bu pe ep sz nx fr so wr wa as ak ab ar g))] := hD
  refine W.widen (k := 0) (n := 0) (Nat.le_of_ble_eq_true rfl) (Nat.le_of_ble_eq_true rfl) ?_
  refine W.eq (g2 := F0 m 4 ls [.int 1]) rfl ?_
  refine lv_if_eq (tgt := 11) hx hb dX12_vertexGuards_4 (by decide) (fun h => absurd h (by decide)) (fun _ => ?_)
  refine lv_iconst (v := 0) hx hb dX12_vertexGuards_7 (by decide) ?_
  refine lv_goto (tgt := 16) hx hb dX12_vertexGuards_8 (by decide) ?_
  exact r_iret C hP hD hS () rfl rfl (Nat.le_of_ble_eq_true rfl) (Nat.le_of_ble_eq_true rfl) dX12_vertexGuards_16
set_option maxHeartbeats 4000000 in
set_option maxRecDepth 100000 in
theorem m_edgeGuards (l : Launch) (D : va_G) (cI cZ cJ : ClassId) (mo : Nat) (bu : Int32) (pe : Int32) (ep : Int32) (sz : Int32) (nx : Int32) (fr : Int32) (so : Int32) (wr : Int32) (wa : Int32) (as : Nat) (ak : Nat) (ab : Nat) (ar : Nat) (g : Nat → Value) (th : Int32)  : cM l yX12_edgeGuards cX12_edgeGuards 1 (some .int) D (TT cI cZ cJ) [.ref mo] [(mo, .inr (11, mC th bu pe ep sz nx fr so wr wa as ak ab ar g))] (qI D (TT cI cZ cJ) (fun u : Unit => 0) (fun u : Unit => [(mo, .inr (11, mC 1 bu pe ep sz nx fr so wr wa as ak ab ar g))])) 3 0 0 := by
  refine enterM (by decide) (Nat.le_of_ble_eq_true rfl) ?_
  intro p e s m below meth c ls A C hP hD hS hl
  have hx := C.1
  have hb := C.2.1
  have hl : lv_has ls 1 [(0, .ref mo)] := hl
  refine lv_aload_n hx hb dX12_edgeGuards_0 rfl (lv_at hl 0 rfl) ?_
  refine call_i (wr := []) C (run_V (As := []) (rest := []) C (m_noPolygon l D cI cZ cJ mo bu pe ep sz nx fr so wr wa as ak ab ar g th ) cV_X12_247 hP hD hS [0] rfl rfl 0 rfl rfl rfl rfl hl.1 rfl (Nat.le_of_ble_eq_true rfl) dX12_edgeGuards_1 ⟨Nat.le_of_ble_eq_true rfl, Nat.le_of_ble_eq_true rfl⟩ ⟨Nat.le_of_ble_eq_true rfl, Nat.le_of_ble_eq_true rfl⟩) hP hD hS [0] [] rfl rfl rfl (by decide) (fun u1 H locs hP hD hS => ?_)
  have hP : va_P D CL [(mo, .inr (11, mC 1 bu pe ep sz nx fr so wr wa as ak ab ar g))] H := hP
  have hD : va_D A [(mo, .inr (11, mC 1 bu pe ep sz nx fr so wr wa as ak ab ar g))] := hD
  refine W.widen (k := 0) (n := 0) (Nat.le_of_ble_eq_true rfl) (Nat.le_of_ble_eq_true rfl) ?_
  refine W.eq (g2 := F0 m 4 ls [.int 1]) rfl ?_
  refine lv_if_eq (tgt := 11) hx hb dX12_edgeGuards_4 (by decide) (fun h => absurd h (by decide)) (fun _ => ?_)
  refine lv_iconst (v := 0) hx hb dX12_edgeGuards_7 (by decide) ?_
  refine lv_goto (tgt := 16) hx hb dX12_edgeGuards_8 (by decide) ?_
  exact r_iret C hP hD hS () rfl rfl (Nat.le_of_ble_eq_true rfl) (Nat.le_of_ble_eq_true rfl) dX12_edgeGuards_16
set_option maxHeartbeats 4000000 in
set_option maxRecDepth 100000 in
theorem m_guardNumber (l : Launch) (D : va_G) (cI cZ cJ : ClassId) (mo : Nat) (bu : Int32) (pe : Int32) (ep : Int32) (sz : Int32) (nx : Int32) (fr : Int32) (so : Int32) (wr : Int32) (wa : Int32) (as : Nat) (ak : Nat) (ab : Nat) (ar : Nat) (g : Nat → Value) (th : Int32)  : cM l yX12_guardNumber cX12_guardNumber 1 (some .int) D (TT cI cZ cJ) [.ref mo] [(mo, .inr (11, mC th bu pe ep sz nx fr so wr wa as ak ab ar g))] (qI D (TT cI cZ cJ) (fun u : Unit => 0) (fun u : Unit => [(mo, .inr (11, mC 1 bu pe ep sz nx fr so wr wa as ak ab ar g))])) 3 0 0 := by
  refine enterM (by decide) (Nat.le_of_ble_eq_true rfl) ?_
  intro p e s m below meth c ls A C hP hD hS hl
  have hx := C.1
  have hb := C.2.1
  have hl : lv_has ls 1 [(0, .ref mo)] := hl
  refine lv_aload_n hx hb dX12_guardNumber_0 rfl (lv_at hl 0 rfl) ?_
  refine call_i (wr := []) C (run_V (As := []) (rest := []) C (m_noPolygon l D cI cZ cJ mo bu pe ep sz nx fr so wr wa as ak ab ar g th ) cV_X12_247 hP hD hS [0] rfl rfl 0 rfl rfl rfl rfl hl.1 rfl (Nat.le_of_ble_eq_true rfl) dX12_guardNumber_1 ⟨Nat.le_of_ble_eq_true rfl, Nat.le_of_ble_eq_true rfl⟩ ⟨Nat.le_of_ble_eq_true rfl, Nat.le_of_ble_eq_true rfl⟩) hP hD hS [0] [] rfl rfl rfl (by decide) (fun u1 H locs hP hD hS => ?_)
  have hP : va_P D CL [(mo, .inr (11, mC 1 bu pe ep sz nx fr so wr wa as ak ab ar g))] H := hP
  have hD : va_D A [(mo, .inr (11, mC 1 bu pe ep sz nx fr so wr wa as ak ab ar g))] := hD
  refine W.widen (k := 0) (n := 0) (Nat.le_of_ble_eq_true rfl) (Nat.le_of_ble_eq_true rfl) ?_
  refine W.eq (g2 := F0 m 4 ls [.int 1]) rfl ?_
  refine lv_if_eq (tgt := 9) hx hb dX12_guardNumber_4 (by decide) (fun h => absurd h (by decide)) (fun _ => ?_)
  refine lv_iconst (v := 0) hx hb dX12_guardNumber_7 (by decide) ?_
  exact r_iret C hP hD hS () rfl rfl (Nat.le_of_ble_eq_true rfl) (Nat.le_of_ble_eq_true rfl) dX12_guardNumber_8
set_option maxHeartbeats 4000000 in
set_option maxRecDepth 100000 in
theorem m_guardPoint (l : Launch) (D : va_G) (cI cZ cJ : ClassId) (mo : Nat) (bu : Int32) (pe : Int32) (ep : Int32) (sz : Int32) (nx : Int32) (fr : Int32) (so : Int32) (wr : Int32) (wa : Int32) (as : Nat) (ak : Nat) (ab : Nat) (ar : Nat) (g : Nat → Value) (th : Int32) (a0 : Int32)  : cM l yX12_guardPoint cX12_guardPoint 2 (some .int) D (TT cI cZ cJ) [.ref mo, .int a0] [(mo, .inr (11, mC th bu pe ep sz nx fr so wr wa as ak ab ar g))] (qI D (TT cI cZ cJ) (fun u : Unit => 0) (fun u : Unit => [(mo, .inr (11, mC 1 bu pe ep sz nx fr so wr wa as ak ab ar g))])) 3 0 0 := by
  refine enterM (by decide) (Nat.le_of_ble_eq_true rfl) ?_
  intro p e s m below meth c ls A C hP hD hS hl
  have hx := C.1
  have hb := C.2.1
  have hl : lv_has ls 2 [(0, .ref mo), (1, .int a0)] := hl
  refine lv_aload_n hx hb dX12_guardPoint_0 rfl (lv_at hl 0 rfl) ?_
  refine call_i (wr := []) C (run_V (As := []) (rest := []) C (m_noPolygon l D cI cZ cJ mo bu pe ep sz nx fr so wr wa as ak ab ar g th ) cV_X12_247 hP hD hS [0] rfl rfl 0 rfl rfl rfl rfl hl.1 rfl (Nat.le_of_ble_eq_true rfl) dX12_guardPoint_1 ⟨Nat.le_of_ble_eq_true rfl, Nat.le_of_ble_eq_true rfl⟩ ⟨Nat.le_of_ble_eq_true rfl, Nat.le_of_ble_eq_true rfl⟩) hP hD hS [0] [] rfl rfl rfl (by decide) (fun u1 H locs hP hD hS => ?_)
  have hP : va_P D CL [(mo, .inr (11, mC 1 bu pe ep sz nx fr so wr wa as ak ab ar g))] H := hP
  have hD : va_D A [(mo, .inr (11, mC 1 bu pe ep sz nx fr so wr wa as ak ab ar g))] := hD
  refine W.widen (k := 0) (n := 0) (Nat.le_of_ble_eq_true rfl) (Nat.le_of_ble_eq_true rfl) ?_
  refine W.eq (g2 := F0 m 4 ls [.int 1]) rfl ?_
  refine lv_if_eq (tgt := 9) hx hb dX12_guardPoint_4 (by decide) (fun h => absurd h (by decide)) (fun _ => ?_)
  refine lv_iconst (v := 0) hx hb dX12_guardPoint_7 (by decide) ?_
  exact r_iret C hP hD hS () rfl rfl (Nat.le_of_ble_eq_true rfl) (Nat.le_of_ble_eq_true rfl) dX12_guardPoint_8
set_option maxHeartbeats 4000000 in
set_option maxRecDepth 100000 in
theorem m_witnessNumber (l : Launch) (D : va_G) (cI cZ cJ : ClassId) (mo : Nat) (bu : Int32) (pe : Int32) (ep : Int32) (sz : Int32) (nx : Int32) (fr : Int32) (so : Int32) (wr : Int32) (wa : Int32) (as : Nat) (ak : Nat) (ab : Nat) (ar : Nat) (g : Nat → Value) (th : Int32)  : cM l yX12_witnessNumber cX12_witnessNumber 1 (some .int) D (TT cI cZ cJ) [.ref mo] [(mo, .inr (11, mC th bu pe ep sz nx fr so wr wa as ak ab ar g))] (qI D (TT cI cZ cJ) (fun u : Unit => 0) (fun u : Unit => [(mo, .inr (11, mC 1 bu pe ep sz nx fr so wr wa as ak ab ar g))])) 3 0 0 := by
  refine enterM (by decide) (Nat.le_of_ble_eq_true rfl) ?_
  intro p e s m below meth c ls A C hP hD hS hl
  have hx := C.1
  have hb := C.2.1
  have hl : lv_has ls 1 [(0, .ref mo)] := hl
  refine lv_aload_n hx hb dX12_witnessNumber_0 rfl (lv_at hl 0 rfl) ?_
  refine call_i (wr := []) C (run_V (As := []) (rest := []) C (m_noPolygon l D cI cZ cJ mo bu pe ep sz nx fr so wr wa as ak ab ar g th ) cV_X12_247 hP hD hS [0] rfl rfl 0 rfl rfl rfl rfl hl.1 rfl (Nat.le_of_ble_eq_true rfl) dX12_witnessNumber_1 ⟨Nat.le_of_ble_eq_true rfl, Nat.le_of_ble_eq_true rfl⟩ ⟨Nat.le_of_ble_eq_true rfl, Nat.le_of_ble_eq_true rfl⟩) hP hD hS [0] [] rfl rfl rfl (by decide) (fun u1 H locs hP hD hS => ?_)
  have hP : va_P D CL [(mo, .inr (11, mC 1 bu pe ep sz nx fr so wr wa as ak ab ar g))] H := hP
  have hD : va_D A [(mo, .inr (11, mC 1 bu pe ep sz nx fr so wr wa as ak ab ar g))] := hD
  refine W.widen (k := 0) (n := 0) (Nat.le_of_ble_eq_true rfl) (Nat.le_of_ble_eq_true rfl) ?_
  refine W.eq (g2 := F0 m 4 ls [.int 1]) rfl ?_
  refine lv_if_eq (tgt := 9) hx hb dX12_witnessNumber_4 (by decide) (fun h => absurd h (by decide)) (fun _ => ?_)
  refine lv_iconst (v := 0) hx hb dX12_witnessNumber_7 (by decide) ?_
  exact r_iret C hP hD hS () rfl rfl (Nat.le_of_ble_eq_true rfl) (Nat.le_of_ble_eq_true rfl) dX12_witnessNumber_8
set_option maxHeartbeats 4000000 in
set_option maxRecDepth 100000 in
theorem m_witness (l : Launch) (D : va_G) (cI cZ cJ : ClassId) (mo : Nat) (bu : Int32) (pe : Int32) (ep : Int32) (sz : Int32) (nx : Int32) (fr : Int32) (so : Int32) (wr : Int32) (wa : Int32) (as : Nat) (ak : Nat) (ab : Nat) (ar : Nat) (g : Nat → Value) (th : Int32) (a0 : Int32)  : cM l yX12_witness cX12_witness 2 (some .int) D (TT cI cZ cJ) [.ref mo, .int a0] [(mo, .inr (11, mC th bu pe ep sz nx fr so wr wa as ak ab ar g))] (qI D (TT cI cZ cJ) (fun u : Unit => 0) (fun u : Unit => [(mo, .inr (11, mC 1 bu pe ep sz nx fr so wr wa as ak ab ar g))])) 3 0 0 := by
  refine enterM (by decide) (Nat.le_of_ble_eq_true rfl) ?_
  intro p e s m below meth c ls A C hP hD hS hl
  have hx := C.1
  have hb := C.2.1
  have hl : lv_has ls 2 [(0, .ref mo), (1, .int a0)] := hl
  refine lv_aload_n hx hb dX12_witness_0 rfl (lv_at hl 0 rfl) ?_
  refine call_i (wr := []) C (run_V (As := []) (rest := []) C (m_noPolygon l D cI cZ cJ mo bu pe ep sz nx fr so wr wa as ak ab ar g th ) cV_X12_247 hP hD hS [0] rfl rfl 0 rfl rfl rfl rfl hl.1 rfl (Nat.le_of_ble_eq_true rfl) dX12_witness_1 ⟨Nat.le_of_ble_eq_true rfl, Nat.le_of_ble_eq_true rfl⟩ ⟨Nat.le_of_ble_eq_true rfl, Nat.le_of_ble_eq_true rfl⟩) hP hD hS [0] [] rfl rfl rfl (by decide) (fun u1 H locs hP hD hS => ?_)
  have hP : va_P D CL [(mo, .inr (11, mC 1 bu pe ep sz nx fr so wr wa as ak ab ar g))] H := hP
  have hD : va_D A [(mo, .inr (11, mC 1 bu pe ep sz nx fr so wr wa as ak ab ar g))] := hD
  refine W.widen (k := 0) (n := 0) (Nat.le_of_ble_eq_true rfl) (Nat.le_of_ble_eq_true rfl) ?_
  refine W.eq (g2 := F0 m 4 ls [.int 1]) rfl ?_
  refine lv_if_eq (tgt := 9) hx hb dX12_witness_4 (by decide) (fun h => absurd h (by decide)) (fun _ => ?_)
  refine lv_iconst (v := 0) hx hb dX12_witness_7 (by decide) ?_
  exact r_iret C hP hD hS () rfl rfl (Nat.le_of_ble_eq_true rfl) (Nat.le_of_ble_eq_true rfl) dX12_witness_8
set_option maxHeartbeats 4000000 in
set_option maxRecDepth 100000 in
theorem m_hiddenNumber (l : Launch) (D : va_G) (cI cZ cJ : ClassId) (mo : Nat) (bu : Int32) (pe : Int32) (ep : Int32) (sz : Int32) (nx : Int32) (fr : Int32) (so : Int32) (wr : Int32) (wa : Int32) (as : Nat) (ak : Nat) (ab : Nat) (ar : Nat) (g : Nat → Value) (th : Int32)  : cM l yX12_hiddenNumber cX12_hiddenNumber 1 (some .int) D (TT cI cZ cJ) [.ref mo] [(mo, .inr (11, mC th bu pe ep sz nx fr so wr wa as ak ab ar g))] (qI D (TT cI cZ cJ) (fun u : Unit => 0) (fun u : Unit => [(mo, .inr (11, mC 1 bu pe ep sz nx fr so wr wa as ak ab ar g))])) 3 0 0 := by
  refine enterM (by decide) (Nat.le_of_ble_eq_true rfl) ?_
  intro p e s m below meth c ls A C hP hD hS hl
  have hx := C.1
  have hb := C.2.1
  have hl : lv_has ls 1 [(0, .ref mo)] := hl
  refine lv_aload_n hx hb dX12_hiddenNumber_0 rfl (lv_at hl 0 rfl) ?_
  refine call_i (wr := []) C (run_V (As := []) (rest := []) C (m_noPolygon l D cI cZ cJ mo bu pe ep sz nx fr so wr wa as ak ab ar g th ) cV_X12_247 hP hD hS [0] rfl rfl 0 rfl rfl rfl rfl hl.1 rfl (Nat.le_of_ble_eq_true rfl) dX12_hiddenNumber_1 ⟨Nat.le_of_ble_eq_true rfl, Nat.le_of_ble_eq_true rfl⟩ ⟨Nat.le_of_ble_eq_true rfl, Nat.le_of_ble_eq_true rfl⟩) hP hD hS [0] [] rfl rfl rfl (by decide) (fun u1 H locs hP hD hS => ?_)
  have hP : va_P D CL [(mo, .inr (11, mC 1 bu pe ep sz nx fr so wr wa as ak ab ar g))] H := hP
  have hD : va_D A [(mo, .inr (11, mC 1 bu pe ep sz nx fr so wr wa as ak ab ar g))] := hD
  refine W.widen (k := 0) (n := 0) (Nat.le_of_ble_eq_true rfl) (Nat.le_of_ble_eq_true rfl) ?_
  refine W.eq (g2 := F0 m 4 ls [.int 1]) rfl ?_
  refine lv_if_eq (tgt := 9) hx hb dX12_hiddenNumber_4 (by decide) (fun h => absurd h (by decide)) (fun _ => ?_)
  refine lv_iconst (v := 0) hx hb dX12_hiddenNumber_7 (by decide) ?_
  exact r_iret C hP hD hS () rfl rfl (Nat.le_of_ble_eq_true rfl) (Nat.le_of_ble_eq_true rfl) dX12_hiddenNumber_8
set_option maxHeartbeats 4000000 in
set_option maxRecDepth 100000 in
theorem m_guardAt (l : Launch) (D : va_G) (cI cZ cJ : ClassId) (mo : Nat) (bu : Int32) (pe : Int32) (ep : Int32) (sz : Int32) (nx : Int32) (fr : Int32) (so : Int32) (wr : Int32) (wa : Int32) (as : Nat) (ak : Nat) (ab : Nat) (ar : Nat) (g : Nat → Value) (th : Int32) (a0 : Int32)  : cM l yX12_guardAt cX12_guardAt 2 (some .int) D (TT cI cZ cJ) [.ref mo, .int a0] [(mo, .inr (11, mC th bu pe ep sz nx fr so wr wa as ak ab ar g))] (qI D (TT cI cZ cJ) (fun u : Unit => 0) (fun u : Unit => [(mo, .inr (11, mC 1 bu pe ep sz nx fr so wr wa as ak ab ar g))])) 3 0 0 := by
  refine enterM (by decide) (Nat.le_of_ble_eq_true rfl) ?_
  intro p e s m below meth c ls A C hP hD hS hl
  have hx := C.1
  have hb := C.2.1
  have hl : lv_has ls 2 [(0, .ref mo), (1, .int a0)] := hl
  refine lv_aload_n hx hb dX12_guardAt_0 rfl (lv_at hl 0 rfl) ?_
  refine lv_iload_n hx hb dX12_guardAt_1 rfl (lv_at hl 1 rfl) ?_
  refine call_i (wr := []) C (run_V (As := [.int a0]) (rest := []) C (m_noGuard l D cI cZ cJ mo bu pe ep sz nx fr so wr wa as ak ab ar g th a0 ) cV_X12_356 hP hD hS [0] rfl rfl 0 rfl rfl rfl rfl hl.1 rfl (Nat.le_of_ble_eq_true rfl) dX12_guardAt_2 ⟨Nat.le_of_ble_eq_true rfl, Nat.le_of_ble_eq_true rfl⟩ ⟨Nat.le_of_ble_eq_true rfl, Nat.le_of_ble_eq_true rfl⟩) hP hD hS [0] [] rfl rfl rfl (by decide) (fun u1 H locs hP hD hS => ?_)
  have hP : va_P D CL [(mo, .inr (11, mC 1 bu pe ep sz nx fr so wr wa as ak ab ar g))] H := hP
  have hD : va_D A [(mo, .inr (11, mC 1 bu pe ep sz nx fr so wr wa as ak ab ar g))] := hD
  refine W.widen (k := 0) (n := 0) (Nat.le_of_ble_eq_true rfl) (Nat.le_of_ble_eq_true rfl) ?_
  refine W.eq (g2 := F0 m 5 ls [.int 1]) rfl ?_
  refine lv_if_eq (tgt := 12) hx hb dX12_guardAt_5 (by decide) (fun h => absurd h (by decide)) (fun _ => ?_)
  refine lv_iconst (v := 0) hx hb dX12_guardAt_8 (by decide) ?_
  refine lv_goto (tgt := 28) hx hb dX12_guardAt_9 (by decide) ?_
  exact r_iret C hP hD hS () rfl rfl (Nat.le_of_ble_eq_true rfl) (Nat.le_of_ble_eq_true rfl) dX12_guardAt_28
set_option maxHeartbeats 4000000 in
set_option maxRecDepth 100000 in
theorem m_guardRange (l : Launch) (D : va_G) (cI cZ cJ : ClassId) (mo : Nat) (bu : Int32) (pe : Int32) (ep : Int32) (sz : Int32) (nx : Int32) (fr : Int32) (so : Int32) (wr : Int32) (wa : Int32) (as : Nat) (ak : Nat) (ab : Nat) (ar : Nat) (g : Nat → Value) (th : Int32) (a0 : Int32)  : cM l yX12_guardRange cX12_guardRange 2 (some .int) D (TT cI cZ cJ) [.ref mo, .int a0] [(mo, .inr (11, mC th bu pe ep sz nx fr so wr wa as ak ab ar g))] (qI D (TT cI cZ cJ) (fun u : Unit => 0) (fun u : Unit => [(mo, .inr (11, mC 1 bu pe ep sz nx fr so wr wa as ak ab ar g))])) 3 0 0 := by
  refine enterM (by decide) (Nat.le_of_ble_eq_true rfl) ?_
  intro p e s m below meth c ls A C hP hD hS hl
  have hx := C.1
  have hb := C.2.1
  have hl : lv_has ls 2 [(0, .ref mo), (1, .int a0)] := hl
  refine lv_aload_n hx hb dX12_guardRange_0 rfl (lv_at hl 0 rfl) ?_
  refine lv_iload_n hx hb dX12_guardRange_1 rfl (lv_at hl 1 rfl) ?_
  refine call_i (wr := []) C (run_V (As := [.int a0]) (rest := []) C (m_noGuard l D cI cZ cJ mo bu pe ep sz nx fr so wr wa as ak ab ar g th a0 ) cV_X12_356 hP hD hS [0] rfl rfl 0 rfl rfl rfl rfl hl.1 rfl (Nat.le_of_ble_eq_true rfl) dX12_guardRange_2 ⟨Nat.le_of_ble_eq_true rfl, Nat.le_of_ble_eq_true rfl⟩ ⟨Nat.le_of_ble_eq_true rfl, Nat.le_of_ble_eq_true rfl⟩) hP hD hS [0] [] rfl rfl rfl (by decide) (fun u1 H locs hP hD hS => ?_)
  have hP : va_P D CL [(mo, .inr (11, mC 1 bu pe ep sz nx fr so wr wa as ak ab ar g))] H := hP
  have hD : va_D A [(mo, .inr (11, mC 1 bu pe ep sz nx fr so wr wa as ak ab ar g))] := hD
  refine W.widen (k := 0) (n := 0) (Nat.le_of_ble_eq_true rfl) (Nat.le_of_ble_eq_true rfl) ?_
  refine W.eq (g2 := F0 m 5 ls [.int 1]) rfl ?_
  refine lv_if_eq (tgt := 12) hx hb dX12_guardRange_5 (by decide) (fun h => absurd h (by decide)) (fun _ => ?_)
  refine lv_iconst (v := 0) hx hb dX12_guardRange_8 (by decide) ?_
  refine lv_goto (tgt := 18) hx hb dX12_guardRange_9 (by decide) ?_
  exact r_iret C hP hD hS () rfl rfl (Nat.le_of_ble_eq_true rfl) (Nat.le_of_ble_eq_true rfl) dX12_guardRange_18
set_option maxHeartbeats 4000000 in
set_option maxRecDepth 100000 in
theorem m_watched (l : Launch) (D : va_G) (cI cZ cJ : ClassId) (mo : Nat) (bu : Int32) (pe : Int32) (ep : Int32) (sz : Int32) (nx : Int32) (fr : Int32) (so : Int32) (wr : Int32) (wa : Int32) (as : Nat) (ak : Nat) (ab : Nat) (ar : Nat) (g : Nat → Value) (th : Int32) (a0 : Int32)  : cM l yX12_watched cX12_watched 2 (some .long) D (TT cI cZ cJ) [.ref mo, .int a0] [(mo, .inr (11, mC th bu pe ep sz nx fr so wr wa as ak ab ar g))] (qL D (TT cI cZ cJ) (fun u : Unit => 0) (fun u : Unit => [(mo, .inr (11, mC 1 bu pe ep sz nx fr so wr wa as ak ab ar g))])) 3 0 0 := by
  refine enterM (by decide) (Nat.le_of_ble_eq_true rfl) ?_
  intro p e s m below meth c ls A C hP hD hS hl
  have hx := C.1
  have hb := C.2.1
  have hl : lv_has ls 2 [(0, .ref mo), (1, .int a0)] := hl
  refine lv_aload_n hx hb dX12_watched_0 rfl (lv_at hl 0 rfl) ?_
  refine lv_iload_n hx hb dX12_watched_1 rfl (lv_at hl 1 rfl) ?_
  refine call_i (wr := []) C (run_V (As := [.int a0]) (rest := []) C (m_noGuard l D cI cZ cJ mo bu pe ep sz nx fr so wr wa as ak ab ar g th a0 ) cV_X12_356 hP hD hS [0] rfl rfl 0 rfl rfl rfl rfl hl.1 rfl (Nat.le_of_ble_eq_true rfl) dX12_watched_2 ⟨Nat.le_of_ble_eq_true rfl, Nat.le_of_ble_eq_true rfl⟩ ⟨Nat.le_of_ble_eq_true rfl, Nat.le_of_ble_eq_true rfl⟩) hP hD hS [0] [] rfl rfl rfl (by decide) (fun u1 H locs hP hD hS => ?_)
  have hP : va_P D CL [(mo, .inr (11, mC 1 bu pe ep sz nx fr so wr wa as ak ab ar g))] H := hP
  have hD : va_D A [(mo, .inr (11, mC 1 bu pe ep sz nx fr so wr wa as ak ab ar g))] := hD
  refine W.widen (k := 0) (n := 0) (Nat.le_of_ble_eq_true rfl) (Nat.le_of_ble_eq_true rfl) ?_
  refine W.eq (g2 := F0 m 5 ls [.int 1]) rfl ?_
  refine lv_if_eq (tgt := 10) hx hb dX12_watched_5 (by decide) (fun h => absurd h (by decide)) (fun _ => ?_)
  refine lv_lconst (v := 0) hx hb dX12_watched_8 (by decide) ?_
  exact r_lret C hP hD hS () rfl rfl (Nat.le_of_ble_eq_true rfl) (Nat.le_of_ble_eq_true rfl) dX12_watched_9
set_option maxHeartbeats 4000000 in
set_option maxRecDepth 100000 in
theorem m_unwatched (l : Launch) (D : va_G) (cI cZ cJ : ClassId) (mo : Nat) (bu : Int32) (pe : Int32) (ep : Int32) (sz : Int32) (nx : Int32) (fr : Int32) (so : Int32) (wr : Int32) (wa : Int32) (as : Nat) (ak : Nat) (ab : Nat) (ar : Nat) (g : Nat → Value) (th : Int32)  : cM l yX12_unwatched cX12_unwatched 1 (some .long) D (TT cI cZ cJ) [.ref mo] [(mo, .inr (11, mC th bu pe ep sz nx fr so wr wa as ak ab ar g))] (qL D (TT cI cZ cJ) (fun u : Unit => 0) (fun u : Unit => [(mo, .inr (11, mC 1 bu pe ep sz nx fr so wr wa as ak ab ar g))])) 3 0 0 := by
  refine enterM (by decide) (Nat.le_of_ble_eq_true rfl) ?_
  intro p e s m below meth c ls A C hP hD hS hl
  have hx := C.1
  have hb := C.2.1
  have hl : lv_has ls 1 [(0, .ref mo)] := hl
  refine lv_aload_n hx hb dX12_unwatched_0 rfl (lv_at hl 0 rfl) ?_
  refine call_i (wr := []) C (run_V (As := []) (rest := []) C (m_noPolygon l D cI cZ cJ mo bu pe ep sz nx fr so wr wa as ak ab ar g th ) cV_X12_247 hP hD hS [0] rfl rfl 0 rfl rfl rfl rfl hl.1 rfl (Nat.le_of_ble_eq_true rfl) dX12_unwatched_1 ⟨Nat.le_of_ble_eq_true rfl, Nat.le_of_ble_eq_true rfl⟩ ⟨Nat.le_of_ble_eq_true rfl, Nat.le_of_ble_eq_true rfl⟩) hP hD hS [0] [] rfl rfl rfl (by decide) (fun u1 H locs hP hD hS => ?_)
  have hP : va_P D CL [(mo, .inr (11, mC 1 bu pe ep sz nx fr so wr wa as ak ab ar g))] H := hP
  have hD : va_D A [(mo, .inr (11, mC 1 bu pe ep sz nx fr so wr wa as ak ab ar g))] := hD
  refine W.widen (k := 0) (n := 0) (Nat.le_of_ble_eq_true rfl) (Nat.le_of_ble_eq_true rfl) ?_
  refine W.eq (g2 := F0 m 4 ls [.int 1]) rfl ?_
  refine lv_if_eq (tgt := 11) hx hb dX12_unwatched_4 (by decide) (fun h => absurd h (by decide)) (fun _ => ?_)
  refine lv_lconst (v := 0) hx hb dX12_unwatched_7 (by decide) ?_
  refine lv_goto (tgt := 25) hx hb dX12_unwatched_8 (by decide) ?_
  exact r_lret C hP hD hS () rfl rfl (Nat.le_of_ble_eq_true rfl) (Nat.le_of_ble_eq_true rfl) dX12_unwatched_25
set_option maxHeartbeats 4000000 in
set_option maxRecDepth 100000 in
theorem m_watchers (l : Launch) (D : va_G) (cI cZ cJ : ClassId) (mo : Nat) (bu : Int32) (pe : Int32) (ep : Int32) (sz : Int32) (nx : Int32) (fr : Int32) (so : Int32) (wr : Int32) (wa : Int32) (as : Nat) (ak : Nat) (ab : Nat) (ar : Nat) (g : Nat → Value) (th : Int32) (a0 : Int32)  : cM l yX12_watchers cX12_watchers 4 (some .int) D (TT cI cZ cJ) [.ref mo, .int a0] [(mo, .inr (11, mC th bu pe ep sz nx fr so wr wa as ak ab ar g))] (qI D (TT cI cZ cJ) (fun u : Unit => 0) (fun u : Unit => [(mo, .inr (11, mC 1 bu pe ep sz nx fr so wr wa as ak ab ar g))])) 3 0 0 := by
  refine enterM (by decide) (Nat.le_of_ble_eq_true rfl) ?_
  intro p e s m below meth c ls A C hP hD hS hl
  have hx := C.1
  have hb := C.2.1
  have hl : lv_has ls 4 [(0, .ref mo), (1, .int a0)] := hl
  refine lv_aload_n hx hb dX12_watchers_0 rfl (lv_at hl 0 rfl) ?_
  refine lv_iload_n hx hb dX12_watchers_1 rfl (lv_at hl 1 rfl) ?_
  refine call_i (wr := []) C (run_V (As := [.int a0]) (rest := []) C (m_noPoint l D cI cZ cJ mo bu pe ep sz nx fr so wr wa as ak ab ar g th a0 ) cV_X12_254 hP hD hS [0] rfl rfl 0 rfl rfl rfl rfl hl.1 rfl (Nat.le_of_ble_eq_true rfl) dX12_watchers_2 ⟨Nat.le_of_ble_eq_true rfl, Nat.le_of_ble_eq_true rfl⟩ ⟨Nat.le_of_ble_eq_true rfl, Nat.le_of_ble_eq_true rfl⟩) hP hD hS [0] [] rfl rfl rfl (by decide) (fun u1 H locs hP hD hS => ?_)
  have hP : va_P D CL [(mo, .inr (11, mC 1 bu pe ep sz nx fr so wr wa as ak ab ar g))] H := hP
  have hD : va_D A [(mo, .inr (11, mC 1 bu pe ep sz nx fr so wr wa as ak ab ar g))] := hD
  refine W.widen (k := 0) (n := 0) (Nat.le_of_ble_eq_true rfl) (Nat.le_of_ble_eq_true rfl) ?_
  refine W.eq (g2 := F0 m 5 ls [.int 1]) rfl ?_
  refine lv_if_eq (tgt := 10) hx hb dX12_watchers_5 (by decide) (fun h => absurd h (by decide)) (fun _ => ?_)
  refine lv_iconst (v := 0) hx hb dX12_watchers_8 (by decide) ?_
  exact r_iret C hP hD hS () rfl rfl (Nat.le_of_ble_eq_true rfl) (Nat.le_of_ble_eq_true rfl) dX12_watchers_9
set_option maxHeartbeats 4000000 in
set_option maxRecDepth 100000 in
theorem m_redundantGuards (l : Launch) (D : va_G) (cI cZ cJ : ClassId) (mo : Nat) (bu : Int32) (pe : Int32) (ep : Int32) (sz : Int32) (nx : Int32) (fr : Int32) (so : Int32) (wr : Int32) (wa : Int32) (as : Nat) (ak : Nat) (ab : Nat) (ar : Nat) (g : Nat → Value) (th : Int32)  : cM l yX12_redundantGuards cX12_redundantGuards 3 (some .int) D (TT cI cZ cJ) [.ref mo] [(mo, .inr (11, mC th bu pe ep sz nx fr so wr wa as ak ab ar g))] (qI D (TT cI cZ cJ) (fun u : Unit => 0) (fun u : Unit => [(mo, .inr (11, mC 1 bu pe ep sz nx fr so wr wa as ak ab ar g))])) 3 0 0 := by
  refine enterM (by decide) (Nat.le_of_ble_eq_true rfl) ?_
  intro p e s m below meth c ls A C hP hD hS hl
  have hx := C.1
  have hb := C.2.1
  have hl : lv_has ls 3 [(0, .ref mo)] := hl
  refine lv_aload_n hx hb dX12_redundantGuards_0 rfl (lv_at hl 0 rfl) ?_
  refine call_i (wr := []) C (run_V (As := []) (rest := []) C (m_noPolygon l D cI cZ cJ mo bu pe ep sz nx fr so wr wa as ak ab ar g th ) cV_X12_247 hP hD hS [0] rfl rfl 0 rfl rfl rfl rfl hl.1 rfl (Nat.le_of_ble_eq_true rfl) dX12_redundantGuards_1 ⟨Nat.le_of_ble_eq_true rfl, Nat.le_of_ble_eq_true rfl⟩ ⟨Nat.le_of_ble_eq_true rfl, Nat.le_of_ble_eq_true rfl⟩) hP hD hS [0] [] rfl rfl rfl (by decide) (fun u1 H locs hP hD hS => ?_)
  have hP : va_P D CL [(mo, .inr (11, mC 1 bu pe ep sz nx fr so wr wa as ak ab ar g))] H := hP
  have hD : va_D A [(mo, .inr (11, mC 1 bu pe ep sz nx fr so wr wa as ak ab ar g))] := hD
  refine W.widen (k := 0) (n := 0) (Nat.le_of_ble_eq_true rfl) (Nat.le_of_ble_eq_true rfl) ?_
  refine W.eq (g2 := F0 m 4 ls [.int 1]) rfl ?_
  refine lv_if_eq (tgt := 9) hx hb dX12_redundantGuards_4 (by decide) (fun h => absurd h (by decide)) (fun _ => ?_)
  refine lv_iconst (v := 0) hx hb dX12_redundantGuards_7 (by decide) ?_
  exact r_iret C hP hD hS () rfl rfl (Nat.le_of_ble_eq_true rfl) (Nat.le_of_ble_eq_true rfl) dX12_redundantGuards_8
set_option maxHeartbeats 4000000 in
set_option maxRecDepth 100000 in
theorem m_bestPoint (l : Launch) (D : va_G) (cI cZ cJ : ClassId) (mo : Nat) (bu : Int32) (pe : Int32) (ep : Int32) (sz : Int32) (nx : Int32) (fr : Int32) (so : Int32) (wr : Int32) (wa : Int32) (as : Nat) (ak : Nat) (ab : Nat) (ar : Nat) (g : Nat → Value) (th : Int32)  : cM l yX12_bestPoint cX12_bestPoint 1 (some .int) D (TT cI cZ cJ) [.ref mo] [(mo, .inr (11, mC th bu pe ep sz nx fr so wr wa as ak ab ar g))] (qI D (TT cI cZ cJ) (fun u : Unit => 0) (fun u : Unit => [(mo, .inr (11, mC 1 bu pe ep sz nx fr so wr wa as ak ab ar g))])) 3 0 0 := by
  refine enterM (by decide) (Nat.le_of_ble_eq_true rfl) ?_
  intro p e s m below meth c ls A C hP hD hS hl
  have hx := C.1
  have hb := C.2.1
  have hl : lv_has ls 1 [(0, .ref mo)] := hl
  refine lv_aload_n hx hb dX12_bestPoint_0 rfl (lv_at hl 0 rfl) ?_
  refine call_i (wr := []) C (run_V (As := []) (rest := []) C (m_noPolygon l D cI cZ cJ mo bu pe ep sz nx fr so wr wa as ak ab ar g th ) cV_X12_247 hP hD hS [0] rfl rfl 0 rfl rfl rfl rfl hl.1 rfl (Nat.le_of_ble_eq_true rfl) dX12_bestPoint_1 ⟨Nat.le_of_ble_eq_true rfl, Nat.le_of_ble_eq_true rfl⟩ ⟨Nat.le_of_ble_eq_true rfl, Nat.le_of_ble_eq_true rfl⟩) hP hD hS [0] [] rfl rfl rfl (by decide) (fun u1 H locs hP hD hS => ?_)
  have hP : va_P D CL [(mo, .inr (11, mC 1 bu pe ep sz nx fr so wr wa as ak ab ar g))] H := hP
  have hD : va_D A [(mo, .inr (11, mC 1 bu pe ep sz nx fr so wr wa as ak ab ar g))] := hD
  refine W.widen (k := 0) (n := 0) (Nat.le_of_ble_eq_true rfl) (Nat.le_of_ble_eq_true rfl) ?_
  refine W.eq (g2 := F0 m 4 ls [.int 1]) rfl ?_
  refine lv_if_eq (tgt := 11) hx hb dX12_bestPoint_4 (by decide) (fun h => absurd h (by decide)) (fun _ => ?_)
  refine lv_iconst (v := 0) hx hb dX12_bestPoint_7 (by decide) ?_
  refine lv_goto (tgt := 29) hx hb dX12_bestPoint_8 (by decide) ?_
  exact r_iret C hP hD hS () rfl rfl (Nat.le_of_ble_eq_true rfl) (Nat.le_of_ble_eq_true rfl) dX12_bestPoint_29
set_option maxHeartbeats 4000000 in
set_option maxRecDepth 100000 in
theorem m_greedyGuards (l : Launch) (D : va_G) (cI cZ cJ : ClassId) (mo : Nat) (bu : Int32) (pe : Int32) (ep : Int32) (sz : Int32) (nx : Int32) (fr : Int32) (so : Int32) (wr : Int32) (wa : Int32) (as : Nat) (ak : Nat) (ab : Nat) (ar : Nat) (g : Nat → Value) (th : Int32)  : cM l yX12_greedyGuards cX12_greedyGuards 4 (some .int) D (TT cI cZ cJ) [.ref mo] [(mo, .inr (11, mC th bu pe ep sz nx fr so wr wa as ak ab ar g))] (qI D (TT cI cZ cJ) (fun u : Unit => 0) (fun u : Unit => [(mo, .inr (11, mC 1 bu pe ep sz nx fr so wr wa as ak ab ar g))])) 3 0 0 := by
  refine enterM (by decide) (Nat.le_of_ble_eq_true rfl) ?_
  intro p e s m below meth c ls A C hP hD hS hl
  have hx := C.1
  have hb := C.2.1
  have hl : lv_has ls 4 [(0, .ref mo)] := hl
  refine lv_aload_n hx hb dX12_greedyGuards_0 rfl (lv_at hl 0 rfl) ?_
  refine call_i (wr := []) C (run_V (As := []) (rest := []) C (m_noPolygon l D cI cZ cJ mo bu pe ep sz nx fr so wr wa as ak ab ar g th ) cV_X12_247 hP hD hS [0] rfl rfl 0 rfl rfl rfl rfl hl.1 rfl (Nat.le_of_ble_eq_true rfl) dX12_greedyGuards_1 ⟨Nat.le_of_ble_eq_true rfl, Nat.le_of_ble_eq_true rfl⟩ ⟨Nat.le_of_ble_eq_true rfl, Nat.le_of_ble_eq_true rfl⟩) hP hD hS [0] [] rfl rfl rfl (by decide) (fun u1 H locs hP hD hS => ?_)
  have hP : va_P D CL [(mo, .inr (11, mC 1 bu pe ep sz nx fr so wr wa as ak ab ar g))] H := hP
  have hD : va_D A [(mo, .inr (11, mC 1 bu pe ep sz nx fr so wr wa as ak ab ar g))] := hD
  refine W.widen (k := 0) (n := 0) (Nat.le_of_ble_eq_true rfl) (Nat.le_of_ble_eq_true rfl) ?_
  refine W.eq (g2 := F0 m 4 ls [.int 1]) rfl ?_
  refine lv_if_eq (tgt := 9) hx hb dX12_greedyGuards_4 (by decide) (fun h => absurd h (by decide)) (fun _ => ?_)
  refine lv_iconst (v := 0) hx hb dX12_greedyGuards_7 (by decide) ?_
  exact r_iret C hP hD hS () rfl rfl (Nat.le_of_ble_eq_true rfl) (Nat.le_of_ble_eq_true rfl) dX12_greedyGuards_8
set_option maxHeartbeats 4000000 in
set_option maxRecDepth 100000 in
theorem m_treasureAt (l : Launch) (D : va_G) (cI cZ cJ : ClassId) (mo : Nat) (bu : Int32) (pe : Int32) (ep : Int32) (sz : Int32) (nx : Int32) (fr : Int32) (so : Int32) (wr : Int32) (wa : Int32) (as : Nat) (ak : Nat) (ab : Nat) (ar : Nat) (g : Nat → Value) (th : Int32) (a0 : Int32)  : cM l yX12_treasureAt cX12_treasureAt 2 (some .int) D (TT cI cZ cJ) [.ref mo, .int a0] [(mo, .inr (11, mC th bu pe ep sz nx fr so wr wa as ak ab ar g))] (qI D (TT cI cZ cJ) (fun u : Unit => 0) (fun u : Unit => [(mo, .inr (11, mC 1 bu pe ep sz nx fr so wr wa as ak ab ar g))])) 3 0 0 := by
  refine enterM (by decide) (Nat.le_of_ble_eq_true rfl) ?_
  intro p e s m below meth c ls A C hP hD hS hl
  have hx := C.1
  have hb := C.2.1
  have hl : lv_has ls 2 [(0, .ref mo), (1, .int a0)] := hl
  refine lv_aload_n hx hb dX12_treasureAt_0 rfl (lv_at hl 0 rfl) ?_
  refine call_i (wr := []) C (run_V (As := []) (rest := []) C (m_noPolygon l D cI cZ cJ mo bu pe ep sz nx fr so wr wa as ak ab ar g th ) cV_X12_247 hP hD hS [0] rfl rfl 0 rfl rfl rfl rfl hl.1 rfl (Nat.le_of_ble_eq_true rfl) dX12_treasureAt_1 ⟨Nat.le_of_ble_eq_true rfl, Nat.le_of_ble_eq_true rfl⟩ ⟨Nat.le_of_ble_eq_true rfl, Nat.le_of_ble_eq_true rfl⟩) hP hD hS [0] [] rfl rfl rfl (by decide) (fun u1 H locs hP hD hS => ?_)
  have hP : va_P D CL [(mo, .inr (11, mC 1 bu pe ep sz nx fr so wr wa as ak ab ar g))] H := hP
  have hD : va_D A [(mo, .inr (11, mC 1 bu pe ep sz nx fr so wr wa as ak ab ar g))] := hD
  refine W.widen (k := 0) (n := 0) (Nat.le_of_ble_eq_true rfl) (Nat.le_of_ble_eq_true rfl) ?_
  refine W.eq (g2 := F0 m 4 ls [.int 1]) rfl ?_
  refine lv_if_ne (tgt := 36) hx hb dX12_treasureAt_4 (by decide) (fun _ => ?_) (fun h => absurd h (by decide))
  refine lv_iconst (v := 0) hx hb dX12_treasureAt_36 (by decide) ?_
  refine lv_goto (tgt := 56) hx hb dX12_treasureAt_37 (by decide) ?_
  exact r_iret C hP hD hS () rfl rfl (Nat.le_of_ble_eq_true rfl) (Nat.le_of_ble_eq_true rfl) dX12_treasureAt_56
set_option maxHeartbeats 4000000 in
set_option maxRecDepth 100000 in
theorem m_watchedValue (l : Launch) (D : va_G) (cI cZ cJ : ClassId) (mo : Nat) (bu : Int32) (pe : Int32) (ep : Int32) (sz : Int32) (nx : Int32) (fr : Int32) (so : Int32) (wr : Int32) (wa : Int32) (as : Nat) (ak : Nat) (ab : Nat) (ar : Nat) (g : Nat → Value) (th : Int32)  : cM l yX12_watchedValue cX12_watchedValue 1 (some .int) D (TT cI cZ cJ) [.ref mo] [(mo, .inr (11, mC th bu pe ep sz nx fr so wr wa as ak ab ar g))] (qI D (TT cI cZ cJ) (fun u : Unit => 0) (fun u : Unit => [(mo, .inr (11, mC 1 bu pe ep sz nx fr so wr wa as ak ab ar g))])) 3 0 0 := by
  refine enterM (by decide) (Nat.le_of_ble_eq_true rfl) ?_
  intro p e s m below meth c ls A C hP hD hS hl
  have hx := C.1
  have hb := C.2.1
  have hl : lv_has ls 1 [(0, .ref mo)] := hl
  refine lv_aload_n hx hb dX12_watchedValue_0 rfl (lv_at hl 0 rfl) ?_
  refine call_i (wr := []) C (run_V (As := []) (rest := []) C (m_noPolygon l D cI cZ cJ mo bu pe ep sz nx fr so wr wa as ak ab ar g th ) cV_X12_247 hP hD hS [0] rfl rfl 0 rfl rfl rfl rfl hl.1 rfl (Nat.le_of_ble_eq_true rfl) dX12_watchedValue_1 ⟨Nat.le_of_ble_eq_true rfl, Nat.le_of_ble_eq_true rfl⟩ ⟨Nat.le_of_ble_eq_true rfl, Nat.le_of_ble_eq_true rfl⟩) hP hD hS [0] [] rfl rfl rfl (by decide) (fun u1 H locs hP hD hS => ?_)
  have hP : va_P D CL [(mo, .inr (11, mC 1 bu pe ep sz nx fr so wr wa as ak ab ar g))] H := hP
  have hD : va_D A [(mo, .inr (11, mC 1 bu pe ep sz nx fr so wr wa as ak ab ar g))] := hD
  refine W.widen (k := 0) (n := 0) (Nat.le_of_ble_eq_true rfl) (Nat.le_of_ble_eq_true rfl) ?_
  refine W.eq (g2 := F0 m 4 ls [.int 1]) rfl ?_
  refine lv_if_eq (tgt := 11) hx hb dX12_watchedValue_4 (by decide) (fun h => absurd h (by decide)) (fun _ => ?_)
  refine lv_iconst (v := 0) hx hb dX12_watchedValue_7 (by decide) ?_
  refine lv_goto (tgt := 20) hx hb dX12_watchedValue_8 (by decide) ?_
  exact r_iret C hP hD hS () rfl rfl (Nat.le_of_ble_eq_true rfl) (Nat.le_of_ble_eq_true rfl) dX12_watchedValue_20
set_option maxHeartbeats 4000000 in
set_option maxRecDepth 100000 in
theorem m_bestValue (l : Launch) (D : va_G) (cI cZ cJ : ClassId) (mo : Nat) (bu : Int32) (pe : Int32) (ep : Int32) (sz : Int32) (nx : Int32) (fr : Int32) (so : Int32) (wr : Int32) (wa : Int32) (as : Nat) (ak : Nat) (ab : Nat) (ar : Nat) (g : Nat → Value) (th : Int32)  : cM l yX12_bestValue cX12_bestValue 7 (some .int) D (TT cI cZ cJ) [.ref mo] [(mo, .inr (11, mC th bu pe ep sz nx fr so wr wa as ak ab ar g))] (qI D (TT cI cZ cJ) (fun u : Unit => 0) (fun u : Unit => [(mo, .inr (11, mC 1 bu pe ep sz nx fr so wr wa as ak ab ar g))])) 3 0 0 := by
  refine enterM (by decide) (Nat.le_of_ble_eq_true rfl) ?_
  intro p e s m below meth c ls A C hP hD hS hl
  have hx := C.1
  have hb := C.2.1
  have hl : lv_has ls 7 [(0, .ref mo)] := hl
  refine lv_aload_n hx hb dX12_bestValue_0 rfl (lv_at hl 0 rfl) ?_
  refine call_i (wr := []) C (run_V (As := []) (rest := []) C (m_noPolygon l D cI cZ cJ mo bu pe ep sz nx fr so wr wa as ak ab ar g th ) cV_X12_247 hP hD hS [0] rfl rfl 0 rfl rfl rfl rfl hl.1 rfl (Nat.le_of_ble_eq_true rfl) dX12_bestValue_1 ⟨Nat.le_of_ble_eq_true rfl, Nat.le_of_ble_eq_true rfl⟩ ⟨Nat.le_of_ble_eq_true rfl, Nat.le_of_ble_eq_true rfl⟩) hP hD hS [0] [] rfl rfl rfl (by decide) (fun u1 H locs hP hD hS => ?_)
  have hP : va_P D CL [(mo, .inr (11, mC 1 bu pe ep sz nx fr so wr wa as ak ab ar g))] H := hP
  have hD : va_D A [(mo, .inr (11, mC 1 bu pe ep sz nx fr so wr wa as ak ab ar g))] := hD
  refine W.widen (k := 0) (n := 0) (Nat.le_of_ble_eq_true rfl) (Nat.le_of_ble_eq_true rfl) ?_
  refine W.eq (g2 := F0 m 4 ls [.int 1]) rfl ?_
  refine lv_if_eq (tgt := 9) hx hb dX12_bestValue_4 (by decide) (fun h => absurd h (by decide)) (fun _ => ?_)
  refine lv_iconst (v := 0) hx hb dX12_bestValue_7 (by decide) ?_
  exact r_iret C hP hD hS () rfl rfl (Nat.le_of_ble_eq_true rfl) (Nat.le_of_ble_eq_true rfl) dX12_bestValue_8
set_option maxHeartbeats 4000000 in
set_option maxRecDepth 100000 in
theorem m_draw (l : Launch) (D : va_G) (cI cZ cJ : ClassId) (mo : Nat) (bu : Int32) (pe : Int32) (ep : Int32) (sz : Int32) (nx : Int32) (fr : Int32) (so : Int32) (wr : Int32) (wa : Int32) (as : Nat) (ak : Nat) (ab : Nat) (ar : Nat) (g : Nat → Value) (th : Int32) (a0 : Int32)  : cM l yX12_draw cX12_draw 7 (some .int) D (TT cI cZ cJ) [.ref mo, .int a0] [(mo, .inr (11, mC th bu pe ep sz nx fr so wr wa as ak ab ar g))] (qI D (TT cI cZ cJ) (fun u : Unit => 0) (fun u : Unit => [(mo, .inr (11, mC 1 bu pe ep sz nx fr so wr wa as ak ab ar g))])) 3 0 0 := by
  refine enterM (by decide) (Nat.le_of_ble_eq_true rfl) ?_
  intro p e s m below meth c ls A C hP hD hS hl
  have hx := C.1
  have hb := C.2.1
  have hl : lv_has ls 7 [(0, .ref mo), (1, .int a0)] := hl
  refine lv_aload_n hx hb dX12_draw_0 rfl (lv_at hl 0 rfl) ?_
  refine call_i (wr := []) C (run_V (As := []) (rest := []) C (m_noPolygon l D cI cZ cJ mo bu pe ep sz nx fr so wr wa as ak ab ar g th ) cV_X12_247 hP hD hS [0] rfl rfl 0 rfl rfl rfl rfl hl.1 rfl (Nat.le_of_ble_eq_true rfl) dX12_draw_1 ⟨Nat.le_of_ble_eq_true rfl, Nat.le_of_ble_eq_true rfl⟩ ⟨Nat.le_of_ble_eq_true rfl, Nat.le_of_ble_eq_true rfl⟩) hP hD hS [0] [] rfl rfl rfl (by decide) (fun u1 H locs hP hD hS => ?_)
  have hP : va_P D CL [(mo, .inr (11, mC 1 bu pe ep sz nx fr so wr wa as ak ab ar g))] H := hP
  have hD : va_D A [(mo, .inr (11, mC 1 bu pe ep sz nx fr so wr wa as ak ab ar g))] := hD
  refine W.widen (k := 0) (n := 0) (Nat.le_of_ble_eq_true rfl) (Nat.le_of_ble_eq_true rfl) ?_
  refine W.eq (g2 := F0 m 4 ls [.int 1]) rfl ?_
  refine lv_if_ne (tgt := 30) hx hb dX12_draw_4 (by decide) (fun _ => ?_) (fun h => absurd h (by decide))
  refine lv_iconst (v := 0) hx hb dX12_draw_30 (by decide) ?_
  exact r_iret C hP hD hS () rfl rfl (Nat.le_of_ble_eq_true rfl) (Nat.le_of_ble_eq_true rfl) dX12_draw_31
set_option maxHeartbeats 4000000 in
set_option maxRecDepth 100000 in
theorem m_addGuard (l : Launch) (D : va_G) (cI cZ cJ : ClassId) (mo : Nat) (bu : Int32) (pe : Int32) (ep : Int32) (sz : Int32) (nx : Int32) (fr : Int32) (so : Int32) (wr : Int32) (wa : Int32) (as : Nat) (ak : Nat) (ab : Nat) (ar : Nat) (g : Nat → Value) (th : Int32) (a0 : Int32) (a1 : Int32)  : cM l yX12_addGuard cX12_addGuard 4 (some .int) D (TT cI cZ cJ) [.ref mo, .int a0, .int a1] [(mo, .inr (11, mC th bu pe ep sz nx fr so wr wa as ak ab ar g))] (qI D (TT cI cZ cJ) (fun u : Unit => 0) (fun u : Unit => [(mo, .inr (11, mC 1 bu pe ep sz nx fr so wr wa as ak ab ar g))])) 3 0 0 := by
  refine enterM (by decide) (Nat.le_of_ble_eq_true rfl) ?_
  intro p e s m below meth c ls A C hP hD hS hl
  have hx := C.1
  have hb := C.2.1
  have hl : lv_has ls 4 [(0, .ref mo), (1, .int a0), (2, .int a1)] := hl
  refine lv_aload_n hx hb dX12_addGuard_0 rfl (lv_at hl 0 rfl) ?_
  refine lv_iload_n hx hb dX12_addGuard_1 rfl (lv_at hl 1 rfl) ?_
  refine call_i (wr := []) C (run_V (As := [.int a0]) (rest := []) C (m_noPoint l D cI cZ cJ mo bu pe ep sz nx fr so wr wa as ak ab ar g th a0 ) cV_X12_254 hP hD hS [0] rfl rfl 0 rfl rfl rfl rfl hl.1 rfl (Nat.le_of_ble_eq_true rfl) dX12_addGuard_2 ⟨Nat.le_of_ble_eq_true rfl, Nat.le_of_ble_eq_true rfl⟩ ⟨Nat.le_of_ble_eq_true rfl, Nat.le_of_ble_eq_true rfl⟩) hP hD hS [0] [] rfl rfl rfl (by decide) (fun u1 H locs hP hD hS => ?_)
  have hP : va_P D CL [(mo, .inr (11, mC 1 bu pe ep sz nx fr so wr wa as ak ab ar g))] H := hP
  have hD : va_D A [(mo, .inr (11, mC 1 bu pe ep sz nx fr so wr wa as ak ab ar g))] := hD
  refine W.widen (k := 0) (n := 0) (Nat.le_of_ble_eq_true rfl) (Nat.le_of_ble_eq_true rfl) ?_
  refine W.eq (g2 := F0 m 5 ls [.int 1]) rfl ?_
  refine lv_if_ne (tgt := 55) hx hb dX12_addGuard_5 (by decide) (fun _ => ?_) (fun h => absurd h (by decide))
  refine lv_iconst (v := 0) hx hb dX12_addGuard_55 (by decide) ?_
  exact r_iret C hP hD hS () rfl rfl (Nat.le_of_ble_eq_true rfl) (Nat.le_of_ble_eq_true rfl) dX12_addGuard_56
set_option maxHeartbeats 4000000 in
set_option maxRecDepth 100000 in
theorem m_removeGuard (l : Launch) (D : va_G) (cI cZ cJ : ClassId) (mo : Nat) (bu : Int32) (pe : Int32) (ep : Int32) (sz : Int32) (nx : Int32) (fr : Int32) (so : Int32) (wr : Int32) (wa : Int32) (as : Nat) (ak : Nat) (ab : Nat) (ar : Nat) (g : Nat → Value) (th : Int32) (a0 : Int32)  : cM l yX12_removeGuard cX12_removeGuard 3 (some .int) D (TT cI cZ cJ) [.ref mo, .int a0] [(mo, .inr (11, mC th bu pe ep sz nx fr so wr wa as ak ab ar g))] (qI D (TT cI cZ cJ) (fun u : Unit => 0) (fun u : Unit => [(mo, .inr (11, mC 1 bu pe ep sz nx fr so wr wa as ak ab ar g))])) 3 0 0 := by
  refine enterM (by decide) (Nat.le_of_ble_eq_true rfl) ?_
  intro p e s m below meth c ls A C hP hD hS hl
  have hx := C.1
  have hb := C.2.1
  have hl : lv_has ls 3 [(0, .ref mo), (1, .int a0)] := hl
  refine lv_aload_n hx hb dX12_removeGuard_0 rfl (lv_at hl 0 rfl) ?_
  refine lv_iload_n hx hb dX12_removeGuard_1 rfl (lv_at hl 1 rfl) ?_
  refine call_i (wr := []) C (run_V (As := [.int a0]) (rest := []) C (m_noGuard l D cI cZ cJ mo bu pe ep sz nx fr so wr wa as ak ab ar g th a0 ) cV_X12_356 hP hD hS [0] rfl rfl 0 rfl rfl rfl rfl hl.1 rfl (Nat.le_of_ble_eq_true rfl) dX12_removeGuard_2 ⟨Nat.le_of_ble_eq_true rfl, Nat.le_of_ble_eq_true rfl⟩ ⟨Nat.le_of_ble_eq_true rfl, Nat.le_of_ble_eq_true rfl⟩) hP hD hS [0] [] rfl rfl rfl (by decide) (fun u1 H locs hP hD hS => ?_)
  have hP : va_P D CL [(mo, .inr (11, mC 1 bu pe ep sz nx fr so wr wa as ak ab ar g))] H := hP
  have hD : va_D A [(mo, .inr (11, mC 1 bu pe ep sz nx fr so wr wa as ak ab ar g))] := hD
  refine W.widen (k := 0) (n := 0) (Nat.le_of_ble_eq_true rfl) (Nat.le_of_ble_eq_true rfl) ?_
  refine W.eq (g2 := F0 m 5 ls [.int 1]) rfl ?_
  refine lv_if_eq (tgt := 10) hx hb dX12_removeGuard_5 (by decide) (fun h => absurd h (by decide)) (fun _ => ?_)
  refine lv_iconst (v := 0) hx hb dX12_removeGuard_8 (by decide) ?_
  exact r_iret C hP hD hS () rfl rfl (Nat.le_of_ble_eq_true rfl) (Nat.le_of_ble_eq_true rfl) dX12_removeGuard_9
set_option maxHeartbeats 4000000 in
set_option maxRecDepth 100000 in
theorem m_moveGuard (l : Launch) (D : va_G) (cI cZ cJ : ClassId) (mo : Nat) (bu : Int32) (pe : Int32) (ep : Int32) (sz : Int32) (nx : Int32) (fr : Int32) (so : Int32) (wr : Int32) (wa : Int32) (as : Nat) (ak : Nat) (ab : Nat) (ar : Nat) (g : Nat → Value) (th : Int32) (a0 : Int32) (a1 : Int32)  : cM l yX12_moveGuard cX12_moveGuard 4 (some .int) D (TT cI cZ cJ) [.ref mo, .int a0, .int a1] [(mo, .inr (11, mC th bu pe ep sz nx fr so wr wa as ak ab ar g))] (qI D (TT cI cZ cJ) (fun u : Unit => 0) (fun u : Unit => [(mo, .inr (11, mC 1 bu pe ep sz nx fr so wr wa as ak ab ar g))])) 3 0 0 := by
  refine enterM (by decide) (Nat.le_of_ble_eq_true rfl) ?_
  intro p e s m below meth c ls A C hP hD hS hl
  have hx := C.1
  have hb := C.2.1
  have hl : lv_has ls 4 [(0, .ref mo), (1, .int a0), (2, .int a1)] := hl
  refine lv_aload_n hx hb dX12_moveGuard_0 rfl (lv_at hl 0 rfl) ?_
  refine lv_iload_n hx hb dX12_moveGuard_1 rfl (lv_at hl 1 rfl) ?_
  refine call_i (wr := []) C (run_V (As := [.int a0]) (rest := []) C (m_noGuard l D cI cZ cJ mo bu pe ep sz nx fr so wr wa as ak ab ar g th a0 ) cV_X12_356 hP hD hS [0] rfl rfl 0 rfl rfl rfl rfl hl.1 rfl (Nat.le_of_ble_eq_true rfl) dX12_moveGuard_2 ⟨Nat.le_of_ble_eq_true rfl, Nat.le_of_ble_eq_true rfl⟩ ⟨Nat.le_of_ble_eq_true rfl, Nat.le_of_ble_eq_true rfl⟩) hP hD hS [0] [] rfl rfl rfl (by decide) (fun u1 H locs hP hD hS => ?_)
  have hP : va_P D CL [(mo, .inr (11, mC 1 bu pe ep sz nx fr so wr wa as ak ab ar g))] H := hP
  have hD : va_D A [(mo, .inr (11, mC 1 bu pe ep sz nx fr so wr wa as ak ab ar g))] := hD
  refine W.widen (k := 0) (n := 0) (Nat.le_of_ble_eq_true rfl) (Nat.le_of_ble_eq_true rfl) ?_
  refine W.eq (g2 := F0 m 5 ls [.int 1]) rfl ?_
  refine lv_if_ne (tgt := 35) hx hb dX12_moveGuard_5 (by decide) (fun _ => ?_) (fun h => absurd h (by decide))
  refine lv_iconst (v := 0) hx hb dX12_moveGuard_35 (by decide) ?_
  exact r_iret C hP hD hS () rfl rfl (Nat.le_of_ble_eq_true rfl) (Nat.le_of_ble_eq_true rfl) dX12_moveGuard_36
set_option maxHeartbeats 4000000 in
set_option maxRecDepth 100000 in
theorem m_setRange (l : Launch) (D : va_G) (cI cZ cJ : ClassId) (mo : Nat) (bu : Int32) (pe : Int32) (ep : Int32) (sz : Int32) (nx : Int32) (fr : Int32) (so : Int32) (wr : Int32) (wa : Int32) (as : Nat) (ak : Nat) (ab : Nat) (ar : Nat) (g : Nat → Value) (th : Int32) (a0 : Int32) (a1 : Int32)  : cM l yX12_setRange cX12_setRange 4 (some .int) D (TT cI cZ cJ) [.ref mo, .int a0, .int a1] [(mo, .inr (11, mC th bu pe ep sz nx fr so wr wa as ak ab ar g))] (qI D (TT cI cZ cJ) (fun u : Unit => 0) (fun u : Unit => [(mo, .inr (11, mC 1 bu pe ep sz nx fr so wr wa as ak ab ar g))])) 3 0 0 := by
  refine enterM (by decide) (Nat.le_of_ble_eq_true rfl) ?_
  intro p e s m below meth c ls A C hP hD hS hl
  have hx := C.1
  have hb := C.2.1
  have hl : lv_has ls 4 [(0, .ref mo), (1, .int a0), (2, .int a1)] := hl
  refine lv_aload_n hx hb dX12_setRange_0 rfl (lv_at hl 0 rfl) ?_
  refine lv_iload_n hx hb dX12_setRange_1 rfl (lv_at hl 1 rfl) ?_
  refine call_i (wr := []) C (run_V (As := [.int a0]) (rest := []) C (m_noGuard l D cI cZ cJ mo bu pe ep sz nx fr so wr wa as ak ab ar g th a0 ) cV_X12_356 hP hD hS [0] rfl rfl 0 rfl rfl rfl rfl hl.1 rfl (Nat.le_of_ble_eq_true rfl) dX12_setRange_2 ⟨Nat.le_of_ble_eq_true rfl, Nat.le_of_ble_eq_true rfl⟩ ⟨Nat.le_of_ble_eq_true rfl, Nat.le_of_ble_eq_true rfl⟩) hP hD hS [0] [] rfl rfl rfl (by decide) (fun u1 H locs hP hD hS => ?_)
  have hP : va_P D CL [(mo, .inr (11, mC 1 bu pe ep sz nx fr so wr wa as ak ab ar g))] H := hP
  have hD : va_D A [(mo, .inr (11, mC 1 bu pe ep sz nx fr so wr wa as ak ab ar g))] := hD
  refine W.widen (k := 0) (n := 0) (Nat.le_of_ble_eq_true rfl) (Nat.le_of_ble_eq_true rfl) ?_
  refine W.eq (g2 := F0 m 5 ls [.int 1]) rfl ?_
  refine lv_if_ne (tgt := 31) hx hb dX12_setRange_5 (by decide) (fun _ => ?_) (fun h => absurd h (by decide))
  refine lv_iconst (v := 0) hx hb dX12_setRange_31 (by decide) ?_
  exact r_iret C hP hD hS () rfl rfl (Nat.le_of_ble_eq_true rfl) (Nat.le_of_ble_eq_true rfl) dX12_setRange_32
set_option maxHeartbeats 4000000 in
set_option maxRecDepth 100000 in
theorem m_moveVertex (l : Launch) (D : va_G) (cI cZ cJ : ClassId) (mo : Nat) (bu : Int32) (pe : Int32) (ep : Int32) (sz : Int32) (nx : Int32) (fr : Int32) (so : Int32) (wr : Int32) (wa : Int32) (as : Nat) (ak : Nat) (ab : Nat) (ar : Nat) (g : Nat → Value) (th : Int32) (a0 : Int32) (a1 : Int32) (a2 : Int32)  : cM l yX12_moveVertex cX12_moveVertex 4 (some .int) D (TT cI cZ cJ) [.ref mo, .int a0, .int a1, .int a2] [(mo, .inr (11, mC th bu pe ep sz nx fr so wr wa as ak ab ar g))] (qI D (TT cI cZ cJ) (fun u : Unit => 0) (fun u : Unit => [(mo, .inr (11, mC 1 bu pe ep sz nx fr so wr wa as ak ab ar g))])) 3 0 0 := by
  refine enterM (by decide) (Nat.le_of_ble_eq_true rfl) ?_
  intro p e s m below meth c ls A C hP hD hS hl
  have hx := C.1
  have hb := C.2.1
  have hl : lv_has ls 4 [(0, .ref mo), (1, .int a0), (2, .int a1), (3, .int a2)] := hl
  refine lv_aload_n hx hb dX12_moveVertex_0 rfl (lv_at hl 0 rfl) ?_
  refine lv_iload_n hx hb dX12_moveVertex_1 rfl (lv_at hl 1 rfl) ?_
  refine call_i (wr := []) C (run_V (As := [.int a0]) (rest := []) C (m_noVertex l D cI cZ cJ mo bu pe ep sz nx fr so wr wa as ak ab ar g th a0 ) cV_X12_251 hP hD hS [0] rfl rfl 0 rfl rfl rfl rfl hl.1 rfl (Nat.le_of_ble_eq_true rfl) dX12_moveVertex_2 ⟨Nat.le_of_ble_eq_true rfl, Nat.le_of_ble_eq_true rfl⟩ ⟨Nat.le_of_ble_eq_true rfl, Nat.le_of_ble_eq_true rfl⟩) hP hD hS [0] [] rfl rfl rfl (by decide) (fun u1 H locs hP hD hS => ?_)
  have hP : va_P D CL [(mo, .inr (11, mC 1 bu pe ep sz nx fr so wr wa as ak ab ar g))] H := hP
  have hD : va_D A [(mo, .inr (11, mC 1 bu pe ep sz nx fr so wr wa as ak ab ar g))] := hD
  refine W.widen (k := 0) (n := 0) (Nat.le_of_ble_eq_true rfl) (Nat.le_of_ble_eq_true rfl) ?_
  refine W.eq (g2 := F0 m 5 ls [.int 1]) rfl ?_
  refine lv_if_ne (tgt := 22) hx hb dX12_moveVertex_5 (by decide) (fun _ => ?_) (fun h => absurd h (by decide))
  refine lv_iconst (v := 0) hx hb dX12_moveVertex_22 (by decide) ?_
  exact r_iret C hP hD hS () rfl rfl (Nat.le_of_ble_eq_true rfl) (Nat.le_of_ble_eq_true rfl) dX12_moveVertex_23
set_option maxHeartbeats 4000000 in
set_option maxRecDepth 100000 in
theorem m_insertVertex (l : Launch) (D : va_G) (cI cZ cJ : ClassId) (mo : Nat) (bu : Int32) (pe : Int32) (ep : Int32) (sz : Int32) (nx : Int32) (fr : Int32) (so : Int32) (wr : Int32) (wa : Int32) (as : Nat) (ak : Nat) (ab : Nat) (ar : Nat) (g : Nat → Value) (th : Int32) (a0 : Int32) (a1 : Int32) (a2 : Int32)  : cM l yX12_insertVertex cX12_insertVertex 5 (some .int) D (TT cI cZ cJ) [.ref mo, .int a0, .int a1, .int a2] [(mo, .inr (11, mC th bu pe ep sz nx fr so wr wa as ak ab ar g))] (qI D (TT cI cZ cJ) (fun u : Unit => 0) (fun u : Unit => [(mo, .inr (11, mC 1 bu pe ep sz nx fr so wr wa as ak ab ar g))])) 3 0 0 := by
  refine enterM (by decide) (Nat.le_of_ble_eq_true rfl) ?_
  intro p e s m below meth c ls A C hP hD hS hl
  have hx := C.1
  have hb := C.2.1
  have hl : lv_has ls 5 [(0, .ref mo), (1, .int a0), (2, .int a1), (3, .int a2)] := hl
  refine lv_aload_n hx hb dX12_insertVertex_0 rfl (lv_at hl 0 rfl) ?_
  refine lv_iload_n hx hb dX12_insertVertex_1 rfl (lv_at hl 1 rfl) ?_
  refine call_i (wr := []) C (run_V (As := [.int a0]) (rest := []) C (m_noVertex l D cI cZ cJ mo bu pe ep sz nx fr so wr wa as ak ab ar g th a0 ) cV_X12_251 hP hD hS [0] rfl rfl 0 rfl rfl rfl rfl hl.1 rfl (Nat.le_of_ble_eq_true rfl) dX12_insertVertex_2 ⟨Nat.le_of_ble_eq_true rfl, Nat.le_of_ble_eq_true rfl⟩ ⟨Nat.le_of_ble_eq_true rfl, Nat.le_of_ble_eq_true rfl⟩) hP hD hS [0] [] rfl rfl rfl (by decide) (fun u1 H locs hP hD hS => ?_)
  have hP : va_P D CL [(mo, .inr (11, mC 1 bu pe ep sz nx fr so wr wa as ak ab ar g))] H := hP
  have hD : va_D A [(mo, .inr (11, mC 1 bu pe ep sz nx fr so wr wa as ak ab ar g))] := hD
  refine W.widen (k := 0) (n := 0) (Nat.le_of_ble_eq_true rfl) (Nat.le_of_ble_eq_true rfl) ?_
  refine W.eq (g2 := F0 m 5 ls [.int 1]) rfl ?_
  refine lv_if_ne (tgt := 41) hx hb dX12_insertVertex_5 (by decide) (fun _ => ?_) (fun h => absurd h (by decide))
  refine lv_iconst (v := 0) hx hb dX12_insertVertex_41 (by decide) ?_
  exact r_iret C hP hD hS () rfl rfl (Nat.le_of_ble_eq_true rfl) (Nat.le_of_ble_eq_true rfl) dX12_insertVertex_42
set_option maxHeartbeats 4000000 in
set_option maxRecDepth 100000 in
theorem m_deleteVertex (l : Launch) (D : va_G) (cI cZ cJ : ClassId) (mo : Nat) (bu : Int32) (pe : Int32) (ep : Int32) (sz : Int32) (nx : Int32) (fr : Int32) (so : Int32) (wr : Int32) (wa : Int32) (as : Nat) (ak : Nat) (ab : Nat) (ar : Nat) (g : Nat → Value) (th : Int32) (a0 : Int32)  : cM l yX12_deleteVertex cX12_deleteVertex 3 (some .int) D (TT cI cZ cJ) [.ref mo, .int a0] [(mo, .inr (11, mC th bu pe ep sz nx fr so wr wa as ak ab ar g))] (qI D (TT cI cZ cJ) (fun u : Unit => 0) (fun u : Unit => [(mo, .inr (11, mC 1 bu pe ep sz nx fr so wr wa as ak ab ar g))])) 3 0 0 := by
  refine enterM (by decide) (Nat.le_of_ble_eq_true rfl) ?_
  intro p e s m below meth c ls A C hP hD hS hl
  have hx := C.1
  have hb := C.2.1
  have hl : lv_has ls 3 [(0, .ref mo), (1, .int a0)] := hl
  refine lv_aload_n hx hb dX12_deleteVertex_0 rfl (lv_at hl 0 rfl) ?_
  refine lv_iload_n hx hb dX12_deleteVertex_1 rfl (lv_at hl 1 rfl) ?_
  refine call_i (wr := []) C (run_V (As := [.int a0]) (rest := []) C (m_noVertex l D cI cZ cJ mo bu pe ep sz nx fr so wr wa as ak ab ar g th a0 ) cV_X12_251 hP hD hS [0] rfl rfl 0 rfl rfl rfl rfl hl.1 rfl (Nat.le_of_ble_eq_true rfl) dX12_deleteVertex_2 ⟨Nat.le_of_ble_eq_true rfl, Nat.le_of_ble_eq_true rfl⟩ ⟨Nat.le_of_ble_eq_true rfl, Nat.le_of_ble_eq_true rfl⟩) hP hD hS [0] [] rfl rfl rfl (by decide) (fun u1 H locs hP hD hS => ?_)
  have hP : va_P D CL [(mo, .inr (11, mC 1 bu pe ep sz nx fr so wr wa as ak ab ar g))] H := hP
  have hD : va_D A [(mo, .inr (11, mC 1 bu pe ep sz nx fr so wr wa as ak ab ar g))] := hD
  refine W.widen (k := 0) (n := 0) (Nat.le_of_ble_eq_true rfl) (Nat.le_of_ble_eq_true rfl) ?_
  refine W.eq (g2 := F0 m 5 ls [.int 1]) rfl ?_
  refine lv_if_ne (tgt := 31) hx hb dX12_deleteVertex_5 (by decide) (fun _ => ?_) (fun h => absurd h (by decide))
  refine lv_iconst (v := 0) hx hb dX12_deleteVertex_31 (by decide) ?_
  exact r_iret C hP hD hS () rfl rfl (Nat.le_of_ble_eq_true rfl) (Nat.le_of_ble_eq_true rfl) dX12_deleteVertex_32
set_option maxHeartbeats 4000000 in
set_option maxRecDepth 100000 in
theorem m_save (l : Launch) (D : va_G) (cI cZ cJ : ClassId) (mo : Nat) (bu : Int32) (pe : Int32) (ep : Int32) (sz : Int32) (nx : Int32) (fr : Int32) (so : Int32) (wr : Int32) (wa : Int32) (as : Nat) (ak : Nat) (ab : Nat) (ar : Nat) (g : Nat → Value) (th : Int32) (a0 : Int32)  : cM l yX12_save cX12_save 2 (some .int) D (TT cI cZ cJ) [.ref mo, .int a0] [(mo, .inr (11, mC th bu pe ep sz nx fr so wr wa as ak ab ar g))] (qI D (TT cI cZ cJ) (fun u : Unit => 0) (fun u : Unit => [(mo, .inr (11, mC 1 bu pe ep sz nx fr so wr wa as ak ab ar g))])) 3 0 0 := by
  refine enterM (by decide) (Nat.le_of_ble_eq_true rfl) ?_
  intro p e s m below meth c ls A C hP hD hS hl
  have hx := C.1
  have hb := C.2.1
  have hl : lv_has ls 2 [(0, .ref mo), (1, .int a0)] := hl
  refine lv_aload_n hx hb dX12_save_0 rfl (lv_at hl 0 rfl) ?_
  refine call_i (wr := []) C (run_V (As := []) (rest := []) C (m_noPolygon l D cI cZ cJ mo bu pe ep sz nx fr so wr wa as ak ab ar g th ) cV_X12_247 hP hD hS [0] rfl rfl 0 rfl rfl rfl rfl hl.1 rfl (Nat.le_of_ble_eq_true rfl) dX12_save_1 ⟨Nat.le_of_ble_eq_true rfl, Nat.le_of_ble_eq_true rfl⟩ ⟨Nat.le_of_ble_eq_true rfl, Nat.le_of_ble_eq_true rfl⟩) hP hD hS [0] [] rfl rfl rfl (by decide) (fun u1 H locs hP hD hS => ?_)
  have hP : va_P D CL [(mo, .inr (11, mC 1 bu pe ep sz nx fr so wr wa as ak ab ar g))] H := hP
  have hD : va_D A [(mo, .inr (11, mC 1 bu pe ep sz nx fr so wr wa as ak ab ar g))] := hD
  refine W.widen (k := 0) (n := 0) (Nat.le_of_ble_eq_true rfl) (Nat.le_of_ble_eq_true rfl) ?_
  refine W.eq (g2 := F0 m 4 ls [.int 1]) rfl ?_
  refine lv_if_ne (tgt := 29) hx hb dX12_save_4 (by decide) (fun _ => ?_) (fun h => absurd h (by decide))
  refine lv_iconst (v := 0) hx hb dX12_save_29 (by decide) ?_
  exact r_iret C hP hD hS () rfl rfl (Nat.le_of_ble_eq_true rfl) (Nat.le_of_ble_eq_true rfl) dX12_save_30
set_option maxHeartbeats 4000000 in
set_option maxRecDepth 100000 in
theorem m_parseError (l : Launch) (D : va_G) (cI cZ cJ : ClassId) (mo : Nat) (bu : Int32) (pe : Int32) (ep : Int32) (sz : Int32) (nx : Int32) (fr : Int32) (so : Int32) (wr : Int32) (wa : Int32) (as : Nat) (ak : Nat) (ab : Nat) (ar : Nat) (g : Nat → Value) (th : Int32)  : cM l yX12_parseError cX12_parseError 1 (some .int) D (TT cI cZ cJ) [.ref mo] [(mo, .inr (11, mC th bu pe ep sz nx fr so wr wa as ak ab ar g))] (qI D (TT cI cZ cJ) (fun u : Unit => pe) (fun u : Unit => [(mo, .inr (11, mC 0 bu pe ep sz nx fr so wr wa as ak ab ar g))])) 0 0 0 := by
  refine enterM (by decide) (Nat.le_of_ble_eq_true rfl) ?_
  intro p e s m below meth c ls A C hP hD hS hl
  have hx := C.1
  have hb := C.2.1
  have hl : lv_has ls 1 [(0, .ref mo)] := hl
  refine lv_aload_n hx hb dX12_parseError_0 rfl (lv_at hl 0 rfl) ?_
  refine lv_iconst (v := 0) hx hb dX12_parseError_1 (by decide) ?_
  refine r_put C hP hD hS 0 rfl fg_X12_79 rfl rfl (Nat.le_of_ble_eq_true rfl) dX12_parseError_2 [(mo, .inr (11, mC 0 bu pe ep sz nx fr so wr wa as ak ab ar g))] rfl (fun H locs hP hD hS => ?_)
  refine lv_aload_n hx hb dX12_parseError_5 rfl (lv_at hl 0 rfl) ?_
  refine r_get (v := .int pe) C hP 0 rfl fg_X12_93 rfl dX12_parseError_6 ?_
  exact r_iret C hP hD hS () rfl rfl (Nat.le_of_ble_eq_true rfl) (Nat.le_of_ble_eq_true rfl) dX12_parseError_9
set_option maxHeartbeats 4000000 in
set_option maxRecDepth 100000 in
theorem m_errorPosition (l : Launch) (D : va_G) (cI cZ cJ : ClassId) (mo : Nat) (bu : Int32) (pe : Int32) (ep : Int32) (sz : Int32) (nx : Int32) (fr : Int32) (so : Int32) (wr : Int32) (wa : Int32) (as : Nat) (ak : Nat) (ab : Nat) (ar : Nat) (g : Nat → Value) (th : Int32)  : cM l yX12_errorPosition cX12_errorPosition 1 (some .int) D (TT cI cZ cJ) [.ref mo] [(mo, .inr (11, mC th bu pe ep sz nx fr so wr wa as ak ab ar g))] (qI D (TT cI cZ cJ) (fun u : Unit => ep) (fun u : Unit => [(mo, .inr (11, mC 0 bu pe ep sz nx fr so wr wa as ak ab ar g))])) 0 0 0 := by
  refine enterM (by decide) (Nat.le_of_ble_eq_true rfl) ?_
  intro p e s m below meth c ls A C hP hD hS hl
  have hx := C.1
  have hb := C.2.1
  have hl : lv_has ls 1 [(0, .ref mo)] := hl
  refine lv_aload_n hx hb dX12_errorPosition_0 rfl (lv_at hl 0 rfl) ?_
  refine lv_iconst (v := 0) hx hb dX12_errorPosition_1 (by decide) ?_
  refine r_put C hP hD hS 0 rfl fg_X12_79 rfl rfl (Nat.le_of_ble_eq_true rfl) dX12_errorPosition_2 [(mo, .inr (11, mC 0 bu pe ep sz nx fr so wr wa as ak ab ar g))] rfl (fun H locs hP hD hS => ?_)
  refine lv_aload_n hx hb dX12_errorPosition_5 rfl (lv_at hl 0 rfl) ?_
  refine r_get (v := .int ep) C hP 0 rfl fg_X12_23 rfl dX12_errorPosition_6 ?_
  exact r_iret C hP hD hS () rfl rfl (Nat.le_of_ble_eq_true rfl) (Nat.le_of_ble_eq_true rfl) dX12_errorPosition_9
set_option maxHeartbeats 4000000 in
set_option maxRecDepth 100000 in
theorem m_buffered (l : Launch) (D : va_G) (cI cZ cJ : ClassId) (mo : Nat) (bu : Int32) (pe : Int32) (ep : Int32) (sz : Int32) (nx : Int32) (fr : Int32) (so : Int32) (wr : Int32) (wa : Int32) (as : Nat) (ak : Nat) (ab : Nat) (ar : Nat) (g : Nat → Value) (th : Int32)  : cM l yX12_buffered cX12_buffered 1 (some .int) D (TT cI cZ cJ) [.ref mo] [(mo, .inr (11, mC th bu pe ep sz nx fr so wr wa as ak ab ar g))] (qI D (TT cI cZ cJ) (fun u : Unit => bu) (fun u : Unit => [(mo, .inr (11, mC 0 bu pe ep sz nx fr so wr wa as ak ab ar g))])) 0 0 0 := by
  refine enterM (by decide) (Nat.le_of_ble_eq_true rfl) ?_
  intro p e s m below meth c ls A C hP hD hS hl
  have hx := C.1
  have hb := C.2.1
  have hl : lv_has ls 1 [(0, .ref mo)] := hl
  refine lv_aload_n hx hb dX12_buffered_0 rfl (lv_at hl 0 rfl) ?_
  refine lv_iconst (v := 0) hx hb dX12_buffered_1 (by decide) ?_
  refine r_put C hP hD hS 0 rfl fg_X12_79 rfl rfl (Nat.le_of_ble_eq_true rfl) dX12_buffered_2 [(mo, .inr (11, mC 0 bu pe ep sz nx fr so wr wa as ak ab ar g))] rfl (fun H locs hP hD hS => ?_)
  refine lv_aload_n hx hb dX12_buffered_5 rfl (lv_at hl 0 rfl) ?_
  refine r_get (v := .int bu) C hP 0 rfl fg_X12_90 rfl dX12_buffered_6 ?_
  exact r_iret C hP hD hS () rfl rfl (Nat.le_of_ble_eq_true rfl) (Nat.le_of_ble_eq_true rfl) dX12_buffered_9
set_option maxHeartbeats 4000000 in
set_option maxRecDepth 100000 in
theorem m_thrown (l : Launch) (D : va_G) (cI cZ cJ : ClassId) (mo : Nat) (bu : Int32) (pe : Int32) (ep : Int32) (sz : Int32) (nx : Int32) (fr : Int32) (so : Int32) (wr : Int32) (wa : Int32) (as : Nat) (ak : Nat) (ab : Nat) (ar : Nat) (g : Nat → Value) (th : Int32)  : cM l yX12_thrown cX12_thrown 1 (some .int) D (TT cI cZ cJ) [.ref mo] [(mo, .inr (11, mC th bu pe ep sz nx fr so wr wa as ak ab ar g))] (qI D (TT cI cZ cJ) (fun u : Unit => th) (fun u : Unit => [(mo, .inr (11, mC th bu pe ep sz nx fr so wr wa as ak ab ar g))])) 0 0 0 := by
  refine enterM (by decide) (Nat.le_of_ble_eq_true rfl) ?_
  intro p e s m below meth c ls A C hP hD hS hl
  have hx := C.1
  have hb := C.2.1
  have hl : lv_has ls 1 [(0, .ref mo)] := hl
  refine lv_aload_n hx hb dX12_thrown_0 rfl (lv_at hl 0 rfl) ?_
  refine r_get (v := .int th) C hP 0 rfl fg_X12_79 rfl dX12_thrown_1 ?_
  exact r_iret C hP hD hS () rfl rfl (Nat.le_of_ble_eq_true rfl) (Nat.le_of_ble_eq_true rfl) dX12_thrown_4
set_option maxHeartbeats 4000000 in
set_option maxRecDepth 100000 in
theorem m_points (l : Launch) (D : va_G) (cI cZ cJ : ClassId) (mo : Nat) (bu : Int32) (pe : Int32) (ep : Int32) (sz : Int32) (nx : Int32) (fr : Int32) (so : Int32) (wr : Int32) (wa : Int32) (as : Nat) (ak : Nat) (ab : Nat) (ar : Nat) (g : Nat → Value) (th : Int32)  : cM l yX12_points cX12_points 1 (some .int) D (TT cI cZ cJ) [.ref mo] [(mo, .inr (11, mC th bu pe ep sz nx fr so wr wa as ak ab ar g))] (qI D (TT cI cZ cJ) (fun u : Unit => 0) (fun u : Unit => [(mo, .inr (11, mC 0 bu pe ep sz nx fr so wr wa as ak ab ar g))])) 1 0 0 := by
  refine enterM (by decide) (Nat.le_of_ble_eq_true rfl) ?_
  intro p e s m below meth c ls A C hP hD hS hl
  have hx := C.1
  have hb := C.2.1
  have hl : lv_has ls 1 [(0, .ref mo)] := hl
  refine lv_aload_n hx hb dX12_points_0 rfl (lv_at hl 0 rfl) ?_
  refine lv_aload_n hx hb dX12_points_1 rfl (lv_at hl 0 rfl) ?_
  refine r_get (v := .int 0) C hP 0 rfl fg_X12_201 rfl dX12_points_2 ?_
  refine call_i (wr := []) C (run_V (As := [.int 0]) (rest := []) C (m_told l D cI cZ cJ mo bu pe ep sz nx fr so wr wa as ak ab ar g th 0 ) cV_X12_244 hP hD hS [0] rfl rfl 0 rfl rfl rfl rfl hl.1 rfl (Nat.le_of_ble_eq_true rfl) dX12_points_5 ⟨Nat.le_of_ble_eq_true rfl, Nat.le_of_ble_eq_true rfl⟩ ⟨Nat.le_of_ble_eq_true rfl, Nat.le_of_ble_eq_true rfl⟩) hP hD hS [0] [] rfl rfl rfl (by decide) (fun u1 H locs hP hD hS => ?_)
  have hP : va_P D CL [(mo, .inr (11, mC 0 bu pe ep sz nx fr so wr wa as ak ab ar g))] H := hP
  have hD : va_D A [(mo, .inr (11, mC 0 bu pe ep sz nx fr so wr wa as ak ab ar g))] := hD
  refine W.widen (k := 0) (n := 0) (Nat.le_of_ble_eq_true rfl) (Nat.le_of_ble_eq_true rfl) ?_
  refine W.eq (g2 := F0 m 8 ls [.int 0]) rfl ?_
  exact r_iret C hP hD hS () rfl rfl (Nat.le_of_ble_eq_true rfl) (Nat.le_of_ble_eq_true rfl) dX12_points_8
set_option maxHeartbeats 4000000 in
set_option maxRecDepth 100000 in
theorem m_undoable (l : Launch) (D : va_G) (cI cZ cJ : ClassId) (mo : Nat) (bu : Int32) (pe : Int32) (ep : Int32) (sz : Int32) (nx : Int32) (fr : Int32) (so : Int32) (wr : Int32) (wa : Int32) (as : Nat) (ak : Nat) (ab : Nat) (ar : Nat) (g : Nat → Value) (th : Int32)  : cM l yX12_undoable cX12_undoable 1 (some .int) D (TT cI cZ cJ) [.ref mo] [(mo, .inr (11, mC th bu pe ep sz nx fr so wr wa as ak ab ar g))] (qI D (TT cI cZ cJ) (fun u : Unit => 0) (fun u : Unit => [(mo, .inr (11, mC 0 bu pe ep sz nx fr so wr wa as ak ab ar g))])) 1 0 0 := by
  refine enterM (by decide) (Nat.le_of_ble_eq_true rfl) ?_
  intro p e s m below meth c ls A C hP hD hS hl
  have hx := C.1
  have hb := C.2.1
  have hl : lv_has ls 1 [(0, .ref mo)] := hl
  refine lv_aload_n hx hb dX12_undoable_0 rfl (lv_at hl 0 rfl) ?_
  refine lv_aload_n hx hb dX12_undoable_1 rfl (lv_at hl 0 rfl) ?_
  refine r_get (v := .int 0) C hP 0 rfl fg_X12_192 rfl dX12_undoable_2 ?_
  refine call_i (wr := []) C (run_V (As := [.int 0]) (rest := []) C (m_told l D cI cZ cJ mo bu pe ep sz nx fr so wr wa as ak ab ar g th 0 ) cV_X12_244 hP hD hS [0] rfl rfl 0 rfl rfl rfl rfl hl.1 rfl (Nat.le_of_ble_eq_true rfl) dX12_undoable_5 ⟨Nat.le_of_ble_eq_true rfl, Nat.le_of_ble_eq_true rfl⟩ ⟨Nat.le_of_ble_eq_true rfl, Nat.le_of_ble_eq_true rfl⟩) hP hD hS [0] [] rfl rfl rfl (by decide) (fun u1 H locs hP hD hS => ?_)
  have hP : va_P D CL [(mo, .inr (11, mC 0 bu pe ep sz nx fr so wr wa as ak ab ar g))] H := hP
  have hD : va_D A [(mo, .inr (11, mC 0 bu pe ep sz nx fr so wr wa as ak ab ar g))] := hD
  refine W.widen (k := 0) (n := 0) (Nat.le_of_ble_eq_true rfl) (Nat.le_of_ble_eq_true rfl) ?_
  refine W.eq (g2 := F0 m 8 ls [.int 0]) rfl ?_
  exact r_iret C hP hD hS () rfl rfl (Nat.le_of_ble_eq_true rfl) (Nat.le_of_ble_eq_true rfl) dX12_undoable_8
set_option maxHeartbeats 4000000 in
set_option maxRecDepth 100000 in
theorem m_vertices (l : Launch) (D : va_G) (cI cZ cJ : ClassId) (mo : Nat) (bu : Int32) (pe : Int32) (ep : Int32) (sz : Int32) (nx : Int32) (fr : Int32) (so : Int32) (wr : Int32) (wa : Int32) (as : Nat) (ak : Nat) (ab : Nat) (ar : Nat) (g : Nat → Value) (th : Int32) (fs : Nat → Int32)  : cM l yX12_vertices cX12_vertices 1 (some .int) D (TT cI cZ cJ) [.ref mo] [(mo, .inr (11, mC th bu pe ep sz nx fr so wr wa as ak ab ar g)), (as, .inl (cI, 63, .inl fs))] (qI D (TT cI cZ cJ) (fun u : Unit => 0) (fun u : Unit => [(as, .inl (cI, 63, .inl fs)), (mo, .inr (11, mC 0 bu pe ep sz nx fr so wr wa as ak ab ar g))])) 1 0 0 := by
  refine enterM (by decide) (Nat.le_of_ble_eq_true rfl) ?_
  intro p e s m below meth c ls A C hP hD hS hl
  have hx := C.1
  have hb := C.2.1
  have hl : lv_has ls 1 [(0, .ref mo)] := hl
  refine lv_aload_n hx hb dX12_vertices_0 rfl (lv_at hl 0 rfl) ?_
  refine lv_aload_n hx hb dX12_vertices_1 rfl (lv_at hl 0 rfl) ?_
  refine r_get (v := .ref as) C hP 0 rfl fg_X12_7 rfl dX12_vertices_2 ?_
  refine lv_iconst (v := 0) hx hb dX12_vertices_5 (by decide) ?_
  refine va_iald hx hb C.2.2.2.2.2.1 hP 1 0 rfl rfl (by unfold vp_in; decide) dX12_vertices_6 ?_
  refine lv_topi (fun x1 ex1 => ?_)
  refine call_i (wr := [(as, .inl (cI, 63, .inl fs))]) C (run_V (As := [.int x1]) (rest := []) C (m_told l D cI cZ cJ mo bu pe ep sz nx fr so wr wa as ak ab ar g th x1 ) cV_X12_244 hP hD hS [0] rfl rfl 0 rfl rfl rfl rfl hl.1 rfl (Nat.le_of_ble_eq_true rfl) dX12_vertices_7 ⟨Nat.le_of_ble_eq_true rfl, Nat.le_of_ble_eq_true rfl⟩ ⟨Nat.le_of_ble_eq_true rfl, Nat.le_of_ble_eq_true rfl⟩) hP hD hS [0] [1] rfl rfl rfl (by decide) (fun u2 H locs hP hD hS => ?_)
  have hP : va_P D CL [(as, .inl (cI, 63, .inl fs)), (mo, .inr (11, mC 0 bu pe ep sz nx fr so wr wa as ak ab ar g))] H := hP
  have hD : va_D A [(as, .inl (cI, 63, .inl fs)), (mo, .inr (11, mC 0 bu pe ep sz nx fr so wr wa as ak ab ar g))] := hD
  refine W.widen (k := 0) (n := 0) (Nat.le_of_ble_eq_true rfl) (Nat.le_of_ble_eq_true rfl) ?_
  refine W.eq (g2 := F0 m 10 ls [.int 0]) rfl ?_
  exact r_iret C hP hD hS () rfl rfl (Nat.le_of_ble_eq_true rfl) (Nat.le_of_ble_eq_true rfl) dX12_vertices_10
set_option maxHeartbeats 4000000 in
set_option maxRecDepth 100000 in
theorem m_guards (l : Launch) (D : va_G) (cI cZ cJ : ClassId) (mo : Nat) (bu : Int32) (pe : Int32) (ep : Int32) (sz : Int32) (nx : Int32) (fr : Int32) (so : Int32) (wr : Int32) (wa : Int32) (as : Nat) (ak : Nat) (ab : Nat) (ar : Nat) (g : Nat → Value) (th : Int32) (fs : Nat → Int32)  : cM l yX12_guards cX12_guards 1 (some .int) D (TT cI cZ cJ) [.ref mo] [(mo, .inr (11, mC th bu pe ep sz nx fr so wr wa as ak ab ar g)), (as, .inl (cI, 63, .inl fs))] (qI D (TT cI cZ cJ) (fun u : Unit => 0) (fun u : Unit => [(as, .inl (cI, 63, .inl fs)), (mo, .inr (11, mC 0 bu pe ep sz nx fr so wr wa as ak ab ar g))])) 1 0 0 := by
  refine enterM (by decide) (Nat.le_of_ble_eq_true rfl) ?_
  intro p e s m below meth c ls A C hP hD hS hl
  have hx := C.1
  have hb := C.2.1
  have hl : lv_has ls 1 [(0, .ref mo)] := hl
  refine lv_aload_n hx hb dX12_guards_0 rfl (lv_at hl 0 rfl) ?_
  refine lv_aload_n hx hb dX12_guards_1 rfl (lv_at hl 0 rfl) ?_
  refine r_get (v := .ref as) C hP 0 rfl fg_X12_7 rfl dX12_guards_2 ?_
  refine lv_iconst (v := 1) hx hb dX12_guards_5 (by decide) ?_
  refine va_iald hx hb C.2.2.2.2.2.1 hP 1 0 rfl rfl (by unfold vp_in; decide) dX12_guards_6 ?_
  refine lv_topi (fun x1 ex1 => ?_)
  refine call_i (wr := [(as, .inl (cI, 63, .inl fs))]) C (run_V (As := [.int x1]) (rest := []) C (m_told l D cI cZ cJ mo bu pe ep sz nx fr so wr wa as ak ab ar g th x1 ) cV_X12_244 hP hD hS [0] rfl rfl 0 rfl rfl rfl rfl hl.1 rfl (Nat.le_of_ble_eq_true rfl) dX12_guards_7 ⟨Nat.le_of_ble_eq_true rfl, Nat.le_of_ble_eq_true rfl⟩ ⟨Nat.le_of_ble_eq_true rfl, Nat.le_of_ble_eq_true rfl⟩) hP hD hS [0] [1] rfl rfl rfl (by decide) (fun u2 H locs hP hD hS => ?_)
  have hP : va_P D CL [(as, .inl (cI, 63, .inl fs)), (mo, .inr (11, mC 0 bu pe ep sz nx fr so wr wa as ak ab ar g))] H := hP
  have hD : va_D A [(as, .inl (cI, 63, .inl fs)), (mo, .inr (11, mC 0 bu pe ep sz nx fr so wr wa as ak ab ar g))] := hD
  refine W.widen (k := 0) (n := 0) (Nat.le_of_ble_eq_true rfl) (Nat.le_of_ble_eq_true rfl) ?_
  refine W.eq (g2 := F0 m 10 ls [.int 0]) rfl ?_
  exact r_iret C hP hD hS () rfl rfl (Nat.le_of_ble_eq_true rfl) (Nat.le_of_ble_eq_true rfl) dX12_guards_10
set_option maxHeartbeats 4000000 in
set_option maxRecDepth 100000 in
theorem m_treasures (l : Launch) (D : va_G) (cI cZ cJ : ClassId) (mo : Nat) (bu : Int32) (pe : Int32) (ep : Int32) (sz : Int32) (nx : Int32) (fr : Int32) (so : Int32) (wr : Int32) (wa : Int32) (as : Nat) (ak : Nat) (ab : Nat) (ar : Nat) (g : Nat → Value) (th : Int32) (fs : Nat → Int32)  : cM l yX12_treasures cX12_treasures 1 (some .int) D (TT cI cZ cJ) [.ref mo] [(mo, .inr (11, mC th bu pe ep sz nx fr so wr wa as ak ab ar g)), (as, .inl (cI, 63, .inl fs))] (qI D (TT cI cZ cJ) (fun u : Unit => 0) (fun u : Unit => [(as, .inl (cI, 63, .inl fs)), (mo, .inr (11, mC 0 bu pe ep sz nx fr so wr wa as ak ab ar g))])) 1 0 0 := by
  refine enterM (by decide) (Nat.le_of_ble_eq_true rfl) ?_
  intro p e s m below meth c ls A C hP hD hS hl
  have hx := C.1
  have hb := C.2.1
  have hl : lv_has ls 1 [(0, .ref mo)] := hl
  refine lv_aload_n hx hb dX12_treasures_0 rfl (lv_at hl 0 rfl) ?_
  refine lv_aload_n hx hb dX12_treasures_1 rfl (lv_at hl 0 rfl) ?_
  refine r_get (v := .ref as) C hP 0 rfl fg_X12_7 rfl dX12_treasures_2 ?_
  refine lv_iconst (v := 2) hx hb dX12_treasures_5 (by decide) ?_
  refine va_iald hx hb C.2.2.2.2.2.1 hP 1 0 rfl rfl (by unfold vp_in; decide) dX12_treasures_6 ?_
  refine lv_topi (fun x1 ex1 => ?_)
  refine call_i (wr := [(as, .inl (cI, 63, .inl fs))]) C (run_V (As := [.int x1]) (rest := []) C (m_told l D cI cZ cJ mo bu pe ep sz nx fr so wr wa as ak ab ar g th x1 ) cV_X12_244 hP hD hS [0] rfl rfl 0 rfl rfl rfl rfl hl.1 rfl (Nat.le_of_ble_eq_true rfl) dX12_treasures_7 ⟨Nat.le_of_ble_eq_true rfl, Nat.le_of_ble_eq_true rfl⟩ ⟨Nat.le_of_ble_eq_true rfl, Nat.le_of_ble_eq_true rfl⟩) hP hD hS [0] [1] rfl rfl rfl (by decide) (fun u2 H locs hP hD hS => ?_)
  have hP : va_P D CL [(as, .inl (cI, 63, .inl fs)), (mo, .inr (11, mC 0 bu pe ep sz nx fr so wr wa as ak ab ar g))] H := hP
  have hD : va_D A [(as, .inl (cI, 63, .inl fs)), (mo, .inr (11, mC 0 bu pe ep sz nx fr so wr wa as ak ab ar g))] := hD
  refine W.widen (k := 0) (n := 0) (Nat.le_of_ble_eq_true rfl) (Nat.le_of_ble_eq_true rfl) ?_
  refine W.eq (g2 := F0 m 10 ls [.int 0]) rfl ?_
  exact r_iret C hP hD hS () rfl rfl (Nat.le_of_ble_eq_true rfl) (Nat.le_of_ble_eq_true rfl) dX12_treasures_10
set_option maxHeartbeats 4000000 in
set_option maxRecDepth 100000 in
theorem m_drawnByte (l : Launch) (D : va_G) (cI cZ cJ : ClassId) (mo : Nat) (bu : Int32) (pe : Int32) (ep : Int32) (sz : Int32) (nx : Int32) (fr : Int32) (so : Int32) (wr : Int32) (wa : Int32) (as : Nat) (ak : Nat) (ab : Nat) (ar : Nat) (g : Nat → Value) (th : Int32) (a0 : Int32)  : cM l yX12_drawnByte cX12_drawnByte 2 (some .int) D (TT cI cZ cJ) [.ref mo, .int a0] [(mo, .inr (11, mC th bu pe ep sz nx fr so wr wa as ak ab ar g))] (qI D (TT cI cZ cJ) (fun u : Unit => 0) (fun u : Unit => [(mo, .inr (11, mC 1 bu pe ep sz nx fr so wr wa as ak ab ar g))])) 1 0 0 := by
  refine enterM (by decide) (Nat.le_of_ble_eq_true rfl) ?_
  intro p e s m below meth c ls A C hP hD hS hl
  have hx := C.1
  have hb := C.2.1
  have hl : lv_has ls 2 [(0, .ref mo), (1, .int a0)] := hl
  refine lv_aload_n hx hb dX12_drawnByte_0 rfl (lv_at hl 0 rfl) ?_
  refine lv_iconst (v := 0) hx hb dX12_drawnByte_1 (by decide) ?_
  refine r_put C hP hD hS 0 rfl fg_X12_79 rfl rfl (Nat.le_of_ble_eq_true rfl) dX12_drawnByte_2 [(mo, .inr (11, mC 0 bu pe ep sz nx fr so wr wa as ak ab ar g))] rfl (fun H locs hP hD hS => ?_)
  refine lv_aload_n hx hb dX12_drawnByte_5 rfl (lv_at hl 0 rfl) ?_
  refine lv_aload_n hx hb dX12_drawnByte_6 rfl (lv_at hl 0 rfl) ?_
  refine r_get (v := .int 0) C hP 0 rfl fg_X12_370 rfl dX12_drawnByte_7 ?_
  refine lv_if_eq (tgt := 23) hx hb dX12_drawnByte_10 (by decide) (fun _ => ?_) (fun h => absurd (by decide) h)
  refine lv_iconst (v := 1) hx hb dX12_drawnByte_23 (by decide) ?_
  refine lv_goto (tgt := 28) hx hb dX12_drawnByte_24 (by decide) ?_
  refine lv_iconst (v := 1) hx hb dX12_drawnByte_28 (by decide) ?_
  refine call_i (wr := []) C (run_V (As := [.int 1, .int 1]) (rest := []) C (m_refuse_y l D cI cZ cJ mo bu pe ep sz nx fr so wr wa as ak ab ar g 1 (by decide)) cV_X12_86 hP hD hS [0] rfl rfl 0 rfl rfl rfl rfl hl.1 rfl (Nat.le_of_ble_eq_true rfl) dX12_drawnByte_29 ⟨Nat.le_of_ble_eq_true rfl, Nat.le_of_ble_eq_true rfl⟩ ⟨Nat.le_of_ble_eq_true rfl, Nat.le_of_ble_eq_true rfl⟩) hP hD hS [0] [] rfl rfl rfl (by decide) (fun u1 H locs hP hD hS => ?_)
  have hP : va_P D CL [(mo, .inr (11, mC 1 bu pe ep sz nx fr so wr wa as ak ab ar g))] H := hP
  have hD : va_D A [(mo, .inr (11, mC 1 bu pe ep sz nx fr so wr wa as ak ab ar g))] := hD
  refine W.widen (k := 0) (n := 0) (Nat.le_of_ble_eq_true rfl) (Nat.le_of_ble_eq_true rfl) ?_
  refine W.eq (g2 := F0 m 32 ls [.int 1]) rfl ?_
  refine lv_if_eq (tgt := 39) hx hb dX12_drawnByte_32 (by decide) (fun h => absurd h (by decide)) (fun _ => ?_)
  refine lv_iconst (v := 0) hx hb dX12_drawnByte_35 (by decide) ?_
  refine lv_goto (tgt := 45) hx hb dX12_drawnByte_36 (by decide) ?_
  exact r_iret C hP hD hS () rfl rfl (Nat.le_of_ble_eq_true rfl) (Nat.le_of_ble_eq_true rfl) dX12_drawnByte_45
set_option maxHeartbeats 4000000 in
set_option maxRecDepth 100000 in
theorem m_undo (l : Launch) (D : va_G) (cI cZ cJ : ClassId) (mo : Nat) (bu : Int32) (pe : Int32) (ep : Int32) (sz : Int32) (nx : Int32) (fr : Int32) (so : Int32) (wr : Int32) (wa : Int32) (as : Nat) (ak : Nat) (ab : Nat) (ar : Nat) (g : Nat → Value) (th : Int32)  : cM l yX12_undo cX12_undo 1 (some .int) D (TT cI cZ cJ) [.ref mo] [(mo, .inr (11, mC th bu pe ep sz nx fr so wr wa as ak ab ar g))] (qI D (TT cI cZ cJ) (fun u : Unit => 0) (fun u : Unit => [(mo, .inr (11, mC 1 bu pe ep sz nx fr so wr wa as ak ab ar g))])) 1 0 0 := by
  refine enterM (by decide) (Nat.le_of_ble_eq_true rfl) ?_
  intro p e s m below meth c ls A C hP hD hS hl
  have hx := C.1
  have hb := C.2.1
  have hl : lv_has ls 1 [(0, .ref mo)] := hl
  refine lv_aload_n hx hb dX12_undo_0 rfl (lv_at hl 0 rfl) ?_
  refine lv_iconst (v := 0) hx hb dX12_undo_1 (by decide) ?_
  refine r_put C hP hD hS 0 rfl fg_X12_79 rfl rfl (Nat.le_of_ble_eq_true rfl) dX12_undo_2 [(mo, .inr (11, mC 0 bu pe ep sz nx fr so wr wa as ak ab ar g))] rfl (fun H locs hP hD hS => ?_)
  refine lv_aload_n hx hb dX12_undo_5 rfl (lv_at hl 0 rfl) ?_
  refine lv_aload_n hx hb dX12_undo_6 rfl (lv_at hl 0 rfl) ?_
  refine r_get (v := .int 0) C hP 0 rfl fg_X12_192 rfl dX12_undo_7 ?_
  refine lv_if_ne (tgt := 17) hx hb dX12_undo_10 (by decide) (fun h => absurd h (by decide)) (fun _ => ?_)
  refine lv_iconst (v := 1) hx hb dX12_undo_13 (by decide) ?_
  refine lv_goto (tgt := 18) hx hb dX12_undo_14 (by decide) ?_
  refine lv_iconst (v := 1) hx hb dX12_undo_18 (by decide) ?_
  refine call_i (wr := []) C (run_V (As := [.int 1, .int 1]) (rest := []) C (m_refuse_y l D cI cZ cJ mo bu pe ep sz nx fr so wr wa as ak ab ar g 1 (by decide)) cV_X12_86 hP hD hS [0] rfl rfl 0 rfl rfl rfl rfl hl.1 rfl (Nat.le_of_ble_eq_true rfl) dX12_undo_19 ⟨Nat.le_of_ble_eq_true rfl, Nat.le_of_ble_eq_true rfl⟩ ⟨Nat.le_of_ble_eq_true rfl, Nat.le_of_ble_eq_true rfl⟩) hP hD hS [0] [] rfl rfl rfl (by decide) (fun u1 H locs hP hD hS => ?_)
  have hP : va_P D CL [(mo, .inr (11, mC 1 bu pe ep sz nx fr so wr wa as ak ab ar g))] H := hP
  have hD : va_D A [(mo, .inr (11, mC 1 bu pe ep sz nx fr so wr wa as ak ab ar g))] := hD
  refine W.widen (k := 0) (n := 0) (Nat.le_of_ble_eq_true rfl) (Nat.le_of_ble_eq_true rfl) ?_
  refine W.eq (g2 := F0 m 22 ls [.int 1]) rfl ?_
  refine lv_if_eq (tgt := 27) hx hb dX12_undo_22 (by decide) (fun h => absurd h (by decide)) (fun _ => ?_)
  refine lv_iconst (v := 0) hx hb dX12_undo_25 (by decide) ?_
  exact r_iret C hP hD hS () rfl rfl (Nat.le_of_ble_eq_true rfl) (Nat.le_of_ble_eq_true rfl) dX12_undo_26
set_option maxHeartbeats 4000000 in
set_option maxRecDepth 100000 in
theorem m_restore_l (l : Launch) (D : va_G) (cI cZ cJ : ClassId) (mo : Nat) (bu : Int32) (pe : Int32) (ep : Int32) (sz : Int32) (nx : Int32) (fr : Int32) (so : Int32) (wr : Int32) (wa : Int32) (as : Nat) (ak : Nat) (ab : Nat) (ar : Nat) (g : Nat → Value) (th : Int32) (a0 : Int32) (h1 : a0 < 0) : cM l yX12_restore cX12_restore 2 (some .int) D (TT cI cZ cJ) [.ref mo, .int a0] [(mo, .inr (11, mC th bu pe ep sz nx fr so wr wa as ak ab ar g))] (qI D (TT cI cZ cJ) (fun u : Unit => 0) (fun u : Unit => [(mo, .inr (11, mC 1 bu pe ep sz nx fr so wr wa as ak ab ar g))])) 1 0 0 := by
  refine enterM (by decide) (Nat.le_of_ble_eq_true rfl) ?_
  intro p e s m below meth c ls A C hP hD hS hl
  have hx := C.1
  have hb := C.2.1
  have hl : lv_has ls 2 [(0, .ref mo), (1, .int a0)] := hl
  refine lv_aload_n hx hb dX12_restore_0 rfl (lv_at hl 0 rfl) ?_
  refine lv_iconst (v := 0) hx hb dX12_restore_1 (by decide) ?_
  refine r_put C hP hD hS 0 rfl fg_X12_79 rfl rfl (Nat.le_of_ble_eq_true rfl) dX12_restore_2 [(mo, .inr (11, mC 0 bu pe ep sz nx fr so wr wa as ak ab ar g))] rfl (fun H locs hP hD hS => ?_)
  refine lv_aload_n hx hb dX12_restore_5 rfl (lv_at hl 0 rfl) ?_
  refine lv_iload_n hx hb dX12_restore_6 rfl (lv_at hl 1 rfl) ?_
  refine lv_iconst (v := 0) hx hb dX12_restore_7 (by decide) ?_
  refine lv_iconst (v := 1) hx hb dX12_restore_8 (by decide) ?_
  refine call_i (wr := [(mo, .inr (11, mC 0 bu pe ep sz nx fr so wr wa as ak ab ar g))]) C (run_S (As := [.int a0, .int 0, .int 1]) (rest := [.ref mo]) C (m_in_l l D cI cZ cJ a0 0 1 h1) cS_X12_148 hP hD hS [] rfl rfl rfl hl.1 rfl (Nat.le_of_ble_eq_true rfl) dX12_restore_9 ⟨Nat.le_of_ble_eq_true rfl, Nat.le_of_ble_eq_true rfl⟩ ⟨Nat.le_of_ble_eq_true rfl, Nat.le_of_ble_eq_true rfl⟩) hP hD hS [] [0] rfl rfl rfl (by decide) (fun u1 H locs hP hD hS => ?_)
  have hP : va_P D CL [(mo, .inr (11, mC 0 bu pe ep sz nx fr so wr wa as ak ab ar g))] H := hP
  have hD : va_D A [(mo, .inr (11, mC 0 bu pe ep sz nx fr so wr wa as ak ab ar g))] := hD
  refine W.widen (k := 0) (n := 0) (Nat.le_of_ble_eq_true rfl) (Nat.le_of_ble_eq_true rfl) ?_
  refine W.eq (g2 := F0 m 12 ls [.int 0, .ref mo]) rfl ?_
  refine lv_if_ne (tgt := 19) hx hb dX12_restore_12 (by decide) (fun h => absurd h (by decide)) (fun _ => ?_)
  refine lv_iconst (v := 1) hx hb dX12_restore_15 (by decide) ?_
  refine lv_goto (tgt := 20) hx hb dX12_restore_16 (by decide) ?_
  refine lv_iconst (v := 1) hx hb dX12_restore_20 (by decide) ?_
  refine call_i (wr := []) C (run_V (As := [.int 1, .int 1]) (rest := []) C (m_refuse_y l D cI cZ cJ mo bu pe ep sz nx fr so wr wa as ak ab ar g 1 (by decide)) cV_X12_86 hP hD hS [0] rfl rfl 0 rfl rfl rfl rfl hl.1 rfl (Nat.le_of_ble_eq_true rfl) dX12_restore_21 ⟨Nat.le_of_ble_eq_true rfl, Nat.le_of_ble_eq_true rfl⟩ ⟨Nat.le_of_ble_eq_true rfl, Nat.le_of_ble_eq_true rfl⟩) hP hD hS [0] [] rfl rfl rfl (by decide) (fun u2 H locs hP hD hS => ?_)
  have hP : va_P D CL [(mo, .inr (11, mC 1 bu pe ep sz nx fr so wr wa as ak ab ar g))] H := hP
  have hD : va_D A [(mo, .inr (11, mC 1 bu pe ep sz nx fr so wr wa as ak ab ar g))] := hD
  refine W.widen (k := 0) (n := 0) (Nat.le_of_ble_eq_true rfl) (Nat.le_of_ble_eq_true rfl) ?_
  refine W.eq (g2 := F0 m 24 ls [.int 1]) rfl ?_
  refine lv_if_ne (tgt := 49) hx hb dX12_restore_24 (by decide) (fun _ => ?_) (fun h => absurd h (by decide))
  refine lv_iconst (v := 0) hx hb dX12_restore_49 (by decide) ?_
  exact r_iret C hP hD hS () rfl rfl (Nat.le_of_ble_eq_true rfl) (Nat.le_of_ble_eq_true rfl) dX12_restore_50
set_option maxHeartbeats 4000000 in
set_option maxRecDepth 100000 in
theorem m_restore_g (l : Launch) (D : va_G) (cI cZ cJ : ClassId) (mo : Nat) (bu : Int32) (pe : Int32) (ep : Int32) (sz : Int32) (nx : Int32) (fr : Int32) (so : Int32) (wr : Int32) (wa : Int32) (as : Nat) (ak : Nat) (ab : Nat) (ar : Nat) (g : Nat → Value) (th : Int32) (a0 : Int32) (h1 : ¬ a0 < 0) (h2 : 1 < a0) : cM l yX12_restore cX12_restore 2 (some .int) D (TT cI cZ cJ) [.ref mo, .int a0] [(mo, .inr (11, mC th bu pe ep sz nx fr so wr wa as ak ab ar g))] (qI D (TT cI cZ cJ) (fun u : Unit => 0) (fun u : Unit => [(mo, .inr (11, mC 1 bu pe ep sz nx fr so wr wa as ak ab ar g))])) 1 0 0 := by
  refine enterM (by decide) (Nat.le_of_ble_eq_true rfl) ?_
  intro p e s m below meth c ls A C hP hD hS hl
  have hx := C.1
  have hb := C.2.1
  have hl : lv_has ls 2 [(0, .ref mo), (1, .int a0)] := hl
  refine lv_aload_n hx hb dX12_restore_0 rfl (lv_at hl 0 rfl) ?_
  refine lv_iconst (v := 0) hx hb dX12_restore_1 (by decide) ?_
  refine r_put C hP hD hS 0 rfl fg_X12_79 rfl rfl (Nat.le_of_ble_eq_true rfl) dX12_restore_2 [(mo, .inr (11, mC 0 bu pe ep sz nx fr so wr wa as ak ab ar g))] rfl (fun H locs hP hD hS => ?_)
  refine lv_aload_n hx hb dX12_restore_5 rfl (lv_at hl 0 rfl) ?_
  refine lv_iload_n hx hb dX12_restore_6 rfl (lv_at hl 1 rfl) ?_
  refine lv_iconst (v := 0) hx hb dX12_restore_7 (by decide) ?_
  refine lv_iconst (v := 1) hx hb dX12_restore_8 (by decide) ?_
  refine call_i (wr := [(mo, .inr (11, mC 0 bu pe ep sz nx fr so wr wa as ak ab ar g))]) C (run_S (As := [.int a0, .int 0, .int 1]) (rest := [.ref mo]) C (m_in_g l D cI cZ cJ a0 0 1 h1 h2) cS_X12_148 hP hD hS [] rfl rfl rfl hl.1 rfl (Nat.le_of_ble_eq_true rfl) dX12_restore_9 ⟨Nat.le_of_ble_eq_true rfl, Nat.le_of_ble_eq_true rfl⟩ ⟨Nat.le_of_ble_eq_true rfl, Nat.le_of_ble_eq_true rfl⟩) hP hD hS [] [0] rfl rfl rfl (by decide) (fun u1 H locs hP hD hS => ?_)
  have hP : va_P D CL [(mo, .inr (11, mC 0 bu pe ep sz nx fr so wr wa as ak ab ar g))] H := hP
  have hD : va_D A [(mo, .inr (11, mC 0 bu pe ep sz nx fr so wr wa as ak ab ar g))] := hD
  refine W.widen (k := 0) (n := 0) (Nat.le_of_ble_eq_true rfl) (Nat.le_of_ble_eq_true rfl) ?_
  refine W.eq (g2 := F0 m 12 ls [.int 0, .ref mo]) rfl ?_
  refine lv_if_ne (tgt := 19) hx hb dX12_restore_12 (by decide) (fun h => absurd h (by decide)) (fun _ => ?_)
  refine lv_iconst (v := 1) hx hb dX12_restore_15 (by decide) ?_
  refine lv_goto (tgt := 20) hx hb dX12_restore_16 (by decide) ?_
  refine lv_iconst (v := 1) hx hb dX12_restore_20 (by decide) ?_
  refine call_i (wr := []) C (run_V (As := [.int 1, .int 1]) (rest := []) C (m_refuse_y l D cI cZ cJ mo bu pe ep sz nx fr so wr wa as ak ab ar g 1 (by decide)) cV_X12_86 hP hD hS [0] rfl rfl 0 rfl rfl rfl rfl hl.1 rfl (Nat.le_of_ble_eq_true rfl) dX12_restore_21 ⟨Nat.le_of_ble_eq_true rfl, Nat.le_of_ble_eq_true rfl⟩ ⟨Nat.le_of_ble_eq_true rfl, Nat.le_of_ble_eq_true rfl⟩) hP hD hS [0] [] rfl rfl rfl (by decide) (fun u2 H locs hP hD hS => ?_)
  have hP : va_P D CL [(mo, .inr (11, mC 1 bu pe ep sz nx fr so wr wa as ak ab ar g))] H := hP
  have hD : va_D A [(mo, .inr (11, mC 1 bu pe ep sz nx fr so wr wa as ak ab ar g))] := hD
  refine W.widen (k := 0) (n := 0) (Nat.le_of_ble_eq_true rfl) (Nat.le_of_ble_eq_true rfl) ?_
  refine W.eq (g2 := F0 m 24 ls [.int 1]) rfl ?_
  refine lv_if_ne (tgt := 49) hx hb dX12_restore_24 (by decide) (fun _ => ?_) (fun h => absurd h (by decide))
  refine lv_iconst (v := 0) hx hb dX12_restore_49 (by decide) ?_
  exact r_iret C hP hD hS () rfl rfl (Nat.le_of_ble_eq_true rfl) (Nat.le_of_ble_eq_true rfl) dX12_restore_50
set_option maxHeartbeats 4000000 in
set_option maxRecDepth 100000 in
theorem m_restore_t (l : Launch) (D : va_G) (cI cZ cJ : ClassId) (mo : Nat) (bu : Int32) (pe : Int32) (ep : Int32) (sz : Int32) (nx : Int32) (fr : Int32) (so : Int32) (wr : Int32) (wa : Int32) (as : Nat) (ak : Nat) (ab : Nat) (ar : Nat) (g : Nat → Value) (th : Int32) (a0 : Int32) (h1 : ¬ a0 < 0) (h2 : ¬ 1 < a0) : cM l yX12_restore cX12_restore 2 (some .int) D (TT cI cZ cJ) [.ref mo, .int a0] [(mo, .inr (11, mC th bu pe ep sz nx fr so wr wa as ak ab ar g)), (ak, .inl (cZ, 2, .inl (fun _ => 0)))] (qI D (TT cI cZ cJ) (fun u : Unit => 0) (fun u : Unit => [(ak, .inl (cZ, 2, .inl (fun _ => 0))), (mo, .inr (11, mC 2 bu pe ep sz nx fr so wr wa as ak ab ar g))])) 1 0 0 := by
  refine enterM (by decide) (Nat.le_of_ble_eq_true rfl) ?_
  intro p e s m below meth c ls A C hP hD hS hl
  have hx := C.1
  have hb := C.2.1
  have hl : lv_has ls 2 [(0, .ref mo), (1, .int a0)] := hl
  refine lv_aload_n hx hb dX12_restore_0 rfl (lv_at hl 0 rfl) ?_
  refine lv_iconst (v := 0) hx hb dX12_restore_1 (by decide) ?_
  refine r_put C hP hD hS 0 rfl fg_X12_79 rfl rfl (Nat.le_of_ble_eq_true rfl) dX12_restore_2 [(mo, .inr (11, mC 0 bu pe ep sz nx fr so wr wa as ak ab ar g)), (ak, .inl (cZ, 2, .inl (fun _ => 0)))] rfl (fun H locs hP hD hS => ?_)
  refine lv_aload_n hx hb dX12_restore_5 rfl (lv_at hl 0 rfl) ?_
  refine lv_iload_n hx hb dX12_restore_6 rfl (lv_at hl 1 rfl) ?_
  refine lv_iconst (v := 0) hx hb dX12_restore_7 (by decide) ?_
  refine lv_iconst (v := 1) hx hb dX12_restore_8 (by decide) ?_
  refine call_i (wr := [(mo, .inr (11, mC 0 bu pe ep sz nx fr so wr wa as ak ab ar g)), (ak, .inl (cZ, 2, .inl (fun _ => 0)))]) C (run_S (As := [.int a0, .int 0, .int 1]) (rest := [.ref mo]) C (m_in_t l D cI cZ cJ a0 0 1 h1 h2) cS_X12_148 hP hD hS [] rfl rfl rfl hl.1 rfl (Nat.le_of_ble_eq_true rfl) dX12_restore_9 ⟨Nat.le_of_ble_eq_true rfl, Nat.le_of_ble_eq_true rfl⟩ ⟨Nat.le_of_ble_eq_true rfl, Nat.le_of_ble_eq_true rfl⟩) hP hD hS [] [0, 1] rfl rfl rfl (by decide) (fun u1 H locs hP hD hS => ?_)
  have hP : va_P D CL [(mo, .inr (11, mC 0 bu pe ep sz nx fr so wr wa as ak ab ar g)), (ak, .inl (cZ, 2, .inl (fun _ => 0)))] H := hP
  have hD : va_D A [(mo, .inr (11, mC 0 bu pe ep sz nx fr so wr wa as ak ab ar g)), (ak, .inl (cZ, 2, .inl (fun _ => 0)))] := hD
  refine W.widen (k := 0) (n := 0) (Nat.le_of_ble_eq_true rfl) (Nat.le_of_ble_eq_true rfl) ?_
  refine W.eq (g2 := F0 m 12 ls [.int 1, .ref mo]) rfl ?_
  refine lv_if_ne (tgt := 19) hx hb dX12_restore_12 (by decide) (fun _ => ?_) (fun h => absurd h (by decide))
  refine lv_iconst (v := 0) hx hb dX12_restore_19 (by decide) ?_
  refine lv_iconst (v := 1) hx hb dX12_restore_20 (by decide) ?_
  refine call_i (wr := [(ak, .inl (cZ, 2, .inl (fun _ => 0)))]) C (run_V (As := [.int 0, .int 1]) (rest := []) C (m_refuse_n l D cI cZ cJ mo bu pe ep sz nx fr so wr wa as ak ab ar g 1 ) cV_X12_86 hP hD hS [0] rfl rfl 0 rfl rfl rfl rfl hl.1 rfl (Nat.le_of_ble_eq_true rfl) dX12_restore_21 ⟨Nat.le_of_ble_eq_true rfl, Nat.le_of_ble_eq_true rfl⟩ ⟨Nat.le_of_ble_eq_true rfl, Nat.le_of_ble_eq_true rfl⟩) hP hD hS [0] [1] rfl rfl rfl (by decide) (fun u2 H locs hP hD hS => ?_)
  have hP : va_P D CL [(ak, .inl (cZ, 2, .inl (fun _ => 0))), (mo, .inr (11, mC 0 bu pe ep sz nx fr so wr wa as ak ab ar g))] H := hP
  have hD : va_D A [(ak, .inl (cZ, 2, .inl (fun _ => 0))), (mo, .inr (11, mC 0 bu pe ep sz nx fr so wr wa as ak ab ar g))] := hD
  refine W.widen (k := 0) (n := 0) (Nat.le_of_ble_eq_true rfl) (Nat.le_of_ble_eq_true rfl) ?_
  refine W.eq (g2 := F0 m 24 ls [.int 0]) rfl ?_
  refine lv_if_ne (tgt := 49) hx hb dX12_restore_24 (by decide) (fun h => absurd h (by decide)) (fun _ => ?_)
  refine lv_aload_n hx hb dX12_restore_27 rfl (lv_at hl 0 rfl) ?_
  refine lv_aload_n hx hb dX12_restore_28 rfl (lv_at hl 0 rfl) ?_
  refine r_get (v := .ref ak) C hP 1 rfl fg_X12_16 rfl dX12_restore_29 ?_
  refine lv_iload_n hx hb dX12_restore_32 rfl (lv_at hl 1 rfl) ?_
  refine va_zald hx hb C.2.2.2.2.2.1 hP 0 1 rfl rfl (vin2 h1 h2) dX12_restore_33 ?_
  refine W.eq (g2 := F0 m 34 ls [.int 0, .ref mo]) rfl ?_
  refine lv_if_ne (tgt := 41) hx hb dX12_restore_34 (by decide) (fun h => absurd h (by decide)) (fun _ => ?_)
  refine lv_iconst (v := 1) hx hb dX12_restore_37 (by decide) ?_
  refine lv_goto (tgt := 42) hx hb dX12_restore_38 (by decide) ?_
  refine lv_iconst (v := 2) hx hb dX12_restore_42 (by decide) ?_
  refine call_i (wr := [(ak, .inl (cZ, 2, .inl (fun _ => 0)))]) C (run_V (As := [.int 1, .int 2]) (rest := []) C (m_refuse_y l D cI cZ cJ mo bu pe ep sz nx fr so wr wa as ak ab ar g 2 (by decide)) cV_X12_86 hP hD hS [1] rfl rfl 0 rfl rfl rfl rfl hl.1 rfl (Nat.le_of_ble_eq_true rfl) dX12_restore_43 ⟨Nat.le_of_ble_eq_true rfl, Nat.le_of_ble_eq_true rfl⟩ ⟨Nat.le_of_ble_eq_true rfl, Nat.le_of_ble_eq_true rfl⟩) hP hD hS [1] [0] rfl rfl rfl (by decide) (fun u3 H locs hP hD hS => ?_)
  have hP : va_P D CL [(ak, .inl (cZ, 2, .inl (fun _ => 0))), (mo, .inr (11, mC 2 bu pe ep sz nx fr so wr wa as ak ab ar g))] H := hP
  have hD : va_D A [(ak, .inl (cZ, 2, .inl (fun _ => 0))), (mo, .inr (11, mC 2 bu pe ep sz nx fr so wr wa as ak ab ar g))] := hD
  refine W.widen (k := 0) (n := 0) (Nat.le_of_ble_eq_true rfl) (Nat.le_of_ble_eq_true rfl) ?_
  refine W.eq (g2 := F0 m 46 ls [.int 1]) rfl ?_
  refine lv_if_eq (tgt := 51) hx hb dX12_restore_46 (by decide) (fun h => absurd h (by decide)) (fun _ => ?_)
  refine lv_iconst (v := 0) hx hb dX12_restore_49 (by decide) ?_
  exact r_iret C hP hD hS () rfl rfl (Nat.le_of_ble_eq_true rfl) (Nat.le_of_ble_eq_true rfl) dX12_restore_50
end
