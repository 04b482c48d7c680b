-- ===== PART A: goes FIRST, ahead of the names: the tables' words, and 'selects' of the private methods out of them =====
/-- a private method of a class that the tables say can be made, by its rows of tables_1 -/
def lw_okq (q : MethodName × Nat) : Prop := (q.1.cls ≠ "java/lang/invoke/MethodHandle" ∧ q.1.cls ≠ "java/lang/invoke/VarHandle") ∧ Cond.instantiable q.1.cls q.2 ∈ tables_1 ∧ Cond.privateMethod q.1 ∈ tables_1 ∧ Cond.instanceMethod q.1 ∈ tables_1
theorem lw_p0 : lw_okq (⟨"CutAtlas", "remember", "()V"⟩, 12) := ⟨⟨by decide +kernel, by decide +kernel⟩, List.mem_of_getElem? (i := 19) (by decide +kernel), List.mem_of_getElem? (i := 298) (by decide +kernel), List.mem_of_getElem? (i := 299) (by decide +kernel)⟩
theorem lw_p1 : lw_okq (⟨"CutAtlas", "lineRefusal", "(JJJJJ)I"⟩, 12) := ⟨⟨by decide +kernel, by decide +kernel⟩, List.mem_of_getElem? (i := 19) (by decide +kernel), List.mem_of_getElem? (i := 313) (by decide +kernel), List.mem_of_getElem? (i := 314) (by decide +kernel)⟩
theorem lw_p2 : lw_okq (⟨"CutAtlas", "addLine", "(IIIII)I"⟩, 12) := ⟨⟨by decide +kernel, by decide +kernel⟩, List.mem_of_getElem? (i := 19) (by decide +kernel), List.mem_of_getElem? (i := 340) (by decide +kernel), List.mem_of_getElem? (i := 341) (by decide +kernel)⟩
theorem lw_p3 : lw_okq (⟨"CutAtlas", "mostNow", "(II)I"⟩, 12) := ⟨⟨by decide +kernel, by decide +kernel⟩, List.mem_of_getElem? (i := 19) (by decide +kernel), List.mem_of_getElem? (i := 466) (by decide +kernel), List.mem_of_getElem? (i := 467) (by decide +kernel)⟩
theorem lw_p4 : lw_okq (⟨"CutAtlas$Current", "reachedFrom", "(II)I"⟩, 9) := ⟨⟨by decide +kernel, by decide +kernel⟩, List.mem_of_getElem? (i := 113) (by decide +kernel), List.mem_of_getElem? (i := 488) (by decide +kernel), List.mem_of_getElem? (i := 489) (by decide +kernel)⟩
theorem lw_p5 : lw_okq (⟨"CutAtlas$Current", "findWay", "(II)Z"⟩, 9) := ⟨⟨by decide +kernel, by decide +kernel⟩, List.mem_of_getElem? (i := 113) (by decide +kernel), List.mem_of_getElem? (i := 492) (by decide +kernel), List.mem_of_getElem? (i := 493) (by decide +kernel)⟩
theorem lw_p6 : lw_okq (⟨"CutAtlas$Current", "sendAlongWay", "(II)I"⟩, 9) := ⟨⟨by decide +kernel, by decide +kernel⟩, List.mem_of_getElem? (i := 113) (by decide +kernel), List.mem_of_getElem? (i := 496) (by decide +kernel), List.mem_of_getElem? (i := 497) (by decide +kernel)⟩
theorem lw_p7 : lw_okq (⟨"CutAtlas$Current", "sendOver", "(III)V"⟩, 9) := ⟨⟨by decide +kernel, by decide +kernel⟩, List.mem_of_getElem? (i := 113) (by decide +kernel), List.mem_of_getElem? (i := 502) (by decide +kernel), List.mem_of_getElem? (i := 503) (by decide +kernel)⟩
theorem lw_p8 : lw_okq (⟨"CutAtlas$Current", "reaching", "(I)I"⟩, 9) := ⟨⟨by decide +kernel, by decide +kernel⟩, List.mem_of_getElem? (i := 113) (by decide +kernel), List.mem_of_getElem? (i := 523) (by decide +kernel), List.mem_of_getElem? (i := 524) (by decide +kernel)⟩
theorem lw_p9 : lw_okq (⟨"CutAtlas$SetHunt", "hunt", "(IIII)V"⟩, 9) := ⟨⟨by decide +kernel, by decide +kernel⟩, List.mem_of_getElem? (i := 155) (by decide +kernel), List.mem_of_getElem? (i := 536) (by decide +kernel), List.mem_of_getElem? (i := 537) (by decide +kernel)⟩
theorem lw_p10 : lw_okq (⟨"CutAtlas$SetHunt", "chooseForCut", "(III)V"⟩, 9) := ⟨⟨by decide +kernel, by decide +kernel⟩, List.mem_of_getElem? (i := 155) (by decide +kernel), List.mem_of_getElem? (i := 540) (by decide +kernel), List.mem_of_getElem? (i := 541) (by decide +kernel)⟩
theorem lw_p11 : lw_okq (⟨"CutAtlas$SetHunt", "meet", "(II)V"⟩, 9) := ⟨⟨by decide +kernel, by decide +kernel⟩, List.mem_of_getElem? (i := 155) (by decide +kernel), List.mem_of_getElem? (i := 544) (by decide +kernel), List.mem_of_getElem? (i := 545) (by decide +kernel)⟩
theorem lw_p12 : lw_okq (⟨"CutAtlas$SetHunt", "letIn", "(II)I"⟩, 9) := ⟨⟨by decide +kernel, by decide +kernel⟩, List.mem_of_getElem? (i := 155) (by decide +kernel), List.mem_of_getElem? (i := 548) (by decide +kernel), List.mem_of_getElem? (i := 549) (by decide +kernel)⟩
theorem lw_p13 : lw_okq (⟨"CutAtlas$SetHunt", "letOut", "(II)I"⟩, 9) := ⟨⟨by decide +kernel, by decide +kernel⟩, List.mem_of_getElem? (i := 155) (by decide +kernel), List.mem_of_getElem? (i := 552) (by decide +kernel), List.mem_of_getElem? (i := 553) (by decide +kernel)⟩
theorem lw_p14 : lw_okq (⟨"CutAtlas$Current", "betweenSets", "(II)I"⟩, 9) := ⟨⟨by decide +kernel, by decide +kernel⟩, List.mem_of_getElem? (i := 113) (by decide +kernel), List.mem_of_getElem? (i := 572) (by decide +kernel), List.mem_of_getElem? (i := 573) (by decide +kernel)⟩
theorem lw_p15 : lw_okq (⟨"CutAtlas$Widening", "findPrices", "()V"⟩, 5) := ⟨⟨by decide +kernel, by decide +kernel⟩, List.mem_of_getElem? (i := 209) (by decide +kernel), List.mem_of_getElem? (i := 589) (by decide +kernel), List.mem_of_getElem? (i := 590) (by decide +kernel)⟩
def lw_privs_1 : List (MethodName × Nat) := [(⟨"CutAtlas", "remember", "()V"⟩, 12), (⟨"CutAtlas", "lineRefusal", "(JJJJJ)I"⟩, 12), (⟨"CutAtlas", "addLine", "(IIIII)I"⟩, 12), (⟨"CutAtlas", "mostNow", "(II)I"⟩, 12), (⟨"CutAtlas$Current", "reachedFrom", "(II)I"⟩, 9), (⟨"CutAtlas$Current", "findWay", "(II)Z"⟩, 9), (⟨"CutAtlas$Current", "sendAlongWay", "(II)I"⟩, 9), (⟨"CutAtlas$Current", "sendOver", "(III)V"⟩, 9), (⟨"CutAtlas$Current", "reaching", "(I)I"⟩, 9), (⟨"CutAtlas$SetHunt", "hunt", "(IIII)V"⟩, 9), (⟨"CutAtlas$SetHunt", "chooseForCut", "(III)V"⟩, 9), (⟨"CutAtlas$SetHunt", "meet", "(II)V"⟩, 9), (⟨"CutAtlas$SetHunt", "letIn", "(II)I"⟩, 9), (⟨"CutAtlas$SetHunt", "letOut", "(II)I"⟩, 9), (⟨"CutAtlas$Current", "betweenSets", "(II)I"⟩, 9), (⟨"CutAtlas$Widening", "findPrices", "()V"⟩, 5)]
theorem lw_r1 : ∀ q ∈ lw_privs_1, lw_okq q := List.forall_mem_cons.mpr ⟨lw_p0, List.forall_mem_cons.mpr ⟨lw_p1, List.forall_mem_cons.mpr ⟨lw_p2, List.forall_mem_cons.mpr ⟨lw_p3, List.forall_mem_cons.mpr ⟨lw_p4, List.forall_mem_cons.mpr ⟨lw_p5, List.forall_mem_cons.mpr ⟨lw_p6, List.forall_mem_cons.mpr ⟨lw_p7, List.forall_mem_cons.mpr ⟨lw_p8, List.forall_mem_cons.mpr ⟨lw_p9, List.forall_mem_cons.mpr ⟨lw_p10, List.forall_mem_cons.mpr ⟨lw_p11, List.forall_mem_cons.mpr ⟨lw_p12, List.forall_mem_cons.mpr ⟨lw_p13, List.forall_mem_cons.mpr ⟨lw_p14, List.forall_mem_cons.mpr ⟨lw_p15, fun _ h => absurd h List.not_mem_nil⟩⟩⟩⟩⟩⟩⟩⟩⟩⟩⟩⟩⟩⟩⟩⟩
theorem lw_p16 : lw_okq (⟨"CutAtlas$Widening", "findCosts", "(I)V"⟩, 5) := ⟨⟨by decide +kernel, by decide +kernel⟩, List.mem_of_getElem? (i := 209) (by decide +kernel), List.mem_of_getElem? (i := 598) (by decide +kernel), List.mem_of_getElem? (i := 599) (by decide +kernel)⟩
theorem lw_p17 : lw_okq (⟨"CutAtlas$Widening", "lookFrom", "(I)Z"⟩, 5) := ⟨⟨by decide +kernel, by decide +kernel⟩, List.mem_of_getElem? (i := 209) (by decide +kernel), List.mem_of_getElem? (i := 602) (by decide +kernel), List.mem_of_getElem? (i := 603) (by decide +kernel)⟩
theorem lw_p18 : lw_okq (⟨"CutAtlas$Widening", "stepCosts", "(II)I"⟩, 5) := ⟨⟨by decide +kernel, by decide +kernel⟩, List.mem_of_getElem? (i := 209) (by decide +kernel), List.mem_of_getElem? (i := 606) (by decide +kernel), List.mem_of_getElem? (i := 607) (by decide +kernel)⟩
theorem lw_p19 : lw_okq (⟨"CutAtlas$Widening", "roomOfWay", "(III)I"⟩, 5) := ⟨⟨by decide +kernel, by decide +kernel⟩, List.mem_of_getElem? (i := 209) (by decide +kernel), List.mem_of_getElem? (i := 610) (by decide +kernel), List.mem_of_getElem? (i := 611) (by decide +kernel)⟩
theorem lw_p20 : lw_okq (⟨"CutAtlas$Widening", "stepRoom", "(II)I"⟩, 5) := ⟨⟨by decide +kernel, by decide +kernel⟩, List.mem_of_getElem? (i := 209) (by decide +kernel), List.mem_of_getElem? (i := 614) (by decide +kernel), List.mem_of_getElem? (i := 615) (by decide +kernel)⟩
theorem lw_p21 : lw_okq (⟨"CutAtlas$Widening", "sendAlongWay", "(III)V"⟩, 5) := ⟨⟨by decide +kernel, by decide +kernel⟩, List.mem_of_getElem? (i := 209) (by decide +kernel), List.mem_of_getElem? (i := 618) (by decide +kernel), List.mem_of_getElem? (i := 619) (by decide +kernel)⟩
theorem lw_p22 : lw_okq (⟨"CutAtlas$CutTree", "hang", "(I)V"⟩, 3) := ⟨⟨by decide +kernel, by decide +kernel⟩, List.mem_of_getElem? (i := 191) (by decide +kernel), List.mem_of_getElem? (i := 637) (by decide +kernel), List.mem_of_getElem? (i := 638) (by decide +kernel)⟩
theorem lw_p23 : lw_okq (⟨"CutAtlas$CutTree", "stepsToRoot", "(I)I"⟩, 3) := ⟨⟨by decide +kernel, by decide +kernel⟩, List.mem_of_getElem? (i := 191) (by decide +kernel), List.mem_of_getElem? (i := 652) (by decide +kernel), List.mem_of_getElem? (i := 653) (by decide +kernel)⟩
theorem lw_p24 : lw_okq (⟨"CutAtlas$SetHunt", "chooseForDense", "(III)V"⟩, 9) := ⟨⟨by decide +kernel, by decide +kernel⟩, List.mem_of_getElem? (i := 155) (by decide +kernel), List.mem_of_getElem? (i := 699) (by decide +kernel), List.mem_of_getElem? (i := 700) (by decide +kernel)⟩
theorem lw_p25 : lw_okq (⟨"CutAtlas$SetHunt", "compareDense", "(II)V"⟩, 9) := ⟨⟨by decide +kernel, by decide +kernel⟩, List.mem_of_getElem? (i := 155) (by decide +kernel), List.mem_of_getElem? (i := 703) (by decide +kernel), List.mem_of_getElem? (i := 704) (by decide +kernel)⟩
theorem lw_p26 : lw_okq (⟨"CutAtlas", "rowRefusal", "(III)I"⟩, 12) := ⟨⟨by decide +kernel, by decide +kernel⟩, List.mem_of_getElem? (i := 19) (by decide +kernel), List.mem_of_getElem? (i := 736) (by decide +kernel), List.mem_of_getElem? (i := 737) (by decide +kernel)⟩
theorem lw_p27 : lw_okq (⟨"CutAtlas", "numberRefusal", "(IIII)I"⟩, 12) := ⟨⟨by decide +kernel, by decide +kernel⟩, List.mem_of_getElem? (i := 19) (by decide +kernel), List.mem_of_getElem? (i := 756) (by decide +kernel), List.mem_of_getElem? (i := 757) (by decide +kernel)⟩
theorem lw_p28 : lw_okq (⟨"CutAtlas$NumberMap", "hasNumbers", "(III)Z"⟩, 4) := ⟨⟨by decide +kernel, by decide +kernel⟩, List.mem_of_getElem? (i := 233) (by decide +kernel), List.mem_of_getElem? (i := 774) (by decide +kernel), List.mem_of_getElem? (i := 775) (by decide +kernel)⟩
theorem lw_p29 : lw_okq (⟨"CutAtlas", "readRefusal", "(LCutAtlas$NumberMap;I)I"⟩, 12) := ⟨⟨by decide +kernel, by decide +kernel⟩, List.mem_of_getElem? (i := 19) (by decide +kernel), List.mem_of_getElem? (i := 795) (by decide +kernel), List.mem_of_getElem? (i := 796) (by decide +kernel)⟩
theorem lw_p30 : lw_okq (⟨"CutAtlasModel", "keeps", "()V"⟩, 34) := ⟨⟨by decide +kernel, by decide +kernel⟩, List.mem_of_getElem? (i := 820) (by decide +kernel), List.mem_of_getElem? (i := 934) (by decide +kernel), List.mem_of_getElem? (i := 935) (by decide +kernel)⟩
theorem lw_p31 : lw_okq (⟨"CutAtlasModel", "refused", "(JJJJJ)I"⟩, 34) := ⟨⟨by decide +kernel, by decide +kernel⟩, List.mem_of_getElem? (i := 820) (by decide +kernel), List.mem_of_getElem? (i := 942) (by decide +kernel), List.mem_of_getElem? (i := 943) (by decide +kernel)⟩
def lw_privs_2 : List (MethodName × Nat) := [(⟨"CutAtlas$Widening", "findCosts", "(I)V"⟩, 5), (⟨"CutAtlas$Widening", "lookFrom", "(I)Z"⟩, 5), (⟨"CutAtlas$Widening", "stepCosts", "(II)I"⟩, 5), (⟨"CutAtlas$Widening", "roomOfWay", "(III)I"⟩, 5), (⟨"CutAtlas$Widening", "stepRoom", "(II)I"⟩, 5), (⟨"CutAtlas$Widening", "sendAlongWay", "(III)V"⟩, 5), (⟨"CutAtlas$CutTree", "hang", "(I)V"⟩, 3), (⟨"CutAtlas$CutTree", "stepsToRoot", "(I)I"⟩, 3), (⟨"CutAtlas$SetHunt", "chooseForDense", "(III)V"⟩, 9), (⟨"CutAtlas$SetHunt", "compareDense", "(II)V"⟩, 9), (⟨"CutAtlas", "rowRefusal", "(III)I"⟩, 12), (⟨"CutAtlas", "numberRefusal", "(IIII)I"⟩, 12), (⟨"CutAtlas$NumberMap", "hasNumbers", "(III)Z"⟩, 4), (⟨"CutAtlas", "readRefusal", "(LCutAtlas$NumberMap;I)I"⟩, 12), (⟨"CutAtlasModel", "keeps", "()V"⟩, 34), (⟨"CutAtlasModel", "refused", "(JJJJJ)I"⟩, 34)]
theorem lw_r2 : ∀ q ∈ lw_privs_2, lw_okq q := List.forall_mem_cons.mpr ⟨lw_p16, List.forall_mem_cons.mpr ⟨lw_p17, List.forall_mem_cons.mpr ⟨lw_p18, List.forall_mem_cons.mpr ⟨lw_p19, List.forall_mem_cons.mpr ⟨lw_p20, List.forall_mem_cons.mpr ⟨lw_p21, List.forall_mem_cons.mpr ⟨lw_p22, List.forall_mem_cons.mpr ⟨lw_p23, List.forall_mem_cons.mpr ⟨lw_p24, List.forall_mem_cons.mpr ⟨lw_p25, List.forall_mem_cons.mpr ⟨lw_p26, List.forall_mem_cons.mpr ⟨lw_p27, List.forall_mem_cons.mpr ⟨lw_p28, List.forall_mem_cons.mpr ⟨lw_p29, List.forall_mem_cons.mpr ⟨lw_p30, List.forall_mem_cons.mpr ⟨lw_p31, fun _ h => absurd h List.not_mem_nil⟩⟩⟩⟩⟩⟩⟩⟩⟩⟩⟩⟩⟩⟩⟩⟩
theorem lw_p32 : lw_okq (⟨"CutAtlasModel", "adds", "(IIIII)V"⟩, 34) := ⟨⟨by decide +kernel, by decide +kernel⟩, List.mem_of_getElem? (i := 820) (by decide +kernel), List.mem_of_getElem? (i := 952) (by decide +kernel), List.mem_of_getElem? (i := 953) (by decide +kernel)⟩
theorem lw_p33 : lw_okq (⟨"CutAtlasModel", "isLine", "(I)Z"⟩, 34) := ⟨⟨by decide +kernel, by decide +kernel⟩, List.mem_of_getElem? (i := 820) (by decide +kernel), List.mem_of_getElem? (i := 961) (by decide +kernel), List.mem_of_getElem? (i := 962) (by decide +kernel)⟩
theorem lw_p34 : lw_okq (⟨"CutAtlasModel", "costs", "(I)I"⟩, 34) := ⟨⟨by decide +kernel, by decide +kernel⟩, List.mem_of_getElem? (i := 820) (by decide +kernel), List.mem_of_getElem? (i := 965) (by decide +kernel), List.mem_of_getElem? (i := 966) (by decide +kernel)⟩
theorem lw_p35 : lw_okq (⟨"CutAtlasModel", "costsTrace", "(I)J"⟩, 34) := ⟨⟨by decide +kernel, by decide +kernel⟩, List.mem_of_getElem? (i := 820) (by decide +kernel), List.mem_of_getElem? (i := 969) (by decide +kernel), List.mem_of_getElem? (i := 970) (by decide +kernel)⟩
theorem lw_p36 : lw_okq (⟨"CutAtlasModel", "arePlaces", "(II)Z"⟩, 34) := ⟨⟨by decide +kernel, by decide +kernel⟩, List.mem_of_getElem? (i := 820) (by decide +kernel), List.mem_of_getElem? (i := 983) (by decide +kernel), List.mem_of_getElem? (i := 984) (by decide +kernel)⟩
theorem lw_p37 : lw_okq (⟨"CutAtlasModel", "isPlace", "(I)Z"⟩, 34) := ⟨⟨by decide +kernel, by decide +kernel⟩, List.mem_of_getElem? (i := 820) (by decide +kernel), List.mem_of_getElem? (i := 987) (by decide +kernel), List.mem_of_getElem? (i := 988) (by decide +kernel)⟩
theorem lw_p38 : lw_okq (⟨"CutAtlasModel", "lets", "(IZ)I"⟩, 34) := ⟨⟨by decide +kernel, by decide +kernel⟩, List.mem_of_getElem? (i := 820) (by decide +kernel), List.mem_of_getElem? (i := 1007) (by decide +kernel), List.mem_of_getElem? (i := 1008) (by decide +kernel)⟩
theorem lw_p39 : lw_okq (⟨"CutAtlasModel", "mostOf", "(II)I"⟩, 34) := ⟨⟨by decide +kernel, by decide +kernel⟩, List.mem_of_getElem? (i := 820) (by decide +kernel), List.mem_of_getElem? (i := 1015) (by decide +kernel), List.mem_of_getElem? (i := 1016) (by decide +kernel)⟩
theorem lw_p40 : lw_okq (⟨"CutAtlasModel", "sizeOf", "(I)I"⟩, 34) := ⟨⟨by decide +kernel, by decide +kernel⟩, List.mem_of_getElem? (i := 820) (by decide +kernel), List.mem_of_getElem? (i := 1020) (by decide +kernel), List.mem_of_getElem? (i := 1021) (by decide +kernel)⟩
theorem lw_p41 : lw_okq (⟨"CutAtlasModel", "room", "(IZ)I"⟩, 34) := ⟨⟨by decide +kernel, by decide +kernel⟩, List.mem_of_getElem? (i := 820) (by decide +kernel), List.mem_of_getElem? (i := 1024) (by decide +kernel), List.mem_of_getElem? (i := 1025) (by decide +kernel)⟩
theorem lw_p42 : lw_okq (⟨"CutAtlasModel", "flowOf", "(II)V"⟩, 34) := ⟨⟨by decide +kernel, by decide +kernel⟩, List.mem_of_getElem? (i := 820) (by decide +kernel), List.mem_of_getElem? (i := 1036) (by decide +kernel), List.mem_of_getElem? (i := 1037) (by decide +kernel)⟩
theorem lw_p43 : lw_okq (⟨"CutAtlasModel", "hasWay", "(II)Z"⟩, 34) := ⟨⟨by decide +kernel, by decide +kernel⟩, List.mem_of_getElem? (i := 820) (by decide +kernel), List.mem_of_getElem? (i := 1040) (by decide +kernel), List.mem_of_getElem? (i := 1041) (by decide +kernel)⟩
theorem lw_p44 : lw_okq (⟨"CutAtlasModel", "isMet", "(II)Z"⟩, 34) := ⟨⟨by decide +kernel, by decide +kernel⟩, List.mem_of_getElem? (i := 820) (by decide +kernel), List.mem_of_getElem? (i := 1044) (by decide +kernel), List.mem_of_getElem? (i := 1045) (by decide +kernel)⟩
theorem lw_p45 : lw_okq (⟨"CutAtlasModel", "leftOf", "(II)I"⟩, 34) := ⟨⟨by decide +kernel, by decide +kernel⟩, List.mem_of_getElem? (i := 820) (by decide +kernel), List.mem_of_getElem? (i := 1048) (by decide +kernel), List.mem_of_getElem? (i := 1049) (by decide +kernel)⟩
theorem lw_p46 : lw_okq (⟨"CutAtlasModel", "left", "(III)I"⟩, 34) := ⟨⟨by decide +kernel, by decide +kernel⟩, List.mem_of_getElem? (i := 820) (by decide +kernel), List.mem_of_getElem? (i := 1052) (by decide +kernel), List.mem_of_getElem? (i := 1053) (by decide +kernel)⟩
theorem lw_p47 : lw_okq (⟨"CutAtlasModel", "cutsOf", "(IIII)V"⟩, 34) := ⟨⟨by decide +kernel, by decide +kernel⟩, List.mem_of_getElem? (i := 820) (by decide +kernel), List.mem_of_getElem? (i := 1061) (by decide +kernel), List.mem_of_getElem? (i := 1062) (by decide +kernel)⟩
def lw_privs_3 : List (MethodName × Nat) := [(⟨"CutAtlasModel", "adds", "(IIIII)V"⟩, 34), (⟨"CutAtlasModel", "isLine", "(I)Z"⟩, 34), (⟨"CutAtlasModel", "costs", "(I)I"⟩, 34), (⟨"CutAtlasModel", "costsTrace", "(I)J"⟩, 34), (⟨"CutAtlasModel", "arePlaces", "(II)Z"⟩, 34), (⟨"CutAtlasModel", "isPlace", "(I)Z"⟩, 34), (⟨"CutAtlasModel", "lets", "(IZ)I"⟩, 34), (⟨"CutAtlasModel", "mostOf", "(II)I"⟩, 34), (⟨"CutAtlasModel", "sizeOf", "(I)I"⟩, 34), (⟨"CutAtlasModel", "room", "(IZ)I"⟩, 34), (⟨"CutAtlasModel", "flowOf", "(II)V"⟩, 34), (⟨"CutAtlasModel", "hasWay", "(II)Z"⟩, 34), (⟨"CutAtlasModel", "isMet", "(II)Z"⟩, 34), (⟨"CutAtlasModel", "leftOf", "(II)I"⟩, 34), (⟨"CutAtlasModel", "left", "(III)I"⟩, 34), (⟨"CutAtlasModel", "cutsOf", "(IIII)V"⟩, 34)]
theorem lw_r3 : ∀ q ∈ lw_privs_3, lw_okq q := List.forall_mem_cons.mpr ⟨lw_p32, List.forall_mem_cons.mpr ⟨lw_p33, List.forall_mem_cons.mpr ⟨lw_p34, List.forall_mem_cons.mpr ⟨lw_p35, List.forall_mem_cons.mpr ⟨lw_p36, List.forall_mem_cons.mpr ⟨lw_p37, List.forall_mem_cons.mpr ⟨lw_p38, List.forall_mem_cons.mpr ⟨lw_p39, List.forall_mem_cons.mpr ⟨lw_p40, List.forall_mem_cons.mpr ⟨lw_p41, List.forall_mem_cons.mpr ⟨lw_p42, List.forall_mem_cons.mpr ⟨lw_p43, List.forall_mem_cons.mpr ⟨lw_p44, List.forall_mem_cons.mpr ⟨lw_p45, List.forall_mem_cons.mpr ⟨lw_p46, List.forall_mem_cons.mpr ⟨lw_p47, fun _ h => absurd h List.not_mem_nil⟩⟩⟩⟩⟩⟩⟩⟩⟩⟩⟩⟩⟩⟩⟩⟩
theorem lw_p48 : lw_okq (⟨"CutAtlasModel", "cheapWay", "(II)Z"⟩, 34) := ⟨⟨by decide +kernel, by decide +kernel⟩, List.mem_of_getElem? (i := 820) (by decide +kernel), List.mem_of_getElem? (i := 1089) (by decide +kernel), List.mem_of_getElem? (i := 1090) (by decide +kernel)⟩
theorem lw_p49 : lw_okq (⟨"CutAtlasModel", "step", "(IZ)J"⟩, 34) := ⟨⟨by decide +kernel, by decide +kernel⟩, List.mem_of_getElem? (i := 820) (by decide +kernel), List.mem_of_getElem? (i := 1094) (by decide +kernel), List.mem_of_getElem? (i := 1095) (by decide +kernel)⟩
theorem lw_p50 : lw_okq (⟨"CutAtlasModel", "amount", "(IZ)I"⟩, 34) := ⟨⟨by decide +kernel, by decide +kernel⟩, List.mem_of_getElem? (i := 820) (by decide +kernel), List.mem_of_getElem? (i := 1098) (by decide +kernel), List.mem_of_getElem? (i := 1099) (by decide +kernel)⟩
theorem lw_p51 : lw_okq (⟨"CutAtlasModel", "isWhole", "()Z"⟩, 34) := ⟨⟨by decide +kernel, by decide +kernel⟩, List.mem_of_getElem? (i := 820) (by decide +kernel), List.mem_of_getElem? (i := 1106) (by decide +kernel), List.mem_of_getElem? (i := 1107) (by decide +kernel)⟩
theorem lw_p52 : lw_okq (⟨"CutAtlasModel", "plants", "()V"⟩, 34) := ⟨⟨by decide +kernel, by decide +kernel⟩, List.mem_of_getElem? (i := 820) (by decide +kernel), List.mem_of_getElem? (i := 1110) (by decide +kernel), List.mem_of_getElem? (i := 1111) (by decide +kernel)⟩
theorem lw_p53 : lw_okq (⟨"CutAtlasModel", "leastOf", "()I"⟩, 34) := ⟨⟨by decide +kernel, by decide +kernel⟩, List.mem_of_getElem? (i := 820) (by decide +kernel), List.mem_of_getElem? (i := 1122) (by decide +kernel), List.mem_of_getElem? (i := 1123) (by decide +kernel)⟩
theorem lw_p54 : lw_okq (⟨"CutAtlasModel", "wholeCuts", "(I)V"⟩, 34) := ⟨⟨by decide +kernel, by decide +kernel⟩, List.mem_of_getElem? (i := 820) (by decide +kernel), List.mem_of_getElem? (i := 1130) (by decide +kernel), List.mem_of_getElem? (i := 1131) (by decide +kernel)⟩
theorem lw_p55 : lw_okq (⟨"CutAtlasModel", "no", "(I)I"⟩, 34) := ⟨⟨by decide +kernel, by decide +kernel⟩, List.mem_of_getElem? (i := 820) (by decide +kernel), List.mem_of_getElem? (i := 1155) (by decide +kernel), List.mem_of_getElem? (i := 1156) (by decide +kernel)⟩
theorem lw_p56 : lw_okq (⟨"CutAtlasModel", "wrong", "(IIII)I"⟩, 34) := ⟨⟨by decide +kernel, by decide +kernel⟩, List.mem_of_getElem? (i := 820) (by decide +kernel), List.mem_of_getElem? (i := 1167) (by decide +kernel), List.mem_of_getElem? (i := 1168) (by decide +kernel)⟩
def lw_privs_4 : List (MethodName × Nat) := [(⟨"CutAtlasModel", "cheapWay", "(II)Z"⟩, 34), (⟨"CutAtlasModel", "step", "(IZ)J"⟩, 34), (⟨"CutAtlasModel", "amount", "(IZ)I"⟩, 34), (⟨"CutAtlasModel", "isWhole", "()Z"⟩, 34), (⟨"CutAtlasModel", "plants", "()V"⟩, 34), (⟨"CutAtlasModel", "leastOf", "()I"⟩, 34), (⟨"CutAtlasModel", "wholeCuts", "(I)V"⟩, 34), (⟨"CutAtlasModel", "no", "(I)I"⟩, 34), (⟨"CutAtlasModel", "wrong", "(IIII)I"⟩, 34)]
theorem lw_r4 : ∀ q ∈ lw_privs_4, lw_okq q := List.forall_mem_cons.mpr ⟨lw_p48, List.forall_mem_cons.mpr ⟨lw_p49, List.forall_mem_cons.mpr ⟨lw_p50, List.forall_mem_cons.mpr ⟨lw_p51, List.forall_mem_cons.mpr ⟨lw_p52, List.forall_mem_cons.mpr ⟨lw_p53, List.forall_mem_cons.mpr ⟨lw_p54, List.forall_mem_cons.mpr ⟨lw_p55, List.forall_mem_cons.mpr ⟨lw_p56, fun _ h => absurd h List.not_mem_nil⟩⟩⟩⟩⟩⟩⟩⟩⟩
def lw_privs : List (MethodName × Nat) := lw_privs_1 ++ (lw_privs_2 ++ (lw_privs_3 ++ (lw_privs_4)))
def lw_tbl : List Cond := k2_sels lw_privs ++ tables_1
theorem lw_privs_ok : ∀ q ∈ lw_privs, lw_okq q := by
  show ∀ q ∈ lw_privs_1 ++ (lw_privs_2 ++ (lw_privs_3 ++ (lw_privs_4))), lw_okq q
  exact List.forall_mem_append.mpr ⟨lw_r1, List.forall_mem_append.mpr ⟨lw_r2, List.forall_mem_append.mpr ⟨lw_r3, lw_r4⟩⟩⟩
/-! ===== BEGIN words of one list among another's, by their places ===== -/
theorem goodIn_r {big : List Cond} (ws : List Cond) (ps : List Nat) (hp : ws = ps.filterMap (fun i => big[i]?)) (h : ws.all goodWord = true) : GoodIn big ws := by
  intro w hw
  have h1 := List.all_eq_true.mp h w hw
  rw [hp] at hw
  obtain ⟨i, -, hi⟩ := List.mem_filterMap.mp hw
  have hm : w ∈ big := by first | exact List.mem_of_getElem? hi | exact List.getElem?_mem hi
  exact ⟨hm, good_of_word h1⟩
theorem goodIn_app {big a b : List Cond} (ha : GoodIn big a) (hb : GoodIn big b) : GoodIn big (a ++ b) := fun w h => (List.mem_append.mp h).elim (ha w) (hb w)
theorem goodIn_ca {big a b : List Cond} {c : Cond} (ha : GoodIn big (c :: a)) (hb : GoodIn big b) : GoodIn big (c :: (a ++ b)) := fun w h => (List.mem_cons.mp h).elim (fun e => ha w (List.mem_cons.mpr (Or.inl e))) (fun h => (List.mem_append.mp h).elim (fun h => ha w (List.mem_cons.mpr (Or.inr h))) (hb w))
theorem goodIn_sub {big ws : List Cond} (hm : ∀ w ∈ ws, w ∈ big) (h : ws.all goodWord = true) : GoodIn big ws := fun w hw => ⟨hm w hw, good_of_word (List.all_eq_true.mp h w hw)⟩
/-! ===== END ===== -/

def va_AOA (t : FieldType) (U : State) : Prop := (Cond.arrayOver (.array t)).before #[] U = true
theorem va_AOA.use {t : FieldType} {A : Array Value} {U : State} (h : va_AOA t U) : (Cond.arrayOver (.array t)).before A U = true := h
theorem va_AOA.moved {t : FieldType} {u U : State} (hvm : u.vm.Alike U.vm) (h : va_AOA t u) : va_AOA t U := by
  obtain ⟨comp, c, k, h1, h2, h3, h4, h5⟩ := arrayOverA_spec h
  obtain ⟨k', hk', he⟩ := hvm.2.2 _ _ h3
  have hi : (U.vm.classes.findIdx? fun (x : Class) => match x.kind with | .array component _ => component == comp | _ => false) = some c := by
    have e1 := va_idx_bare U.vm comp
    have e2 := va_idx_bare u.vm comp
    have e3 : u.vm.bare = U.vm.bare := by first | exact hvm.bare_eq | exact hvm.bare_eq.symm
    rw [e3] at e2
    exact (e1.symm.trans e2).trans h2
  have hkind : k'.kind = .array comp (.array t) := by rw [he]; exact h4
  have f1 : U.vm.findClass (FieldType.array t).toString = some comp := by rw [hvm.findClass]; exact h1
  have f2 : U.vm.findClass ("[" ++ (FieldType.array t).toString) = some c := by rw [hvm.findClass]; exact h5
  unfold va_AOA Cond.before Cond.holds
  simp only [Cond.value]
  rw [f1, Option.bind_some]
  refine (congrArg (fun o : Option Nat => (o.bind (fun c => (U.vm.classes[c]?).map fun (k : Class) => match k.kind with | .array _ ty => decide (ty = FieldType.array t) && decide (U.vm.findClass ("[" ++ (FieldType.array t).toString) = some c) | _ => false) == some true)) hi).trans ?_
  simp [hk', hkind, f2]
/-! ===== BEGIN new T[n][m]: the outer array a place, the inner ones among the pooled ===== -/
/-- f, but v at every address of l -/
def vr_up {α : Type} (f : Nat → α) (l : List Nat) (v : α) : Nat → α := fun a => if a ∈ l then v else f a
theorem vr_up_in {α : Type} {f : Nat → α} {l : List Nat} {v : α} {a : Nat} (h : a ∈ l) : vr_up f l v a = v := if_pos h
theorem vr_up_ne {α : Type} {f : Nat → α} {l : List Nat} {v : α} {a : Nat} (h : a ∉ l) : vr_up f l v a = f a := if_neg h
theorem vr_rows {L l : List Nat} {f : Nat → va_E} {e : va_E} (h : ∀ a, a ∈ l → a ∉ L) : va_pl L f ++ l.map (fun a => (a, e)) = va_pl (L ++ l) (vr_up f l e) := by
  unfold va_pl
  rw [List.map_append]
  congr 1
  · apply List.map_congr_left
    intro a ha
    rw [vr_up_ne (fun q => h a q ha)]
  · apply List.map_congr_left
    intro a ha
    rw [vr_up_in ha]
theorem vr_lay {X rows : va_W} {x : Nat × va_E} {pl : va_W} {D : va_G} {cl : List vw_C} {H : Heap} (hP : va_P D cl (((X ++ pl) ++ [x]) ++ rows) H) : va_P D cl ((X ++ [x]) ++ (pl ++ rows)) H := by
  rw [List.append_assoc (X ++ pl)] at hP
  have h := va_P.swap hP
  rw [← List.append_assoc X] at h
  have h2 := va_P.swap h
  rw [List.append_assoc (X ++ [x])] at h2
  exact h2
theorem vr_layD {X rows : va_W} {x : Nat × va_E} {pl : va_W} {A : Nat → Prop} (hD : va_D A (((X ++ pl) ++ [x]) ++ rows)) : va_D A ((X ++ [x]) ++ (pl ++ rows)) := by
  rw [List.append_assoc (X ++ pl)] at hD
  have h := va_D.swap hD
  rw [← List.append_assoc X] at h
  have h2 := va_D.swap h
  rw [List.append_assoc (X ++ [x])] at h2
  exact h2
theorem vr_outer (c : ClassId) (N h0 : Nat) : ∀ i : Nat, Jvm.Free.Multi.outerC c N h0 i = arrV c N (fun j => va_rf (if j < i then some (h0 + 1 + j) else none))
  | 0 => by
    show ({ cls := c, slots := Array.replicate N .null, vm := .none } : Cell) = _
    rw [arrV_new]
    refine congrArg (arrV c N) (funext fun j => ?_)
    simp [va_rf]
  | i + 1 => by
    show (Jvm.Free.Multi.outerC c N h0 i).setSlot i (.ref (h0 + 1 + i)) = _
    rw [vr_outer c N h0 i, arrV_store]
    refine congrArg (arrV c N) (funext fun j => ?_)
    by_cases e : j = i
    · subst e
      simp [updV, va_rf]
    · by_cases h : j < i
      · simp [updV, e, h, Nat.lt_succ_of_lt h]
      · simp [updV, e, h, show ¬ j < i + 1 by omega]
section VGM
variable {p : Program} {l : Launch} {e : Env} {R : Room} {s : State} {m : MethodId} {args : Array Value} {below : List Frame} {meth : Method} {c : Code} {H : Heap} {locs : List Loc} {cells slots : Nat} {Q : State → Prop}
variable {cc : ByteArray} {pc : Nat} {ls : Array Slot} {rest : List Value} {D : va_G} {cl : List vw_C} {A : Nat → Prop} {a : Nat} {tys : List (ClassId × FieldType)} {ws : va_W} {H0 : Heap}
theorem va_mna {X : va_W} {L : List Nat} {f : Nat → va_E} {cc : ByteArray} (hexec : p.tables.exec = Jvm.exec) (hb : c.code = cc) {own : String} {index : Nat} {ty : FieldType} {cy : ClassId} (hown : s.vm.findClass own = some m.cls) (hclink : (Cond.classLink own index ("[" ++ (FieldType.array ty).toString)).before args s = true) (hover : va_AOA ty s) (harr : (Cond.arrayClass ty).before args s = true) (hcy : s.vm.findClass (FieldType.array ty).toString = some cy)
    (hK : va_K D cl tys s) (hP : va_P D cl (X ++ va_pl L f) H) (hD : va_D A (X ++ va_pl L f)) (hS : va_S A H0 H locs) (hA : ∀ q, H0.size ≤ q → A q) {n k : Int32} {N' K' : Nat} {z : vp_A} (hn : ¬ n < 0) (hk : ¬ k < 0) (hN : n.toNatClampNeg = N') (hM : k.toNatClampNeg = K')
    (hb1 : N' * 4 ≤ 536870912) (hb2 : K' * componentBytes ty ≤ 536870912) (hb3 : K' ≤ 536870912) (hdf : fits ty (defaultValue ty) = true) (hdd : (defaultValue ty).isDefault = true) (hcells : cells + (1 + N') ≤ R.cells) (hslots : slots + (N' + N' * K') ≤ R.slots) (hz : ∀ c : ClassId, Jvm.Free.Multi.innerC c K' (defaultValue ty) = vp_cell c z) (hdg : decode cc pc = .ok (.multianewarray index 2, 4))
    (kk : ∀ (q : Nat) (r : Nat → Nat) (cA : ClassId) (H1 : Heap), (∀ i j : Nat, i < N' → j < N' → r i = r j → i = j) → (∀ i : Nat, i < N' → r i ∉ L) → va_K D cl (tys ++ [(cA, .array ty)]) s →
      va_P D cl ((X ++ [(q, .inl (cA, N', .inr (.inr (.inr (.inr (fun i => if i < N' then some (r i) else none))))))]) ++ va_pl (L ++ (List.range N').map r) (vr_up f ((List.range N').map r) (.inl (cy, z)))) H1 → va_D A ((X ++ [(q, .inl (cA, N', .inr (.inr (.inr (.inr (fun i => if i < N' then some (r i) else none))))))]) ++ va_pl (L ++ (List.range N').map r) (vr_up f ((List.range N').map r) (.inl (cy, z)))) → va_S A H0 H1 locs →
      W p l e R s m args below meth c H1 locs (cells + 1 + N') (slots + N' + N' * K') Q (F0 m (pc + 4) ls (.ref q :: rest))) : W p l e R s m args below meth c H locs cells slots Q (F0 m pc ls (.int k :: .int n :: rest)) := by
  subst hN
  subst hM
  intro T hT Xs
  obtain ⟨vm₁, cA, comp, -, fA, fC, hO, -, X', step⟩ := Xs.multianewarray2F hexec hown hclink (va_AOA.use hover) harr (g := F0 m pc ls (.int k :: .int n :: rest)) rfl (by rw [hb]; exact hdg) rfl hn hk hb1 hb2 hb3 hdf hdd hcells hslots
  have ec : some cy = some comp := hcy.symm.trans fC
  cases ec
  generalize hF : Jvm.Free.Multi.fill (T.setVm vm₁) cA cy n.toNatClampNeg k.toNatClampNeg (defaultValue ty) n.toNatClampNeg = F at X' step
  have hTh : (T.setVm vm₁).heap = H := hT
  obtain ⟨f1, f2, -, -⟩ := Jvm.Free.Multi.fill_facts (T.setVm vm₁) cA cy n.toNatClampNeg k.toNatClampNeg (defaultValue ty) n.toNatClampNeg
  rw [hF, hTh] at f1 f2
  have hold : ∀ x : Nat, x < H.size → F.heap[x]? = H[x]? := fun x hx => by
    have := Jvm.Free.Multi.fill_old (T.setVm vm₁) cA cy n.toNatClampNeg k.toNatClampNeg (defaultValue ty) (a := x) (by rw [hTh]; exact hx) n.toNatClampNeg
    rw [hF, hTh] at this
    exact this
  have hrow : ∀ j : Nat, j < n.toNatClampNeg → F.heap[H.size + 1 + j]? = some (vp_cell cy z) := fun j hj => by
    have := Jvm.Free.Multi.fill_inner (T.setVm vm₁) cA cy n.toNatClampNeg k.toNatClampNeg (defaultValue ty) n.toNatClampNeg j hj
    rw [hF, hTh, hz] at this
    exact this
  have hout : Jvm.Free.Multi.outerC cA n.toNatClampNeg H.size n.toNatClampNeg = vp_cell cA (n.toNatClampNeg, .inr (.inr (.inr (.inr (fun i => if i < n.toNatClampNeg then some (H.size + 1 + i) else none))))) := by
    rw [vp_cell_q]
    exact vr_outer cA n.toNatClampNeg H.size n.toNatClampNeg
  rw [hout] at f2
  have hlt : ∀ a, a ∈ L → a < H.size := fun a ha => by
    obtain ⟨k9, hk9⟩ := va_pl_get (X := X) (f := f) ha
    exact (hP k9 _ hk9).lt
  have hnl : ∀ i : Nat, i < n.toNatClampNeg → H.size + 1 + i ∉ L := fun i _ h => by
    have := hlt _ h
    omega
  have hnm : ∀ a, a ∈ (List.range n.toNatClampNeg).map (fun i => H.size + 1 + i) → a ∉ L := fun a ha h => by
    obtain ⟨i, -, rfl⟩ := List.mem_map.mp ha
    have := hlt _ h
    omega
  have hP0 : va_P D cl (X ++ va_pl L f) F.heap := hP.kept (fun k9 x hx => hold x.1 ((hP k9 x hx).lt))
  have hP1 : va_P D cl ((X ++ va_pl L f) ++ [(H.size, .inl (cA, n.toNatClampNeg, .inr (.inr (.inr (.inr (fun i => if i < n.toNatClampNeg then some (H.size + 1 + i) else none))))))]) F.heap := hP0.app (fun k9 x hx => by
    have h0 : k9 < 1 := (List.getElem?_eq_some_iff.mp hx).1
    rw [show k9 = 0 by omega] at hx
    cases hx
    exact f2)
  have hP2 : va_P D cl (((X ++ va_pl L f) ++ [(H.size, .inl (cA, n.toNatClampNeg, .inr (.inr (.inr (.inr (fun i => if i < n.toNatClampNeg then some (H.size + 1 + i) else none))))))]) ++ ((List.range n.toNatClampNeg).map (fun i => H.size + 1 + i)).map (fun a => (a, .inl (cy, z)))) F.heap := hP1.app (fun k9 x hx => by
    obtain ⟨a, ha, rfl⟩ := List.mem_map.mp (List.mem_of_getElem? hx)
    obtain ⟨i, hi, rfl⟩ := List.mem_map.mp ha
    exact hrow i (List.mem_range.mp hi))
  have hD2 : va_D A (((X ++ va_pl L f) ++ [(H.size, .inl (cA, n.toNatClampNeg, .inr (.inr (.inr (.inr (fun i => if i < n.toNatClampNeg then some (H.size + 1 + i) else none))))))]) ++ ((List.range n.toNatClampNeg).map (fun i => H.size + 1 + i)).map (fun a => (a, .inl (cy, z)))) := by
    have hD1 := hD.push (e := .inl (cA, n.toNatClampNeg, .inr (.inr (.inr (.inr (fun i => if i < n.toNatClampNeg then some (H.size + 1 + i) else none)))))) hP rfl (hA _ hS.1)
    generalize hW1 : (X ++ va_pl L f) ++ [(H.size, .inl (cA, n.toNatClampNeg, .inr (.inr (.inr (.inr (fun i => if i < n.toNatClampNeg then some (H.size + 1 + i) else none))))))] = W1 at hD1 hP1 ⊢
    have hle : ∀ (k9 : Nat) (x : Nat × va_E), W1[k9]? = some x → x.1 ≤ H.size := fun k9 x hx => by
      rw [← hW1] at hx
      by_cases hl : k9 < (X ++ va_pl L f).length
      · rw [List.getElem?_append_left hl] at hx
        exact Nat.le_of_lt ((hP k9 x hx).lt)
      · rw [List.getElem?_append_right (by omega)] at hx
        have h0 : k9 - (X ++ va_pl L f).length < 1 := (List.getElem?_eq_some_iff.mp hx).1
        rw [show k9 - (X ++ va_pl L f).length = 0 by omega] at hx
        cases hx
        exact Nat.le_refl _
    have hr : ∀ (k9 : Nat) (x : Nat × va_E), (((List.range n.toNatClampNeg).map (fun i => H.size + 1 + i)).map (fun a => ((a, .inl (cy, z)) : Nat × va_E)))[k9]? = some x → x.1 = H.size + 1 + k9 := fun k9 x hx => by
      rw [List.getElem?_map, List.getElem?_map] at hx
      by_cases h9 : k9 < n.toNatClampNeg
      · rw [List.getElem?_range h9] at hx
        cases hx
        rfl
      · have hn0 : (List.range n.toNatClampNeg)[k9]? = none := List.getElem?_eq_none (by rw [List.length_range]; omega)
        rw [hn0] at hx
        cases hx
    refine ⟨fun i j x y hi hj hxy => ?_, fun k9 x hx => ?_⟩
    · by_cases h1 : i < W1.length <;> by_cases h2 : j < W1.length
      · rw [List.getElem?_append_left h1] at hi
        rw [List.getElem?_append_left h2] at hj
        exact hD1.1 i j x y hi hj hxy
      · rw [List.getElem?_append_left h1] at hi
        rw [List.getElem?_append_right (by omega)] at hj
        have := hle _ _ hi
        have := hr _ _ hj
        omega
      · rw [List.getElem?_append_right (by omega)] at hi
        rw [List.getElem?_append_left h2] at hj
        have := hle _ _ hj
        have := hr _ _ hi
        omega
      · rw [List.getElem?_append_right (by omega)] at hi hj
        have := hr _ _ hi
        have := hr _ _ hj
        omega
    · by_cases h1 : k9 < W1.length
      · rw [List.getElem?_append_left h1] at hx
        exact hD1.2 k9 x hx
      · rw [List.getElem?_append_right (by omega)] at hx
        have := hr _ _ hx
        exact hA _ (by have := hS.1; omega)
  have hAr : ArrOfT s cA (.array ty) := fun N9 z9 => by
    obtain ⟨-, k9, hk9, cm9, hkk9⟩ := (hO 0 0 0).1
    exact ⟨(fun q hq => by cases hq), k9, hk9, cm9, hkk9⟩
  have hK2 : va_K D cl (tys ++ [(cA, .array ty)]) s := ⟨hK.1, fun k9 x hx => by
    by_cases hl : k9 < tys.length
    · rw [List.getElem?_append_left hl] at hx
      exact hK.2 k9 x hx
    · rw [List.getElem?_append_right (by omega)] at hx
      have h0 : k9 - tys.length < 1 := (List.getElem?_eq_some_iff.mp hx).1
      rw [show k9 - tys.length = 0 by omega] at hx
      cases hx
      exact ⟨hAr, fA⟩⟩
  obtain ⟨t, a1, b1⟩ := kk H.size (fun i => H.size + 1 + i) cA F.heap (fun i j _ _ h => by have h9 : H.size + 1 + i = H.size + 1 + j := h; omega) hnl hK2 (by rw [← vr_rows hnm]; exact vr_lay hP2) (by rw [← vr_rows hnm]; exact vr_layD hD2) ⟨by rw [f1]; have := hS.1; omega, fun x h1 h2 => (hold x (Nat.lt_of_lt_of_le h1 hS.1)).trans (hS.2.1 x h1 h2), hS.2.2⟩ F rfl X'
  refine ⟨t, step t ?_, b1⟩
  have e : T.heap.size = H.size := by rw [hT]
  rw [e]
  exact a1
end VGM
/-! ===== END ===== -/

def RX0 : String := "CutAtlas$Current"
def TX0 : u_T := fun k => match k with
  | 0 => ("CutAtlas$Current", "net", "LCutAtlas$Net;", true)
  | 1 => ("CutAtlas$Current", "kinds", "[LCutAtlas$PlainKind;", true)
  | 2 => ("CutAtlas$Current", "lets", "[[I", true)
  | 3 => ("CutAtlas$Current", "room", "[[I", true)
  | 4 => ("CutAtlas$Current", "flowing", "[I", true)
  | 5 => ("CutAtlas$Current", "letsForth", "[I", true)
  | 6 => ("CutAtlas$Current", "letsBack", "[I", true)
  | 7 => ("CutAtlas$Current", "queue", "[I", true)
  | _ => ("CutAtlas$Current", "cameFrom", "[I", true)
def tyX0 : Nat → FieldType := fun k => match k with
  | 0 => .object "CutAtlas$Net"
  | 1 => .array (.object "CutAtlas$PlainKind")
  | 2 => .array (.array .int)
  | 3 => .array (.array .int)
  | 4 => .array .int
  | 5 => .array .int
  | 6 => .array .int
  | 7 => .array .int
  | _ => .array .int
abbrev wsX00 : List Cond := u_ws RX0 TX0 9
theorem nmX0 : ∀ a, a < 9 → ∀ b, b < 9 → a ≠ b → (TX0 a).2.1 ≠ (TX0 b).2.1 := by decide +kernel
theorem tyX0_ok : ∀ k, k < 9 → parseFieldDescriptor (TX0 k).2.2.1 = some (tyX0 k) := by decide +kernel
abbrev cX0_init : ByteArray := prog_2_method_1_code
def yX0_init : MethodName := ⟨RX0, "<init>", "(LCutAtlas$Net;[LCutAtlas$PlainKind;)V"⟩
abbrev cX0_load : ByteArray := prog_2_method_2_code
def yX0_load : MethodName := ⟨RX0, "load", "(I)V"⟩
abbrev cX0_asRoom : ByteArray := prog_2_method_3_code
def yX0_asRoom : MethodName := ⟨RX0, "asRoom", "(I)I"⟩
abbrev cX0_fill : ByteArray := prog_2_method_4_code
def yX0_fill : MethodName := ⟨RX0, "fill", "(II)I"⟩
abbrev cX0_findWay : ByteArray := prog_2_method_5_code
def yX0_findWay : MethodName := ⟨RX0, "findWay", "(II)Z"⟩
abbrev cX0_sendAlongWay : ByteArray := prog_2_method_6_code
def yX0_sendAlongWay : MethodName := ⟨RX0, "sendAlongWay", "(II)I"⟩
abbrev cX0_sendOver : ByteArray := prog_2_method_7_code
def yX0_sendOver : MethodName := ⟨RX0, "sendOver", "(III)V"⟩
abbrev cX0_nearCut : ByteArray := prog_2_method_8_code
def yX0_nearCut : MethodName := ⟨RX0, "nearCut", "(I)I"⟩
abbrev cX0_farCut : ByteArray := prog_2_method_9_code
def yX0_farCut : MethodName := ⟨RX0, "farCut", "(I)I"⟩
abbrev cX0_reachedFrom : ByteArray := prog_2_method_10_code
def yX0_reachedFrom : MethodName := ⟨RX0, "reachedFrom", "(II)I"⟩
abbrev cX0_reaching : ByteArray := prog_2_method_11_code
def yX0_reaching : MethodName := ⟨RX0, "reaching", "(I)I"⟩
abbrev cX0_leaving : ByteArray := prog_2_method_12_code
def yX0_leaving : MethodName := ⟨RX0, "leaving", "(I)I"⟩
abbrev cX0_betweenSets : ByteArray := prog_2_method_13_code
def yX0_betweenSets : MethodName := ⟨RX0, "betweenSets", "(II)I"⟩
def RX1 : String := "CutAtlas$CutTree"
def TX1 : u_T := fun k => match k with
  | 0 => ("CutAtlas$CutTree", "current", "LCutAtlas$Current;", true)
  | 1 => ("CutAtlas$CutTree", "nexts", "[I", true)
  | _ => ("CutAtlas$CutTree", "numbers", "[I", true)
def tyX1 : Nat → FieldType := fun k => match k with
  | 0 => .object "CutAtlas$Current"
  | 1 => .array .int
  | _ => .array .int
abbrev wsX10 : List Cond := u_ws RX1 TX1 3
theorem nmX1 : ∀ a, a < 3 → ∀ b, b < 3 → a ≠ b → (TX1 a).2.1 ≠ (TX1 b).2.1 := by decide +kernel
theorem tyX1_ok : ∀ k, k < 3 → parseFieldDescriptor (TX1 k).2.2.1 = some (tyX1 k) := by decide +kernel
abbrev cX1_init : ByteArray := prog_3_method_1_code
def yX1_init : MethodName := ⟨RX1, "<init>", "(LCutAtlas$Current;)V"⟩
abbrev cX1_grow : ByteArray := prog_3_method_2_code
def yX1_grow : MethodName := ⟨RX1, "grow", "()V"⟩
abbrev cX1_hang : ByteArray := prog_3_method_3_code
def yX1_hang : MethodName := ⟨RX1, "hang", "(I)V"⟩
abbrev cX1_leastOnWay : ByteArray := prog_3_method_4_code
def yX1_leastOnWay : MethodName := ⟨RX1, "leastOnWay", "(II)I"⟩
abbrev cX1_stepsToRoot : ByteArray := prog_3_method_5_code
def yX1_stepsToRoot : MethodName := ⟨RX1, "stepsToRoot", "(I)I"⟩
abbrev cX1_leastNumber : ByteArray := prog_3_method_6_code
def yX1_leastNumber : MethodName := ⟨RX1, "leastNumber", "()I"⟩
abbrev cX1_leastAlike : ByteArray := prog_3_method_7_code
def yX1_leastAlike : MethodName := ⟨RX1, "leastAlike", "(II)I"⟩
abbrev cX1_partsBelow : ByteArray := prog_3_method_8_code
def yX1_partsBelow : MethodName := ⟨RX1, "partsBelow", "(II)I"⟩
def RX2 : String := "CutAtlas$DearKind"
def TX2 : u_T := fun k => match k with
  | _ => ("", "", "", false)
def tyX2 : Nat → FieldType := fun k => match k with
  | _ => .int
abbrev wsX20 : List Cond := u_ws RX2 TX2 0
theorem tyX2_ok : ∀ k, k < 0 → parseFieldDescriptor (TX2 k).2.2.1 = some (tyX2 k) := by decide +kernel
abbrev cX2_init : ByteArray := prog_4_method_1_code
def yX2_init : MethodName := ⟨RX2, "<init>", "()V"⟩
abbrev cX2_costs : ByteArray := prog_4_method_2_code
def yX2_costs : MethodName := ⟨RX2, "costs", "(I)I"⟩
abbrev cX2_costsMark : ByteArray := prog_4_method_3_code
def yX2_costsMark : MethodName := ⟨RX2, "costsMark", "()I"⟩
def RX3 : String := "CutAtlas$Net"
def TX3 : u_T := fun k => match k with
  | 0 => ("CutAtlas$Net", "places", "I", false)
  | 1 => ("CutAtlas$Net", "lines", "I", false)
  | 2 => ("CutAtlas$Net", "kinds", "[I", true)
  | 3 => ("CutAtlas$Net", "starts", "[I", true)
  | 4 => ("CutAtlas$Net", "ends", "[I", true)
  | 5 => ("CutAtlas$Net", "widths", "[I", true)
  | _ => ("CutAtlas$Net", "prices", "[I", true)
def tyX3 : Nat → FieldType := fun k => match k with
  | 0 => .int
  | 1 => .int
  | 2 => .array .int
  | 3 => .array .int
  | 4 => .array .int
  | 5 => .array .int
  | _ => .array .int
abbrev wsX30 : List Cond := u_ws RX3 TX3 7
theorem nmX3 : ∀ a, a < 7 → ∀ b, b < 7 → a ≠ b → (TX3 a).2.1 ≠ (TX3 b).2.1 := by decide +kernel
theorem tyX3_ok : ∀ k, k < 7 → parseFieldDescriptor (TX3 k).2.2.1 = some (tyX3 k) := by decide +kernel
abbrev cX3_init : ByteArray := prog_5_method_1_code
def yX3_init : MethodName := ⟨RX3, "<init>", "()V"⟩
abbrev cX3_hasPlace : ByteArray := prog_5_method_2_code
def yX3_hasPlace : MethodName := ⟨RX3, "hasPlace", "(J)Z"⟩
abbrev cX3_hasPair : ByteArray := prog_5_method_3_code
def yX3_hasPair : MethodName := ⟨RX3, "hasPair", "(JJ)Z"⟩
abbrev cX3_hasLine : ByteArray := prog_5_method_4_code
def yX3_hasLine : MethodName := ⟨RX3, "hasLine", "(I)Z"⟩
abbrev cX3_isMissing : ByteArray := prog_5_method_5_code
def yX3_isMissing : MethodName := ⟨RX3, "isMissing", "(I)Z"⟩
abbrev cX3_missingLines : ByteArray := prog_5_method_6_code
def yX3_missingLines : MethodName := ⟨RX3, "missingLines", "()I"⟩
abbrev cX3_isWhole : ByteArray := prog_5_method_7_code
def yX3_isWhole : MethodName := ⟨RX3, "isWhole", "()Z"⟩
abbrev cX3_append : ByteArray := prog_5_method_8_code
def yX3_append : MethodName := ⟨RX3, "append", "(IIIII)I"⟩
abbrev cX3_join : ByteArray := prog_5_method_9_code
def yX3_join : MethodName := ⟨RX3, "join", "(II)I"⟩
abbrev cX3_renumbered : ByteArray := prog_5_method_10_code
def yX3_renumbered : MethodName := ⟨RX3, "renumbered", "(III)I"⟩
abbrev cX3_become : ByteArray := prog_5_method_11_code
def yX3_become : MethodName := ⟨RX3, "become", "(LCutAtlas$Net;)V"⟩
def RX4 : String := "CutAtlas$NumberMap"
def TX4 : u_T := fun k => match k with
  | 0 => ("CutAtlas$NumberMap", "kind", "I", false)
  | 1 => ("CutAtlas$NumberMap", "rows", "I", false)
  | 2 => ("CutAtlas$NumberMap", "lengths", "[I", true)
  | _ => ("CutAtlas$NumberMap", "numbers", "[J", true)
def tyX4 : Nat → FieldType := fun k => match k with
  | 0 => .int
  | 1 => .int
  | 2 => .array .int
  | _ => .array .long
abbrev wsX40 : List Cond := u_ws RX4 TX4 4
theorem nmX4 : ∀ a, a < 4 → ∀ b, b < 4 → a ≠ b → (TX4 a).2.1 ≠ (TX4 b).2.1 := by decide +kernel
theorem tyX4_ok : ∀ k, k < 4 → parseFieldDescriptor (TX4 k).2.2.1 = some (tyX4 k) := by decide +kernel
abbrev cX4_init : ByteArray := prog_6_method_1_code
def yX4_init : MethodName := ⟨RX4, "<init>", "()V"⟩
abbrev cX4_isThere : ByteArray := prog_6_method_2_code
def yX4_isThere : MethodName := ⟨RX4, "isThere", "()Z"⟩
abbrev cX4_hasRow : ByteArray := prog_6_method_3_code
def yX4_hasRow : MethodName := ⟨RX4, "hasRow", "(I)Z"⟩
abbrev cX4_begin : ByteArray := prog_6_method_4_code
def yX4_begin : MethodName := ⟨RX4, "begin", "(II)V"⟩
abbrev cX4_beginRow : ByteArray := prog_6_method_5_code
def yX4_beginRow : MethodName := ⟨RX4, "beginRow", "(II)V"⟩
abbrev cX4_store : ByteArray := prog_6_method_6_code
def yX4_store : MethodName := ⟨RX4, "store", "(IIJ)V"⟩
abbrev cX4_number : ByteArray := prog_6_method_7_code
def yX4_number : MethodName := ⟨RX4, "number", "(II)J"⟩
abbrev cX4_whole : ByteArray := prog_6_method_8_code
def yX4_whole : MethodName := ⟨RX4, "whole", "(II)I"⟩
abbrev cX4_moveRefusal : ByteArray := prog_6_method_9_code
def yX4_moveRefusal : MethodName := ⟨RX4, "moveRefusal", "(IIIII)I"⟩
abbrev cX4_hasNumbers : ByteArray := prog_6_method_10_code
def yX4_hasNumbers : MethodName := ⟨RX4, "hasNumbers", "(III)Z"⟩
abbrev cX4_move : ByteArray := prog_6_method_11_code
def yX4_move : MethodName := ⟨RX4, "move", "(IIIII)V"⟩
def RX5 : String := "CutAtlas$OnewayKind"
def TX5 : u_T := fun k => match k with
  | _ => ("", "", "", false)
def tyX5 : Nat → FieldType := fun k => match k with
  | _ => .int
abbrev wsX50 : List Cond := u_ws RX5 TX5 0
theorem tyX5_ok : ∀ k, k < 0 → parseFieldDescriptor (TX5 k).2.2.1 = some (tyX5 k) := by decide +kernel
abbrev cX5_init : ByteArray := prog_7_method_1_code
def yX5_init : MethodName := ⟨RX5, "<init>", "()V"⟩
abbrev cX5_lets : ByteArray := prog_7_method_2_code
def yX5_lets : MethodName := ⟨RX5, "lets", "(IZ)I"⟩
abbrev cX5_letsMark : ByteArray := prog_7_method_3_code
def yX5_letsMark : MethodName := ⟨RX5, "letsMark", "(Z)I"⟩
def RX6 : String := "CutAtlas$PlainKind"
def TX6 : u_T := fun k => match k with
  | _ => ("", "", "", false)
def tyX6 : Nat → FieldType := fun k => match k with
  | _ => .int
abbrev wsX60 : List Cond := u_ws RX6 TX6 0
theorem tyX6_ok : ∀ k, k < 0 → parseFieldDescriptor (TX6 k).2.2.1 = some (tyX6 k) := by decide +kernel
abbrev cX6_init : ByteArray := prog_8_method_1_code
def yX6_init : MethodName := ⟨RX6, "<init>", "()V"⟩
abbrev cX6_lets : ByteArray := prog_8_method_2_code
def yX6_lets : MethodName := ⟨RX6, "lets", "(IZ)I"⟩
abbrev cX6_letsMark : ByteArray := prog_8_method_3_code
def yX6_letsMark : MethodName := ⟨RX6, "letsMark", "(Z)I"⟩
abbrev cX6_costs : ByteArray := prog_8_method_4_code
def yX6_costs : MethodName := ⟨RX6, "costs", "(I)I"⟩
abbrev cX6_costsMark : ByteArray := prog_8_method_5_code
def yX6_costsMark : MethodName := ⟨RX6, "costsMark", "()I"⟩
abbrev cX6_begins : ByteArray := prog_8_method_6_code
def yX6_begins : MethodName := ⟨RX6, "begins", "(I)I"⟩
abbrev cX6_beginsMark : ByteArray := prog_8_method_7_code
def yX6_beginsMark : MethodName := ⟨RX6, "beginsMark", "()I"⟩
def RX7 : String := "CutAtlas$SetHunt"
def TX7 : u_T := fun k => match k with
  | 0 => ("CutAtlas$SetHunt", "current", "LCutAtlas$Current;", true)
  | 1 => ("CutAtlas$SetHunt", "must", "I", false)
  | 2 => ("CutAtlas$SetHunt", "mustNot", "I", false)
  | 3 => ("CutAtlas$SetHunt", "aim", "I", false)
  | 4 => ("CutAtlas$SetHunt", "wanted", "I", false)
  | 5 => ("CutAtlas$SetHunt", "met", "I", false)
  | 6 => ("CutAtlas$SetHunt", "found", "I", false)
  | 7 => ("CutAtlas$SetHunt", "denseSet", "I", false)
  | _ => ("CutAtlas$SetHunt", "denseSum", "I", false)
def tyX7 : Nat → FieldType := fun k => match k with
  | 0 => .object "CutAtlas$Current"
  | 1 => .int
  | 2 => .int
  | 3 => .int
  | 4 => .int
  | 5 => .int
  | 6 => .int
  | 7 => .int
  | _ => .int
abbrev wsX70 : List Cond := u_ws RX7 TX7 9
theorem nmX7 : ∀ a, a < 9 → ∀ b, b < 9 → a ≠ b → (TX7 a).2.1 ≠ (TX7 b).2.1 := by decide +kernel
theorem tyX7_ok : ∀ k, k < 9 → parseFieldDescriptor (TX7 k).2.2.1 = some (tyX7 k) := by decide +kernel
abbrev cX7_init : ByteArray := prog_9_method_1_code
def yX7_init : MethodName := ⟨RX7, "<init>", "(LCutAtlas$Current;)V"⟩
abbrev cX7_countCuts : ByteArray := prog_9_method_2_code
def yX7_countCuts : MethodName := ⟨RX7, "countCuts", "(III)I"⟩
abbrev cX7_findCut : ByteArray := prog_9_method_3_code
def yX7_findCut : MethodName := ⟨RX7, "findCut", "(IIII)I"⟩
abbrev cX7_hunt : ByteArray := prog_9_method_4_code
def yX7_hunt : MethodName := ⟨RX7, "hunt", "(IIII)V"⟩
abbrev cX7_chooseForCut : ByteArray := prog_9_method_5_code
def yX7_chooseForCut : MethodName := ⟨RX7, "chooseForCut", "(III)V"⟩
abbrev cX7_meet : ByteArray := prog_9_method_6_code
def yX7_meet : MethodName := ⟨RX7, "meet", "(II)V"⟩
abbrev cX7_letIn : ByteArray := prog_9_method_7_code
def yX7_letIn : MethodName := ⟨RX7, "letIn", "(II)I"⟩
abbrev cX7_letOut : ByteArray := prog_9_method_8_code
def yX7_letOut : MethodName := ⟨RX7, "letOut", "(II)I"⟩
abbrev cX7_findDensest : ByteArray := prog_9_method_9_code
def yX7_findDensest : MethodName := ⟨RX7, "findDensest", "()V"⟩
abbrev cX7_chooseForDense : ByteArray := prog_9_method_10_code
def yX7_chooseForDense : MethodName := ⟨RX7, "chooseForDense", "(III)V"⟩
abbrev cX7_compareDense : ByteArray := prog_9_method_11_code
def yX7_compareDense : MethodName := ⟨RX7, "compareDense", "(II)V"⟩
def RX8 : String := "CutAtlas$ShutKind"
def TX8 : u_T := fun k => match k with
  | _ => ("", "", "", false)
def tyX8 : Nat → FieldType := fun k => match k with
  | _ => .int
abbrev wsX80 : List Cond := u_ws RX8 TX8 0
theorem tyX8_ok : ∀ k, k < 0 → parseFieldDescriptor (TX8 k).2.2.1 = some (tyX8 k) := by decide +kernel
abbrev cX8_init : ByteArray := prog_10_method_1_code
def yX8_init : MethodName := ⟨RX8, "<init>", "()V"⟩
abbrev cX8_costs : ByteArray := prog_10_method_2_code
def yX8_costs : MethodName := ⟨RX8, "costs", "(I)I"⟩
abbrev cX8_costsMark : ByteArray := prog_10_method_3_code
def yX8_costsMark : MethodName := ⟨RX8, "costsMark", "()I"⟩
abbrev cX8_begins : ByteArray := prog_10_method_4_code
def yX8_begins : MethodName := ⟨RX8, "begins", "(I)I"⟩
abbrev cX8_beginsMark : ByteArray := prog_10_method_5_code
def yX8_beginsMark : MethodName := ⟨RX8, "beginsMark", "()I"⟩
def RX9 : String := "CutAtlas$StrongKind"
def TX9 : u_T := fun k => match k with
  | _ => ("", "", "", false)
def tyX9 : Nat → FieldType := fun k => match k with
  | _ => .int
abbrev wsX90 : List Cond := u_ws RX9 TX9 0
theorem tyX9_ok : ∀ k, k < 0 → parseFieldDescriptor (TX9 k).2.2.1 = some (tyX9 k) := by decide +kernel
abbrev cX9_init : ByteArray := prog_11_method_1_code
def yX9_init : MethodName := ⟨RX9, "<init>", "()V"⟩
abbrev cX9_lets : ByteArray := prog_11_method_2_code
def yX9_lets : MethodName := ⟨RX9, "lets", "(IZ)I"⟩
abbrev cX9_letsMark : ByteArray := prog_11_method_3_code
def yX9_letsMark : MethodName := ⟨RX9, "letsMark", "(Z)I"⟩
def RX10 : String := "CutAtlas$Widening"
def TX10 : u_T := fun k => match k with
  | 0 => ("CutAtlas$Widening", "current", "LCutAtlas$Current;", true)
  | 1 => ("CutAtlas$Widening", "kinds", "[LCutAtlas$PlainKind;", true)
  | 2 => ("CutAtlas$Widening", "prices", "[[I", true)
  | 3 => ("CutAtlas$Widening", "costs", "[I", true)
  | _ => ("CutAtlas$Widening", "cameFrom", "[I", true)
def tyX10 : Nat → FieldType := fun k => match k with
  | 0 => .object "CutAtlas$Current"
  | 1 => .array (.object "CutAtlas$PlainKind")
  | 2 => .array (.array .int)
  | 3 => .array .int
  | _ => .array .int
abbrev wsX100 : List Cond := u_ws RX10 TX10 5
theorem nmX10 : ∀ a, a < 5 → ∀ b, b < 5 → a ≠ b → (TX10 a).2.1 ≠ (TX10 b).2.1 := by decide +kernel
theorem tyX10_ok : ∀ k, k < 5 → parseFieldDescriptor (TX10 k).2.2.1 = some (tyX10 k) := by decide +kernel
abbrev cX10_init : ByteArray := prog_12_method_1_code
def yX10_init : MethodName := ⟨RX10, "<init>", "(LCutAtlas$Current;[LCutAtlas$PlainKind;)V"⟩
abbrev cX10_pay : ByteArray := prog_12_method_2_code
def yX10_pay : MethodName := ⟨RX10, "pay", "(III)I"⟩
abbrev cX10_findPrices : ByteArray := prog_12_method_3_code
def yX10_findPrices : MethodName := ⟨RX10, "findPrices", "()V"⟩
abbrev cX10_findCosts : ByteArray := prog_12_method_4_code
def yX10_findCosts : MethodName := ⟨RX10, "findCosts", "(I)V"⟩
abbrev cX10_lookFrom : ByteArray := prog_12_method_5_code
def yX10_lookFrom : MethodName := ⟨RX10, "lookFrom", "(I)Z"⟩
abbrev cX10_stepCosts : ByteArray := prog_12_method_6_code
def yX10_stepCosts : MethodName := ⟨RX10, "stepCosts", "(II)I"⟩
abbrev cX10_stepRoom : ByteArray := prog_12_method_7_code
def yX10_stepRoom : MethodName := ⟨RX10, "stepRoom", "(II)I"⟩
abbrev cX10_roomOfWay : ByteArray := prog_12_method_8_code
def yX10_roomOfWay : MethodName := ⟨RX10, "roomOfWay", "(III)I"⟩
abbrev cX10_sendAlongWay : ByteArray := prog_12_method_9_code
def yX10_sendAlongWay : MethodName := ⟨RX10, "sendAlongWay", "(III)V"⟩
def RX11 : String := "CutAtlas"
def TX11 : u_T := fun k => match k with
  | 0 => ("CutAtlas", "kinds", "[LCutAtlas$PlainKind;", true)
  | 1 => ("CutAtlas", "net", "LCutAtlas$Net;", true)
  | 2 => ("CutAtlas", "current", "LCutAtlas$Current;", true)
  | 3 => ("CutAtlas", "hunt", "LCutAtlas$SetHunt;", true)
  | 4 => ("CutAtlas", "cutTree", "LCutAtlas$CutTree;", true)
  | 5 => ("CutAtlas", "widening", "LCutAtlas$Widening;", true)
  | 6 => ("CutAtlas", "maps", "[LCutAtlas$NumberMap;", true)
  | 7 => ("CutAtlas", "past", "[LCutAtlas$Net;", true)
  | 8 => ("CutAtlas", "pastFirst", "I", false)
  | 9 => ("CutAtlas", "pastHeld", "I", false)
  | 10 => ("CutAtlas", "traced", "J", false)
  | _ => ("CutAtlas", "finding", "I", false)
def tyX11 : Nat → FieldType := fun k => match k with
  | 0 => .array (.object "CutAtlas$PlainKind")
  | 1 => .object "CutAtlas$Net"
  | 2 => .object "CutAtlas$Current"
  | 3 => .object "CutAtlas$SetHunt"
  | 4 => .object "CutAtlas$CutTree"
  | 5 => .object "CutAtlas$Widening"
  | 6 => .array (.object "CutAtlas$NumberMap")
  | 7 => .array (.object "CutAtlas$Net")
  | 8 => .int
  | 9 => .int
  | 10 => .long
  | _ => .int
abbrev wsX110 : List Cond := u_ws RX11 TX11 12
theorem nmX11 : ∀ a, a < 12 → ∀ b, b < 12 → a ≠ b → (TX11 a).2.1 ≠ (TX11 b).2.1 := by decide +kernel
theorem tyX11_ok : ∀ k, k < 12 → parseFieldDescriptor (TX11 k).2.2.1 = some (tyX11 k) := by decide +kernel
abbrev cX11_init : ByteArray := prog_1_method_1_code
def yX11_init : MethodName := ⟨RX11, "<init>", "()V"⟩
abbrev cX11_place : ByteArray := prog_1_method_2_code
def yX11_place : MethodName := ⟨RX11, "place", "()I"⟩
abbrev cX11_line : ByteArray := prog_1_method_3_code
def yX11_line : MethodName := ⟨RX11, "line", "(IIIII)I"⟩
abbrev cX11_widen : ByteArray := prog_1_method_4_code
def yX11_widen : MethodName := ⟨RX11, "widen", "(II)I"⟩
abbrev cX11_width : ByteArray := prog_1_method_5_code
def yX11_width : MethodName := ⟨RX11, "width", "(II)I"⟩
abbrev cX11_merge : ByteArray := prog_1_method_6_code
def yX11_merge : MethodName := ⟨RX11, "merge", "(II)I"⟩
abbrev cX11_undo : ByteArray := prog_1_method_7_code
def yX11_undo : MethodName := ⟨RX11, "undo", "()I"⟩
abbrev cX11_told : ByteArray := prog_1_method_8_code
def yX11_told : MethodName := ⟨RX11, "told", "(II)I"⟩
abbrev cX11_ask : ByteArray := prog_1_method_9_code
def yX11_ask : MethodName := ⟨RX11, "ask", "(II)I"⟩
abbrev cX11_most : ByteArray := prog_1_method_10_code
def yX11_most : MethodName := ⟨RX11, "most", "(II)I"⟩
abbrev cX11_flow : ByteArray := prog_1_method_11_code
def yX11_flow : MethodName := ⟨RX11, "flow", "(III)I"⟩
abbrev cX11_cut : ByteArray := prog_1_method_12_code
def yX11_cut : MethodName := ⟨RX11, "cut", "(III)I"⟩
abbrev cX11_count : ByteArray := prog_1_method_13_code
def yX11_count : MethodName := ⟨RX11, "count", "(II)I"⟩
abbrev cX11_next : ByteArray := prog_1_method_14_code
def yX11_next : MethodName := ⟨RX11, "next", "(III)I"⟩
abbrev cX11_size : ByteArray := prog_1_method_15_code
def yX11_size : MethodName := ⟨RX11, "size", "(III)I"⟩
abbrev cX11_raise : ByteArray := prog_1_method_16_code
def yX11_raise : MethodName := ⟨RX11, "raise", "(III)I"⟩
abbrev cX11_cheapest : ByteArray := prog_1_method_17_code
def yX11_cheapest : MethodName := ⟨RX11, "cheapest", "(III)I"⟩
abbrev cX11_tree : ByteArray := prog_1_method_18_code
def yX11_tree : MethodName := ⟨RX11, "tree", "(II)I"⟩
abbrev cX11_between : ByteArray := prog_1_method_19_code
def yX11_between : MethodName := ⟨RX11, "between", "(II)I"⟩
abbrev cX11_least : ByteArray := prog_1_method_20_code
def yX11_least : MethodName := ⟨RX11, "least", "()I"⟩
abbrev cX11_cuts : ByteArray := prog_1_method_21_code
def yX11_cuts : MethodName := ⟨RX11, "cuts", "()I"⟩
abbrev cX11_cutAt : ByteArray := prog_1_method_22_code
def yX11_cutAt : MethodName := ⟨RX11, "cutAt", "(I)I"⟩
abbrev cX11_weak : ByteArray := prog_1_method_23_code
def yX11_weak : MethodName := ⟨RX11, "weak", "(I)I"⟩
abbrev cX11_part : ByteArray := prog_1_method_24_code
def yX11_part : MethodName := ⟨RX11, "part", "(II)I"⟩
abbrev cX11_dense : ByteArray := prog_1_method_25_code
def yX11_dense : MethodName := ⟨RX11, "dense", "(I)I"⟩
abbrev cX11_map : ByteArray := prog_1_method_26_code
def yX11_map : MethodName := ⟨RX11, "map", "(III)I"⟩
abbrev cX11_row : ByteArray := prog_1_method_27_code
def yX11_row : MethodName := ⟨RX11, "row", "(III)I"⟩
abbrev cX11_put : ByteArray := prog_1_method_28_code
def yX11_put : MethodName := ⟨RX11, "put", "(IIIIJ)I"⟩
abbrev cX11_copy : ByteArray := prog_1_method_29_code
def yX11_copy : MethodName := ⟨RX11, "copy", "(IIIIII)I"⟩
abbrev cX11_item : ByteArray := prog_1_method_30_code
def yX11_item : MethodName := ⟨RX11, "item", "(IIII)J"⟩
abbrev cX11_read : ByteArray := prog_1_method_31_code
def yX11_read : MethodName := ⟨RX11, "read", "(I)I"⟩
abbrev cX11_about : ByteArray := prog_1_method_32_code
def yX11_about : MethodName := ⟨RX11, "about", "(I)I"⟩
abbrev cX11_trace : ByteArray := prog_1_method_33_code
def yX11_trace : MethodName := ⟨RX11, "trace", "()J"⟩
abbrev cX11_status : ByteArray := prog_1_method_34_code
def yX11_status : MethodName := ⟨RX11, "status", "()I"⟩
abbrev cX11_remember : ByteArray := prog_1_method_35_code
def yX11_remember : MethodName := ⟨RX11, "remember", "()V"⟩
abbrev cX11_lineRefusal : ByteArray := prog_1_method_36_code
def yX11_lineRefusal : MethodName := ⟨RX11, "lineRefusal", "(JJJJJ)I"⟩
abbrev cX11_addLine : ByteArray := prog_1_method_37_code
def yX11_addLine : MethodName := ⟨RX11, "addLine", "(IIIII)I"⟩
abbrev cX11_mostNow : ByteArray := prog_1_method_38_code
def yX11_mostNow : MethodName := ⟨RX11, "mostNow", "(II)I"⟩
abbrev cX11_isMapNumber : ByteArray := prog_1_method_39_code
def yX11_isMapNumber : MethodName := ⟨RX11, "isMapNumber", "(I)Z"⟩
abbrev cX11_isMapKind : ByteArray := prog_1_method_40_code
def yX11_isMapKind : MethodName := ⟨RX11, "isMapKind", "(I)Z"⟩
abbrev cX11_mapRefusal : ByteArray := prog_1_method_41_code
def yX11_mapRefusal : MethodName := ⟨RX11, "mapRefusal", "(III)I"⟩
abbrev cX11_rowRefusal : ByteArray := prog_1_method_42_code
def yX11_rowRefusal : MethodName := ⟨RX11, "rowRefusal", "(III)I"⟩
abbrev cX11_numberRefusal : ByteArray := prog_1_method_43_code
def yX11_numberRefusal : MethodName := ⟨RX11, "numberRefusal", "(IIII)I"⟩
abbrev cX11_readRefusal : ByteArray := prog_1_method_44_code
def yX11_readRefusal : MethodName := ⟨RX11, "readRefusal", "(LCutAtlas$NumberMap;I)I"⟩
def RX12 : String := "CutAtlasModel"
def TX12 : u_T := fun k => match k with
  | 0 => ("CutAtlasModel", "thrown", "I", false)
  | 1 => ("CutAtlasModel", "status", "I", false)
  | 2 => ("CutAtlasModel", "trace", "J", false)
  | 3 => ("CutAtlasModel", "places", "I", false)
  | 4 => ("CutAtlasModel", "lines", "I", false)
  | 5 => ("CutAtlasModel", "kind", "[I", true)
  | 6 => ("CutAtlasModel", "from", "[I", true)
  | 7 => ("CutAtlasModel", "to", "[I", true)
  | 8 => ("CutAtlasModel", "width", "[I", true)
  | 9 => ("CutAtlasModel", "price", "[I", true)
  | 10 => ("CutAtlasModel", "isMissing", "[Z", true)
  | 11 => ("CutAtlasModel", "undone", "I", false)
  | 12 => ("CutAtlasModel", "oldPlaces", "[I", true)
  | 13 => ("CutAtlasModel", "oldLines", "[I", true)
  | 14 => ("CutAtlasModel", "old", "[I", true)
  | 15 => ("CutAtlasModel", "hasMap", "[Z", true)
  | 16 => ("CutAtlasModel", "mapKind", "[I", true)
  | 17 => ("CutAtlasModel", "mapRows", "[I", true)
  | 18 => ("CutAtlasModel", "rowSize", "[I", true)
  | 19 => ("CutAtlasModel", "cells", "[J", true)
  | 20 => ("CutAtlasModel", "copied", "[J", true)
  | 21 => ("CutAtlasModel", "raised", "I", false)
  | 22 => ("CutAtlasModel", "flows", "[I", true)
  | 23 => ("CutAtlasModel", "queue", "[I", true)
  | 24 => ("CutAtlasModel", "cameFrom", "[I", true)
  | 25 => ("CutAtlasModel", "cuts", "I", false)
  | 26 => ("CutAtlasModel", "near", "I", false)
  | 27 => ("CutAtlasModel", "far", "I", false)
  | 28 => ("CutAtlasModel", "chosen", "I", false)
  | 29 => ("CutAtlasModel", "paid", "[J", true)
  | 30 => ("CutAtlasModel", "byLine", "[I", true)
  | 31 => ("CutAtlasModel", "byPlace", "[I", true)
  | 32 => ("CutAtlasModel", "treeNext", "[I", true)
  | _ => ("CutAtlasModel", "treeNumber", "[I", true)
abbrev wsX120 : List Cond := u_ws RX12 TX12 34
abbrev cX12_init : ByteArray := prog_14_method_1_code
def yX12_init : MethodName := ⟨RX12, "<init>", "()V"⟩
abbrev cX12_in : ByteArray := prog_14_method_3_code
def yX12_in : MethodName := ⟨RX12, "in", "(JJJ)Z"⟩
abbrev cX12_isPlace : ByteArray := prog_14_method_4_code
def yX12_isPlace : MethodName := ⟨RX12, "isPlace", "(I)Z"⟩
abbrev cX12_isLine : ByteArray := prog_14_method_5_code
def yX12_isLine : MethodName := ⟨RX12, "isLine", "(I)Z"⟩
abbrev cX12_arePlaces : ByteArray := prog_14_method_6_code
def yX12_arePlaces : MethodName := ⟨RX12, "arePlaces", "(II)Z"⟩
abbrev cX12_keeps : ByteArray := prog_14_method_7_code
def yX12_keeps : MethodName := ⟨RX12, "keeps", "()V"⟩
abbrev cX12_place : ByteArray := prog_14_method_8_code
def yX12_place : MethodName := ⟨RX12, "place", "()I"⟩
abbrev cX12_refused : ByteArray := prog_14_method_9_code
def yX12_refused : MethodName := ⟨RX12, "refused", "(JJJJJ)I"⟩
abbrev cX12_adds : ByteArray := prog_14_method_10_code
def yX12_adds : MethodName := ⟨RX12, "adds", "(IIIII)V"⟩
abbrev cX12_line : ByteArray := prog_14_method_11_code
def yX12_line : MethodName := ⟨RX12, "line", "(IIIII)I"⟩
abbrev cX12_costs : ByteArray := prog_14_method_12_code
def yX12_costs : MethodName := ⟨RX12, "costs", "(I)I"⟩
abbrev cX12_costsTrace : ByteArray := prog_14_method_13_code
def yX12_costsTrace : MethodName := ⟨RX12, "costsTrace", "(I)J"⟩
abbrev cX12_widen : ByteArray := prog_14_method_14_code
def yX12_widen : MethodName := ⟨RX12, "widen", "(II)I"⟩
abbrev cX12_width : ByteArray := prog_14_method_15_code
def yX12_width : MethodName := ⟨RX12, "width", "(II)I"⟩
abbrev cX12_merge : ByteArray := prog_14_method_16_code
def yX12_merge : MethodName := ⟨RX12, "merge", "(II)I"⟩
abbrev cX12_undo : ByteArray := prog_14_method_17_code
def yX12_undo : MethodName := ⟨RX12, "undo", "()I"⟩
abbrev cX12_told : ByteArray := prog_14_method_18_code
def yX12_told : MethodName := ⟨RX12, "told", "(II)I"⟩
abbrev cX12_lets : ByteArray := prog_14_method_19_code
def yX12_lets : MethodName := ⟨RX12, "lets", "(IZ)I"⟩
abbrev cX12_ask : ByteArray := prog_14_method_20_code
def yX12_ask : MethodName := ⟨RX12, "ask", "(II)I"⟩
abbrev cX12_room : ByteArray := prog_14_method_21_code
def yX12_room : MethodName := ⟨RX12, "room", "(IZ)I"⟩
abbrev cX12_sizeOf : ByteArray := prog_14_method_22_code
def yX12_sizeOf : MethodName := ⟨RX12, "sizeOf", "(I)I"⟩
abbrev cX12_mostOf : ByteArray := prog_14_method_23_code
def yX12_mostOf : MethodName := ⟨RX12, "mostOf", "(II)I"⟩
abbrev cX12_asTold : ByteArray := prog_14_method_24_code
def yX12_asTold : MethodName := ⟨RX12, "asTold", "(I)I"⟩
abbrev cX12_most : ByteArray := prog_14_method_25_code
def yX12_most : MethodName := ⟨RX12, "most", "(II)I"⟩
abbrev cX12_left : ByteArray := prog_14_method_26_code
def yX12_left : MethodName := ⟨RX12, "left", "(III)I"⟩
abbrev cX12_leftOf : ByteArray := prog_14_method_27_code
def yX12_leftOf : MethodName := ⟨RX12, "leftOf", "(II)I"⟩
abbrev cX12_isMet : ByteArray := prog_14_method_28_code
def yX12_isMet : MethodName := ⟨RX12, "isMet", "(II)Z"⟩
abbrev cX12_hasWay : ByteArray := prog_14_method_29_code
def yX12_hasWay : MethodName := ⟨RX12, "hasWay", "(II)Z"⟩
abbrev cX12_flowOf : ByteArray := prog_14_method_30_code
def yX12_flowOf : MethodName := ⟨RX12, "flowOf", "(II)V"⟩
abbrev cX12_flow : ByteArray := prog_14_method_31_code
def yX12_flow : MethodName := ⟨RX12, "flow", "(III)I"⟩
abbrev cX12_bitsOf : ByteArray := prog_14_method_32_code
def yX12_bitsOf : MethodName := ⟨RX12, "bitsOf", "(I)I"⟩
abbrev cX12_cutsOf : ByteArray := prog_14_method_33_code
def yX12_cutsOf : MethodName := ⟨RX12, "cutsOf", "(IIII)V"⟩
abbrev cX12_cut : ByteArray := prog_14_method_34_code
def yX12_cut : MethodName := ⟨RX12, "cut", "(III)I"⟩
abbrev cX12_count : ByteArray := prog_14_method_35_code
def yX12_count : MethodName := ⟨RX12, "count", "(II)I"⟩
abbrev cX12_next : ByteArray := prog_14_method_36_code
def yX12_next : MethodName := ⟨RX12, "next", "(III)I"⟩
abbrev cX12_size : ByteArray := prog_14_method_37_code
def yX12_size : MethodName := ⟨RX12, "size", "(III)I"⟩
abbrev cX12_raise : ByteArray := prog_14_method_38_code
def yX12_raise : MethodName := ⟨RX12, "raise", "(III)I"⟩
abbrev cX12_step : ByteArray := prog_14_method_39_code
def yX12_step : MethodName := ⟨RX12, "step", "(IZ)J"⟩
abbrev cX12_amount : ByteArray := prog_14_method_40_code
def yX12_amount : MethodName := ⟨RX12, "amount", "(IZ)I"⟩
abbrev cX12_cheapWay : ByteArray := prog_14_method_41_code
def yX12_cheapWay : MethodName := ⟨RX12, "cheapWay", "(II)Z"⟩
abbrev cX12_cheapest : ByteArray := prog_14_method_42_code
def yX12_cheapest : MethodName := ⟨RX12, "cheapest", "(III)I"⟩
abbrev cX12_isWhole : ByteArray := prog_14_method_43_code
def yX12_isWhole : MethodName := ⟨RX12, "isWhole", "()Z"⟩
abbrev cX12_plants : ByteArray := prog_14_method_44_code
def yX12_plants : MethodName := ⟨RX12, "plants", "()V"⟩
abbrev cX12_tree : ByteArray := prog_14_method_45_code
def yX12_tree : MethodName := ⟨RX12, "tree", "(II)I"⟩
abbrev cX12_between : ByteArray := prog_14_method_46_code
def yX12_between : MethodName := ⟨RX12, "between", "(II)I"⟩
abbrev cX12_leastOf : ByteArray := prog_14_method_47_code
def yX12_leastOf : MethodName := ⟨RX12, "leastOf", "()I"⟩
abbrev cX12_least : ByteArray := prog_14_method_48_code
def yX12_least : MethodName := ⟨RX12, "least", "()I"⟩
abbrev cX12_wholeCuts : ByteArray := prog_14_method_49_code
def yX12_wholeCuts : MethodName := ⟨RX12, "wholeCuts", "(I)V"⟩
abbrev cX12_cuts : ByteArray := prog_14_method_50_code
def yX12_cuts : MethodName := ⟨RX12, "cuts", "()I"⟩
abbrev cX12_cutAt : ByteArray := prog_14_method_51_code
def yX12_cutAt : MethodName := ⟨RX12, "cutAt", "(I)I"⟩
abbrev cX12_weak : ByteArray := prog_14_method_52_code
def yX12_weak : MethodName := ⟨RX12, "weak", "(I)I"⟩
abbrev cX12_part : ByteArray := prog_14_method_53_code
def yX12_part : MethodName := ⟨RX12, "part", "(II)I"⟩
abbrev cX12_dense : ByteArray := prog_14_method_54_code
def yX12_dense : MethodName := ⟨RX12, "dense", "(I)I"⟩
abbrev cX12_no : ByteArray := prog_14_method_55_code
def yX12_no : MethodName := ⟨RX12, "no", "(I)I"⟩
abbrev cX12_map : ByteArray := prog_14_method_56_code
def yX12_map : MethodName := ⟨RX12, "map", "(III)I"⟩
abbrev cX12_row : ByteArray := prog_14_method_57_code
def yX12_row : MethodName := ⟨RX12, "row", "(III)I"⟩
abbrev cX12_wrong : ByteArray := prog_14_method_58_code
def yX12_wrong : MethodName := ⟨RX12, "wrong", "(IIII)I"⟩
abbrev cX12_put : ByteArray := prog_14_method_59_code
def yX12_put : MethodName := ⟨RX12, "put", "(IIIIJ)I"⟩
abbrev cX12_areThere : ByteArray := prog_14_method_60_code
def yX12_areThere : MethodName := ⟨RX12, "areThere", "(III)Z"⟩
abbrev cX12_copy : ByteArray := prog_14_method_61_code
def yX12_copy : MethodName := ⟨RX12, "copy", "(IIIIII)I"⟩
abbrev cX12_item : ByteArray := prog_14_method_62_code
def yX12_item : MethodName := ⟨RX12, "item", "(IIII)J"⟩
abbrev cX12_read : ByteArray := prog_14_method_63_code
def yX12_read : MethodName := ⟨RX12, "read", "(I)I"⟩
abbrev cX12_about : ByteArray := prog_14_method_64_code
def yX12_about : MethodName := ⟨RX12, "about", "(I)I"⟩
abbrev cX12_trace : ByteArray := prog_14_method_65_code
def yX12_trace : MethodName := ⟨RX12, "trace", "()J"⟩
abbrev cX12_status : ByteArray := prog_14_method_66_code
def yX12_status : MethodName := ⟨RX12, "status", "()I"⟩
def RJ6 : String := "java/lang/Integer"
abbrev cJ6_bitCount_0f7a4 : ByteArray := prog_15_method_49_code
def yJ6_bitCount_0f7a4 : MethodName := ⟨RJ6, "bitCount", "(I)I"⟩
def RJ7 : String := "java/util/Arrays"
abbrev cJ7_fill_53178 : ByteArray := prog_18_method_103_code
def yJ7_fill_53178 : MethodName := ⟨RJ7, "fill", "([II)V"⟩
def RL : String := "CutAtlasLaw"
def wsX0_init : List Cond := .code yX0_init cX0_init 3 none :: ([.methodLink RX0 3 objectInit, .instanceMethod objectInit, .code objectInit ⟨#[0xb1]⟩ 1 none, .classLink RX0 9 "[[I", .arrayClass .int, .fieldLink RX0 11 "CutAtlas$Current" "lets" "[[I", .fieldLink RX0 16 "CutAtlas$Current" "room" "[[I", .fieldLink RX0 19 "CutAtlas$Current" "flowing" "[I", .fieldLink RX0 23 "CutAtlas$Current" "letsForth" "[I", .fieldLink RX0 26 "CutAtlas$Current" "letsBack" "[I", .fieldLink RX0 29 "CutAtlas$Current" "queue" "[I", .fieldLink RX0 32 "CutAtlas$Current" "cameFrom" "[I", .fieldLink RX0 35 "CutAtlas$Current" "net" "LCutAtlas$Net;", .fieldLink RX0 39 "CutAtlas$Current" "kinds" "[LCutAtlas$PlainKind;"] ++ wsX00)
def wsX1_init : List Cond := .code yX1_init cX1_init 2 none :: ([.methodLink RX1 3 objectInit, .instanceMethod objectInit, .code objectInit ⟨#[0xb1]⟩ 1 none, .arrayClass .int, .fieldLink RX1 9 "CutAtlas$CutTree" "nexts" "[I", .fieldLink RX1 15 "CutAtlas$CutTree" "numbers" "[I", .fieldLink RX1 18 "CutAtlas$CutTree" "current" "LCutAtlas$Current;"] ++ wsX10)
def wsX6_init : List Cond := .code yX6_init cX6_init 1 none :: ([.methodLink RX6 3 objectInit, .instanceMethod objectInit, .code objectInit ⟨#[0xb1]⟩ 1 none])
def wsX2_init : List Cond := .code yX2_init cX2_init 1 none :: ([.instanceMethod yX6_init, .initialized RX6, .code yX6_init cX6_init 1 none, .methodLink RX6 3 objectInit, .instanceMethod objectInit, .code objectInit ⟨#[0xb1]⟩ 1 none])
def wsX3_init : List Cond := .code yX3_init cX3_init 1 none :: ([.methodLink RX3 3 objectInit, .instanceMethod objectInit, .code objectInit ⟨#[0xb1]⟩ 1 none, .fieldLink RX3 9 "CutAtlas$Net" "places" "I", .fieldLink RX3 15 "CutAtlas$Net" "lines" "I", .arrayClass .int, .fieldLink RX3 18 "CutAtlas$Net" "kinds" "[I", .fieldLink RX3 22 "CutAtlas$Net" "starts" "[I", .fieldLink RX3 25 "CutAtlas$Net" "ends" "[I", .fieldLink RX3 28 "CutAtlas$Net" "widths" "[I", .fieldLink RX3 31 "CutAtlas$Net" "prices" "[I"] ++ wsX30)
def wsX4_init : List Cond := .code yX4_init cX4_init 1 none :: ([.methodLink RX4 3 objectInit, .instanceMethod objectInit, .code objectInit ⟨#[0xb1]⟩ 1 none, .fieldLink RX4 9 "CutAtlas$NumberMap" "kind" "I", .fieldLink RX4 15 "CutAtlas$NumberMap" "rows" "I", .arrayClass .int, .fieldLink RX4 18 "CutAtlas$NumberMap" "lengths" "[I", .arrayClass .long, .fieldLink RX4 22 "CutAtlas$NumberMap" "numbers" "[J"] ++ wsX40)
def wsX5_init : List Cond := .code yX5_init cX5_init 1 none :: ([.instanceMethod yX6_init, .initialized RX6, .code yX6_init cX6_init 1 none, .methodLink RX6 3 objectInit, .instanceMethod objectInit, .code objectInit ⟨#[0xb1]⟩ 1 none])
def wsX7_init : List Cond := .code yX7_init cX7_init 2 none :: ([.methodLink RX7 3 objectInit, .instanceMethod objectInit, .code objectInit ⟨#[0xb1]⟩ 1 none, .fieldLink RX7 9 "CutAtlas$SetHunt" "current" "LCutAtlas$Current;"] ++ wsX70)
def wsX8_init : List Cond := .code yX8_init cX8_init 1 none :: ([.instanceMethod yX2_init, .initialized RX2, .code yX2_init cX2_init 1 none, .instanceMethod yX6_init, .initialized RX6, .code yX6_init cX6_init 1 none, .methodLink RX6 3 objectInit, .instanceMethod objectInit, .code objectInit ⟨#[0xb1]⟩ 1 none])
def wsX9_init : List Cond := .code yX9_init cX9_init 1 none :: ([.instanceMethod yX6_init, .initialized RX6, .code yX6_init cX6_init 1 none, .methodLink RX6 3 objectInit, .instanceMethod objectInit, .code objectInit ⟨#[0xb1]⟩ 1 none])
def wsX10_init : List Cond := .code yX10_init cX10_init 3 none :: ([.methodLink RX10 3 objectInit, .instanceMethod objectInit, .code objectInit ⟨#[0xb1]⟩ 1 none, .classLink RX10 9 "[[I", .arrayClass .int, .fieldLink RX10 11 "CutAtlas$Widening" "prices" "[[I", .fieldLink RX10 16 "CutAtlas$Widening" "costs" "[I", .fieldLink RX10 20 "CutAtlas$Widening" "cameFrom" "[I", .fieldLink RX10 23 "CutAtlas$Widening" "current" "LCutAtlas$Current;", .fieldLink RX10 27 "CutAtlas$Widening" "kinds" "[LCutAtlas$PlainKind;"] ++ wsX100)
def wsX11_init_r1 : List Cond := [Cond.methodLink RX11 1 objectInit, Cond.instanceMethod objectInit, Cond.code objectInit ⟨#[0xb1]⟩ 1 none, Cond.classLink RX11 7 RX6, Cond.instantiable RX6 0, Cond.initialized RX6, Cond.classLink RX11 10 RX5, Cond.instantiable RX5 0, Cond.initialized RX5, Cond.classLink RX11 13 RX9, Cond.instantiable RX9 0, Cond.initialized RX9, Cond.classLink RX11 16 RX2, Cond.instantiable RX2 0, Cond.initialized RX2, Cond.classLink RX11 19 RX8, Cond.instantiable RX8 0, Cond.initialized RX8, Cond.fieldLink RX11 22 "CutAtlas" "kinds" "[LCutAtlas$PlainKind;", Cond.classLink RX11 28 RX3, Cond.instantiable RX3 7, Cond.initialized RX3, Cond.fieldLink RX11 31 "CutAtlas" "net" "LCutAtlas$Net;", Cond.classLink RX11 35 RX0]
def wsX11_init_r2 : List Cond := [Cond.instantiable RX0 9, Cond.initialized RX0, Cond.fieldLink RX11 40 "CutAtlas" "current" "LCutAtlas$Current;", Cond.classLink RX11 44 RX7, Cond.instantiable RX7 9, Cond.initialized RX7, Cond.fieldLink RX11 49 "CutAtlas" "hunt" "LCutAtlas$SetHunt;", Cond.classLink RX11 53 RX1, Cond.instantiable RX1 3, Cond.initialized RX1, Cond.fieldLink RX11 56 "CutAtlas" "cutTree" "LCutAtlas$CutTree;", Cond.classLink RX11 60 RX10, Cond.instantiable RX10 5, Cond.initialized RX10, Cond.fieldLink RX11 65 "CutAtlas" "widening" "LCutAtlas$Widening;", Cond.classLink RX11 69 RX4, Cond.instantiable RX4 4, Cond.initialized RX4, Cond.fieldLink RX11 72 "CutAtlas" "maps" "[LCutAtlas$NumberMap;", Cond.fieldLink RX11 76 "CutAtlas" "past" "[LCutAtlas$Net;", Cond.fieldLink RX11 80 "CutAtlas" "pastFirst" "I", Cond.fieldLink RX11 84 "CutAtlas" "pastHeld" "I", Cond.fieldLink RX11 87 "CutAtlas" "traced" "J", Cond.fieldLink RX11 91 "CutAtlas" "finding" "I"]
def wsX11_init_r3 : List Cond := [Cond.instanceMethod yX6_init, Cond.code yX6_init cX6_init 1 none, Cond.methodLink RX6 3 objectInit, Cond.instanceMethod yX5_init, Cond.code yX5_init cX5_init 1 none, Cond.instanceMethod yX9_init, Cond.code yX9_init cX9_init 1 none, Cond.instanceMethod yX2_init, Cond.code yX2_init cX2_init 1 none, Cond.instanceMethod yX8_init, Cond.code yX8_init cX8_init 1 none, Cond.instanceMethod yX3_init, Cond.code yX3_init cX3_init 1 none, Cond.methodLink RX3 3 objectInit, Cond.fieldLink RX3 9 "CutAtlas$Net" "places" "I", Cond.fieldLink RX3 15 "CutAtlas$Net" "lines" "I", Cond.arrayClass .int, Cond.fieldLink RX3 18 "CutAtlas$Net" "kinds" "[I", Cond.fieldLink RX3 22 "CutAtlas$Net" "starts" "[I", Cond.fieldLink RX3 25 "CutAtlas$Net" "ends" "[I", Cond.fieldLink RX3 28 "CutAtlas$Net" "widths" "[I", Cond.fieldLink RX3 31 "CutAtlas$Net" "prices" "[I", Cond.methodLink RX11 37 yX0_init, Cond.instanceMethod yX0_init]
def wsX11_init_r4 : List Cond := [Cond.code yX0_init cX0_init 3 none, Cond.methodLink RX0 3 objectInit, Cond.classLink RX0 9 "[[I", Cond.fieldLink RX0 11 "CutAtlas$Current" "lets" "[[I", Cond.fieldLink RX0 16 "CutAtlas$Current" "room" "[[I", Cond.fieldLink RX0 19 "CutAtlas$Current" "flowing" "[I", Cond.fieldLink RX0 23 "CutAtlas$Current" "letsForth" "[I", Cond.fieldLink RX0 26 "CutAtlas$Current" "letsBack" "[I", Cond.fieldLink RX0 29 "CutAtlas$Current" "queue" "[I", Cond.fieldLink RX0 32 "CutAtlas$Current" "cameFrom" "[I", Cond.fieldLink RX0 35 "CutAtlas$Current" "net" "LCutAtlas$Net;", Cond.fieldLink RX0 39 "CutAtlas$Current" "kinds" "[LCutAtlas$PlainKind;", Cond.methodLink RX11 46 yX7_init, Cond.instanceMethod yX7_init, Cond.code yX7_init cX7_init 2 none, Cond.methodLink RX7 3 objectInit, Cond.fieldLink RX7 9 "CutAtlas$SetHunt" "current" "LCutAtlas$Current;", Cond.methodLink RX11 55 yX1_init, Cond.instanceMethod yX1_init, Cond.code yX1_init cX1_init 2 none, Cond.methodLink RX1 3 objectInit, Cond.fieldLink RX1 9 "CutAtlas$CutTree" "nexts" "[I", Cond.fieldLink RX1 15 "CutAtlas$CutTree" "numbers" "[I", Cond.fieldLink RX1 18 "CutAtlas$CutTree" "current" "LCutAtlas$Current;"]
def wsX11_init_r5 : List Cond := [Cond.methodLink RX11 62 yX10_init, Cond.instanceMethod yX10_init, Cond.code yX10_init cX10_init 3 none, Cond.methodLink RX10 3 objectInit, Cond.classLink RX10 9 "[[I", Cond.fieldLink RX10 11 "CutAtlas$Widening" "prices" "[[I", Cond.fieldLink RX10 16 "CutAtlas$Widening" "costs" "[I", Cond.fieldLink RX10 20 "CutAtlas$Widening" "cameFrom" "[I", Cond.fieldLink RX10 23 "CutAtlas$Widening" "current" "LCutAtlas$Current;", Cond.fieldLink RX10 27 "CutAtlas$Widening" "kinds" "[LCutAtlas$PlainKind;", Cond.instanceMethod yX4_init, Cond.code yX4_init cX4_init 1 none, Cond.methodLink RX4 3 objectInit, Cond.fieldLink RX4 9 "CutAtlas$NumberMap" "kind" "I", Cond.fieldLink RX4 15 "CutAtlas$NumberMap" "rows" "I", Cond.fieldLink RX4 18 "CutAtlas$NumberMap" "lengths" "[I", Cond.arrayClass .long, Cond.fieldLink RX4 22 "CutAtlas$NumberMap" "numbers" "[J"]
def wsX11_init : List Cond := .code yX11_init cX11_init 1 none :: ((wsX11_init_r1 ++ (wsX11_init_r2 ++ (wsX11_init_r3 ++ (wsX11_init_r4 ++ wsX11_init_r5)))) ++ wsX60 ++ wsX50 ++ wsX90 ++ wsX20 ++ wsX80 ++ wsX110 ++ wsX30 ++ wsX00 ++ wsX70 ++ wsX10 ++ wsX100 ++ wsX40)
def wsL_law_r1 : List Cond := [Cond.classLink RL 7 RX11, Cond.instantiable RX11 12, Cond.initialized RX11, Cond.classLink RL 10 RX12, Cond.instantiable RX12 34, Cond.initialized RX12, Cond.constantLong RL 122 (4294967295), Cond.methodLink RL 9 yX11_init, Cond.instanceMethod yX11_init, Cond.code yX11_init cX11_init 1 none, Cond.methodLink RX11 1 objectInit, Cond.instanceMethod objectInit, Cond.code objectInit ⟨#[0xb1]⟩ 1 none, Cond.classLink RX11 7 RX6, Cond.instantiable RX6 0, Cond.initialized RX6, Cond.classLink RX11 10 RX5, Cond.instantiable RX5 0, Cond.initialized RX5, Cond.classLink RX11 13 RX9, Cond.instantiable RX9 0, Cond.initialized RX9, Cond.classLink RX11 16 RX2, Cond.instantiable RX2 0]
def wsL_law_r2 : List Cond := [Cond.initialized RX2, Cond.classLink RX11 19 RX8, Cond.instantiable RX8 0, Cond.initialized RX8, Cond.fieldLink RX11 22 "CutAtlas" "kinds" "[LCutAtlas$PlainKind;", Cond.classLink RX11 28 RX3, Cond.instantiable RX3 7, Cond.initialized RX3, Cond.fieldLink RX11 31 "CutAtlas" "net" "LCutAtlas$Net;", Cond.classLink RX11 35 RX0, Cond.instantiable RX0 9, Cond.initialized RX0, Cond.fieldLink RX11 40 "CutAtlas" "current" "LCutAtlas$Current;", Cond.classLink RX11 44 RX7, Cond.instantiable RX7 9, Cond.initialized RX7, Cond.fieldLink RX11 49 "CutAtlas" "hunt" "LCutAtlas$SetHunt;", Cond.classLink RX11 53 RX1, Cond.instantiable RX1 3, Cond.initialized RX1, Cond.fieldLink RX11 56 "CutAtlas" "cutTree" "LCutAtlas$CutTree;", Cond.classLink RX11 60 RX10, Cond.instantiable RX10 5, Cond.initialized RX10]
def wsL_law_r3 : List Cond := [Cond.fieldLink RX11 65 "CutAtlas" "widening" "LCutAtlas$Widening;", Cond.classLink RX11 69 RX4, Cond.instantiable RX4 4, Cond.initialized RX4, Cond.fieldLink RX11 72 "CutAtlas" "maps" "[LCutAtlas$NumberMap;", Cond.fieldLink RX11 76 "CutAtlas" "past" "[LCutAtlas$Net;", Cond.fieldLink RX11 80 "CutAtlas" "pastFirst" "I", Cond.fieldLink RX11 84 "CutAtlas" "pastHeld" "I", Cond.fieldLink RX11 87 "CutAtlas" "traced" "J", Cond.fieldLink RX11 91 "CutAtlas" "finding" "I", Cond.instanceMethod yX6_init, Cond.code yX6_init cX6_init 1 none, Cond.methodLink RX6 3 objectInit, Cond.instanceMethod yX5_init, Cond.code yX5_init cX5_init 1 none, Cond.instanceMethod yX9_init, Cond.code yX9_init cX9_init 1 none, Cond.instanceMethod yX2_init, Cond.code yX2_init cX2_init 1 none, Cond.instanceMethod yX8_init, Cond.code yX8_init cX8_init 1 none, Cond.instanceMethod yX3_init, Cond.code yX3_init cX3_init 1 none, Cond.methodLink RX3 3 objectInit]
def wsL_law_r4 : List Cond := [Cond.fieldLink RX3 9 "CutAtlas$Net" "places" "I", Cond.fieldLink RX3 15 "CutAtlas$Net" "lines" "I", Cond.arrayClass .int, Cond.fieldLink RX3 18 "CutAtlas$Net" "kinds" "[I", Cond.fieldLink RX3 22 "CutAtlas$Net" "starts" "[I", Cond.fieldLink RX3 25 "CutAtlas$Net" "ends" "[I", Cond.fieldLink RX3 28 "CutAtlas$Net" "widths" "[I", Cond.fieldLink RX3 31 "CutAtlas$Net" "prices" "[I", Cond.methodLink RX11 37 yX0_init, Cond.instanceMethod yX0_init, Cond.code yX0_init cX0_init 3 none, Cond.methodLink RX0 3 objectInit, Cond.classLink RX0 9 "[[I", Cond.fieldLink RX0 11 "CutAtlas$Current" "lets" "[[I", Cond.fieldLink RX0 16 "CutAtlas$Current" "room" "[[I", Cond.fieldLink RX0 19 "CutAtlas$Current" "flowing" "[I", Cond.fieldLink RX0 23 "CutAtlas$Current" "letsForth" "[I", Cond.fieldLink RX0 26 "CutAtlas$Current" "letsBack" "[I", Cond.fieldLink RX0 29 "CutAtlas$Current" "queue" "[I", Cond.fieldLink RX0 32 "CutAtlas$Current" "cameFrom" "[I", Cond.fieldLink RX0 35 "CutAtlas$Current" "net" "LCutAtlas$Net;", Cond.fieldLink RX0 39 "CutAtlas$Current" "kinds" "[LCutAtlas$PlainKind;", Cond.methodLink RX11 46 yX7_init, Cond.instanceMethod yX7_init]
def wsL_law_r5 : List Cond := [Cond.code yX7_init cX7_init 2 none, Cond.methodLink RX7 3 objectInit, Cond.fieldLink RX7 9 "CutAtlas$SetHunt" "current" "LCutAtlas$Current;", Cond.methodLink RX11 55 yX1_init, Cond.instanceMethod yX1_init, Cond.code yX1_init cX1_init 2 none, Cond.methodLink RX1 3 objectInit, Cond.fieldLink RX1 9 "CutAtlas$CutTree" "nexts" "[I", Cond.fieldLink RX1 15 "CutAtlas$CutTree" "numbers" "[I", Cond.fieldLink RX1 18 "CutAtlas$CutTree" "current" "LCutAtlas$Current;", Cond.methodLink RX11 62 yX10_init, Cond.instanceMethod yX10_init, Cond.code yX10_init cX10_init 3 none, Cond.methodLink RX10 3 objectInit, Cond.classLink RX10 9 "[[I", Cond.fieldLink RX10 11 "CutAtlas$Widening" "prices" "[[I", Cond.fieldLink RX10 16 "CutAtlas$Widening" "costs" "[I", Cond.fieldLink RX10 20 "CutAtlas$Widening" "cameFrom" "[I", Cond.fieldLink RX10 23 "CutAtlas$Widening" "current" "LCutAtlas$Current;", Cond.fieldLink RX10 27 "CutAtlas$Widening" "kinds" "[LCutAtlas$PlainKind;", Cond.instanceMethod yX4_init, Cond.code yX4_init cX4_init 1 none, Cond.methodLink RX4 3 objectInit, Cond.fieldLink RX4 9 "CutAtlas$NumberMap" "kind" "I"]
def wsL_law_r6 : List Cond := [Cond.fieldLink RX4 15 "CutAtlas$NumberMap" "rows" "I", Cond.fieldLink RX4 18 "CutAtlas$NumberMap" "lengths" "[I", Cond.arrayClass .long, Cond.fieldLink RX4 22 "CutAtlas$NumberMap" "numbers" "[J", Cond.methodLink RL 12 yX12_init, Cond.instanceMethod yX12_init, Cond.code yX12_init cX12_init 1 none, Cond.methodLink RX12 1 objectInit, Cond.fieldLink RX12 7 "CutAtlasModel" "kind" "[I", Cond.fieldLink RX12 13 "CutAtlasModel" "from" "[I", Cond.fieldLink RX12 16 "CutAtlasModel" "to" "[I", Cond.fieldLink RX12 19 "CutAtlasModel" "width" "[I", Cond.fieldLink RX12 22 "CutAtlasModel" "price" "[I", Cond.arrayClass .boolean, Cond.fieldLink RX12 25 "CutAtlasModel" "isMissing" "[Z", Cond.fieldLink RX12 29 "CutAtlasModel" "oldPlaces" "[I", Cond.fieldLink RX12 32 "CutAtlasModel" "oldLines" "[I", Cond.fieldLink RX12 35 "CutAtlasModel" "old" "[I", Cond.fieldLink RX12 38 "CutAtlasModel" "hasMap" "[Z", Cond.fieldLink RX12 41 "CutAtlasModel" "mapKind" "[I", Cond.fieldLink RX12 44 "CutAtlasModel" "mapRows" "[I", Cond.fieldLink RX12 47 "CutAtlasModel" "rowSize" "[I", Cond.fieldLink RX12 50 "CutAtlasModel" "cells" "[J", Cond.fieldLink RX12 54 "CutAtlasModel" "copied" "[J"]
def wsL_law_r7 : List Cond := [Cond.fieldLink RX12 57 "CutAtlasModel" "raised" "I", Cond.fieldLink RX12 61 "CutAtlasModel" "flows" "[I", Cond.fieldLink RX12 64 "CutAtlasModel" "queue" "[I", Cond.fieldLink RX12 67 "CutAtlasModel" "cameFrom" "[I", Cond.fieldLink RX12 70 "CutAtlasModel" "paid" "[J", Cond.fieldLink RX12 73 "CutAtlasModel" "byLine" "[I", Cond.fieldLink RX12 76 "CutAtlasModel" "byPlace" "[I", Cond.fieldLink RX12 79 "CutAtlasModel" "treeNext" "[I", Cond.fieldLink RX12 82 "CutAtlasModel" "treeNumber" "[I", Cond.methodLink RL 13 yX11_place, Cond.instanceMethod yX11_place, Cond.selects RX11 yX11_place yX11_place, Cond.code yX11_place cX11_place 1 (some .int), Cond.fieldLink RX11 94 "CutAtlas$Net" "places" "I", Cond.methodLink RX11 97 yX11_remember, Cond.instanceMethod yX11_remember, Cond.selects RX11 yX11_remember yX11_remember, Cond.code yX11_remember cX11_remember 2 none, Cond.methodLink RX11 151 yX3_become, Cond.instanceMethod yX3_become, Cond.selects RX3 yX3_become yX3_become, Cond.code yX3_become cX3_become 2 none, Cond.methodLink RX3 46 arraycopyName, Cond.native arraycopyName]
def wsL_law_r8 : List Cond := [Cond.static arraycopyName, Cond.initialized "java/lang/System", Cond.methodLink RL 17 yX12_place, Cond.instanceMethod yX12_place, Cond.selects RX12 yX12_place yX12_place, Cond.code yX12_place cX12_place 1 (some .int), Cond.fieldLink RX12 85 "CutAtlasModel" "thrown" "I", Cond.fieldLink RX12 88 "CutAtlasModel" "places" "I", Cond.methodLink RX12 105 yX12_keeps, Cond.instanceMethod yX12_keeps, Cond.selects RX12 yX12_keeps yX12_keeps, Cond.code yX12_keeps cX12_keeps 3 none, Cond.fieldLink RX12 102 "CutAtlasModel" "undone" "I", Cond.fieldLink RX12 95 "CutAtlasModel" "lines" "I", Cond.methodLink RL 18 yX11_line, Cond.instanceMethod yX11_line, Cond.selects RX11 yX11_line yX11_line, Cond.code yX11_line cX11_line 7 (some .int), Cond.methodLink RX11 100 yX11_lineRefusal, Cond.instanceMethod yX11_lineRefusal, Cond.selects RX11 yX11_lineRefusal yX11_lineRefusal, Cond.code yX11_lineRefusal cX11_lineRefusal 11 (some .int), Cond.constantLong RX11 300 (5), Cond.constantLong RX11 302 (1000)]
def wsL_law_r9 : List Cond := [Cond.constantLong RX11 304 (100), Cond.fieldLink RX11 294 "CutAtlas$Net" "lines" "I", Cond.methodLink RX11 135 yX3_hasPair, Cond.instanceMethod yX3_hasPair, Cond.selects RX3 yX3_hasPair yX3_hasPair, Cond.code yX3_hasPair cX3_hasPair 5 (some .boolean), Cond.methodLink RX3 34 yX3_hasPlace, Cond.instanceMethod yX3_hasPlace, Cond.selects RX3 yX3_hasPlace yX3_hasPlace, Cond.code yX3_hasPlace cX3_hasPlace 3 (some .boolean), Cond.methodLink RX11 104 ⟨"CutAtlas$PlainKind", "beginsMark", "()I"⟩, Cond.sameMethod "CutAtlas$PlainKind" "CutAtlas$PlainKind" "beginsMark" "()I", Cond.selects RX2 ⟨"CutAtlas$PlainKind", "beginsMark", "()I"⟩ yX6_beginsMark, Cond.instanceMethod yX6_beginsMark, Cond.code yX6_beginsMark cX6_beginsMark 1 (some .int), Cond.selects RX5 ⟨"CutAtlas$PlainKind", "beginsMark", "()I"⟩ yX6_beginsMark, Cond.methodLink RX11 104 yX6_beginsMark, Cond.selects RX6 yX6_beginsMark yX6_beginsMark, Cond.instanceMethod ⟨"CutAtlas$PlainKind", "beginsMark", "()I"⟩, Cond.selects RX8 ⟨"CutAtlas$PlainKind", "beginsMark", "()I"⟩ yX8_beginsMark, Cond.instanceMethod yX8_beginsMark, Cond.code yX8_beginsMark cX8_beginsMark 1 (some .int), Cond.constant RX8 16 (1000000), Cond.selects RX9 ⟨"CutAtlas$PlainKind", "beginsMark", "()I"⟩ yX6_beginsMark]
def wsL_law_r10 : List Cond := [Cond.methodLink RX11 108 yX11_addLine, Cond.instanceMethod yX11_addLine, Cond.selects RX11 yX11_addLine yX11_addLine, Cond.code yX11_addLine cX11_addLine 6 (some .int), Cond.methodLink RX11 306 ⟨"CutAtlas$PlainKind", "begins", "(I)I"⟩, Cond.sameMethod "CutAtlas$PlainKind" "CutAtlas$PlainKind" "begins" "(I)I", Cond.selects RX2 ⟨"CutAtlas$PlainKind", "begins", "(I)I"⟩ yX6_begins, Cond.instanceMethod yX6_begins, Cond.code yX6_begins cX6_begins 2 (some .int), Cond.selects RX5 ⟨"CutAtlas$PlainKind", "begins", "(I)I"⟩ yX6_begins, Cond.methodLink RX11 306 yX6_begins, Cond.selects RX6 yX6_begins yX6_begins, Cond.instanceMethod ⟨"CutAtlas$PlainKind", "begins", "(I)I"⟩, Cond.selects RX8 ⟨"CutAtlas$PlainKind", "begins", "(I)I"⟩ yX8_begins, Cond.instanceMethod yX8_begins, Cond.code yX8_begins cX8_begins 2 (some .int), Cond.selects RX9 ⟨"CutAtlas$PlainKind", "begins", "(I)I"⟩ yX6_begins, Cond.methodLink RX11 309 yX3_append, Cond.instanceMethod yX3_append, Cond.selects RX3 yX3_append yX3_append, Cond.code yX3_append cX3_append 6 (some .int), Cond.methodLink RL 22 yX12_line, Cond.instanceMethod yX12_line, Cond.selects RX12 yX12_line yX12_line]
def wsL_law_r11 : List Cond := [Cond.code yX12_line cX12_line 7 (some .int), Cond.methodLink RX12 120 yX12_refused, Cond.instanceMethod yX12_refused, Cond.selects RX12 yX12_refused yX12_refused, Cond.code yX12_refused cX12_refused 12 (some .int), Cond.constantLong RX12 108 (4), Cond.constantLong RX12 110 (1000), Cond.constantLong RX12 112 (100), Cond.methodLink RX12 91 yX12_in, Cond.static yX12_in, Cond.code yX12_in cX12_in 6 (some .boolean), Cond.methodLink RX12 124 yX12_adds, Cond.instanceMethod yX12_adds, Cond.selects RX12 yX12_adds yX12_adds, Cond.code yX12_adds cX12_adds 6 none, Cond.fieldLink RX12 114 "CutAtlasModel" "trace" "J", Cond.constantLong RX12 118 (1000000), Cond.methodLink RL 23 yX11_widen, Cond.instanceMethod yX11_widen, Cond.selects RX11 yX11_widen yX11_widen, Cond.code yX11_widen cX11_widen 5 (some .int), Cond.fieldLink RX11 116 "CutAtlas$Net" "kinds" "[I", Cond.fieldLink RX11 119 "CutAtlas$Net" "prices" "[I", Cond.fieldLink RX11 129 "CutAtlas$Net" "widths" "[I"]
def wsL_law_r12 : List Cond := [Cond.methodLink RX11 112 yX3_hasLine, Cond.instanceMethod yX3_hasLine, Cond.selects RX3 yX3_hasLine yX3_hasLine, Cond.code yX3_hasLine cX3_hasLine 2 (some .boolean), Cond.methodLink RX11 122 ⟨"CutAtlas$PlainKind", "costs", "(I)I"⟩, Cond.sameMethod "CutAtlas$PlainKind" "CutAtlas$PlainKind" "costs" "(I)I", Cond.instanceMethod ⟨"CutAtlas$PlainKind", "costs", "(I)I"⟩, Cond.selects RX2 ⟨"CutAtlas$PlainKind", "costs", "(I)I"⟩ yX2_costs, Cond.instanceMethod yX2_costs, Cond.code yX2_costs cX2_costs 2 (some .int), Cond.code yX6_costs cX6_costs 2 (some .int), Cond.selects RX5 ⟨"CutAtlas$PlainKind", "costs", "(I)I"⟩ yX6_costs, Cond.instanceMethod yX6_costs, Cond.methodLink RX11 122 yX6_costs, Cond.selects RX6 yX6_costs yX6_costs, Cond.selects RX8 ⟨"CutAtlas$PlainKind", "costs", "(I)I"⟩ yX8_costs, Cond.instanceMethod yX8_costs, Cond.code yX8_costs cX8_costs 2 (some .int), Cond.methodLink RX8 7 yX2_costs, Cond.sameMethod "CutAtlas$DearKind" "CutAtlas$DearKind" "costs" "(I)I", Cond.superclass RX8 RX2, Cond.selects RX9 ⟨"CutAtlas$PlainKind", "costs", "(I)I"⟩ yX6_costs, Cond.methodLink RX11 126 yX3_isMissing, Cond.instanceMethod yX3_isMissing]
def wsL_law_r13 : List Cond := [Cond.selects RX3 yX3_isMissing yX3_isMissing, Cond.code yX3_isMissing cX3_isMissing 2 (some .boolean), Cond.methodLink RX11 132 ⟨"CutAtlas$PlainKind", "costsMark", "()I"⟩, Cond.sameMethod "CutAtlas$PlainKind" "CutAtlas$PlainKind" "costsMark" "()I", Cond.instanceMethod ⟨"CutAtlas$PlainKind", "costsMark", "()I"⟩, Cond.selects RX2 ⟨"CutAtlas$PlainKind", "costsMark", "()I"⟩ yX2_costsMark, Cond.instanceMethod yX2_costsMark, Cond.code yX2_costsMark cX2_costsMark 1 (some .int), Cond.code yX6_costsMark cX6_costsMark 1 (some .int), Cond.selects RX5 ⟨"CutAtlas$PlainKind", "costsMark", "()I"⟩ yX6_costsMark, Cond.instanceMethod yX6_costsMark, Cond.methodLink RX11 132 yX6_costsMark, Cond.selects RX6 yX6_costsMark yX6_costsMark, Cond.selects RX8 ⟨"CutAtlas$PlainKind", "costsMark", "()I"⟩ yX8_costsMark, Cond.instanceMethod yX8_costsMark, Cond.code yX8_costsMark cX8_costsMark 1 (some .int), Cond.constant RX8 11 (100000), Cond.methodLink RX8 12 yX2_costsMark, Cond.sameMethod "CutAtlas$DearKind" "CutAtlas$DearKind" "costsMark" "()I", Cond.selects RX9 ⟨"CutAtlas$PlainKind", "costsMark", "()I"⟩ yX6_costsMark, Cond.methodLink RL 27 yX12_widen, Cond.instanceMethod yX12_widen, Cond.selects RX12 yX12_widen yX12_widen, Cond.code yX12_widen cX12_widen 3 (some .int)]
def wsL_law_r14 : List Cond := [Cond.methodLink RX12 132 yX12_isLine, Cond.instanceMethod yX12_isLine, Cond.selects RX12 yX12_isLine yX12_isLine, Cond.code yX12_isLine cX12_isLine 2 (some .boolean), Cond.methodLink RX12 135 yX12_costs, Cond.instanceMethod yX12_costs, Cond.selects RX12 yX12_costs yX12_costs, Cond.code yX12_costs cX12_costs 2 (some .int), Cond.methodLink RX12 139 yX12_costsTrace, Cond.instanceMethod yX12_costsTrace, Cond.selects RX12 yX12_costsTrace yX12_costsTrace, Cond.code yX12_costsTrace cX12_costsTrace 2 (some .long), Cond.constantLong RX12 128 (10000), Cond.constantLong RX12 130 (110000), Cond.methodLink RL 28 yX11_width, Cond.instanceMethod yX11_width, Cond.selects RX11 yX11_width yX11_width, Cond.code yX11_width cX11_width 4 (some .int), Cond.methodLink RL 31 yX12_width, Cond.instanceMethod yX12_width, Cond.selects RX12 yX12_width yX12_width, Cond.code yX12_width cX12_width 4 (some .int), Cond.methodLink RL 32 yX11_merge, Cond.instanceMethod yX11_merge]
def wsL_law_r15 : List Cond := [Cond.selects RX11 yX11_merge yX11_merge, Cond.code yX11_merge cX11_merge 3 (some .int), Cond.methodLink RX11 139 Lib.Math.min.name, Cond.static Lib.Math.min.name, Cond.initialized "java/lang/Math", Cond.code Lib.Math.min.name Lib.Math.min.code 2 (some .int), Cond.methodLink RX11 145 Lib.Math.max.name, Cond.static Lib.Math.max.name, Cond.code Lib.Math.max.name Lib.Math.max.code 2 (some .int), Cond.methodLink RX11 148 yX3_join, Cond.instanceMethod yX3_join, Cond.selects RX3 yX3_join yX3_join, Cond.code yX3_join cX3_join 5 (some .int), Cond.methodLink RX3 38 yX3_isMissing, Cond.methodLink RX3 42 yX3_renumbered, Cond.static yX3_renumbered, Cond.code yX3_renumbered cX3_renumbered 3 (some .int), Cond.methodLink RL 35 yX12_merge, Cond.instanceMethod yX12_merge, Cond.selects RX12 yX12_merge yX12_merge, Cond.code yX12_merge cX12_merge 7 (some .int), Cond.methodLink RX12 143 yX12_arePlaces, Cond.instanceMethod yX12_arePlaces, Cond.selects RX12 yX12_arePlaces yX12_arePlaces]
def wsL_law_r16 : List Cond := [Cond.code yX12_arePlaces cX12_arePlaces 3 (some .boolean), Cond.methodLink RX12 98 yX12_isPlace, Cond.instanceMethod yX12_isPlace, Cond.selects RX12 yX12_isPlace yX12_isPlace, Cond.code yX12_isPlace cX12_isPlace 2 (some .boolean), Cond.methodLink RL 36 yX11_undo, Cond.instanceMethod yX11_undo, Cond.selects RX11 yX11_undo yX11_undo, Cond.code yX11_undo cX11_undo 2 (some .int), Cond.methodLink RL 39 yX12_undo, Cond.instanceMethod yX12_undo, Cond.selects RX12 yX12_undo yX12_undo, Cond.code yX12_undo cX12_undo 3 (some .int), Cond.methodLink RL 40 yX11_told, Cond.instanceMethod yX11_told, Cond.selects RX11 yX11_told yX11_told, Cond.code yX11_told cX11_told 3 (some .int), Cond.fieldLink RX11 155 "CutAtlas$Net" "starts" "[I", Cond.fieldLink RX11 158 "CutAtlas$Net" "ends" "[I", Cond.methodLink RL 43 yX12_told, Cond.instanceMethod yX12_told, Cond.selects RX12 yX12_told yX12_told, Cond.code yX12_told cX12_told 4 (some .int), Cond.constantLong RX12 147 (5)]
def wsL_law_r17 : List Cond := [Cond.methodLink RL 44 yX11_ask, Cond.instanceMethod yX11_ask, Cond.selects RX11 yX11_ask yX11_ask, Cond.code yX11_ask cX11_ask 5 (some .int), Cond.methodLink RX11 161 ⟨"CutAtlas$PlainKind", "letsMark", "(Z)I"⟩, Cond.sameMethod "CutAtlas$PlainKind" "CutAtlas$PlainKind" "letsMark" "(Z)I", Cond.selects RX2 ⟨"CutAtlas$PlainKind", "letsMark", "(Z)I"⟩ yX6_letsMark, Cond.instanceMethod yX6_letsMark, Cond.code yX6_letsMark cX6_letsMark 2 (some .int), Cond.instanceMethod ⟨"CutAtlas$PlainKind", "letsMark", "(Z)I"⟩, Cond.selects RX5 ⟨"CutAtlas$PlainKind", "letsMark", "(Z)I"⟩ yX5_letsMark, Cond.instanceMethod yX5_letsMark, Cond.code yX5_letsMark cX5_letsMark 2 (some .int), Cond.methodLink RX5 11 yX6_letsMark, Cond.superclass RX5 RX6, Cond.methodLink RX11 161 yX6_letsMark, Cond.selects RX6 yX6_letsMark yX6_letsMark, Cond.selects RX8 ⟨"CutAtlas$PlainKind", "letsMark", "(Z)I"⟩ yX6_letsMark, Cond.selects RX9 ⟨"CutAtlas$PlainKind", "letsMark", "(Z)I"⟩ yX9_letsMark, Cond.instanceMethod yX9_letsMark, Cond.code yX9_letsMark cX9_letsMark 2 (some .int), Cond.methodLink RX11 165 ⟨"CutAtlas$PlainKind", "lets", "(IZ)I"⟩, Cond.sameMethod "CutAtlas$PlainKind" "CutAtlas$PlainKind" "lets" "(IZ)I", Cond.selects RX2 ⟨"CutAtlas$PlainKind", "lets", "(IZ)I"⟩ yX6_lets]
def wsL_law_r18 : List Cond := [Cond.instanceMethod yX6_lets, Cond.code yX6_lets cX6_lets 3 (some .int), Cond.instanceMethod ⟨"CutAtlas$PlainKind", "lets", "(IZ)I"⟩, Cond.selects RX5 ⟨"CutAtlas$PlainKind", "lets", "(IZ)I"⟩ yX5_lets, Cond.instanceMethod yX5_lets, Cond.code yX5_lets cX5_lets 3 (some .int), Cond.methodLink RX5 7 yX6_lets, Cond.methodLink RX11 165 yX6_lets, Cond.selects RX6 yX6_lets yX6_lets, Cond.selects RX8 ⟨"CutAtlas$PlainKind", "lets", "(IZ)I"⟩ yX6_lets, Cond.selects RX9 ⟨"CutAtlas$PlainKind", "lets", "(IZ)I"⟩ yX9_lets, Cond.instanceMethod yX9_lets, Cond.code yX9_lets cX9_lets 3 (some .int), Cond.methodLink RL 47 yX12_ask, Cond.instanceMethod yX12_ask, Cond.selects RX12 yX12_ask yX12_ask, Cond.code yX12_ask cX12_ask 4 (some .int), Cond.constantLong RX12 149 (2), Cond.constantLong RX12 151 (11), Cond.constantLong RX12 153 (10), Cond.methodLink RX12 155 yX12_lets, Cond.instanceMethod yX12_lets, Cond.selects RX12 yX12_lets yX12_lets, Cond.code yX12_lets cX12_lets 3 (some .int)]
def wsL_law_r19 : List Cond := [Cond.methodLink RL 48 yX11_most, Cond.instanceMethod yX11_most, Cond.selects RX11 yX11_most yX11_most, Cond.code yX11_most cX11_most 3 (some .int), Cond.methodLink RX11 169 yX11_mostNow, Cond.instanceMethod yX11_mostNow, Cond.selects RX11 yX11_mostNow yX11_mostNow, Cond.code yX11_mostNow cX11_mostNow 3 (some .int), Cond.methodLink RX11 190 yX0_load, Cond.instanceMethod yX0_load, Cond.selects RX0 yX0_load yX0_load, Cond.code yX0_load cX0_load 5 none, Cond.fieldLink RX0 43 "CutAtlas$Net" "places" "I", Cond.fieldLink RX0 55 "CutAtlas$Net" "lines" "I", Cond.fieldLink RX0 62 "CutAtlas$Net" "widths" "[I", Cond.fieldLink RX0 65 "CutAtlas$Net" "kinds" "[I", Cond.fieldLink RX0 76 "CutAtlas$Net" "starts" "[I", Cond.fieldLink RX0 79 "CutAtlas$Net" "ends" "[I", Cond.methodLink RX0 49 yJ7_fill_53178, Cond.static yJ7_fill_53178, Cond.initialized RJ7, Cond.code yJ7_fill_53178 cJ7_fill_53178 4 none, Cond.methodLink RX0 58 yX3_isMissing, Cond.methodLink RX0 67 ⟨"CutAtlas$PlainKind", "lets", "(IZ)I"⟩]
def wsL_law_r20 : List Cond := [Cond.methodLink RX0 67 yX6_lets, Cond.methodLink RX0 72 yX0_asRoom, Cond.static yX0_asRoom, Cond.code yX0_asRoom cX0_asRoom 1 (some .int), Cond.constant RX0 82 (1000000), Cond.methodLink RX11 198 yX0_fill, Cond.instanceMethod yX0_fill, Cond.selects RX0 yX0_fill yX0_fill, Cond.code yX0_fill cX0_fill 5 (some .int), Cond.methodLink RX0 83 arraycopyName, Cond.methodLink RX0 89 yX0_reachedFrom, Cond.instanceMethod yX0_reachedFrom, Cond.selects RX0 yX0_reachedFrom yX0_reachedFrom, Cond.code yX0_reachedFrom cX0_reachedFrom 7 (some .int), Cond.methodLink RX0 93 yX0_findWay, Cond.instanceMethod yX0_findWay, Cond.selects RX0 yX0_findWay yX0_findWay, Cond.code yX0_findWay cX0_findWay 8 (some .boolean), Cond.methodLink RX0 97 yX0_sendAlongWay, Cond.instanceMethod yX0_sendAlongWay, Cond.selects RX0 yX0_sendAlongWay yX0_sendAlongWay, Cond.code yX0_sendAlongWay cX0_sendAlongWay 6 (some .int), Cond.constant RX0 100 (1000000000), Cond.methodLink RX0 101 Lib.Math.min.name]
def wsL_law_r21 : List Cond := [Cond.methodLink RX0 106 yX0_sendOver, Cond.instanceMethod yX0_sendOver, Cond.selects RX0 yX0_sendOver yX0_sendOver, Cond.code yX0_sendOver cX0_sendOver 7 none, Cond.methodLink RL 51 yX12_most, Cond.instanceMethod yX12_most, Cond.selects RX12 yX12_most yX12_most, Cond.code yX12_most cX12_most 3 (some .int), Cond.methodLink RX12 166 yX12_mostOf, Cond.instanceMethod yX12_mostOf, Cond.selects RX12 yX12_mostOf yX12_mostOf, Cond.code yX12_mostOf cX12_mostOf 6 (some .int), Cond.constant RX12 159 (1000000), Cond.methodLink RX12 163 yX12_sizeOf, Cond.instanceMethod yX12_sizeOf, Cond.selects RX12 yX12_sizeOf yX12_sizeOf, Cond.code yX12_sizeOf cX12_sizeOf 6 (some .int), Cond.methodLink RX12 160 yX12_room, Cond.instanceMethod yX12_room, Cond.selects RX12 yX12_room yX12_room, Cond.code yX12_room cX12_room 5 (some .int), Cond.methodLink RX12 170 yX12_asTold, Cond.static yX12_asTold, Cond.code yX12_asTold cX12_asTold 1 (some .int)]
def wsL_law_r22 : List Cond := [Cond.methodLink RL 52 yX11_flow, Cond.instanceMethod yX11_flow, Cond.selects RX11 yX11_flow yX11_flow, Cond.code yX11_flow cX11_flow 4 (some .int), Cond.constant RX11 172 (-1000000), Cond.fieldLink RX11 173 "CutAtlas$Current" "flowing" "[I", Cond.methodLink RL 56 yX12_flow, Cond.instanceMethod yX12_flow, Cond.selects RX12 yX12_flow yX12_flow, Cond.code yX12_flow cX12_flow 4 (some .int), Cond.constant RX12 187 (-1000000), Cond.methodLink RX12 188 yX12_flowOf, Cond.instanceMethod yX12_flowOf, Cond.selects RX12 yX12_flowOf yX12_flowOf, Cond.code yX12_flowOf cX12_flowOf 9 none, Cond.constant RX12 186 (2147483647), Cond.methodLink RX12 183 yX12_hasWay, Cond.instanceMethod yX12_hasWay, Cond.selects RX12 yX12_hasWay yX12_hasWay, Cond.code yX12_hasWay cX12_hasWay 6 (some .boolean), Cond.methodLink RX12 177 yX12_isMet, Cond.instanceMethod yX12_isMet, Cond.selects RX12 yX12_isMet yX12_isMet, Cond.code yX12_isMet cX12_isMet 5 (some .boolean)]
def wsL_law_r23 : List Cond := [Cond.methodLink RX12 180 yX12_leftOf, Cond.instanceMethod yX12_leftOf, Cond.selects RX12 yX12_leftOf yX12_leftOf, Cond.code yX12_leftOf cX12_leftOf 5 (some .int), Cond.methodLink RX12 173 yX12_left, Cond.instanceMethod yX12_left, Cond.selects RX12 yX12_left yX12_left, Cond.code yX12_left cX12_left 4 (some .int), Cond.methodLink RL 57 yX11_cut, Cond.instanceMethod yX11_cut, Cond.selects RX11 yX11_cut yX11_cut, Cond.code yX11_cut cX11_cut 4 (some .int), Cond.methodLink RX11 176 yX0_nearCut, Cond.instanceMethod yX0_nearCut, Cond.selects RX0 yX0_nearCut yX0_nearCut, Cond.code yX0_nearCut cX0_nearCut 2 (some .int), Cond.methodLink RX11 179 yX0_farCut, Cond.instanceMethod yX0_farCut, Cond.selects RX0 yX0_farCut yX0_farCut, Cond.code yX0_farCut cX0_farCut 2 (some .int), Cond.methodLink RX0 110 yX0_reaching, Cond.instanceMethod yX0_reaching, Cond.selects RX0 yX0_reaching yX0_reaching, Cond.code yX0_reaching cX0_reaching 6 (some .int)]
def wsL_law_r24 : List Cond := [Cond.methodLink RL 60 yX12_cut, Cond.instanceMethod yX12_cut, Cond.selects RX12 yX12_cut yX12_cut, Cond.code yX12_cut cX12_cut 5 (some .int), Cond.fieldLink RX12 195 "CutAtlasModel" "near" "I", Cond.fieldLink RX12 198 "CutAtlasModel" "far" "I", Cond.methodLink RX12 207 yX12_cutsOf, Cond.instanceMethod yX12_cutsOf, Cond.selects RX12 yX12_cutsOf yX12_cutsOf, Cond.code yX12_cutsOf cX12_cutsOf 6 none, Cond.fieldLink RX12 192 "CutAtlasModel" "cuts" "I", Cond.fieldLink RX12 201 "CutAtlasModel" "chosen" "I", Cond.methodLink RX12 204 yX12_bitsOf, Cond.static yX12_bitsOf, Cond.code yX12_bitsOf cX12_bitsOf 3 (some .int), Cond.methodLink RL 61 yX11_count, Cond.instanceMethod yX11_count, Cond.selects RX11 yX11_count yX11_count, Cond.code yX11_count cX11_count 4 (some .int), Cond.methodLink RX11 182 yX7_countCuts, Cond.instanceMethod yX7_countCuts, Cond.selects RX7 yX7_countCuts yX7_countCuts, Cond.code yX7_countCuts cX7_countCuts 4 (some .int), Cond.constant RX7 15 (1000000000)]
def wsL_law_r25 : List Cond := [Cond.fieldLink RX7 20 "CutAtlas$SetHunt" "met" "I", Cond.methodLink RX7 16 yX7_hunt, Cond.instanceMethod yX7_hunt, Cond.selects RX7 yX7_hunt yX7_hunt, Cond.code yX7_hunt cX7_hunt 5 none, Cond.fieldLink RX7 27 "CutAtlas$SetHunt" "must" "I", Cond.fieldLink RX7 30 "CutAtlas$SetHunt" "mustNot" "I", Cond.fieldLink RX7 33 "CutAtlas$SetHunt" "aim" "I", Cond.fieldLink RX7 36 "CutAtlas$SetHunt" "wanted" "I", Cond.fieldLink RX7 24 "CutAtlas$SetHunt" "found" "I", Cond.fieldLink RX7 39 "CutAtlas$Current" "net" "LCutAtlas$Net;", Cond.fieldLink RX7 45 "CutAtlas$Net" "places" "I", Cond.methodLink RX7 50 yX7_chooseForCut, Cond.instanceMethod yX7_chooseForCut, Cond.selects RX7 yX7_chooseForCut yX7_chooseForCut, Cond.code yX7_chooseForCut cX7_chooseForCut 5 none, Cond.methodLink RX7 54 yX7_meet, Cond.instanceMethod yX7_meet, Cond.selects RX7 yX7_meet yX7_meet, Cond.code yX7_meet cX7_meet 3 none, Cond.methodLink RX7 58 yX7_letIn, Cond.instanceMethod yX7_letIn, Cond.selects RX7 yX7_letIn yX7_letIn, Cond.code yX7_letIn cX7_letIn 5 (some .int)]
def wsL_law_r26 : List Cond := [Cond.fieldLink RX7 65 "CutAtlas$Current" "lets" "[[I", Cond.methodLink RX7 62 yX7_letOut, Cond.instanceMethod yX7_letOut, Cond.selects RX7 yX7_letOut yX7_letOut, Cond.code yX7_letOut cX7_letOut 5 (some .int), Cond.methodLink RL 64 yX12_count, Cond.instanceMethod yX12_count, Cond.selects RX12 yX12_count yX12_count, Cond.code yX12_count cX12_count 4 (some .int), Cond.methodLink RL 65 yX11_next, Cond.instanceMethod yX11_next, Cond.selects RX11 yX11_next yX11_next, Cond.code yX11_next cX11_next 5 (some .int), Cond.methodLink RX11 186 yX7_findCut, Cond.instanceMethod yX7_findCut, Cond.selects RX7 yX7_findCut yX7_findCut, Cond.code yX7_findCut cX7_findCut 5 (some .int), Cond.methodLink RL 68 yX12_next, Cond.instanceMethod yX12_next, Cond.selects RX12 yX12_next yX12_next, Cond.code yX12_next cX12_next 5 (some .int), Cond.methodLink RL 69 yX11_size, Cond.instanceMethod yX11_size, Cond.selects RX11 yX11_size yX11_size]
def wsL_law_r27 : List Cond := [Cond.code yX11_size cX11_size 5 (some .int), Cond.constant RX11 197 (1000000), Cond.methodLink RX11 194 yX0_leaving, Cond.instanceMethod yX0_leaving, Cond.selects RX0 yX0_leaving yX0_leaving, Cond.code yX0_leaving cX0_leaving 4 (some .int), Cond.methodLink RX0 113 yX0_betweenSets, Cond.instanceMethod yX0_betweenSets, Cond.selects RX0 yX0_betweenSets yX0_betweenSets, Cond.code yX0_betweenSets cX0_betweenSets 5 (some .int), Cond.methodLink RL 72 yX12_size, Cond.instanceMethod yX12_size, Cond.selects RX12 yX12_size yX12_size, Cond.code yX12_size cX12_size 5 (some .int), Cond.methodLink RL 73 yX11_raise, Cond.instanceMethod yX11_raise, Cond.selects RX11 yX11_raise yX11_raise, Cond.code yX11_raise cX11_raise 4 (some .int), Cond.methodLink RL 76 yX12_raise, Cond.instanceMethod yX12_raise, Cond.selects RX12 yX12_raise yX12_raise, Cond.code yX12_raise cX12_raise 5 (some .int), Cond.methodLink RL 77 yX11_cheapest, Cond.instanceMethod yX11_cheapest]
def wsL_law_r28 : List Cond := [Cond.selects RX11 yX11_cheapest yX11_cheapest, Cond.code yX11_cheapest cX11_cheapest 5 (some .int), Cond.methodLink RX11 201 yX10_pay, Cond.instanceMethod yX10_pay, Cond.selects RX10 yX10_pay yX10_pay, Cond.code yX10_pay cX10_pay 8 (some .int), Cond.constant RX10 38 (1000000000), Cond.methodLink RX10 31 yX10_findPrices, Cond.instanceMethod yX10_findPrices, Cond.selects RX10 yX10_findPrices yX10_findPrices, Cond.code yX10_findPrices cX10_findPrices 6 none, Cond.fieldLink RX10 47 "CutAtlas$Current" "net" "LCutAtlas$Net;", Cond.fieldLink RX10 53 "CutAtlas$Net" "places" "I", Cond.fieldLink RX10 65 "CutAtlas$Net" "lines" "I", Cond.fieldLink RX10 68 "CutAtlas$Net" "kinds" "[I", Cond.fieldLink RX10 70 "CutAtlas$Net" "prices" "[I", Cond.fieldLink RX10 81 "CutAtlas$Net" "starts" "[I", Cond.fieldLink RX10 84 "CutAtlas$Net" "ends" "[I", Cond.methodLink RX10 87 Lib.Math.min.name, Cond.methodLink RX10 59 yJ7_fill_53178, Cond.methodLink RX10 72 ⟨"CutAtlas$PlainKind", "costs", "(I)I"⟩, Cond.methodLink RX10 72 yX6_costs, Cond.methodLink RX10 77 yX3_isMissing, Cond.methodLink RX10 34 yX10_findCosts]
def wsL_law_r29 : List Cond := [Cond.instanceMethod yX10_findCosts, Cond.selects RX10 yX10_findCosts yX10_findCosts, Cond.code yX10_findCosts cX10_findCosts 6 none, Cond.methodLink RX10 93 yX10_lookFrom, Cond.instanceMethod yX10_lookFrom, Cond.selects RX10 yX10_lookFrom yX10_lookFrom, Cond.code yX10_lookFrom cX10_lookFrom 5 (some .boolean), Cond.methodLink RX10 96 yX10_stepCosts, Cond.instanceMethod yX10_stepCosts, Cond.selects RX10 yX10_stepCosts yX10_stepCosts, Cond.code yX10_stepCosts cX10_stepCosts 3 (some .int), Cond.fieldLink RX10 99 "CutAtlas$Current" "room" "[[I", Cond.methodLink RX10 39 yX10_roomOfWay, Cond.instanceMethod yX10_roomOfWay, Cond.selects RX10 yX10_roomOfWay yX10_roomOfWay, Cond.code yX10_roomOfWay cX10_roomOfWay 7 (some .int), Cond.methodLink RX10 102 yX10_stepRoom, Cond.instanceMethod yX10_stepRoom, Cond.selects RX10 yX10_stepRoom yX10_stepRoom, Cond.code yX10_stepRoom cX10_stepRoom 3 (some .int), Cond.methodLink RX10 43 yX10_sendAlongWay, Cond.instanceMethod yX10_sendAlongWay, Cond.selects RX10 yX10_sendAlongWay yX10_sendAlongWay, Cond.code yX10_sendAlongWay cX10_sendAlongWay 6 none]
def wsL_law_r30 : List Cond := [Cond.methodLink RL 80 yX12_cheapest, Cond.instanceMethod yX12_cheapest, Cond.selects RX12 yX12_cheapest yX12_cheapest, Cond.code yX12_cheapest cX12_cheapest 10 (some .int), Cond.constantLong RX12 217 (500), Cond.methodLink RX12 219 yX12_cheapWay, Cond.instanceMethod yX12_cheapWay, Cond.selects RX12 yX12_cheapWay yX12_cheapWay, Cond.code yX12_cheapWay cX12_cheapWay 10 (some .boolean), Cond.constantLong RX12 211 (1099511627776), Cond.methodLink RX12 213 yX12_step, Cond.instanceMethod yX12_step, Cond.selects RX12 yX12_step yX12_step, Cond.code yX12_step cX12_step 7 (some .long), Cond.methodLink RX12 222 yX12_amount, Cond.instanceMethod yX12_amount, Cond.selects RX12 yX12_amount yX12_amount, Cond.code yX12_amount cX12_amount 6 (some .int), Cond.methodLink RL 81 yX11_tree, Cond.instanceMethod yX11_tree, Cond.selects RX11 yX11_tree yX11_tree, Cond.code yX11_tree cX11_tree 3 (some .int), Cond.fieldLink RX11 215 "CutAtlas$CutTree" "nexts" "[I", Cond.fieldLink RX11 218 "CutAtlas$CutTree" "numbers" "[I"]
def wsL_law_r31 : List Cond := [Cond.methodLink RX11 204 yX3_isWhole, Cond.instanceMethod yX3_isWhole, Cond.selects RX3 yX3_isWhole yX3_isWhole, Cond.code yX3_isWhole cX3_isWhole 3 (some .boolean), Cond.methodLink RX11 208 yX3_hasPlace, Cond.methodLink RX11 212 yX1_grow, Cond.instanceMethod yX1_grow, Cond.selects RX1 yX1_grow yX1_grow, Cond.code yX1_grow cX1_grow 2 none, Cond.fieldLink RX1 34 "CutAtlas$Current" "net" "LCutAtlas$Net;", Cond.fieldLink RX1 38 "CutAtlas$Net" "places" "I", Cond.methodLink RX1 22 yX0_load, Cond.methodLink RX1 28 yJ7_fill_53178, Cond.methodLink RX1 44 yX1_hang, Cond.instanceMethod yX1_hang, Cond.selects RX1 yX1_hang yX1_hang, Cond.code yX1_hang cX1_hang 6 none, Cond.methodLink RX1 47 yX0_fill, Cond.methodLink RX1 50 yX0_nearCut, Cond.methodLink RL 84 yX12_tree, Cond.instanceMethod yX12_tree, Cond.selects RX12 yX12_tree yX12_tree, Cond.code yX12_tree cX12_tree 3 (some .int), Cond.methodLink RX12 225 yX12_isWhole]
def wsL_law_r32 : List Cond := [Cond.instanceMethod yX12_isWhole, Cond.selects RX12 yX12_isWhole yX12_isWhole, Cond.code yX12_isWhole cX12_isWhole 3 (some .boolean), Cond.methodLink RX12 229 yX12_plants, Cond.instanceMethod yX12_plants, Cond.selects RX12 yX12_plants yX12_plants, Cond.code yX12_plants cX12_plants 6 none, Cond.methodLink RL 85 yX11_between, Cond.instanceMethod yX11_between, Cond.selects RX11 yX11_between yX11_between, Cond.code yX11_between cX11_between 3 (some .int), Cond.methodLink RX11 221 yX1_leastOnWay, Cond.instanceMethod yX1_leastOnWay, Cond.selects RX1 yX1_leastOnWay yX1_leastOnWay, Cond.code yX1_leastOnWay cX1_leastOnWay 9 (some .int), Cond.constant RX1 54 (1000000000), Cond.methodLink RX1 58 Lib.Math.min.name, Cond.methodLink RX1 55 yX1_stepsToRoot, Cond.instanceMethod yX1_stepsToRoot, Cond.selects RX1 yX1_stepsToRoot yX1_stepsToRoot, Cond.code yX1_stepsToRoot cX1_stepsToRoot 4 (some .int), Cond.methodLink RL 88 yX12_between, Cond.instanceMethod yX12_between, Cond.selects RX12 yX12_between yX12_between]
def wsL_law_r33 : List Cond := [Cond.code yX12_between cX12_between 3 (some .int), Cond.methodLink RL 89 yX11_least, Cond.instanceMethod yX11_least, Cond.selects RX11 yX11_least yX11_least, Cond.code yX11_least cX11_least 1 (some .int), Cond.methodLink RX11 224 yX1_leastNumber, Cond.instanceMethod yX1_leastNumber, Cond.selects RX1 yX1_leastNumber yX1_leastNumber, Cond.code yX1_leastNumber cX1_leastNumber 3 (some .int), Cond.methodLink RL 92 yX12_least, Cond.instanceMethod yX12_least, Cond.selects RX12 yX12_least yX12_least, Cond.code yX12_least cX12_least 1 (some .int), Cond.methodLink RX12 232 yX12_leastOf, Cond.instanceMethod yX12_leastOf, Cond.selects RX12 yX12_leastOf yX12_leastOf, Cond.code yX12_leastOf cX12_leastOf 4 (some .int), Cond.methodLink RL 93 yX11_cuts, Cond.instanceMethod yX11_cuts, Cond.selects RX11 yX11_cuts yX11_cuts, Cond.code yX11_cuts cX11_cuts 1 (some .int), Cond.methodLink RL 96 yX12_cuts, Cond.instanceMethod yX12_cuts, Cond.selects RX12 yX12_cuts yX12_cuts]
def wsL_law_r34 : List Cond := [Cond.code yX12_cuts cX12_cuts 1 (some .int), Cond.methodLink RX12 236 yX12_wholeCuts, Cond.instanceMethod yX12_wholeCuts, Cond.selects RX12 yX12_wholeCuts yX12_wholeCuts, Cond.code yX12_wholeCuts cX12_wholeCuts 4 none, Cond.methodLink RL 97 yX11_cutAt, Cond.instanceMethod yX11_cutAt, Cond.selects RX11 yX11_cutAt yX11_cutAt, Cond.code yX11_cutAt cX11_cutAt 2 (some .int), Cond.methodLink RL 101 yX12_cutAt, Cond.instanceMethod yX12_cutAt, Cond.selects RX12 yX12_cutAt yX12_cutAt, Cond.code yX12_cutAt cX12_cutAt 2 (some .int), Cond.methodLink RL 102 yX11_weak, Cond.instanceMethod yX11_weak, Cond.selects RX11 yX11_weak yX11_weak, Cond.code yX11_weak cX11_weak 2 (some .int), Cond.methodLink RL 105 yX12_weak, Cond.instanceMethod yX12_weak, Cond.selects RX12 yX12_weak yX12_weak, Cond.code yX12_weak cX12_weak 4 (some .int), Cond.methodLink RL 106 yX11_part, Cond.instanceMethod yX11_part, Cond.selects RX11 yX11_part yX11_part]
def wsL_law_r35 : List Cond := [Cond.code yX11_part cX11_part 3 (some .int), Cond.methodLink RX11 227 yX1_partsBelow, Cond.instanceMethod yX1_partsBelow, Cond.selects RX1 yX1_partsBelow yX1_partsBelow, Cond.code yX1_partsBelow cX1_partsBelow 5 (some .int), Cond.methodLink RX1 66 yX1_leastAlike, Cond.instanceMethod yX1_leastAlike, Cond.selects RX1 yX1_leastAlike yX1_leastAlike, Cond.code yX1_leastAlike cX1_leastAlike 4 (some .int), Cond.methodLink RX1 63 yX1_leastOnWay, Cond.methodLink RX11 230 yX1_leastAlike, Cond.methodLink RL 109 yX12_part, Cond.instanceMethod yX12_part, Cond.selects RX12 yX12_part yX12_part, Cond.code yX12_part cX12_part 8 (some .int), Cond.methodLink RL 110 yX11_dense, Cond.instanceMethod yX11_dense, Cond.selects RX11 yX11_dense yX11_dense, Cond.code yX11_dense cX11_dense 2 (some .int), Cond.fieldLink RX11 236 "CutAtlas$SetHunt" "denseSet" "I", Cond.fieldLink RX11 239 "CutAtlas$SetHunt" "denseSum" "I", Cond.methodLink RX11 233 yX7_findDensest, Cond.instanceMethod yX7_findDensest, Cond.selects RX7 yX7_findDensest yX7_findDensest]
def wsL_law_r36 : List Cond := [Cond.code yX7_findDensest cX7_findDensest 1 none, Cond.fieldLink RX7 69 "CutAtlas$SetHunt" "denseSet" "I", Cond.fieldLink RX7 72 "CutAtlas$SetHunt" "denseSum" "I", Cond.methodLink RX7 75 yX7_chooseForDense, Cond.instanceMethod yX7_chooseForDense, Cond.selects RX7 yX7_chooseForDense yX7_chooseForDense, Cond.code yX7_chooseForDense cX7_chooseForDense 4 none, Cond.methodLink RX7 78 yX7_compareDense, Cond.instanceMethod yX7_compareDense, Cond.selects RX7 yX7_compareDense yX7_compareDense, Cond.code yX7_compareDense cX7_compareDense 7 none, Cond.methodLink RX7 81 yJ6_bitCount_0f7a4, Cond.static yJ6_bitCount_0f7a4, Cond.initialized RJ6, Cond.code yJ6_bitCount_0f7a4 cJ6_bitCount_0f7a4 1 (some .int), Cond.constant RJ6 265 (1431655765), Cond.constant RJ6 266 (858993459), Cond.constant RJ6 267 (252645135), Cond.methodLink RX11 242 yJ6_bitCount_0f7a4, Cond.methodLink RL 113 yX12_dense, Cond.instanceMethod yX12_dense, Cond.selects RX12 yX12_dense yX12_dense, Cond.code yX12_dense cX12_dense 8 (some .int), Cond.methodLink RL 114 yX11_map]
def wsL_law_r37 : List Cond := [Cond.instanceMethod yX11_map, Cond.selects RX11 yX11_map yX11_map, Cond.code yX11_map cX11_map 4 (some .int), Cond.methodLink RX11 247 yX11_mapRefusal, Cond.static yX11_mapRefusal, Cond.code yX11_mapRefusal cX11_mapRefusal 3 (some .int), Cond.methodLink RX11 267 yX11_isMapNumber, Cond.static yX11_isMapNumber, Cond.code yX11_isMapNumber cX11_isMapNumber 1 (some .boolean), Cond.methodLink RX11 312 yX11_isMapKind, Cond.static yX11_isMapKind, Cond.code yX11_isMapKind cX11_isMapKind 1 (some .boolean), Cond.methodLink RX11 250 yX4_begin, Cond.instanceMethod yX4_begin, Cond.selects RX4 yX4_begin yX4_begin, Cond.code yX4_begin cX4_begin 3 none, Cond.methodLink RX4 26 yJ7_fill_53178, Cond.methodLink RL 117 yX12_map, Cond.instanceMethod yX12_map, Cond.selects RX12 yX12_map yX12_map, Cond.code yX12_map cX12_map 5 (some .int), Cond.fieldLink RX12 240 "CutAtlasModel" "status" "I", Cond.constantLong RX12 243 (3), Cond.methodLink RX12 245 yX12_no]
def wsL_law_r38 : List Cond := [Cond.instanceMethod yX12_no, Cond.selects RX12 yX12_no yX12_no, Cond.code yX12_no cX12_no 2 (some .int), Cond.methodLink RL 118 yX11_row, Cond.instanceMethod yX11_row, Cond.selects RX11 yX11_row yX11_row, Cond.code yX11_row cX11_row 4 (some .int), Cond.methodLink RX11 254 yX11_rowRefusal, Cond.instanceMethod yX11_rowRefusal, Cond.selects RX11 yX11_rowRefusal yX11_rowRefusal, Cond.code yX11_rowRefusal cX11_rowRefusal 4 (some .int), Cond.methodLink RX11 281 yX4_isThere, Cond.instanceMethod yX4_isThere, Cond.selects RX4 yX4_isThere yX4_isThere, Cond.code yX4_isThere cX4_isThere 1 (some .boolean), Cond.methodLink RX11 315 yX4_hasRow, Cond.instanceMethod yX4_hasRow, Cond.selects RX4 yX4_hasRow yX4_hasRow, Cond.code yX4_hasRow cX4_hasRow 2 (some .boolean), Cond.methodLink RX11 257 yX4_beginRow, Cond.instanceMethod yX4_beginRow, Cond.selects RX4 yX4_beginRow yX4_beginRow, Cond.code yX4_beginRow cX4_beginRow 4 none, Cond.methodLink RL 121 yX12_row]
def wsL_law_r39 : List Cond := [Cond.instanceMethod yX12_row, Cond.selects RX12 yX12_row yX12_row, Cond.code yX12_row cX12_row 5 (some .int), Cond.methodLink RL 124 yX11_put, Cond.instanceMethod yX11_put, Cond.selects RX11 yX11_put yX11_put, Cond.code yX11_put cX11_put 7 (some .int), Cond.methodLink RX11 260 yX11_numberRefusal, Cond.instanceMethod yX11_numberRefusal, Cond.selects RX11 yX11_numberRefusal yX11_numberRefusal, Cond.code yX11_numberRefusal cX11_numberRefusal 5 (some .int), Cond.fieldLink RX11 318 "CutAtlas$NumberMap" "kind" "I", Cond.fieldLink RX11 321 "CutAtlas$NumberMap" "lengths" "[I", Cond.methodLink RX11 263 yX4_store, Cond.instanceMethod yX4_store, Cond.selects RX4 yX4_store yX4_store, Cond.code yX4_store cX4_store 7 none, Cond.methodLink RL 128 yX12_put, Cond.instanceMethod yX12_put, Cond.selects RX12 yX12_put yX12_put, Cond.code yX12_put cX12_put 8 (some .int), Cond.methodLink RX12 248 yX12_wrong, Cond.instanceMethod yX12_wrong, Cond.selects RX12 yX12_wrong yX12_wrong]
def wsL_law_r40 : List Cond := [Cond.code yX12_wrong cX12_wrong 6 (some .int), Cond.methodLink RL 129 yX11_copy, Cond.instanceMethod yX11_copy, Cond.selects RX11 yX11_copy yX11_copy, Cond.code yX11_copy cX11_copy 7 (some .int), Cond.methodLink RX11 270 yX4_moveRefusal, Cond.instanceMethod yX4_moveRefusal, Cond.selects RX4 yX4_moveRefusal yX4_moveRefusal, Cond.code yX4_moveRefusal cX4_moveRefusal 6 (some .int), Cond.methodLink RX4 36 yX4_isThere, Cond.methodLink RX4 40 yX4_hasRow, Cond.methodLink RX4 44 yX4_hasNumbers, Cond.instanceMethod yX4_hasNumbers, Cond.selects RX4 yX4_hasNumbers yX4_hasNumbers, Cond.code yX4_hasNumbers cX4_hasNumbers 4 (some .boolean), Cond.methodLink RX11 273 yX4_move, Cond.instanceMethod yX4_move, Cond.selects RX4 yX4_move yX4_move, Cond.code yX4_move cX4_move 6 none, Cond.methodLink RX4 48 arraycopyName, Cond.methodLink RL 133 yX12_copy, Cond.instanceMethod yX12_copy, Cond.selects RX12 yX12_copy yX12_copy, Cond.code yX12_copy cX12_copy 10 (some .int)]
def wsL_law_r41 : List Cond := [Cond.methodLink RX12 252 yX12_areThere, Cond.static yX12_areThere, Cond.code yX12_areThere cX12_areThere 3 (some .boolean), Cond.methodLink RL 134 yX11_item, Cond.instanceMethod yX11_item, Cond.selects RX11 yX11_item yX11_item, Cond.code yX11_item cX11_item 5 (some .long), Cond.methodLink RX11 277 yX4_number, Cond.instanceMethod yX4_number, Cond.selects RX4 yX4_number yX4_number, Cond.code yX4_number cX4_number 3 (some .long), Cond.methodLink RL 138 yX12_item, Cond.instanceMethod yX12_item, Cond.selects RX12 yX12_item yX12_item, Cond.code yX12_item cX12_item 5 (some .long), Cond.methodLink RL 139 yX11_read, Cond.instanceMethod yX11_read, Cond.selects RX11 yX11_read yX11_read, Cond.code yX11_read cX11_read 5 (some .int), Cond.fieldLink RX11 284 "CutAtlas$NumberMap" "rows" "I", Cond.methodLink RX11 287 yX11_readRefusal, Cond.instanceMethod yX11_readRefusal, Cond.selects RX11 yX11_readRefusal yX11_readRefusal, Cond.code yX11_readRefusal cX11_readRefusal 3 (some .int)]
def wsL_law_r42 : List Cond := [Cond.methodLink RX11 291 yX4_whole, Cond.instanceMethod yX4_whole, Cond.selects RX4 yX4_whole yX4_whole, Cond.code yX4_whole cX4_whole 3 (some .int), Cond.methodLink RX4 32 yX4_number, Cond.methodLink RL 142 yX12_read, Cond.instanceMethod yX12_read, Cond.selects RX12 yX12_read yX12_read, Cond.code yX12_read cX12_read 7 (some .int), Cond.methodLink RL 143 yX11_about, Cond.instanceMethod yX11_about, Cond.selects RX11 yX11_about yX11_about, Cond.code yX11_about cX11_about 2 (some .int), Cond.methodLink RX11 297 yX3_missingLines, Cond.instanceMethod yX3_missingLines, Cond.selects RX3 yX3_missingLines yX3_missingLines, Cond.code yX3_missingLines cX3_missingLines 3 (some .int), Cond.methodLink RL 146 yX12_about, Cond.instanceMethod yX12_about, Cond.selects RX12 yX12_about yX12_about, Cond.code yX12_about cX12_about 4 (some .int), Cond.methodLink RL 147 yX11_trace, Cond.instanceMethod yX11_trace, Cond.selects RX11 yX11_trace yX11_trace]
def wsL_law_r43 : List Cond := [Cond.code yX11_trace cX11_trace 1 (some .long), Cond.methodLink RL 151 yX12_trace, Cond.instanceMethod yX12_trace, Cond.selects RX12 yX12_trace yX12_trace, Cond.code yX12_trace cX12_trace 1 (some .long), Cond.methodLink RL 152 yX11_status, Cond.instanceMethod yX11_status, Cond.selects RX11 yX11_status yX11_status, Cond.code yX11_status cX11_status 1 (some .int), Cond.methodLink RL 155 yX12_status, Cond.instanceMethod yX12_status, Cond.selects RX12 yX12_status yX12_status, Cond.code yX12_status cX12_status 1 (some .int)]
def wsL_law : List Cond := (wsL_law_r1 ++ (wsL_law_r2 ++ (wsL_law_r3 ++ (wsL_law_r4 ++ (wsL_law_r5 ++ (wsL_law_r6 ++ (wsL_law_r7 ++ (wsL_law_r8 ++ (wsL_law_r9 ++ (wsL_law_r10 ++ (wsL_law_r11 ++ (wsL_law_r12 ++ (wsL_law_r13 ++ (wsL_law_r14 ++ (wsL_law_r15 ++ (wsL_law_r16 ++ (wsL_law_r17 ++ (wsL_law_r18 ++ (wsL_law_r19 ++ (wsL_law_r20 ++ (wsL_law_r21 ++ (wsL_law_r22 ++ (wsL_law_r23 ++ (wsL_law_r24 ++ (wsL_law_r25 ++ (wsL_law_r26 ++ (wsL_law_r27 ++ (wsL_law_r28 ++ (wsL_law_r29 ++ (wsL_law_r30 ++ (wsL_law_r31 ++ (wsL_law_r32 ++ (wsL_law_r33 ++ (wsL_law_r34 ++ (wsL_law_r35 ++ (wsL_law_r36 ++ (wsL_law_r37 ++ (wsL_law_r38 ++ (wsL_law_r39 ++ (wsL_law_r40 ++ (wsL_law_r41 ++ (wsL_law_r42 ++ wsL_law_r43)))))))))))))))))))))))))))))))))))))))))) ++ wsX110 ++ wsX120 ++ wsX60 ++ wsX50 ++ wsX90 ++ wsX20 ++ wsX80 ++ wsX30 ++ wsX00 ++ wsX70 ++ wsX10 ++ wsX100 ++ wsX40 ++ ([] : List Cond)
theorem inlX11 : ∀ w ∈ wsX110, w ∈ wsL_law := fun _ h => List.mem_append_left _ (List.mem_append_left _ (List.mem_append_left _ (List.mem_append_left _ (List.mem_append_left _ (List.mem_append_left _ (List.mem_append_left _ (List.mem_append_left _ (List.mem_append_left _ (List.mem_append_left _ (List.mem_append_left _ (List.mem_append_left _ (List.mem_append_left _ (List.mem_append_right _ h)))))))))))))
theorem inlX12 : ∀ w ∈ wsX120, w ∈ wsL_law := fun _ h => List.mem_append_left _ (List.mem_append_left _ (List.mem_append_left _ (List.mem_append_left _ (List.mem_append_left _ (List.mem_append_left _ (List.mem_append_left _ (List.mem_append_left _ (List.mem_append_left _ (List.mem_append_left _ (List.mem_append_left _ (List.mem_append_left _ (List.mem_append_right _ h))))))))))))
set_option maxRecDepth 20000 in
theorem ggX2_init_X6_init : GoodIn wsX2_init wsX6_init := goodIn_r _ [3, 4, 5, 6] (by decide +kernel) (by decide +kernel)
set_option maxRecDepth 20000 in
theorem gX2_init_X6_init_n1 : GoodIn wsX2_init (wsX6_init) := ggX2_init_X6_init
set_option maxRecDepth 20000 in
theorem ggX5_init_X6_init : GoodIn wsX5_init wsX6_init := goodIn_r _ [3, 4, 5, 6] (by decide +kernel) (by decide +kernel)
set_option maxRecDepth 20000 in
theorem gX5_init_X6_init_n1 : GoodIn wsX5_init (wsX6_init) := ggX5_init_X6_init
set_option maxRecDepth 20000 in
theorem ggX8_init_X2_init : GoodIn wsX8_init wsX2_init := goodIn_r _ [3, 4, 5, 6, 7, 8, 9] (by decide +kernel) (by decide +kernel)
set_option maxRecDepth 20000 in
theorem gX8_init_X2_init_n1 : GoodIn wsX8_init (wsX2_init) := ggX8_init_X2_init
set_option maxRecDepth 20000 in
theorem ggX9_init_X6_init : GoodIn wsX9_init wsX6_init := goodIn_r _ [3, 4, 5, 6] (by decide +kernel) (by decide +kernel)
set_option maxRecDepth 20000 in
theorem gX9_init_X6_init_n3 : GoodIn wsX9_init (wsX6_init) := ggX9_init_X6_init
set_option maxRecDepth 20000 in
theorem ggX11_init_X6_init : GoodIn wsX11_init wsX6_init := goodIn_r _ [50, 51, 2, 3] (by decide +kernel) (by decide +kernel)
set_option maxRecDepth 20000 in
theorem gX11_init_X6_init_n9 : GoodIn wsX11_init (wsX6_init) := ggX11_init_X6_init
set_option maxRecDepth 20000 in
theorem ggX11_init_X5_init : GoodIn wsX11_init wsX5_init := goodIn_r _ [53, 49, 6, 50, 51, 2, 3] (by decide +kernel) (by decide +kernel)
set_option maxRecDepth 20000 in
theorem gX11_init_X5_init_n12 : GoodIn wsX11_init (wsX5_init) := ggX11_init_X5_init
set_option maxRecDepth 20000 in
theorem ggX11_init_X9_init : GoodIn wsX11_init wsX9_init := goodIn_r _ [55, 49, 6, 50, 51, 2, 3] (by decide +kernel) (by decide +kernel)
set_option maxRecDepth 20000 in
theorem gX11_init_X9_init_n15 : GoodIn wsX11_init (wsX9_init) := ggX11_init_X9_init
set_option maxRecDepth 20000 in
theorem ggX11_init_X2_init : GoodIn wsX11_init wsX2_init := goodIn_r _ [57, 49, 6, 50, 51, 2, 3] (by decide +kernel) (by decide +kernel)
set_option maxRecDepth 20000 in
theorem gX11_init_X2_init_n18 : GoodIn wsX11_init (wsX2_init) := ggX11_init_X2_init
set_option maxRecDepth 20000 in
theorem ggX11_init_X8_init : GoodIn wsX11_init wsX8_init := goodIn_r _ [59, 56, 15, 57, 49, 6, 50, 51, 2, 3] (by decide +kernel) (by decide +kernel)
set_option maxRecDepth 20000 in
theorem gX11_init_X8_init_n21 : GoodIn wsX11_init (wsX8_init) := ggX11_init_X8_init
set_option maxRecDepth 20000 in
theorem ggX11_init_X3_init : GoodIn wsX11_init wsX3_init := goodIn_r _ [61, 62, 2, 3, 63, 64, 65, 66, 67, 68, 69, 70, 127, 128, 129, 130, 131, 132, 133] (by decide +kernel) (by decide +kernel)
set_option maxRecDepth 20000 in
theorem gX11_init_X3_init_n30 : GoodIn wsX11_init (wsX3_init) := ggX11_init_X3_init
set_option maxRecDepth 20000 in
theorem ggX11_init_X0_init : GoodIn wsX11_init wsX0_init := goodIn_r _ [73, 74, 2, 3, 75, 65, 76, 77, 78, 79, 80, 81, 82, 83, 84, 134, 135, 136, 137, 138, 139, 140, 141, 142] (by decide +kernel) (by decide +kernel)
set_option maxRecDepth 20000 in
theorem gX11_init_X0_init : GoodIn wsX11_init (wsX0_init) := ggX11_init_X0_init
set_option maxRecDepth 20000 in
theorem ggX11_init_X7_init : GoodIn wsX11_init wsX7_init := goodIn_r _ [87, 88, 2, 3, 89, 143, 144, 145, 146, 147, 148, 149, 150, 151] (by decide +kernel) (by decide +kernel)
set_option maxRecDepth 20000 in
theorem gX11_init_X7_init : GoodIn wsX11_init (wsX7_init) := ggX11_init_X7_init
set_option maxRecDepth 20000 in
theorem ggX11_init_X1_init : GoodIn wsX11_init wsX1_init := goodIn_r _ [92, 93, 2, 3, 65, 94, 95, 96, 152, 153, 154] (by decide +kernel) (by decide +kernel)
set_option maxRecDepth 20000 in
theorem gX11_init_X1_init : GoodIn wsX11_init (wsX1_init) := ggX11_init_X1_init
set_option maxRecDepth 20000 in
theorem ggX11_init_X10_init : GoodIn wsX11_init wsX10_init := goodIn_r _ [99, 100, 2, 3, 101, 65, 102, 103, 104, 105, 106, 155, 156, 157, 158, 159] (by decide +kernel) (by decide +kernel)
set_option maxRecDepth 20000 in
theorem gX11_init_X10_init : GoodIn wsX11_init (wsX10_init) := ggX11_init_X10_init
set_option maxRecDepth 20000 in
theorem ggX11_init_X4_init : GoodIn wsX11_init wsX4_init := goodIn_r _ [108, 109, 2, 3, 110, 111, 65, 112, 113, 114, 160, 161, 162, 163] (by decide +kernel) (by decide +kernel)
set_option maxRecDepth 20000 in
theorem gX11_init_X4_init_n71 : GoodIn wsX11_init (wsX4_init) := ggX11_init_X4_init
abbrev vwCl : List vw_C := [(RX0, TX0, 9), (RX1, TX1, 3), (RX2, TX2, 0), (RX3, TX3, 7), (RX4, TX4, 4), (RX5, TX5, 0), (RX6, TX6, 0), (RX7, TX7, 9), (RX8, TX8, 0), (RX9, TX9, 0), (RX10, TX10, 5), (RX11, TX11, 12), (RX12, TX12, 34)]
