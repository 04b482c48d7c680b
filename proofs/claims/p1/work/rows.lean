section
-- ===== PART A: goes FIRST, ahead of the names: the tables' words, and 'selects' of the private methods out of them =====
/-- a private method of a class that the tables say can be made, by its rows of tables_1 -/
def lw_okq (q : MethodName × Nat) : Prop := (q.1.cls ≠ "java/lang/invoke/MethodHandle" ∧ q.1.cls ≠ "java/lang/invoke/VarHandle") ∧ Cond.instantiable q.1.cls q.2 ∈ tables_1 ∧ Cond.privateMethod q.1 ∈ tables_1 ∧ Cond.instanceMethod q.1 ∈ tables_1
theorem lw_p0 : lw_okq (⟨"CutAtlas", "remember", "()V"⟩, 12) := ⟨⟨by decide +kernel, by decide +kernel⟩, List.mem_of_getElem? (i := 19) (by decide +kernel), List.mem_of_getElem? (i := 298) (by decide +kernel), List.mem_of_getElem? (i := 299) (by decide +kernel)⟩
theorem lw_p1 : lw_okq (⟨"CutAtlas", "lineRefusal", "(JJJJJ)I"⟩, 12) := ⟨⟨by decide +kernel, by decide +kernel⟩, List.mem_of_getElem? (i := 19) (by decide +kernel), List.mem_of_getElem? (i := 313) (by decide +kernel), List.mem_of_getElem? (i := 314) (by decide +kernel)⟩
theorem lw_p2 : lw_okq (⟨"CutAtlas", "addLine", "(IIIII)I"⟩, 12) := ⟨⟨by decide +kernel, by decide +kernel⟩, List.mem_of_getElem? (i := 19) (by decide +kernel), List.mem_of_getElem? (i := 340) (by decide +kernel), List.mem_of_getElem? (i := 341) (by decide +kernel)⟩
theorem lw_p3 : lw_okq (⟨"CutAtlas", "mostNow", "(II)I"⟩, 12) := ⟨⟨by decide +kernel, by decide +kernel⟩, List.mem_of_getElem? (i := 19) (by decide +kernel), List.mem_of_getElem? (i := 466) (by decide +kernel), List.mem_of_getElem? (i := 467) (by decide +kernel)⟩
theorem lw_p4 : lw_okq (⟨"CutAtlas$Current", "reachedFrom", "(II)I"⟩, 9) := ⟨⟨by decide +kernel, by decide +kernel⟩, List.mem_of_getElem? (i := 113) (by decide +kernel), List.mem_of_getElem? (i := 488) (by decide +kernel), List.mem_of_getElem? (i := 489) (by decide +kernel)⟩
theorem lw_p5 : lw_okq (⟨"CutAtlas$Current", "findWay", "(II)Z"⟩, 9) := ⟨⟨by decide +kernel, by decide +kernel⟩, List.mem_of_getElem? (i := 113) (by decide +kernel), List.mem_of_getElem? (i := 492) (by decide +kernel), List.mem_of_getElem? (i := 493) (by decide +kernel)⟩
theorem lw_p6 : lw_okq (⟨"CutAtlas$Current", "sendAlongWay", "(II)I"⟩, 9) := ⟨⟨by decide +kernel, by decide +kernel⟩, List.mem_of_getElem? (i := 113) (by decide +kernel), List.mem_of_getElem? (i := 496) (by decide +kernel), List.mem_of_getElem? (i := 497) (by decide +kernel)⟩
theorem lw_p7 : lw_okq (⟨"CutAtlas$Current", "sendOver", "(III)V"⟩, 9) := ⟨⟨by decide +kernel, by decide +kernel⟩, List.mem_of_getElem? (i := 113) (by decide +kernel), List.mem_of_getElem? (i := 502) (by decide +kernel), List.mem_of_getElem? (i := 503) (by decide +kernel)⟩
theorem lw_p8 : lw_okq (⟨"CutAtlas$Current", "reaching", "(I)I"⟩, 9) := ⟨⟨by decide +kernel, by decide +kernel⟩, List.mem_of_getElem? (i := 113) (by decide +kernel), List.mem_of_getElem? (i := 523) (by decide +kernel), List.mem_of_getElem? (i := 524) (by decide +kernel)⟩
theorem lw_p9 : lw_okq (⟨"CutAtlas$SetHunt", "hunt", "(IIII)V"⟩, 9) := ⟨⟨by decide +kernel, by decide +kernel⟩, List.mem_of_getElem? (i := 155) (by decide +kernel), List.mem_of_getElem? (i := 536) (by decide +kernel), List.mem_of_getElem? (i := 537) (by decide +kernel)⟩
theorem lw_p10 : lw_okq (⟨"CutAtlas$SetHunt", "chooseForCut", "(III)V"⟩, 9) := ⟨⟨by decide +kernel, by decide +kernel⟩, List.mem_of_getElem? (i := 155) (by decide +kernel), List.mem_of_getElem? (i := 540) (by decide +kernel), List.mem_of_getElem? (i := 541) (by decide +kernel)⟩
theorem lw_p11 : lw_okq (⟨"CutAtlas$SetHunt", "meet", "(II)V"⟩, 9) := ⟨⟨by decide +kernel, by decide +kernel⟩, List.mem_of_getElem? (i := 155) (by decide +kernel), List.mem_of_getElem? (i := 544) (by decide +kernel), List.mem_of_getElem? (i := 545) (by decide +kernel)⟩
theorem lw_p12 : lw_okq (⟨"CutAtlas$SetHunt", "letIn", "(II)I"⟩, 9) := ⟨⟨by decide +kernel, by decide +kernel⟩, List.mem_of_getElem? (i := 155) (by decide +kernel), List.mem_of_getElem? (i := 548) (by decide +kernel), List.mem_of_getElem? (i := 549) (by decide +kernel)⟩
theorem lw_p13 : lw_okq (⟨"CutAtlas$SetHunt", "letOut", "(II)I"⟩, 9) := ⟨⟨by decide +kernel, by decide +kernel⟩, List.mem_of_getElem? (i := 155) (by decide +kernel), List.mem_of_getElem? (i := 552) (by decide +kernel), List.mem_of_getElem? (i := 553) (by decide +kernel)⟩
theorem lw_p14 : lw_okq (⟨"CutAtlas$Current", "betweenSets", "(II)I"⟩, 9) := ⟨⟨by decide +kernel, by decide +kernel⟩, List.mem_of_getElem? (i := 113) (by decide +kernel), List.mem_of_getElem? (i := 572) (by decide +kernel), List.mem_of_getElem? (i := 573) (by decide +kernel)⟩
theorem lw_p15 : lw_okq (⟨"CutAtlas$Widening", "findPrices", "()V"⟩, 5) := ⟨⟨by decide +kernel, by decide +kernel⟩, List.mem_of_getElem? (i := 209) (by decide +kernel), List.mem_of_getElem? (i := 589) (by decide +kernel), List.mem_of_getElem? (i := 590) (by decide +kernel)⟩
def lw_privs_1 : List (MethodName × Nat) := [(⟨"CutAtlas", "remember", "()V"⟩, 12), (⟨"CutAtlas", "lineRefusal", "(JJJJJ)I"⟩, 12), (⟨"CutAtlas", "addLine", "(IIIII)I"⟩, 12), (⟨"CutAtlas", "mostNow", "(II)I"⟩, 12), (⟨"CutAtlas$Current", "reachedFrom", "(II)I"⟩, 9), (⟨"CutAtlas$Current", "findWay", "(II)Z"⟩, 9), (⟨"CutAtlas$Current", "sendAlongWay", "(II)I"⟩, 9), (⟨"CutAtlas$Current", "sendOver", "(III)V"⟩, 9), (⟨"CutAtlas$Current", "reaching", "(I)I"⟩, 9), (⟨"CutAtlas$SetHunt", "hunt", "(IIII)V"⟩, 9), (⟨"CutAtlas$SetHunt", "chooseForCut", "(III)V"⟩, 9), (⟨"CutAtlas$SetHunt", "meet", "(II)V"⟩, 9), (⟨"CutAtlas$SetHunt", "letIn", "(II)I"⟩, 9), (⟨"CutAtlas$SetHunt", "letOut", "(II)I"⟩, 9), (⟨"CutAtlas$Current", "betweenSets", "(II)I"⟩, 9), (⟨"CutAtlas$Widening", "findPrices", "()V"⟩, 5)]
theorem lw_r1 : ∀ q ∈ lw_privs_1, lw_okq q := List.forall_mem_cons.mpr ⟨lw_p0, List.forall_mem_cons.mpr ⟨lw_p1, List.forall_mem_cons.mpr ⟨lw_p2, List.forall_mem_cons.mpr ⟨lw_p3, List.forall_mem_cons.mpr ⟨lw_p4, List.forall_mem_cons.mpr ⟨lw_p5, List.forall_mem_cons.mpr ⟨lw_p6, List.forall_mem_cons.mpr ⟨lw_p7, List.forall_mem_cons.mpr ⟨lw_p8, List.forall_mem_cons.mpr ⟨lw_p9, List.forall_mem_cons.mpr ⟨lw_p10, List.forall_mem_cons.mpr ⟨lw_p11, List.forall_mem_cons.mpr ⟨lw_p12, List.forall_mem_cons.mpr ⟨lw_p13, List.forall_mem_cons.mpr ⟨lw_p14, List.forall_mem_cons.mpr ⟨lw_p15, fun _ h => absurd h List.not_mem_nil⟩⟩⟩⟩⟩⟩⟩⟩⟩⟩⟩⟩⟩⟩⟩⟩
theorem lw_p16 : lw_okq (⟨"CutAtlas$Widening", "findCosts", "(I)V"⟩, 5) := ⟨⟨by decide +kernel, by decide +kernel⟩, List.mem_of_getElem? (i := 209) (by decide +kernel), List.mem_of_getElem? (i := 598) (by decide +kernel), List.mem_of_getElem? (i := 599) (by decide +kernel)⟩
theorem lw_p17 : lw_okq (⟨"CutAtlas$Widening", "lookFrom", "(I)Z"⟩, 5) := ⟨⟨by decide +kernel, by decide +kernel⟩, List.mem_of_getElem? (i := 209) (by decide +kernel), List.mem_of_getElem? (i := 602) (by decide +kernel), List.mem_of_getElem? (i := 603) (by decide +kernel)⟩
theorem lw_p18 : lw_okq (⟨"CutAtlas$Widening", "stepCosts", "(II)I"⟩, 5) := ⟨⟨by decide +kernel, by decide +kernel⟩, List.mem_of_getElem? (i := 209) (by decide +kernel), List.mem_of_getElem? (i := 606) (by decide +kernel), List.mem_of_getElem? (i := 607) (by decide +kernel)⟩
theorem lw_p19 : lw_okq (⟨"CutAtlas$Widening", "roomOfWay", "(III)I"⟩, 5) := ⟨⟨by decide +kernel, by decide +kernel⟩, List.mem_of_getElem? (i := 209) (by decide +kernel), List.mem_of_getElem? (i := 610) (by decide +kernel), List.mem_of_getElem? (i := 611) (by decide +kernel)⟩
theorem lw_p20 : lw_okq (⟨"CutAtlas$Widening", "stepRoom", "(II)I"⟩, 5) := ⟨⟨by decide +kernel, by decide +kernel⟩, List.mem_of_getElem? (i := 209) (by decide +kernel), List.mem_of_getElem? (i := 614) (by decide +kernel), List.mem_of_getElem? (i := 615) (by decide +kernel)⟩
theorem lw_p21 : lw_okq (⟨"CutAtlas$Widening", "sendAlongWay", "(III)V"⟩, 5) := ⟨⟨by decide +kernel, by decide +kernel⟩, List.mem_of_getElem? (i := 209) (by decide +kernel), List.mem_of_getElem? (i := 618) (by decide +kernel), List.mem_of_getElem? (i := 619) (by decide +kernel)⟩
theorem lw_p22 : lw_okq (⟨"CutAtlas$CutTree", "hang", "(I)V"⟩, 3) := ⟨⟨by decide +kernel, by decide +kernel⟩, List.mem_of_getElem? (i := 191) (by decide +kernel), List.mem_of_getElem? (i := 637) (by decide +kernel), List.mem_of_getElem? (i := 638) (by decide +kernel)⟩
theorem lw_p23 : lw_okq (⟨"CutAtlas$CutTree", "stepsToRoot", "(I)I"⟩, 3) := ⟨⟨by decide +kernel, by decide +kernel⟩, List.mem_of_getElem? (i := 191) (by decide +kernel), List.mem_of_getElem? (i := 652) (by decide +kernel), List.mem_of_getElem? (i := 653) (by decide +kernel)⟩
theorem lw_p24 : lw_okq (⟨"CutAtlas$SetHunt", "chooseForDense", "(III)V"⟩, 9) := ⟨⟨by decide +kernel, by decide +kernel⟩, List.mem_of_getElem? (i := 155) (by decide +kernel), List.mem_of_getElem? (i := 699) (by decide +kernel), List.mem_of_getElem? (i := 700) (by decide +kernel)⟩
theorem lw_p25 : lw_okq (⟨"CutAtlas$SetHunt", "compareDense", "(II)V"⟩, 9) := ⟨⟨by decide +kernel, by decide +kernel⟩, List.mem_of_getElem? (i := 155) (by decide +kernel), List.mem_of_getElem? (i := 703) (by decide +kernel), List.mem_of_getElem? (i := 704) (by decide +kernel)⟩
theorem lw_p26 : lw_okq (⟨"CutAtlas", "rowRefusal", "(III)I"⟩, 12) := ⟨⟨by decide +kernel, by decide +kernel⟩, List.mem_of_getElem? (i := 19) (by decide +kernel), List.mem_of_getElem? (i := 736) (by decide +kernel), List.mem_of_getElem? (i := 737) (by decide +kernel)⟩
theorem lw_p27 : lw_okq (⟨"CutAtlas", "numberRefusal", "(IIII)I"⟩, 12) := ⟨⟨by decide +kernel, by decide +kernel⟩, List.mem_of_getElem? (i := 19) (by decide +kernel), List.mem_of_getElem? (i := 756) (by decide +kernel), List.mem_of_getElem? (i := 757) (by decide +kernel)⟩
theorem lw_p28 : lw_okq (⟨"CutAtlas$NumberMap", "hasNumbers", "(III)Z"⟩, 4) := ⟨⟨by decide +kernel, by decide +kernel⟩, List.mem_of_getElem? (i := 233) (by decide +kernel), List.mem_of_getElem? (i := 774) (by decide +kernel), List.mem_of_getElem? (i := 775) (by decide +kernel)⟩
theorem lw_p29 : lw_okq (⟨"CutAtlas", "readRefusal", "(LCutAtlas$NumberMap;I)I"⟩, 12) := ⟨⟨by decide +kernel, by decide +kernel⟩, List.mem_of_getElem? (i := 19) (by decide +kernel), List.mem_of_getElem? (i := 795) (by decide +kernel), List.mem_of_getElem? (i := 796) (by decide +kernel)⟩
theorem lw_p30 : lw_okq (⟨"CutAtlasModel", "keeps", "()V"⟩, 34) := ⟨⟨by decide +kernel, by decide +kernel⟩, List.mem_of_getElem? (i := 820) (by decide +kernel), List.mem_of_getElem? (i := 934) (by decide +kernel), List.mem_of_getElem? (i := 935) (by decide +kernel)⟩
theorem lw_p31 : lw_okq (⟨"CutAtlasModel", "refused", "(JJJJJ)I"⟩, 34) := ⟨⟨by decide +kernel, by decide +kernel⟩, List.mem_of_getElem? (i := 820) (by decide +kernel), List.mem_of_getElem? (i := 942) (by decide +kernel), List.mem_of_getElem? (i := 943) (by decide +kernel)⟩
def lw_privs_2 : List (MethodName × Nat) := [(⟨"CutAtlas$Widening", "findCosts", "(I)V"⟩, 5), (⟨"CutAtlas$Widening", "lookFrom", "(I)Z"⟩, 5), (⟨"CutAtlas$Widening", "stepCosts", "(II)I"⟩, 5), (⟨"CutAtlas$Widening", "roomOfWay", "(III)I"⟩, 5), (⟨"CutAtlas$Widening", "stepRoom", "(II)I"⟩, 5), (⟨"CutAtlas$Widening", "sendAlongWay", "(III)V"⟩, 5), (⟨"CutAtlas$CutTree", "hang", "(I)V"⟩, 3), (⟨"CutAtlas$CutTree", "stepsToRoot", "(I)I"⟩, 3), (⟨"CutAtlas$SetHunt", "chooseForDense", "(III)V"⟩, 9), (⟨"CutAtlas$SetHunt", "compareDense", "(II)V"⟩, 9), (⟨"CutAtlas", "rowRefusal", "(III)I"⟩, 12), (⟨"CutAtlas", "numberRefusal", "(IIII)I"⟩, 12), (⟨"CutAtlas$NumberMap", "hasNumbers", "(III)Z"⟩, 4), (⟨"CutAtlas", "readRefusal", "(LCutAtlas$NumberMap;I)I"⟩, 12), (⟨"CutAtlasModel", "keeps", "()V"⟩, 34), (⟨"CutAtlasModel", "refused", "(JJJJJ)I"⟩, 34)]
theorem lw_r2 : ∀ q ∈ lw_privs_2, lw_okq q := List.forall_mem_cons.mpr ⟨lw_p16, List.forall_mem_cons.mpr ⟨lw_p17, List.forall_mem_cons.mpr ⟨lw_p18, List.forall_mem_cons.mpr ⟨lw_p19, List.forall_mem_cons.mpr ⟨lw_p20, List.forall_mem_cons.mpr ⟨lw_p21, List.forall_mem_cons.mpr ⟨lw_p22, List.forall_mem_cons.mpr ⟨lw_p23, List.forall_mem_cons.mpr ⟨lw_p24, List.forall_mem_cons.mpr ⟨lw_p25, List.forall_mem_cons.mpr ⟨lw_p26, List.forall_mem_cons.mpr ⟨lw_p27, List.forall_mem_cons.mpr ⟨lw_p28, List.forall_mem_cons.mpr ⟨lw_p29, List.forall_mem_cons.mpr ⟨lw_p30, List.forall_mem_cons.mpr ⟨lw_p31, fun _ h => absurd h List.not_mem_nil⟩⟩⟩⟩⟩⟩⟩⟩⟩⟩⟩⟩⟩⟩⟩⟩
theorem lw_p32 : lw_okq (⟨"CutAtlasModel", "adds", "(IIIII)V"⟩, 34) := ⟨⟨by decide +kernel, by decide +kernel⟩, List.mem_of_getElem? (i := 820) (by decide +kernel), List.mem_of_getElem? (i := 952) (by decide +kernel), List.mem_of_getElem? (i := 953) (by decide +kernel)⟩
theorem lw_p33 : lw_okq (⟨"CutAtlasModel", "isLine", "(I)Z"⟩, 34) := ⟨⟨by decide +kernel, by decide +kernel⟩, List.mem_of_getElem? (i := 820) (by decide +kernel), List.mem_of_getElem? (i := 961) (by decide +kernel), List.mem_of_getElem? (i := 962) (by decide +kernel)⟩
theorem lw_p34 : lw_okq (⟨"CutAtlasModel", "costs", "(I)I"⟩, 34) := ⟨⟨by decide +kernel, by decide +kernel⟩, List.mem_of_getElem? (i := 820) (by decide +kernel), List.mem_of_getElem? (i := 965) (by decide +kernel), List.mem_of_getElem? (i := 966) (by decide +kernel)⟩
theorem lw_p35 : lw_okq (⟨"CutAtlasModel", "costsTrace", "(I)J"⟩, 34) := ⟨⟨by decide +kernel, by decide +kernel⟩, List.mem_of_getElem? (i := 820) (by decide +kernel), List.mem_of_getElem? (i := 969) (by decide +kernel), List.mem_of_getElem? (i := 970) (by decide +kernel)⟩
theorem lw_p36 : lw_okq (⟨"CutAtlasModel", "arePlaces", "(II)Z"⟩, 34) := ⟨⟨by decide +kernel, by decide +kernel⟩, List.mem_of_getElem? (i := 820) (by decide +kernel), List.mem_of_getElem? (i := 983) (by decide +kernel), List.mem_of_getElem? (i := 984) (by decide +kernel)⟩
theorem lw_p37 : lw_okq (⟨"CutAtlasModel", "isPlace", "(I)Z"⟩, 34) := ⟨⟨by decide +kernel, by decide +kernel⟩, List.mem_of_getElem? (i := 820) (by decide +kernel), List.mem_of_getElem? (i := 987) (by decide +kernel), List.mem_of_getElem? (i := 988) (by decide +kernel)⟩
theorem lw_p38 : lw_okq (⟨"CutAtlasModel", "lets", "(IZ)I"⟩, 34) := ⟨⟨by decide +kernel, by decide +kernel⟩, List.mem_of_getElem? (i := 820) (by decide +kernel), List.mem_of_getElem? (i := 1007) (by decide +kernel), List.mem_of_getElem? (i := 1008) (by decide +kernel)⟩
theorem lw_p39 : lw_okq (⟨"CutAtlasModel", "mostOf", "(II)I"⟩, 34) := ⟨⟨by decide +kernel, by decide +kernel⟩, List.mem_of_getElem? (i := 820) (by decide +kernel), List.mem_of_getElem? (i := 1015) (by decide +kernel), List.mem_of_getElem? (i := 1016) (by decide +kernel)⟩
theorem lw_p40 : lw_okq (⟨"CutAtlasModel", "sizeOf", "(I)I"⟩, 34) := ⟨⟨by decide +kernel, by decide +kernel⟩, List.mem_of_getElem? (i := 820) (by decide +kernel), List.mem_of_getElem? (i := 1020) (by decide +kernel), List.mem_of_getElem? (i := 1021) (by decide +kernel)⟩
theorem lw_p41 : lw_okq (⟨"CutAtlasModel", "room", "(IZ)I"⟩, 34) := ⟨⟨by decide +kernel, by decide +kernel⟩, List.mem_of_getElem? (i := 820) (by decide +kernel), List.mem_of_getElem? (i := 1024) (by decide +kernel), List.mem_of_getElem? (i := 1025) (by decide +kernel)⟩
theorem lw_p42 : lw_okq (⟨"CutAtlasModel", "flowOf", "(II)V"⟩, 34) := ⟨⟨by decide +kernel, by decide +kernel⟩, List.mem_of_getElem? (i := 820) (by decide +kernel), List.mem_of_getElem? (i := 1036) (by decide +kernel), List.mem_of_getElem? (i := 1037) (by decide +kernel)⟩
theorem lw_p43 : lw_okq (⟨"CutAtlasModel", "hasWay", "(II)Z"⟩, 34) := ⟨⟨by decide +kernel, by decide +kernel⟩, List.mem_of_getElem? (i := 820) (by decide +kernel), List.mem_of_getElem? (i := 1040) (by decide +kernel), List.mem_of_getElem? (i := 1041) (by decide +kernel)⟩
theorem lw_p44 : lw_okq (⟨"CutAtlasModel", "isMet", "(II)Z"⟩, 34) := ⟨⟨by decide +kernel, by decide +kernel⟩, List.mem_of_getElem? (i := 820) (by decide +kernel), List.mem_of_getElem? (i := 1044) (by decide +kernel), List.mem_of_getElem? (i := 1045) (by decide +kernel)⟩
theorem lw_p45 : lw_okq (⟨"CutAtlasModel", "leftOf", "(II)I"⟩, 34) := ⟨⟨by decide +kernel, by decide +kernel⟩, List.mem_of_getElem? (i := 820) (by decide +kernel), List.mem_of_getElem? (i := 1048) (by decide +kernel), List.mem_of_getElem? (i := 1049) (by decide +kernel)⟩
theorem lw_p46 : lw_okq (⟨"CutAtlasModel", "left", "(III)I"⟩, 34) := ⟨⟨by decide +kernel, by decide +kernel⟩, List.mem_of_getElem? (i := 820) (by decide +kernel), List.mem_of_getElem? (i := 1052) (by decide +kernel), List.mem_of_getElem? (i := 1053) (by decide +kernel)⟩
theorem lw_p47 : lw_okq (⟨"CutAtlasModel", "cutsOf", "(IIII)V"⟩, 34) := ⟨⟨by decide +kernel, by decide +kernel⟩, List.mem_of_getElem? (i := 820) (by decide +kernel), List.mem_of_getElem? (i := 1061) (by decide +kernel), List.mem_of_getElem? (i := 1062) (by decide +kernel)⟩
def lw_privs_3 : List (MethodName × Nat) := [(⟨"CutAtlasModel", "adds", "(IIIII)V"⟩, 34), (⟨"CutAtlasModel", "isLine", "(I)Z"⟩, 34), (⟨"CutAtlasModel", "costs", "(I)I"⟩, 34), (⟨"CutAtlasModel", "costsTrace", "(I)J"⟩, 34), (⟨"CutAtlasModel", "arePlaces", "(II)Z"⟩, 34), (⟨"CutAtlasModel", "isPlace", "(I)Z"⟩, 34), (⟨"CutAtlasModel", "lets", "(IZ)I"⟩, 34), (⟨"CutAtlasModel", "mostOf", "(II)I"⟩, 34), (⟨"CutAtlasModel", "sizeOf", "(I)I"⟩, 34), (⟨"CutAtlasModel", "room", "(IZ)I"⟩, 34), (⟨"CutAtlasModel", "flowOf", "(II)V"⟩, 34), (⟨"CutAtlasModel", "hasWay", "(II)Z"⟩, 34), (⟨"CutAtlasModel", "isMet", "(II)Z"⟩, 34), (⟨"CutAtlasModel", "leftOf", "(II)I"⟩, 34), (⟨"CutAtlasModel", "left", "(III)I"⟩, 34), (⟨"CutAtlasModel", "cutsOf", "(IIII)V"⟩, 34)]
theorem lw_r3 : ∀ q ∈ lw_privs_3, lw_okq q := List.forall_mem_cons.mpr ⟨lw_p32, List.forall_mem_cons.mpr ⟨lw_p33, List.forall_mem_cons.mpr ⟨lw_p34, List.forall_mem_cons.mpr ⟨lw_p35, List.forall_mem_cons.mpr ⟨lw_p36, List.forall_mem_cons.mpr ⟨lw_p37, List.forall_mem_cons.mpr ⟨lw_p38, List.forall_mem_cons.mpr ⟨lw_p39, List.forall_mem_cons.mpr ⟨lw_p40, List.forall_mem_cons.mpr ⟨lw_p41, List.forall_mem_cons.mpr ⟨lw_p42, List.forall_mem_cons.mpr ⟨lw_p43, List.forall_mem_cons.mpr ⟨lw_p44, List.forall_mem_cons.mpr ⟨lw_p45, List.forall_mem_cons.mpr ⟨lw_p46, List.forall_mem_cons.mpr ⟨lw_p47, fun _ h => absurd h List.not_mem_nil⟩⟩⟩⟩⟩⟩⟩⟩⟩⟩⟩⟩⟩⟩⟩⟩
theorem lw_p48 : lw_okq (⟨"CutAtlasModel", "cheapWay", "(II)Z"⟩, 34) := ⟨⟨by decide +kernel, by decide +kernel⟩, List.mem_of_getElem? (i := 820) (by decide +kernel), List.mem_of_getElem? (i := 1089) (by decide +kernel), List.mem_of_getElem? (i := 1090) (by decide +kernel)⟩
theorem lw_p49 : lw_okq (⟨"CutAtlasModel", "step", "(IZ)J"⟩, 34) := ⟨⟨by decide +kernel, by decide +kernel⟩, List.mem_of_getElem? (i := 820) (by decide +kernel), List.mem_of_getElem? (i := 1094) (by decide +kernel), List.mem_of_getElem? (i := 1095) (by decide +kernel)⟩
theorem lw_p50 : lw_okq (⟨"CutAtlasModel", "amount", "(IZ)I"⟩, 34) := ⟨⟨by decide +kernel, by decide +kernel⟩, List.mem_of_getElem? (i := 820) (by decide +kernel), List.mem_of_getElem? (i := 1098) (by decide +kernel), List.mem_of_getElem? (i := 1099) (by decide +kernel)⟩
theorem lw_p51 : lw_okq (⟨"CutAtlasModel", "isWhole", "()Z"⟩, 34) := ⟨⟨by decide +kernel, by decide +kernel⟩, List.mem_of_getElem? (i := 820) (by decide +kernel), List.mem_of_getElem? (i := 1106) (by decide +kernel), List.mem_of_getElem? (i := 1107) (by decide +kernel)⟩
theorem lw_p52 : lw_okq (⟨"CutAtlasModel", "plants", "()V"⟩, 34) := ⟨⟨by decide +kernel, by decide +kernel⟩, List.mem_of_getElem? (i := 820) (by decide +kernel), List.mem_of_getElem? (i := 1110) (by decide +kernel), List.mem_of_getElem? (i := 1111) (by decide +kernel)⟩
theorem lw_p53 : lw_okq (⟨"CutAtlasModel", "leastOf", "()I"⟩, 34) := ⟨⟨by decide +kernel, by decide +kernel⟩, List.mem_of_getElem? (i := 820) (by decide +kernel), List.mem_of_getElem? (i := 1122) (by decide +kernel), List.mem_of_getElem? (i := 1123) (by decide +kernel)⟩
theorem lw_p54 : lw_okq (⟨"CutAtlasModel", "wholeCuts", "(I)V"⟩, 34) := ⟨⟨by decide +kernel, by decide +kernel⟩, List.mem_of_getElem? (i := 820) (by decide +kernel), List.mem_of_getElem? (i := 1130) (by decide +kernel), List.mem_of_getElem? (i := 1131) (by decide +kernel)⟩
theorem lw_p55 : lw_okq (⟨"CutAtlasModel", "no", "(I)I"⟩, 34) := ⟨⟨by decide +kernel, by decide +kernel⟩, List.mem_of_getElem? (i := 820) (by decide +kernel), List.mem_of_getElem? (i := 1155) (by decide +kernel), List.mem_of_getElem? (i := 1156) (by decide +kernel)⟩
theorem lw_p56 : lw_okq (⟨"CutAtlasModel", "wrong", "(IIII)I"⟩, 34) := ⟨⟨by decide +kernel, by decide +kernel⟩, List.mem_of_getElem? (i := 820) (by decide +kernel), List.mem_of_getElem? (i := 1167) (by decide +kernel), List.mem_of_getElem? (i := 1168) (by decide +kernel)⟩
def lw_privs_4 : List (MethodName × Nat) := [(⟨"CutAtlasModel", "cheapWay", "(II)Z"⟩, 34), (⟨"CutAtlasModel", "step", "(IZ)J"⟩, 34), (⟨"CutAtlasModel", "amount", "(IZ)I"⟩, 34), (⟨"CutAtlasModel", "isWhole", "()Z"⟩, 34), (⟨"CutAtlasModel", "plants", "()V"⟩, 34), (⟨"CutAtlasModel", "leastOf", "()I"⟩, 34), (⟨"CutAtlasModel", "wholeCuts", "(I)V"⟩, 34), (⟨"CutAtlasModel", "no", "(I)I"⟩, 34), (⟨"CutAtlasModel", "wrong", "(IIII)I"⟩, 34)]
theorem lw_r4 : ∀ q ∈ lw_privs_4, lw_okq q := List.forall_mem_cons.mpr ⟨lw_p48, List.forall_mem_cons.mpr ⟨lw_p49, List.forall_mem_cons.mpr ⟨lw_p50, List.forall_mem_cons.mpr ⟨lw_p51, List.forall_mem_cons.mpr ⟨lw_p52, List.forall_mem_cons.mpr ⟨lw_p53, List.forall_mem_cons.mpr ⟨lw_p54, List.forall_mem_cons.mpr ⟨lw_p55, List.forall_mem_cons.mpr ⟨lw_p56, fun _ h => absurd h List.not_mem_nil⟩⟩⟩⟩⟩⟩⟩⟩⟩
def lw_privs : List (MethodName × Nat) := lw_privs_1 ++ (lw_privs_2 ++ (lw_privs_3 ++ (lw_privs_4)))
def lw_tbl : List Cond := k2_sels lw_privs ++ tables_1
theorem lw_privs_ok : ∀ q ∈ lw_privs, lw_okq q := by
  show ∀ q ∈ lw_privs_1 ++ (lw_privs_2 ++ (lw_privs_3 ++ (lw_privs_4))), lw_okq q
  exact List.forall_mem_append.mpr ⟨lw_r1, List.forall_mem_append.mpr ⟨lw_r2, List.forall_mem_append.mpr ⟨lw_r3, lw_r4⟩⟩⟩
/-! ===== BEGIN words of one list among another's, by their places ===== -/
theorem goodIn_r {big : List Cond} (ws : List Cond) (ps : List Nat) (hp : ws = ps.filterMap (fun i => big[i]?)) (h : ws.all goodWord = true) : GoodIn big ws := by
  intro w hw
  have h1 := List.all_eq_true.mp h w hw
  rw [hp] at hw
  obtain ⟨i, -, hi⟩ := List.mem_filterMap.mp hw
  have hm : w ∈ big := by first | exact List.mem_of_getElem? hi | exact List.getElem?_mem hi
  exact ⟨hm, good_of_word h1⟩
theorem goodIn_app {big a b : List Cond} (ha : GoodIn big a) (hb : GoodIn big b) : GoodIn big (a ++ b) := fun w h => (List.mem_append.mp h).elim (ha w) (hb w)
theorem goodIn_ca {big a b : List Cond} {c : Cond} (ha : GoodIn big (c :: a)) (hb : GoodIn big b) : GoodIn big (c :: (a ++ b)) := fun w h => (List.mem_cons.mp h).elim (fun e => ha w (List.mem_cons.mpr (Or.inl e))) (fun h => (List.mem_append.mp h).elim (fun h => ha w (List.mem_cons.mpr (Or.inr h))) (hb w))
theorem goodIn_sub {big ws : List Cond} (hm : ∀ w ∈ ws, w ∈ big) (h : ws.all goodWord = true) : GoodIn big ws := fun w hw => ⟨hm w hw, good_of_word (List.all_eq_true.mp h w hw)⟩
/-! ===== END ===== -/

def va_AOA (t : FieldType) (U : State) : Prop := (Cond.arrayOver (.array t)).before #[] U = true
theorem va_AOA.use {t : FieldType} {A : Array Value} {U : State} (h : va_AOA t U) : (Cond.arrayOver (.array t)).before A U = true := h
theorem va_AOA.moved {t : FieldType} {u U : State} (hvm : u.vm.Alike U.vm) (h : va_AOA t u) : va_AOA t U := by
  obtain ⟨comp, c, k, h1, h2, h3, h4, h5⟩ := arrayOverA_spec h
  obtain ⟨k', hk', he⟩ := hvm.2.2 _ _ h3
  have hi : (U.vm.classes.findIdx? fun (x : Class) => match x.kind with | .array component _ => component == comp | _ => false) = some c := by
    have e1 := va_idx_bare U.vm comp
    have e2 := va_idx_bare u.vm comp
    have e3 : u.vm.bare = U.vm.bare := by first | exact hvm.bare_eq | exact hvm.bare_eq.symm
    rw [e3] at e2
    exact (e1.symm.trans e2).trans h2
  have hkind : k'.kind = .array comp (.array t) := by rw [he]; exact h4
  have f1 : U.vm.findClass (FieldType.array t).toString = some comp := by rw [hvm.findClass]; exact h1
  have f2 : U.vm.findClass ("[" ++ (FieldType.array t).toString) = some c := by rw [hvm.findClass]; exact h5
  unfold va_AOA Cond.before Cond.holds
  simp only [Cond.value]
  rw [f1, Option.bind_some]
  refine (congrArg (fun o : Option Nat => (o.bind (fun c => (U.vm.classes[c]?).map fun (k : Class) => match k.kind with | .array _ ty => decide (ty = FieldType.array t) && decide (U.vm.findClass ("[" ++ (FieldType.array t).toString) = some c) | _ => false) == some true)) hi).trans ?_
  simp [hk', hkind, f2]
/-! ===== BEGIN new T[n][m]: the outer array a place, the inner ones among the pooled ===== -/
/-- f, but v at every address of l -/
def vr_up {α : Type} (f : Nat → α) (l : List Nat) (v : α) : Nat → α := fun a => if a ∈ l then v else f a
theorem vr_up_in {α : Type} {f : Nat → α} {l : List Nat} {v : α} {a : Nat} (h : a ∈ l) : vr_up f l v a = v := if_pos h
theorem vr_up_ne {α : Type} {f : Nat → α} {l : List Nat} {v : α} {a : Nat} (h : a ∉ l) : vr_up f l v a = f a := if_neg h
theorem vr_rows {L l : List Nat} {f : Nat → va_E} {e : va_E} (h : ∀ a, a ∈ l → a ∉ L) : va_pl L f ++ l.map (fun a => (a, e)) = va_pl (L ++ l) (vr_up f l e) := by
  unfold va_pl
  rw [List.map_append]
  congr 1
  · apply List.map_congr_left
    intro a ha
    rw [vr_up_ne (fun q => h a q ha)]
  · apply List.map_congr_left
    intro a ha
    rw [vr_up_in ha]
theorem vr_lay {X rows : va_W} {x : Nat × va_E} {pl : va_W} {D : va_G} {cl : List vw_C} {H : Heap} (hP : va_P D cl (((X ++ pl) ++ [x]) ++ rows) H) : va_P D cl ((X ++ [x]) ++ (pl ++ rows)) H := by
  rw [List.append_assoc (X ++ pl)] at hP
  have h := va_P.swap hP
  rw [← List.append_assoc X] at h
  have h2 := va_P.swap h
  rw [List.append_assoc (X ++ [x])] at h2
  exact h2
theorem vr_layD {X rows : va_W} {x : Nat × va_E} {pl : va_W} {A : Nat → Prop} (hD : va_D A (((X ++ pl) ++ [x]) ++ rows)) : va_D A ((X ++ [x]) ++ (pl ++ rows)) := by
  rw [List.append_assoc (X ++ pl)] at hD
  have h := va_D.swap hD
  rw [← List.append_assoc X] at h
  have h2 := va_D.swap h
  rw [List.append_assoc (X ++ [x])] at h2
  exact h2
theorem vr_outer (c : ClassId) (N h0 : Nat) : ∀ i : Nat, Jvm.Free.Multi.outerC c N h0 i = arrV c N (fun j => va_rf (if j < i then some (h0 + 1 + j) else none))
  | 0 => by
    show ({ cls := c, slots := Array.replicate N .null, vm := .none } : Cell) = _
    rw [arrV_new]
    refine congrArg (arrV c N) (funext fun j => ?_)
    simp [va_rf]
  | i + 1 => by
    show (Jvm.Free.Multi.outerC c N h0 i).setSlot i (.ref (h0 + 1 + i)) = _
    rw [vr_outer c N h0 i, arrV_store]
    refine congrArg (arrV c N) (funext fun j => ?_)
    by_cases e : j = i
    · subst e
      simp [updV, va_rf]
    · by_cases h : j < i
      · simp [updV, e, h, Nat.lt_succ_of_lt h]
      · simp [updV, e, h, show ¬ j < i + 1 by omega]
section VGM
variable {p : Program} {l : Launch} {e : Env} {R : Room} {s : State} {m : MethodId} {args : Array Value} {below : List Frame} {meth : Method} {c : Code} {H : Heap} {locs : List Loc} {cells slots : Nat} {Q : State → Prop}
variable {cc : ByteArray} {pc : Nat} {ls : Array Slot} {rest : List Value} {D : va_G} {cl : List vw_C} {A : Nat → Prop} {a : Nat} {tys : List (ClassId × FieldType)} {ws : va_W} {H0 : Heap}
theorem va_mna {X : va_W} {L : List Nat} {f : Nat → va_E} {cc : ByteArray} (hexec : p.tables.exec = Jvm.exec) (hb : c.code = cc) {own : String} {index : Nat} {ty : FieldType} {cy : ClassId} (hown : s.vm.findClass own = some m.cls) (hclink : (Cond.classLink own index ("[" ++ (FieldType.array ty).toString)).before args s = true) (hover : va_AOA ty s) (harr : (Cond.arrayClass ty).before args s = true) (hcy : s.vm.findClass (FieldType.array ty).toString = some cy)
    (hK : va_K D cl tys s) (hP : va_P D cl (X ++ va_pl L f) H) (hD : va_D A (X ++ va_pl L f)) (hS : va_S A H0 H locs) (hA : ∀ q, H0.size ≤ q → A q) {n k : Int32} {N' K' : Nat} {z : vp_A} (hn : ¬ n < 0) (hk : ¬ k < 0) (hN : n.toNatClampNeg = N') (hM : k.toNatClampNeg = K')
    (hb1 : N' * 4 ≤ 536870912) (hb2 : K' * componentBytes ty ≤ 536870912) (hb3 : K' ≤ 536870912) (hdf : fits ty (defaultValue ty) = true) (hdd : (defaultValue ty).isDefault = true) (hcells : cells + (1 + N') ≤ R.cells) (hslots : slots + (N' + N' * K') ≤ R.slots) (hz : ∀ c : ClassId, Jvm.Free.Multi.innerC c K' (defaultValue ty) = vp_cell c z) (hdg : decode cc pc = .ok (.multianewarray index 2, 4))
    (kk : ∀ (q : Nat) (r : Nat → Nat) (cA : ClassId) (H1 : Heap), (∀ i j : Nat, i < N' → j < N' → r i = r j → i = j) → (∀ i : Nat, i < N' → r i ∉ L) → va_K D cl (tys ++ [(cA, .array ty)]) s →
      va_P D cl ((X ++ [(q, .inl (cA, N', .inr (.inr (.inr (.inr (fun i => if i < N' then some (r i) else none))))))]) ++ va_pl (L ++ (List.range N').map r) (vr_up f ((List.range N').map r) (.inl (cy, z)))) H1 → va_D A ((X ++ [(q, .inl (cA, N', .inr (.inr (.inr (.inr (fun i => if i < N' then some (r i) else none))))))]) ++ va_pl (L ++ (List.range N').map r) (vr_up f ((List.range N').map r) (.inl (cy, z)))) → va_S A H0 H1 locs →
      W p l e R s m args below meth c H1 locs (cells + 1 + N') (slots + N' + N' * K') Q (F0 m (pc + 4) ls (.ref q :: rest))) : W p l e R s m args below meth c H locs cells slots Q (F0 m pc ls (.int k :: .int n :: rest)) := by
  subst hN
  subst hM
  intro T hT Xs
  obtain ⟨vm₁, cA, comp, -, fA, fC, hO, -, X', step⟩ := Xs.multianewarray2F hexec hown hclink (va_AOA.use hover) harr (g := F0 m pc ls (.int k :: .int n :: rest)) rfl (by rw [hb]; exact hdg) rfl hn hk hb1 hb2 hb3 hdf hdd hcells hslots
  have ec : some cy = some comp := hcy.symm.trans fC
  cases ec
  generalize hF : Jvm.Free.Multi.fill (T.setVm vm₁) cA cy n.toNatClampNeg k.toNatClampNeg (defaultValue ty) n.toNatClampNeg = F at X' step
  have hTh : (T.setVm vm₁).heap = H := hT
  obtain ⟨f1, f2, -, -⟩ := Jvm.Free.Multi.fill_facts (T.setVm vm₁) cA cy n.toNatClampNeg k.toNatClampNeg (defaultValue ty) n.toNatClampNeg
  rw [hF, hTh] at f1 f2
  have hold : ∀ x : Nat, x < H.size → F.heap[x]? = H[x]? := fun x hx => by
    have := Jvm.Free.Multi.fill_old (T.setVm vm₁) cA cy n.toNatClampNeg k.toNatClampNeg (defaultValue ty) (a := x) (by rw [hTh]; exact hx) n.toNatClampNeg
    rw [hF, hTh] at this
    exact this
  have hrow : ∀ j : Nat, j < n.toNatClampNeg → F.heap[H.size + 1 + j]? = some (vp_cell cy z) := fun j hj => by
    have := Jvm.Free.Multi.fill_inner (T.setVm vm₁) cA cy n.toNatClampNeg k.toNatClampNeg (defaultValue ty) n.toNatClampNeg j hj
    rw [hF, hTh, hz] at this
    exact this
  have hout : Jvm.Free.Multi.outerC cA n.toNatClampNeg H.size n.toNatClampNeg = vp_cell cA (n.toNatClampNeg, .inr (.inr (.inr (.inr (fun i => if i < n.toNatClampNeg then some (H.size + 1 + i) else none))))) := by
    rw [vp_cell_q]
    exact vr_outer cA n.toNatClampNeg H.size n.toNatClampNeg
  rw [hout] at f2
  have hlt : ∀ a, a ∈ L → a < H.size := fun a ha => by
    obtain ⟨k9, hk9⟩ := va_pl_get (X := X) (f := f) ha
    exact (hP k9 _ hk9).lt
  have hnl : ∀ i : Nat, i < n.toNatClampNeg → H.size + 1 + i ∉ L := fun i _ h => by
    have := hlt _ h
    omega
  have hnm : ∀ a, a ∈ (List.range n.toNatClampNeg).map (fun i => H.size + 1 + i) → a ∉ L := fun a ha h => by
    obtain ⟨i, -, rfl⟩ := List.mem_map.mp ha
    have := hlt _ h
    omega
  have hP0 : va_P D cl (X ++ va_pl L f) F.heap := hP.kept (fun k9 x hx => hold x.1 ((hP k9 x hx).lt))
  have hP1 : va_P D cl ((X ++ va_pl L f) ++ [(H.size, .inl (cA, n.toNatClampNeg, .inr (.inr (.inr (.inr (fun i => if i < n.toNatClampNeg then some (H.size + 1 + i) else none))))))]) F.heap := hP0.app (fun k9 x hx => by
    have h0 : k9 < 1 := (List.getElem?_eq_some_iff.mp hx).1
    rw [show k9 = 0 by omega] at hx
    cases hx
    exact f2)
  have hP2 : va_P D cl (((X ++ va_pl L f) ++ [(H.size, .inl (cA, n.toNatClampNeg, .inr (.inr (.inr (.inr (fun i => if i < n.toNatClampNeg then some (H.size + 1 + i) else none))))))]) ++ ((List.range n.toNatClampNeg).map (fun i => H.size + 1 + i)).map (fun a => (a, .inl (cy, z)))) F.heap := hP1.app (fun k9 x hx => by
    obtain ⟨a, ha, rfl⟩ := List.mem_map.mp (List.mem_of_getElem? hx)
    obtain ⟨i, hi, rfl⟩ := List.mem_map.mp ha
    exact hrow i (List.mem_range.mp hi))
  have hD2 : va_D A (((X ++ va_pl L f) ++ [(H.size, .inl (cA, n.toNatClampNeg, .inr (.inr (.inr (.inr (fun i => if i < n.toNatClampNeg then some (H.size + 1 + i) else none))))))]) ++ ((List.range n.toNatClampNeg).map (fun i => H.size + 1 + i)).map (fun a => (a, .inl (cy, z)))) := by
    have hD1 := hD.push (e := .inl (cA, n.toNatClampNeg, .inr (.inr (.inr (.inr (fun i => if i < n.toNatClampNeg then some (H.size + 1 + i) else none)))))) hP rfl (hA _ hS.1)
    generalize hW1 : (X ++ va_pl L f) ++ [(H.size, .inl (cA, n.toNatClampNeg, .inr (.inr (.inr (.inr (fun i => if i < n.toNatClampNeg then some (H.size + 1 + i) else none))))))] = W1 at hD1 hP1 ⊢
    have hle : ∀ (k9 : Nat) (x : Nat × va_E), W1[k9]? = some x → x.1 ≤ H.size := fun k9 x hx => by
      rw [← hW1] at hx
      by_cases hl : k9 < (X ++ va_pl L f).length
      · rw [List.getElem?_append_left hl] at hx
        exact Nat.le_of_lt ((hP k9 x hx).lt)
      · rw [List.getElem?_append_right (by omega)] at hx
        have h0 : k9 - (X ++ va_pl L f).length < 1 := (List.getElem?_eq_some_iff.mp hx).1
        rw [show k9 - (X ++ va_pl L f).length = 0 by omega] at hx
        cases hx
        exact Nat.le_refl _
    have hr : ∀ (k9 : Nat) (x : Nat × va_E), (((List.range n.toNatClampNeg).map (fun i => H.size + 1 + i)).map (fun a => ((a, .inl (cy, z)) : Nat × va_E)))[k9]? = some x → x.1 = H.size + 1 + k9 := fun k9 x hx => by
      rw [List.getElem?_map, List.getElem?_map] at hx
      by_cases h9 : k9 < n.toNatClampNeg
      · rw [List.getElem?_range h9] at hx
        cases hx
        rfl
      · have hn0 : (List.range n.toNatClampNeg)[k9]? = none := List.getElem?_eq_none (by rw [List.length_range]; omega)
        rw [hn0] at hx
        cases hx
    refine ⟨fun i j x y hi hj hxy => ?_, fun k9 x hx => ?_⟩
    · by_cases h1 : i < W1.length <;> by_cases h2 : j < W1.length
      · rw [List.getElem?_append_left h1] at hi
        rw [List.getElem?_append_left h2] at hj
        exact hD1.1 i j x y hi hj hxy
      · rw [List.getElem?_append_left h1] at hi
        rw [List.getElem?_append_right (by omega)] at hj
        have := hle _ _ hi
        have := hr _ _ hj
        omega
      · rw [List.getElem?_append_right (by omega)] at hi
        rw [List.getElem?_append_left h2] at hj
        have := hle _ _ hj
        have := hr _ _ hi
        omega
      · rw [List.getElem?_append_right (by omega)] at hi hj
        have := hr _ _ hi
        have := hr _ _ hj
        omega
    · by_cases h1 : k9 < W1.length
      · rw [List.getElem?_append_left h1] at hx
        exact hD1.2 k9 x hx
      · rw [List.getElem?_append_right (by omega)] at hx
        have := hr _ _ hx
        exact hA _ (by have := hS.1; omega)
  have hAr : ArrOfT s cA (.array ty) := fun N9 z9 => by
    obtain ⟨-, k9, hk9, cm9, hkk9⟩ := (hO 0 0 0).1
    exact ⟨(fun q hq => by cases hq), k9, hk9, cm9, hkk9⟩
  have hK2 : va_K D cl (tys ++ [(cA, .array ty)]) s := ⟨hK.1, fun k9 x hx => by
    by_cases hl : k9 < tys.length
    · rw [List.getElem?_append_left hl] at hx
      exact hK.2 k9 x hx
    · rw [List.getElem?_append_right (by omega)] at hx
      have h0 : k9 - tys.length < 1 := (List.getElem?_eq_some_iff.mp hx).1
      rw [show k9 - tys.length = 0 by omega] at hx
      cases hx
      exact ⟨hAr, fA⟩⟩
  obtain ⟨t, a1, b1⟩ := kk H.size (fun i => H.size + 1 + i) cA F.heap (fun i j _ _ h => by have h9 : H.size + 1 + i = H.size + 1 + j := h; omega) hnl hK2 (by rw [← vr_rows hnm]; exact vr_lay hP2) (by rw [← vr_rows hnm]; exact vr_layD hD2) ⟨by rw [f1]; have := hS.1; omega, fun x h1 h2 => (hold x (Nat.lt_of_lt_of_le h1 hS.1)).trans (hS.2.1 x h1 h2), hS.2.2⟩ F rfl X'
  refine ⟨t, step t ?_, b1⟩
  have e : T.heap.size = H.size := by rw [hT]
  rw [e]
  exact a1
end VGM
/-! ===== END ===== -/

def RX0 : String := "CutAtlas$Current"
def TX0 : u_T := fun k => match k with
  | 0 => ("CutAtlas$Current", "net", "LCutAtlas$Net;", true)
  | 1 => ("CutAtlas$Current", "kinds", "[LCutAtlas$PlainKind;", true)
  | 2 => ("CutAtlas$Current", "lets", "[[I", true)
  | 3 => ("CutAtlas$Current", "room", "[[I", true)
  | 4 => ("CutAtlas$Current", "flowing", "[I", true)
  | 5 => ("CutAtlas$Current", "letsForth", "[I", true)
  | 6 => ("CutAtlas$Current", "letsBack", "[I", true)
  | 7 => ("CutAtlas$Current", "queue", "[I", true)
  | _ => ("CutAtlas$Current", "cameFrom", "[I", true)
def tyX0 : Nat → FieldType := fun k => match k with
  | 0 => .object "CutAtlas$Net"
  | 1 => .array (.object "CutAtlas$PlainKind")
  | 2 => .array (.array .int)
  | 3 => .array (.array .int)
  | 4 => .array .int
  | 5 => .array .int
  | 6 => .array .int
  | 7 => .array .int
  | _ => .array .int
abbrev wsX00 : List Cond := u_ws RX0 TX0 9
theorem nmX0 : ∀ a, a < 9 → ∀ b, b < 9 → a ≠ b → (TX0 a).2.1 ≠ (TX0 b).2.1 := by decide +kernel
theorem tyX0_ok : ∀ k, k < 9 → parseFieldDescriptor (TX0 k).2.2.1 = some (tyX0 k) := by decide +kernel
abbrev cX0_init : ByteArray := prog_2_method_1_code
def yX0_init : MethodName := ⟨RX0, "<init>", "(LCutAtlas$Net;[LCutAtlas$PlainKind;)V"⟩
abbrev cX0_load : ByteArray := prog_2_method_2_code
def yX0_load : MethodName := ⟨RX0, "load", "(I)V"⟩
abbrev cX0_asRoom : ByteArray := prog_2_method_3_code
def yX0_asRoom : MethodName := ⟨RX0, "asRoom", "(I)I"⟩
abbrev cX0_fill : ByteArray := prog_2_method_4_code
def yX0_fill : MethodName := ⟨RX0, "fill", "(II)I"⟩
abbrev cX0_findWay : ByteArray := prog_2_method_5_code
def yX0_findWay : MethodName := ⟨RX0, "findWay", "(II)Z"⟩
abbrev cX0_sendAlongWay : ByteArray := prog_2_method_6_code
def yX0_sendAlongWay : MethodName := ⟨RX0, "sendAlongWay", "(II)I"⟩
abbrev cX0_sendOver : ByteArray := prog_2_method_7_code
def yX0_sendOver : MethodName := ⟨RX0, "sendOver", "(III)V"⟩
abbrev cX0_nearCut : ByteArray := prog_2_method_8_code
def yX0_nearCut : MethodName := ⟨RX0, "nearCut", "(I)I"⟩
abbrev cX0_farCut : ByteArray := prog_2_method_9_code
def yX0_farCut : MethodName := ⟨RX0, "farCut", "(I)I"⟩
abbrev cX0_reachedFrom : ByteArray := prog_2_method_10_code
def yX0_reachedFrom : MethodName := ⟨RX0, "reachedFrom", "(II)I"⟩
abbrev cX0_reaching : ByteArray := prog_2_method_11_code
def yX0_reaching : MethodName := ⟨RX0, "reaching", "(I)I"⟩
abbrev cX0_leaving : ByteArray := prog_2_method_12_code
def yX0_leaving : MethodName := ⟨RX0, "leaving", "(I)I"⟩
abbrev cX0_betweenSets : ByteArray := prog_2_method_13_code
def yX0_betweenSets : MethodName := ⟨RX0, "betweenSets", "(II)I"⟩
def RX1 : String := "CutAtlas$CutTree"
def TX1 : u_T := fun k => match k with
  | 0 => ("CutAtlas$CutTree", "current", "LCutAtlas$Current;", true)
  | 1 => ("CutAtlas$CutTree", "nexts", "[I", true)
  | _ => ("CutAtlas$CutTree", "numbers", "[I", true)
def tyX1 : Nat → FieldType := fun k => match k with
  | 0 => .object "CutAtlas$Current"
  | 1 => .array .int
  | _ => .array .int
abbrev wsX10 : List Cond := u_ws RX1 TX1 3
theorem nmX1 : ∀ a, a < 3 → ∀ b, b < 3 → a ≠ b → (TX1 a).2.1 ≠ (TX1 b).2.1 := by decide +kernel
theorem tyX1_ok : ∀ k, k < 3 → parseFieldDescriptor (TX1 k).2.2.1 = some (tyX1 k) := by decide +kernel
abbrev cX1_init : ByteArray := prog_3_method_1_code
def yX1_init : MethodName := ⟨RX1, "<init>", "(LCutAtlas$Current;)V"⟩
abbrev cX1_grow : ByteArray := prog_3_method_2_code
def yX1_grow : MethodName := ⟨RX1, "grow", "()V"⟩
abbrev cX1_hang : ByteArray := prog_3_method_3_code
def yX1_hang : MethodName := ⟨RX1, "hang", "(I)V"⟩
abbrev cX1_leastOnWay : ByteArray := prog_3_method_4_code
def yX1_leastOnWay : MethodName := ⟨RX1, "leastOnWay", "(II)I"⟩
abbrev cX1_stepsToRoot : ByteArray := prog_3_method_5_code
def yX1_stepsToRoot : MethodName := ⟨RX1, "stepsToRoot", "(I)I"⟩
abbrev cX1_leastNumber : ByteArray := prog_3_method_6_code
def yX1_leastNumber : MethodName := ⟨RX1, "leastNumber", "()I"⟩
abbrev cX1_leastAlike : ByteArray := prog_3_method_7_code
def yX1_leastAlike : MethodName := ⟨RX1, "leastAlike", "(II)I"⟩
abbrev cX1_partsBelow : ByteArray := prog_3_method_8_code
def yX1_partsBelow : MethodName := ⟨RX1, "partsBelow", "(II)I"⟩
def RX2 : String := "CutAtlas$DearKind"
def TX2 : u_T := fun k => match k with
  | _ => ("", "", "", false)
def tyX2 : Nat → FieldType := fun k => match k with
  | _ => .int
abbrev wsX20 : List Cond := u_ws RX2 TX2 0
theorem tyX2_ok : ∀ k, k < 0 → parseFieldDescriptor (TX2 k).2.2.1 = some (tyX2 k) := by decide +kernel
abbrev cX2_init : ByteArray := prog_4_method_1_code
def yX2_init : MethodName := ⟨RX2, "<init>", "()V"⟩
abbrev cX2_costs : ByteArray := prog_4_method_2_code
def yX2_costs : MethodName := ⟨RX2, "costs", "(I)I"⟩
abbrev cX2_costsMark : ByteArray := prog_4_method_3_code
def yX2_costsMark : MethodName := ⟨RX2, "costsMark", "()I"⟩
def RX3 : String := "CutAtlas$Net"
def TX3 : u_T := fun k => match k with
  | 0 => ("CutAtlas$Net", "places", "I", false)
  | 1 => ("CutAtlas$Net", "lines", "I", false)
  | 2 => ("CutAtlas$Net", "kinds", "[I", true)
  | 3 => ("CutAtlas$Net", "starts", "[I", true)
  | 4 => ("CutAtlas$Net", "ends", "[I", true)
  | 5 => ("CutAtlas$Net", "widths", "[I", true)
  | _ => ("CutAtlas$Net", "prices", "[I", true)
def tyX3 : Nat → FieldType := fun k => match k with
  | 0 => .int
  | 1 => .int
  | 2 => .array .int
  | 3 => .array .int
  | 4 => .array .int
  | 5 => .array .int
  | _ => .array .int
abbrev wsX30 : List Cond := u_ws RX3 TX3 7
theorem nmX3 : ∀ a, a < 7 → ∀ b, b < 7 → a ≠ b → (TX3 a).2.1 ≠ (TX3 b).2.1 := by decide +kernel
theorem tyX3_ok : ∀ k, k < 7 → parseFieldDescriptor (TX3 k).2.2.1 = some (tyX3 k) := by decide +kernel
abbrev cX3_init : ByteArray := prog_5_method_1_code
def yX3_init : MethodName := ⟨RX3, "<init>", "()V"⟩
abbrev cX3_hasPlace : ByteArray := prog_5_method_2_code
def yX3_hasPlace : MethodName := ⟨RX3, "hasPlace", "(J)Z"⟩
abbrev cX3_hasPair : ByteArray := prog_5_method_3_code
def yX3_hasPair : MethodName := ⟨RX3, "hasPair", "(JJ)Z"⟩
abbrev cX3_hasLine : ByteArray := prog_5_method_4_code
def yX3_hasLine : MethodName := ⟨RX3, "hasLine", "(I)Z"⟩
abbrev cX3_isMissing : ByteArray := prog_5_method_5_code
def yX3_isMissing : MethodName := ⟨RX3, "isMissing", "(I)Z"⟩
abbrev cX3_missingLines : ByteArray := prog_5_method_6_code
def yX3_missingLines : MethodName := ⟨RX3, "missingLines", "()I"⟩
abbrev cX3_isWhole : ByteArray := prog_5_method_7_code
def yX3_isWhole : MethodName := ⟨RX3, "isWhole", "()Z"⟩
abbrev cX3_append : ByteArray := prog_5_method_8_code
def yX3_append : MethodName := ⟨RX3, "append", "(IIIII)I"⟩
abbrev cX3_join : ByteArray := prog_5_method_9_code
def yX3_join : MethodName := ⟨RX3, "join", "(II)I"⟩
abbrev cX3_renumbered : ByteArray := prog_5_method_10_code
def yX3_renumbered : MethodName := ⟨RX3, "renumbered", "(III)I"⟩
abbrev cX3_become : ByteArray := prog_5_method_11_code
def yX3_become : MethodName := ⟨RX3, "become", "(LCutAtlas$Net;)V"⟩
def RX4 : String := "CutAtlas$NumberMap"
def TX4 : u_T := fun k => match k with
  | 0 => ("CutAtlas$NumberMap", "kind", "I", false)
  | 1 => ("CutAtlas$NumberMap", "rows", "I", false)
  | 2 => ("CutAtlas$NumberMap", "lengths", "[I", true)
  | _ => ("CutAtlas$NumberMap", "numbers", "[J", true)
def tyX4 : Nat → FieldType := fun k => match k with
  | 0 => .int
  | 1 => .int
  | 2 => .array .int
  | _ => .array .long
abbrev wsX40 : List Cond := u_ws RX4 TX4 4
theorem nmX4 : ∀ a, a < 4 → ∀ b, b < 4 → a ≠ b → (TX4 a).2.1 ≠ (TX4 b).2.1 := by decide +kernel
theorem tyX4_ok : ∀ k, k < 4 → parseFieldDescriptor (TX4 k).2.2.1 = some (tyX4 k) := by decide +kernel
abbrev cX4_init : ByteArray := prog_6_method_1_code
def yX4_init : MethodName := ⟨RX4, "<init>", "()V"⟩
abbrev cX4_isThere : ByteArray := prog_6_method_2_code
def yX4_isThere : MethodName := ⟨RX4, "isThere", "()Z"⟩
abbrev cX4_hasRow : ByteArray := prog_6_method_3_code
def yX4_hasRow : MethodName := ⟨RX4, "hasRow", "(I)Z"⟩
abbrev cX4_begin : ByteArray := prog_6_method_4_code
def yX4_begin : MethodName := ⟨RX4, "begin", "(II)V"⟩
abbrev cX4_beginRow : ByteArray := prog_6_method_5_code
def yX4_beginRow : MethodName := ⟨RX4, "beginRow", "(II)V"⟩
abbrev cX4_store : ByteArray := prog_6_method_6_code
def yX4_store : MethodName := ⟨RX4, "store", "(IIJ)V"⟩
abbrev cX4_number : ByteArray := prog_6_method_7_code
def yX4_number : MethodName := ⟨RX4, "number", "(II)J"⟩
abbrev cX4_whole : ByteArray := prog_6_method_8_code
def yX4_whole : MethodName := ⟨RX4, "whole", "(II)I"⟩
abbrev cX4_moveRefusal : ByteArray := prog_6_method_9_code
def yX4_moveRefusal : MethodName := ⟨RX4, "moveRefusal", "(IIIII)I"⟩
abbrev cX4_hasNumbers : ByteArray := prog_6_method_10_code
def yX4_hasNumbers : MethodName := ⟨RX4, "hasNumbers", "(III)Z"⟩
abbrev cX4_move : ByteArray := prog_6_method_11_code
def yX4_move : MethodName := ⟨RX4, "move", "(IIIII)V"⟩
def RX5 : String := "CutAtlas$OnewayKind"
def TX5 : u_T := fun k => match k with
  | _ => ("", "", "", false)
def tyX5 : Nat → FieldType := fun k => match k with
  | _ => .int
abbrev wsX50 : List Cond := u_ws RX5 TX5 0
theorem tyX5_ok : ∀ k, k < 0 → parseFieldDescriptor (TX5 k).2.2.1 = some (tyX5 k) := by decide +kernel
abbrev cX5_init : ByteArray := prog_7_method_1_code
def yX5_init : MethodName := ⟨RX5, "<init>", "()V"⟩
abbrev cX5_lets : ByteArray := prog_7_method_2_code
def yX5_lets : MethodName := ⟨RX5, "lets", "(IZ)I"⟩
abbrev cX5_letsMark : ByteArray := prog_7_method_3_code
def yX5_letsMark : MethodName := ⟨RX5, "letsMark", "(Z)I"⟩
def RX6 : String := "CutAtlas$PlainKind"
def TX6 : u_T := fun k => match k with
  | _ => ("", "", "", false)
def tyX6 : Nat → FieldType := fun k => match k with
  | _ => .int
abbrev wsX60 : List Cond := u_ws RX6 TX6 0
theorem tyX6_ok : ∀ k, k < 0 → parseFieldDescriptor (TX6 k).2.2.1 = some (tyX6 k) := by decide +kernel
abbrev cX6_init : ByteArray := prog_8_method_1_code
def yX6_init : MethodName := ⟨RX6, "<init>", "()V"⟩
abbrev cX6_lets : ByteArray := prog_8_method_2_code
def yX6_lets : MethodName := ⟨RX6, "lets", "(IZ)I"⟩
abbrev cX6_letsMark : ByteArray := prog_8_method_3_code
def yX6_letsMark : MethodName := ⟨RX6, "letsMark", "(Z)I"⟩
abbrev cX6_costs : ByteArray := prog_8_method_4_code
def yX6_costs : MethodName := ⟨RX6, "costs", "(I)I"⟩
abbrev cX6_costsMark : ByteArray := prog_8_method_5_code
def yX6_costsMark : MethodName := ⟨RX6, "costsMark", "()I"⟩
abbrev cX6_begins : ByteArray := prog_8_method_6_code
def yX6_begins : MethodName := ⟨RX6, "begins", "(I)I"⟩
abbrev cX6_beginsMark : ByteArray := prog_8_method_7_code
def yX6_beginsMark : MethodName := ⟨RX6, "beginsMark", "()I"⟩
def RX7 : String := "CutAtlas$SetHunt"
def TX7 : u_T := fun k => match k with
  | 0 => ("CutAtlas$SetHunt", "current", "LCutAtlas$Current;", true)
  | 1 => ("CutAtlas$SetHunt", "must", "I", false)
  | 2 => ("CutAtlas$SetHunt", "mustNot", "I", false)
  | 3 => ("CutAtlas$SetHunt", "aim", "I", false)
  | 4 => ("CutAtlas$SetHunt", "wanted", "I", false)
  | 5 => ("CutAtlas$SetHunt", "met", "I", false)
  | 6 => ("CutAtlas$SetHunt", "found", "I", false)
  | 7 => ("CutAtlas$SetHunt", "denseSet", "I", false)
  | _ => ("CutAtlas$SetHunt", "denseSum", "I", false)
def tyX7 : Nat → FieldType := fun k => match k with
  | 0 => .object "CutAtlas$Current"
  | 1 => .int
  | 2 => .int
  | 3 => .int
  | 4 => .int
  | 5 => .int
  | 6 => .int
  | 7 => .int
  | _ => .int
abbrev wsX70 : List Cond := u_ws RX7 TX7 9
theorem nmX7 : ∀ a, a < 9 → ∀ b, b < 9 → a ≠ b → (TX7 a).2.1 ≠ (TX7 b).2.1 := by decide +kernel
theorem tyX7_ok : ∀ k, k < 9 → parseFieldDescriptor (TX7 k).2.2.1 = some (tyX7 k) := by decide +kernel
abbrev cX7_init : ByteArray := prog_9_method_1_code
def yX7_init : MethodName := ⟨RX7, "<init>", "(LCutAtlas$Current;)V"⟩
abbrev cX7_countCuts : ByteArray := prog_9_method_2_code
def yX7_countCuts : MethodName := ⟨RX7, "countCuts", "(III)I"⟩
abbrev cX7_findCut : ByteArray := prog_9_method_3_code
def yX7_findCut : MethodName := ⟨RX7, "findCut", "(IIII)I"⟩
abbrev cX7_hunt : ByteArray := prog_9_method_4_code
def yX7_hunt : MethodName := ⟨RX7, "hunt", "(IIII)V"⟩
abbrev cX7_chooseForCut : ByteArray := prog_9_method_5_code
def yX7_chooseForCut : MethodName := ⟨RX7, "chooseForCut", "(III)V"⟩
abbrev cX7_meet : ByteArray := prog_9_method_6_code
def yX7_meet : MethodName := ⟨RX7, "meet", "(II)V"⟩
abbrev cX7_letIn : ByteArray := prog_9_method_7_code
def yX7_letIn : MethodName := ⟨RX7, "letIn", "(II)I"⟩
abbrev cX7_letOut : ByteArray := prog_9_method_8_code
def yX7_letOut : MethodName := ⟨RX7, "letOut", "(II)I"⟩
abbrev cX7_findDensest : ByteArray := prog_9_method_9_code
def yX7_findDensest : MethodName := ⟨RX7, "findDensest", "()V"⟩
abbrev cX7_chooseForDense : ByteArray := prog_9_method_10_code
def yX7_chooseForDense : MethodName := ⟨RX7, "chooseForDense", "(III)V"⟩
abbrev cX7_compareDense : ByteArray := prog_9_method_11_code
def yX7_compareDense : MethodName := ⟨RX7, "compareDense", "(II)V"⟩
def RX8 : String := "CutAtlas$ShutKind"
def TX8 : u_T := fun k => match k with
  | _ => ("", "", "", false)
def tyX8 : Nat → FieldType := fun k => match k with
  | _ => .int
abbrev wsX80 : List Cond := u_ws RX8 TX8 0
theorem tyX8_ok : ∀ k, k < 0 → parseFieldDescriptor (TX8 k).2.2.1 = some (tyX8 k) := by decide +kernel
abbrev cX8_init : ByteArray := prog_10_method_1_code
def yX8_init : MethodName := ⟨RX8, "<init>", "()V"⟩
abbrev cX8_costs : ByteArray := prog_10_method_2_code
def yX8_costs : MethodName := ⟨RX8, "costs", "(I)I"⟩
abbrev cX8_costsMark : ByteArray := prog_10_method_3_code
def yX8_costsMark : MethodName := ⟨RX8, "costsMark", "()I"⟩
abbrev cX8_begins : ByteArray := prog_10_method_4_code
def yX8_begins : MethodName := ⟨RX8, "begins", "(I)I"⟩
abbrev cX8_beginsMark : ByteArray := prog_10_method_5_code
def yX8_beginsMark : MethodName := ⟨RX8, "beginsMark", "()I"⟩
def RX9 : String := "CutAtlas$StrongKind"
def TX9 : u_T := fun k => match k with
  | _ => ("", "", "", false)
def tyX9 : Nat → FieldType := fun k => match k with
  | _ => .int
abbrev wsX90 : List Cond := u_ws RX9 TX9 0
theorem tyX9_ok : ∀ k, k < 0 → parseFieldDescriptor (TX9 k).2.2.1 = some (tyX9 k) := by decide +kernel
abbrev cX9_init : ByteArray := prog_11_method_1_code
def yX9_init : MethodName := ⟨RX9, "<init>", "()V"⟩
abbrev cX9_lets : ByteArray := prog_11_method_2_code
def yX9_lets : MethodName := ⟨RX9, "lets", "(IZ)I"⟩
abbrev cX9_letsMark : ByteArray := prog_11_method_3_code
def yX9_letsMark : MethodName := ⟨RX9, "letsMark", "(Z)I"⟩
def RX10 : String := "CutAtlas$Widening"
def TX10 : u_T := fun k => match k with
  | 0 => ("CutAtlas$Widening", "current", "LCutAtlas$Current;", true)
  | 1 => ("CutAtlas$Widening", "kinds", "[LCutAtlas$PlainKind;", true)
  | 2 => ("CutAtlas$Widening", "prices", "[[I", true)
  | 3 => ("CutAtlas$Widening", "costs", "[I", true)
  | _ => ("CutAtlas$Widening", "cameFrom", "[I", true)
def tyX10 : Nat → FieldType := fun k => match k with
  | 0 => .object "CutAtlas$Current"
  | 1 => .array (.object "CutAtlas$PlainKind")
  | 2 => .array (.array .int)
  | 3 => .array .int
  | _ => .array .int
abbrev wsX100 : List Cond := u_ws RX10 TX10 5
theorem nmX10 : ∀ a, a < 5 → ∀ b, b < 5 → a ≠ b → (TX10 a).2.1 ≠ (TX10 b).2.1 := by decide +kernel
theorem tyX10_ok : ∀ k, k < 5 → parseFieldDescriptor (TX10 k).2.2.1 = some (tyX10 k) := by decide +kernel
abbrev cX10_init : ByteArray := prog_12_method_1_code
def yX10_init : MethodName := ⟨RX10, "<init>", "(LCutAtlas$Current;[LCutAtlas$PlainKind;)V"⟩
abbrev cX10_pay : ByteArray := prog_12_method_2_code
def yX10_pay : MethodName := ⟨RX10, "pay", "(III)I"⟩
abbrev cX10_findPrices : ByteArray := prog_12_method_3_code
def yX10_findPrices : MethodName := ⟨RX10, "findPrices", "()V"⟩
abbrev cX10_findCosts : ByteArray := prog_12_method_4_code
def yX10_findCosts : MethodName := ⟨RX10, "findCosts", "(I)V"⟩
abbrev cX10_lookFrom : ByteArray := prog_12_method_5_code
def yX10_lookFrom : MethodName := ⟨RX10, "lookFrom", "(I)Z"⟩
abbrev cX10_stepCosts : ByteArray := prog_12_method_6_code
def yX10_stepCosts : MethodName := ⟨RX10, "stepCosts", "(II)I"⟩
abbrev cX10_stepRoom : ByteArray := prog_12_method_7_code
def yX10_stepRoom : MethodName := ⟨RX10, "stepRoom", "(II)I"⟩
abbrev cX10_roomOfWay : ByteArray := prog_12_method_8_code
def yX10_roomOfWay : MethodName := ⟨RX10, "roomOfWay", "(III)I"⟩
abbrev cX10_sendAlongWay : ByteArray := prog_12_method_9_code
def yX10_sendAlongWay : MethodName := ⟨RX10, "sendAlongWay", "(III)V"⟩
def RX11 : String := "CutAtlas"
def TX11 : u_T := fun k => match k with
  | 0 => ("CutAtlas", "kinds", "[LCutAtlas$PlainKind;", true)
  | 1 => ("CutAtlas", "net", "LCutAtlas$Net;", true)
  | 2 => ("CutAtlas", "current", "LCutAtlas$Current;", true)
  | 3 => ("CutAtlas", "hunt", "LCutAtlas$SetHunt;", true)
  | 4 => ("CutAtlas", "cutTree", "LCutAtlas$CutTree;", true)
  | 5 => ("CutAtlas", "widening", "LCutAtlas$Widening;", true)
  | 6 => ("CutAtlas", "maps", "[LCutAtlas$NumberMap;", true)
  | 7 => ("CutAtlas", "past", "[LCutAtlas$Net;", true)
  | 8 => ("CutAtlas", "pastFirst", "I", false)
  | 9 => ("CutAtlas", "pastHeld", "I", false)
  | 10 => ("CutAtlas", "traced", "J", false)
  | _ => ("CutAtlas", "finding", "I", false)
def tyX11 : Nat → FieldType := fun k => match k with
  | 0 => .array (.object "CutAtlas$PlainKind")
  | 1 => .object "CutAtlas$Net"
  | 2 => .object "CutAtlas$Current"
  | 3 => .object "CutAtlas$SetHunt"
  | 4 => .object "CutAtlas$CutTree"
  | 5 => .object "CutAtlas$Widening"
  | 6 => .array (.object "CutAtlas$NumberMap")
  | 7 => .array (.object "CutAtlas$Net")
  | 8 => .int
  | 9 => .int
  | 10 => .long
  | _ => .int
abbrev wsX110 : List Cond := u_ws RX11 TX11 12
theorem nmX11 : ∀ a, a < 12 → ∀ b, b < 12 → a ≠ b → (TX11 a).2.1 ≠ (TX11 b).2.1 := by decide +kernel
theorem tyX11_ok : ∀ k, k < 12 → parseFieldDescriptor (TX11 k).2.2.1 = some (tyX11 k) := by decide +kernel
abbrev cX11_init : ByteArray := prog_1_method_1_code
def yX11_init : MethodName := ⟨RX11, "<init>", "()V"⟩
abbrev cX11_place : ByteArray := prog_1_method_2_code
def yX11_place : MethodName := ⟨RX11, "place", "()I"⟩
abbrev cX11_line : ByteArray := prog_1_method_3_code
def yX11_line : MethodName := ⟨RX11, "line", "(IIIII)I"⟩
abbrev cX11_widen : ByteArray := prog_1_method_4_code
def yX11_widen : MethodName := ⟨RX11, "widen", "(II)I"⟩
abbrev cX11_width : ByteArray := prog_1_method_5_code
def yX11_width : MethodName := ⟨RX11, "width", "(II)I"⟩
abbrev cX11_merge : ByteArray := prog_1_method_6_code
def yX11_merge : MethodName := ⟨RX11, "merge", "(II)I"⟩
abbrev cX11_undo : ByteArray := prog_1_method_7_code
def yX11_undo : MethodName := ⟨RX11, "undo", "()I"⟩
abbrev cX11_told : ByteArray := prog_1_method_8_code
def yX11_told : MethodName := ⟨RX11, "told", "(II)I"⟩
abbrev cX11_ask : ByteArray := prog_1_method_9_code
def yX11_ask : MethodName := ⟨RX11, "ask", "(II)I"⟩
abbrev cX11_most : ByteArray := prog_1_method_10_code
def yX11_most : MethodName := ⟨RX11, "most", "(II)I"⟩
abbrev cX11_flow : ByteArray := prog_1_method_11_code
def yX11_flow : MethodName := ⟨RX11, "flow", "(III)I"⟩
abbrev cX11_cut : ByteArray := prog_1_method_12_code
def yX11_cut : MethodName := ⟨RX11, "cut", "(III)I"⟩
abbrev cX11_count : ByteArray := prog_1_method_13_code
def yX11_count : MethodName := ⟨RX11, "count", "(II)I"⟩
abbrev cX11_next : ByteArray := prog_1_method_14_code
def yX11_next : MethodName := ⟨RX11, "next", "(III)I"⟩
abbrev cX11_size : ByteArray := prog_1_method_15_code
def yX11_size : MethodName := ⟨RX11, "size", "(III)I"⟩
abbrev cX11_raise : ByteArray := prog_1_method_16_code
def yX11_raise : MethodName := ⟨RX11, "raise", "(III)I"⟩
abbrev cX11_cheapest : ByteArray := prog_1_method_17_code
def yX11_cheapest : MethodName := ⟨RX11, "cheapest", "(III)I"⟩
abbrev cX11_tree : ByteArray := prog_1_method_18_code
def yX11_tree : MethodName := ⟨RX11, "tree", "(II)I"⟩
abbrev cX11_between : ByteArray := prog_1_method_19_code
def yX11_between : MethodName := ⟨RX11, "between", "(II)I"⟩
abbrev cX11_least : ByteArray := prog_1_method_20_code
def yX11_least : MethodName := ⟨RX11, "least", "()I"⟩
abbrev cX11_cuts : ByteArray := prog_1_method_21_code
def yX11_cuts : MethodName := ⟨RX11, "cuts", "()I"⟩
abbrev cX11_cutAt : ByteArray := prog_1_method_22_code
def yX11_cutAt : MethodName := ⟨RX11, "cutAt", "(I)I"⟩
abbrev cX11_weak : ByteArray := prog_1_method_23_code
def yX11_weak : MethodName := ⟨RX11, "weak", "(I)I"⟩
abbrev cX11_part : ByteArray := prog_1_method_24_code
def yX11_part : MethodName := ⟨RX11, "part", "(II)I"⟩
abbrev cX11_dense : ByteArray := prog_1_method_25_code
def yX11_dense : MethodName := ⟨RX11, "dense", "(I)I"⟩
abbrev cX11_map : ByteArray := prog_1_method_26_code
def yX11_map : MethodName := ⟨RX11, "map", "(III)I"⟩
abbrev cX11_row : ByteArray := prog_1_method_27_code
def yX11_row : MethodName := ⟨RX11, "row", "(III)I"⟩
abbrev cX11_put : ByteArray := prog_1_method_28_code
def yX11_put : MethodName := ⟨RX11, "put", "(IIIIJ)I"⟩
abbrev cX11_copy : ByteArray := prog_1_method_29_code
def yX11_copy : MethodName := ⟨RX11, "copy", "(IIIIII)I"⟩
abbrev cX11_item : ByteArray := prog_1_method_30_code
def yX11_item : MethodName := ⟨RX11, "item", "(IIII)J"⟩
abbrev cX11_read : ByteArray := prog_1_method_31_code
def yX11_read : MethodName := ⟨RX11, "read", "(I)I"⟩
abbrev cX11_about : ByteArray := prog_1_method_32_code
def yX11_about : MethodName := ⟨RX11, "about", "(I)I"⟩
abbrev cX11_trace : ByteArray := prog_1_method_33_code
def yX11_trace : MethodName := ⟨RX11, "trace", "()J"⟩
abbrev cX11_status : ByteArray := prog_1_method_34_code
def yX11_status : MethodName := ⟨RX11, "status", "()I"⟩
abbrev cX11_remember : ByteArray := prog_1_method_35_code
def yX11_remember : MethodName := ⟨RX11, "remember", "()V"⟩
abbrev cX11_lineRefusal : ByteArray := prog_1_method_36_code
def yX11_lineRefusal : MethodName := ⟨RX11, "lineRefusal", "(JJJJJ)I"⟩
abbrev cX11_addLine : ByteArray := prog_1_method_37_code
def yX11_addLine : MethodName := ⟨RX11, "addLine", "(IIIII)I"⟩
abbrev cX11_mostNow : ByteArray := prog_1_method_38_code
def yX11_mostNow : MethodName := ⟨RX11, "mostNow", "(II)I"⟩
abbrev cX11_isMapNumber : ByteArray := prog_1_method_39_code
def yX11_isMapNumber : MethodName := ⟨RX11, "isMapNumber", "(I)Z"⟩
abbrev cX11_isMapKind : ByteArray := prog_1_method_40_code
def yX11_isMapKind : MethodName := ⟨RX11, "isMapKind", "(I)Z"⟩
abbrev cX11_mapRefusal : ByteArray := prog_1_method_41_code
def yX11_mapRefusal : MethodName := ⟨RX11, "mapRefusal", "(III)I"⟩
abbrev cX11_rowRefusal : ByteArray := prog_1_method_42_code
def yX11_rowRefusal : MethodName := ⟨RX11, "rowRefusal", "(III)I"⟩
abbrev cX11_numberRefusal : ByteArray := prog_1_method_43_code
def yX11_numberRefusal : MethodName := ⟨RX11, "numberRefusal", "(IIII)I"⟩
abbrev cX11_readRefusal : ByteArray := prog_1_method_44_code
def yX11_readRefusal : MethodName := ⟨RX11, "readRefusal", "(LCutAtlas$NumberMap;I)I"⟩
def RX12 : String := "CutAtlasModel"
def TX12 : u_T := fun k => match k with
  | 0 => ("CutAtlasModel", "thrown", "I", false)
  | 1 => ("CutAtlasModel", "status", "I", false)
  | 2 => ("CutAtlasModel", "trace", "J", false)
  | 3 => ("CutAtlasModel", "places", "I", false)
  | 4 => ("CutAtlasModel", "lines", "I", false)
  | 5 => ("CutAtlasModel", "kind", "[I", true)
  | 6 => ("CutAtlasModel", "from", "[I", true)
  | 7 => ("CutAtlasModel", "to", "[I", true)
  | 8 => ("CutAtlasModel", "width", "[I", true)
  | 9 => ("CutAtlasModel", "price", "[I", true)
  | 10 => ("CutAtlasModel", "isMissing", "[Z", true)
  | 11 => ("CutAtlasModel", "undone", "I", false)
  | 12 => ("CutAtlasModel", "oldPlaces", "[I", true)
  | 13 => ("CutAtlasModel", "oldLines", "[I", true)
  | 14 => ("CutAtlasModel", "old", "[I", true)
  | 15 => ("CutAtlasModel", "hasMap", "[Z", true)
  | 16 => ("CutAtlasModel", "mapKind", "[I", true)
  | 17 => ("CutAtlasModel", "mapRows", "[I", true)
  | 18 => ("CutAtlasModel", "rowSize", "[I", true)
  | 19 => ("CutAtlasModel", "cells", "[J", true)
  | 20 => ("CutAtlasModel", "copied", "[J", true)
  | 21 => ("CutAtlasModel", "raised", "I", false)
  | 22 => ("CutAtlasModel", "flows", "[I", true)
  | 23 => ("CutAtlasModel", "queue", "[I", true)
  | 24 => ("CutAtlasModel", "cameFrom", "[I", true)
  | 25 => ("CutAtlasModel", "cuts", "I", false)
  | 26 => ("CutAtlasModel", "near", "I", false)
  | 27 => ("CutAtlasModel", "far", "I", false)
  | 28 => ("CutAtlasModel", "chosen", "I", false)
  | 29 => ("CutAtlasModel", "paid", "[J", true)
  | 30 => ("CutAtlasModel", "byLine", "[I", true)
  | 31 => ("CutAtlasModel", "byPlace", "[I", true)
  | 32 => ("CutAtlasModel", "treeNext", "[I", true)
  | _ => ("CutAtlasModel", "treeNumber", "[I", true)
abbrev wsX120 : List Cond := u_ws RX12 TX12 34
abbrev cX12_init : ByteArray := prog_14_method_1_code
def yX12_init : MethodName := ⟨RX12, "<init>", "()V"⟩
abbrev cX12_in : ByteArray := prog_14_method_3_code
def yX12_in : MethodName := ⟨RX12, "in", "(JJJ)Z"⟩
abbrev cX12_isPlace : ByteArray := prog_14_method_4_code
def yX12_isPlace : MethodName := ⟨RX12, "isPlace", "(I)Z"⟩
abbrev cX12_isLine : ByteArray := prog_14_method_5_code
def yX12_isLine : MethodName := ⟨RX12, "isLine", "(I)Z"⟩
abbrev cX12_arePlaces : ByteArray := prog_14_method_6_code
def yX12_arePlaces : MethodName := ⟨RX12, "arePlaces", "(II)Z"⟩
abbrev cX12_keeps : ByteArray := prog_14_method_7_code
def yX12_keeps : MethodName := ⟨RX12, "keeps", "()V"⟩
abbrev cX12_place : ByteArray := prog_14_method_8_code
def yX12_place : MethodName := ⟨RX12, "place", "()I"⟩
abbrev cX12_refused : ByteArray := prog_14_method_9_code
def yX12_refused : MethodName := ⟨RX12, "refused", "(JJJJJ)I"⟩
abbrev cX12_adds : ByteArray := prog_14_method_10_code
def yX12_adds : MethodName := ⟨RX12, "adds", "(IIIII)V"⟩
abbrev cX12_line : ByteArray := prog_14_method_11_code
def yX12_line : MethodName := ⟨RX12, "line", "(IIIII)I"⟩
abbrev cX12_costs : ByteArray := prog_14_method_12_code
def yX12_costs : MethodName := ⟨RX12, "costs", "(I)I"⟩
abbrev cX12_costsTrace : ByteArray := prog_14_method_13_code
def yX12_costsTrace : MethodName := ⟨RX12, "costsTrace", "(I)J"⟩
abbrev cX12_widen : ByteArray := prog_14_method_14_code
def yX12_widen : MethodName := ⟨RX12, "widen", "(II)I"⟩
abbrev cX12_width : ByteArray := prog_14_method_15_code
def yX12_width : MethodName := ⟨RX12, "width", "(II)I"⟩
abbrev cX12_merge : ByteArray := prog_14_method_16_code
def yX12_merge : MethodName := ⟨RX12, "merge", "(II)I"⟩
abbrev cX12_undo : ByteArray := prog_14_method_17_code
def yX12_undo : MethodName := ⟨RX12, "undo", "()I"⟩
abbrev cX12_told : ByteArray := prog_14_method_18_code
def yX12_told : MethodName := ⟨RX12, "told", "(II)I"⟩
abbrev cX12_lets : ByteArray := prog_14_method_19_code
def yX12_lets : MethodName := ⟨RX12, "lets", "(IZ)I"⟩
abbrev cX12_ask : ByteArray := prog_14_method_20_code
def yX12_ask : MethodName := ⟨RX12, "ask", "(II)I"⟩
abbrev cX12_room : ByteArray := prog_14_method_21_code
def yX12_room : MethodName := ⟨RX12, "room", "(IZ)I"⟩
abbrev cX12_sizeOf : ByteArray := prog_14_method_22_code
def yX12_sizeOf : MethodName := ⟨RX12, "sizeOf", "(I)I"⟩
abbrev cX12_mostOf : ByteArray := prog_14_method_23_code
def yX12_mostOf : MethodName := ⟨RX12, "mostOf", "(II)I"⟩
abbrev cX12_asTold : ByteArray := prog_14_method_24_code
def yX12_asTold : MethodName := ⟨RX12, "asTold", "(I)I"⟩
abbrev cX12_most : ByteArray := prog_14_method_25_code
def yX12_most : MethodName := ⟨RX12, "most", "(II)I"⟩
abbrev cX12_left : ByteArray := prog_14_method_26_code
def yX12_left : MethodName := ⟨RX12, "left", "(III)I"⟩
abbrev cX12_leftOf : ByteArray := prog_14_method_27_code
def yX12_leftOf : MethodName := ⟨RX12, "leftOf", "(II)I"⟩
abbrev cX12_isMet : ByteArray := prog_14_method_28_code
def yX12_isMet : MethodName := ⟨RX12, "isMet", "(II)Z"⟩
abbrev cX12_hasWay : ByteArray := prog_14_method_29_code
def yX12_hasWay : MethodName := ⟨RX12, "hasWay", "(II)Z"⟩
abbrev cX12_flowOf : ByteArray := prog_14_method_30_code
def yX12_flowOf : MethodName := ⟨RX12, "flowOf", "(II)V"⟩
abbrev cX12_flow : ByteArray := prog_14_method_31_code
def yX12_flow : MethodName := ⟨RX12, "flow", "(III)I"⟩
abbrev cX12_bitsOf : ByteArray := prog_14_method_32_code
def yX12_bitsOf : MethodName := ⟨RX12, "bitsOf", "(I)I"⟩
abbrev cX12_cutsOf : ByteArray := prog_14_method_33_code
def yX12_cutsOf : MethodName := ⟨RX12, "cutsOf", "(IIII)V"⟩
abbrev cX12_cut : ByteArray := prog_14_method_34_code
def yX12_cut : MethodName := ⟨RX12, "cut", "(III)I"⟩
abbrev cX12_count : ByteArray := prog_14_method_35_code
def yX12_count : MethodName := ⟨RX12, "count", "(II)I"⟩
abbrev cX12_next : ByteArray := prog_14_method_36_code
def yX12_next : MethodName := ⟨RX12, "next", "(III)I"⟩
abbrev cX12_size : ByteArray := prog_14_method_37_code
def yX12_size : MethodName := ⟨RX12, "size", "(III)I"⟩
abbrev cX12_raise : ByteArray := prog_14_method_38_code
def yX12_raise : MethodName := ⟨RX12, "raise", "(III)I"⟩
abbrev cX12_step : ByteArray := prog_14_method_39_code
def yX12_step : MethodName := ⟨RX12, "step", "(IZ)J"⟩
abbrev cX12_amount : ByteArray := prog_14_method_40_code
def yX12_amount : MethodName := ⟨RX12, "amount", "(IZ)I"⟩
abbrev cX12_cheapWay : ByteArray := prog_14_method_41_code
def yX12_cheapWay : MethodName := ⟨RX12, "cheapWay", "(II)Z"⟩
abbrev cX12_cheapest : ByteArray := prog_14_method_42_code
def yX12_cheapest : MethodName := ⟨RX12, "cheapest", "(III)I"⟩
abbrev cX12_isWhole : ByteArray := prog_14_method_43_code
def yX12_isWhole : MethodName := ⟨RX12, "isWhole", "()Z"⟩
abbrev cX12_plants : ByteArray := prog_14_method_44_code
def yX12_plants : MethodName := ⟨RX12, "plants", "()V"⟩
abbrev cX12_tree : ByteArray := prog_14_method_45_code
def yX12_tree : MethodName := ⟨RX12, "tree", "(II)I"⟩
abbrev cX12_between : ByteArray := prog_14_method_46_code
def yX12_between : MethodName := ⟨RX12, "between", "(II)I"⟩
abbrev cX12_leastOf : ByteArray := prog_14_method_47_code
def yX12_leastOf : MethodName := ⟨RX12, "leastOf", "()I"⟩
abbrev cX12_least : ByteArray := prog_14_method_48_code
def yX12_least : MethodName := ⟨RX12, "least", "()I"⟩
abbrev cX12_wholeCuts : ByteArray := prog_14_method_49_code
def yX12_wholeCuts : MethodName := ⟨RX12, "wholeCuts", "(I)V"⟩
abbrev cX12_cuts : ByteArray := prog_14_method_50_code
def yX12_cuts : MethodName := ⟨RX12, "cuts", "()I"⟩
abbrev cX12_cutAt : ByteArray := prog_14_method_51_code
def yX12_cutAt : MethodName := ⟨RX12, "cutAt", "(I)I"⟩
abbrev cX12_weak : ByteArray := prog_14_method_52_code
def yX12_weak : MethodName := ⟨RX12, "weak", "(I)I"⟩
abbrev cX12_part : ByteArray := prog_14_method_53_code
def yX12_part : MethodName := ⟨RX12, "part", "(II)I"⟩
abbrev cX12_dense : ByteArray := prog_14_method_54_code
def yX12_dense : MethodName := ⟨RX12, "dense", "(I)I"⟩
abbrev cX12_no : ByteArray := prog_14_method_55_code
def yX12_no : MethodName := ⟨RX12, "no", "(I)I"⟩
abbrev cX12_map : ByteArray := prog_14_method_56_code
def yX12_map : MethodName := ⟨RX12, "map", "(III)I"⟩
abbrev cX12_row : ByteArray := prog_14_method_57_code
def yX12_row : MethodName := ⟨RX12, "row", "(III)I"⟩
abbrev cX12_wrong : ByteArray := prog_14_method_58_code
def yX12_wrong : MethodName := ⟨RX12, "wrong", "(IIII)I"⟩
abbrev cX12_put : ByteArray := prog_14_method_59_code
def yX12_put : MethodName := ⟨RX12, "put", "(IIIIJ)I"⟩
abbrev cX12_areThere : ByteArray := prog_14_method_60_code
def yX12_areThere : MethodName := ⟨RX12, "areThere", "(III)Z"⟩
abbrev cX12_copy : ByteArray := prog_14_method_61_code
def yX12_copy : MethodName := ⟨RX12, "copy", "(IIIIII)I"⟩
abbrev cX12_item : ByteArray := prog_14_method_62_code
def yX12_item : MethodName := ⟨RX12, "item", "(IIII)J"⟩
abbrev cX12_read : ByteArray := prog_14_method_63_code
def yX12_read : MethodName := ⟨RX12, "read", "(I)I"⟩
abbrev cX12_about : ByteArray := prog_14_method_64_code
def yX12_about : MethodName := ⟨RX12, "about", "(I)I"⟩
abbrev cX12_trace : ByteArray := prog_14_method_65_code
def yX12_trace : MethodName := ⟨RX12, "trace", "()J"⟩
abbrev cX12_status : ByteArray := prog_14_method_66_code
def yX12_status : MethodName := ⟨RX12, "status", "()I"⟩
def RJ6 : String := "java/lang/Integer"
abbrev cJ6_bitCount_0f7a4 : ByteArray := prog_15_method_49_code
def yJ6_bitCount_0f7a4 : MethodName := ⟨RJ6, "bitCount", "(I)I"⟩
def RJ7 : String := "java/util/Arrays"
abbrev cJ7_fill_53178 : ByteArray := prog_18_method_103_code
def yJ7_fill_53178 : MethodName := ⟨RJ7, "fill", "([II)V"⟩
def RL : String := "CutAtlasLaw"
def wsX0_init : List Cond := .code yX0_init cX0_init 3 none :: ([.methodLink RX0 3 objectInit, .instanceMethod objectInit, .code objectInit ⟨#[0xb1]⟩ 1 none, .classLink RX0 9 "[[I", .arrayClass .int, .fieldLink RX0 11 "CutAtlas$Current" "lets" "[[I", .fieldLink RX0 16 "CutAtlas$Current" "room" "[[I", .fieldLink RX0 19 "CutAtlas$Current" "flowing" "[I", .fieldLink RX0 23 "CutAtlas$Current" "letsForth" "[I", .fieldLink RX0 26 "CutAtlas$Current" "letsBack" "[I", .fieldLink RX0 29 "CutAtlas$Current" "queue" "[I", .fieldLink RX0 32 "CutAtlas$Current" "cameFrom" "[I", .fieldLink RX0 35 "CutAtlas$Current" "net" "LCutAtlas$Net;", .fieldLink RX0 39 "CutAtlas$Current" "kinds" "[LCutAtlas$PlainKind;"] ++ wsX00)
def wsJ7_fill_53178 : List Cond := .code yJ7_fill_53178 cJ7_fill_53178 4 none :: ([])
def wsX1_init : List Cond := .code yX1_init cX1_init 2 none :: ([.methodLink RX1 3 objectInit, .instanceMethod objectInit, .code objectInit ⟨#[0xb1]⟩ 1 none, .arrayClass .int, .fieldLink RX1 9 "CutAtlas$CutTree" "nexts" "[I", .fieldLink RX1 15 "CutAtlas$CutTree" "numbers" "[I", .fieldLink RX1 18 "CutAtlas$CutTree" "current" "LCutAtlas$Current;"] ++ wsX10)
def wsX6_init : List Cond := .code yX6_init cX6_init 1 none :: ([.methodLink RX6 3 objectInit, .instanceMethod objectInit, .code objectInit ⟨#[0xb1]⟩ 1 none])
def wsX2_init : List Cond := .code yX2_init cX2_init 1 none :: ([.instanceMethod yX6_init, .initialized RX6, .code yX6_init cX6_init 1 none, .methodLink RX6 3 objectInit, .instanceMethod objectInit, .code objectInit ⟨#[0xb1]⟩ 1 none])
def wsX3_init : List Cond := .code yX3_init cX3_init 1 none :: ([.methodLink RX3 3 objectInit, .instanceMethod objectInit, .code objectInit ⟨#[0xb1]⟩ 1 none, .fieldLink RX3 9 "CutAtlas$Net" "places" "I", .fieldLink RX3 15 "CutAtlas$Net" "lines" "I", .arrayClass .int, .fieldLink RX3 18 "CutAtlas$Net" "kinds" "[I", .fieldLink RX3 22 "CutAtlas$Net" "starts" "[I", .fieldLink RX3 25 "CutAtlas$Net" "ends" "[I", .fieldLink RX3 28 "CutAtlas$Net" "widths" "[I", .fieldLink RX3 31 "CutAtlas$Net" "prices" "[I"] ++ wsX30)
def wsX3_hasPlace : List Cond := .code yX3_hasPlace cX3_hasPlace 3 (some .boolean) :: ([.fieldLink RX3 9 "CutAtlas$Net" "places" "I"] ++ wsX30)
def wsX3_hasPair : List Cond := .code yX3_hasPair cX3_hasPair 5 (some .boolean) :: ([.methodLink RX3 34 yX3_hasPlace, .instanceMethod yX3_hasPlace, .selects RX3 yX3_hasPlace yX3_hasPlace, .initialized RX3, .code yX3_hasPlace cX3_hasPlace 3 (some .boolean), .fieldLink RX3 9 "CutAtlas$Net" "places" "I"] ++ wsX30)
def wsX3_hasLine : List Cond := .code yX3_hasLine cX3_hasLine 2 (some .boolean) :: ([.fieldLink RX3 15 "CutAtlas$Net" "lines" "I"] ++ wsX30)
def wsX3_missingLines : List Cond := .code yX3_missingLines cX3_missingLines 3 (some .int) :: ([.fieldLink RX3 15 "CutAtlas$Net" "lines" "I", .methodLink RX3 38 yX3_isMissing, .instanceMethod yX3_isMissing, .selects RX3 yX3_isMissing yX3_isMissing, .initialized RX3, .code yX3_isMissing cX3_isMissing 2 (some .boolean), .fieldLink RX3 22 "CutAtlas$Net" "starts" "[I"] ++ wsX30)
def wsX3_isWhole : List Cond := .code yX3_isWhole cX3_isWhole 3 (some .boolean) :: ([.fieldLink RX3 15 "CutAtlas$Net" "lines" "I", .fieldLink RX3 18 "CutAtlas$Net" "kinds" "[I", .fieldLink RX3 9 "CutAtlas$Net" "places" "I", .methodLink RX3 38 yX3_isMissing, .instanceMethod yX3_isMissing, .selects RX3 yX3_isMissing yX3_isMissing, .initialized RX3, .code yX3_isMissing cX3_isMissing 2 (some .boolean), .fieldLink RX3 22 "CutAtlas$Net" "starts" "[I"] ++ wsX30)
def wsX3_become : List Cond := .code yX3_become cX3_become 2 none :: ([.fieldLink RX3 9 "CutAtlas$Net" "places" "I", .fieldLink RX3 15 "CutAtlas$Net" "lines" "I", .fieldLink RX3 18 "CutAtlas$Net" "kinds" "[I", .methodLink RX3 46 arraycopyName, .native arraycopyName, .static arraycopyName, .initialized "java/lang/System", .fieldLink RX3 22 "CutAtlas$Net" "starts" "[I", .fieldLink RX3 25 "CutAtlas$Net" "ends" "[I", .fieldLink RX3 28 "CutAtlas$Net" "widths" "[I", .fieldLink RX3 31 "CutAtlas$Net" "prices" "[I"] ++ wsX30)
def wsX4_init : List Cond := .code yX4_init cX4_init 1 none :: ([.methodLink RX4 3 objectInit, .instanceMethod objectInit, .code objectInit ⟨#[0xb1]⟩ 1 none, .fieldLink RX4 9 "CutAtlas$NumberMap" "kind" "I", .fieldLink RX4 15 "CutAtlas$NumberMap" "rows" "I", .arrayClass .int, .fieldLink RX4 18 "CutAtlas$NumberMap" "lengths" "[I", .arrayClass .long, .fieldLink RX4 22 "CutAtlas$NumberMap" "numbers" "[J"] ++ wsX40)
def wsX4_isThere : List Cond := .code yX4_isThere cX4_isThere 1 (some .boolean) :: ([.fieldLink RX4 15 "CutAtlas$NumberMap" "rows" "I"] ++ wsX40)
def wsX4_begin : List Cond := .code yX4_begin cX4_begin 3 none :: ([.fieldLink RX4 9 "CutAtlas$NumberMap" "kind" "I", .fieldLink RX4 15 "CutAtlas$NumberMap" "rows" "I", .fieldLink RX4 18 "CutAtlas$NumberMap" "lengths" "[I", .methodLink RX4 26 yJ7_fill_53178, .static yJ7_fill_53178, .initialized RJ7, .code yJ7_fill_53178 cJ7_fill_53178 4 none] ++ wsX40)
def wsX4_moveRefusal : List Cond := .code yX4_moveRefusal cX4_moveRefusal 6 (some .int) :: ([.fieldLink RX4 18 "CutAtlas$NumberMap" "lengths" "[I", .methodLink RX4 36 yX4_isThere, .instanceMethod yX4_isThere, .selects RX4 yX4_isThere yX4_isThere, .initialized RX4, .code yX4_isThere cX4_isThere 1 (some .boolean), .fieldLink RX4 15 "CutAtlas$NumberMap" "rows" "I", .methodLink RX4 40 yX4_hasRow, .instanceMethod yX4_hasRow, .selects RX4 yX4_hasRow yX4_hasRow, .code yX4_hasRow cX4_hasRow 2 (some .boolean), .methodLink RX4 44 yX4_hasNumbers, .instanceMethod yX4_hasNumbers, .selects RX4 yX4_hasNumbers yX4_hasNumbers, .code yX4_hasNumbers cX4_hasNumbers 4 (some .boolean)] ++ wsX40)
def wsX5_init : List Cond := .code yX5_init cX5_init 1 none :: ([.instanceMethod yX6_init, .initialized RX6, .code yX6_init cX6_init 1 none, .methodLink RX6 3 objectInit, .instanceMethod objectInit, .code objectInit ⟨#[0xb1]⟩ 1 none])
def wsX7_init : List Cond := .code yX7_init cX7_init 2 none :: ([.methodLink RX7 3 objectInit, .instanceMethod objectInit, .code objectInit ⟨#[0xb1]⟩ 1 none, .fieldLink RX7 9 "CutAtlas$SetHunt" "current" "LCutAtlas$Current;"] ++ wsX70)
def wsX8_init : List Cond := .code yX8_init cX8_init 1 none :: ([.instanceMethod yX2_init, .initialized RX2, .code yX2_init cX2_init 1 none, .instanceMethod yX6_init, .initialized RX6, .code yX6_init cX6_init 1 none, .methodLink RX6 3 objectInit, .instanceMethod objectInit, .code objectInit ⟨#[0xb1]⟩ 1 none])
def wsX9_init : List Cond := .code yX9_init cX9_init 1 none :: ([.instanceMethod yX6_init, .initialized RX6, .code yX6_init cX6_init 1 none, .methodLink RX6 3 objectInit, .instanceMethod objectInit, .code objectInit ⟨#[0xb1]⟩ 1 none])
def wsX10_init : List Cond := .code yX10_init cX10_init 3 none :: ([.methodLink RX10 3 objectInit, .instanceMethod objectInit, .code objectInit ⟨#[0xb1]⟩ 1 none, .classLink RX10 9 "[[I", .arrayClass .int, .fieldLink RX10 11 "CutAtlas$Widening" "prices" "[[I", .fieldLink RX10 16 "CutAtlas$Widening" "costs" "[I", .fieldLink RX10 20 "CutAtlas$Widening" "cameFrom" "[I", .fieldLink RX10 23 "CutAtlas$Widening" "current" "LCutAtlas$Current;", .fieldLink RX10 27 "CutAtlas$Widening" "kinds" "[LCutAtlas$PlainKind;"] ++ wsX100)
def wsX11_init_r1 : List Cond := [Cond.methodLink RX11 1 objectInit, Cond.instanceMethod objectInit, Cond.code objectInit ⟨#[0xb1]⟩ 1 none, Cond.classLink RX11 7 RX6, Cond.instantiable RX6 0, Cond.initialized RX6, Cond.classLink RX11 10 RX5, Cond.instantiable RX5 0, Cond.initialized RX5, Cond.classLink RX11 13 RX9, Cond.instantiable RX9 0, Cond.initialized RX9, Cond.classLink RX11 16 RX2, Cond.instantiable RX2 0, Cond.initialized RX2, Cond.classLink RX11 19 RX8, Cond.instantiable RX8 0, Cond.initialized RX8, Cond.fieldLink RX11 22 "CutAtlas" "kinds" "[LCutAtlas$PlainKind;", Cond.classLink RX11 28 RX3, Cond.instantiable RX3 7, Cond.initialized RX3, Cond.fieldLink RX11 31 "CutAtlas" "net" "LCutAtlas$Net;", Cond.classLink RX11 35 RX0]
def wsX11_init_r2 : List Cond := [Cond.instantiable RX0 9, Cond.initialized RX0, Cond.fieldLink RX11 40 "CutAtlas" "current" "LCutAtlas$Current;", Cond.classLink RX11 44 RX7, Cond.instantiable RX7 9, Cond.initialized RX7, Cond.fieldLink RX11 49 "CutAtlas" "hunt" "LCutAtlas$SetHunt;", Cond.classLink RX11 53 RX1, Cond.instantiable RX1 3, Cond.initialized RX1, Cond.fieldLink RX11 56 "CutAtlas" "cutTree" "LCutAtlas$CutTree;", Cond.classLink RX11 60 RX10, Cond.instantiable RX10 5, Cond.initialized RX10, Cond.fieldLink RX11 65 "CutAtlas" "widening" "LCutAtlas$Widening;", Cond.classLink RX11 69 RX4, Cond.instantiable RX4 4, Cond.initialized RX4, Cond.fieldLink RX11 72 "CutAtlas" "maps" "[LCutAtlas$NumberMap;", Cond.fieldLink RX11 76 "CutAtlas" "past" "[LCutAtlas$Net;", Cond.fieldLink RX11 80 "CutAtlas" "pastFirst" "I", Cond.fieldLink RX11 84 "CutAtlas" "pastHeld" "I", Cond.fieldLink RX11 87 "CutAtlas" "traced" "J", Cond.fieldLink RX11 91 "CutAtlas" "finding" "I"]
def wsX11_init_r3 : List Cond := [Cond.instanceMethod yX6_init, Cond.code yX6_init cX6_init 1 none, Cond.methodLink RX6 3 objectInit, Cond.instanceMethod yX5_init, Cond.code yX5_init cX5_init 1 none, Cond.instanceMethod yX9_init, Cond.code yX9_init cX9_init 1 none, Cond.instanceMethod yX2_init, Cond.code yX2_init cX2_init 1 none, Cond.instanceMethod yX8_init, Cond.code yX8_init cX8_init 1 none, Cond.instanceMethod yX3_init, Cond.code yX3_init cX3_init 1 none, Cond.methodLink RX3 3 objectInit, Cond.fieldLink RX3 9 "CutAtlas$Net" "places" "I", Cond.fieldLink RX3 15 "CutAtlas$Net" "lines" "I", Cond.arrayClass .int, Cond.fieldLink RX3 18 "CutAtlas$Net" "kinds" "[I", Cond.fieldLink RX3 22 "CutAtlas$Net" "starts" "[I", Cond.fieldLink RX3 25 "CutAtlas$Net" "ends" "[I", Cond.fieldLink RX3 28 "CutAtlas$Net" "widths" "[I", Cond.fieldLink RX3 31 "CutAtlas$Net" "prices" "[I", Cond.methodLink RX11 37 yX0_init, Cond.instanceMethod yX0_init]
def wsX11_init_r4 : List Cond := [Cond.code yX0_init cX0_init 3 none, Cond.methodLink RX0 3 objectInit, Cond.classLink RX0 9 "[[I", Cond.fieldLink RX0 11 "CutAtlas$Current" "lets" "[[I", Cond.fieldLink RX0 16 "CutAtlas$Current" "room" "[[I", Cond.fieldLink RX0 19 "CutAtlas$Current" "flowing" "[I", Cond.fieldLink RX0 23 "CutAtlas$Current" "letsForth" "[I", Cond.fieldLink RX0 26 "CutAtlas$Current" "letsBack" "[I", Cond.fieldLink RX0 29 "CutAtlas$Current" "queue" "[I", Cond.fieldLink RX0 32 "CutAtlas$Current" "cameFrom" "[I", Cond.fieldLink RX0 35 "CutAtlas$Current" "net" "LCutAtlas$Net;", Cond.fieldLink RX0 39 "CutAtlas$Current" "kinds" "[LCutAtlas$PlainKind;", Cond.methodLink RX11 46 yX7_init, Cond.instanceMethod yX7_init, Cond.code yX7_init cX7_init 2 none, Cond.methodLink RX7 3 objectInit, Cond.fieldLink RX7 9 "CutAtlas$SetHunt" "current" "LCutAtlas$Current;", Cond.methodLink RX11 55 yX1_init, Cond.instanceMethod yX1_init, Cond.code yX1_init cX1_init 2 none, Cond.methodLink RX1 3 objectInit, Cond.fieldLink RX1 9 "CutAtlas$CutTree" "nexts" "[I", Cond.fieldLink RX1 15 "CutAtlas$CutTree" "numbers" "[I", Cond.fieldLink RX1 18 "CutAtlas$CutTree" "current" "LCutAtlas$Current;"]
def wsX11_init_r5 : List Cond := [Cond.methodLink RX11 62 yX10_init, Cond.instanceMethod yX10_init, Cond.code yX10_init cX10_init 3 none, Cond.methodLink RX10 3 objectInit, Cond.classLink RX10 9 "[[I", Cond.fieldLink RX10 11 "CutAtlas$Widening" "prices" "[[I", Cond.fieldLink RX10 16 "CutAtlas$Widening" "costs" "[I", Cond.fieldLink RX10 20 "CutAtlas$Widening" "cameFrom" "[I", Cond.fieldLink RX10 23 "CutAtlas$Widening" "current" "LCutAtlas$Current;", Cond.fieldLink RX10 27 "CutAtlas$Widening" "kinds" "[LCutAtlas$PlainKind;", Cond.instanceMethod yX4_init, Cond.code yX4_init cX4_init 1 none, Cond.methodLink RX4 3 objectInit, Cond.fieldLink RX4 9 "CutAtlas$NumberMap" "kind" "I", Cond.fieldLink RX4 15 "CutAtlas$NumberMap" "rows" "I", Cond.fieldLink RX4 18 "CutAtlas$NumberMap" "lengths" "[I", Cond.arrayClass .long, Cond.fieldLink RX4 22 "CutAtlas$NumberMap" "numbers" "[J"]
def wsX11_init : List Cond := .code yX11_init cX11_init 1 none :: ((wsX11_init_r1 ++ (wsX11_init_r2 ++ (wsX11_init_r3 ++ (wsX11_init_r4 ++ wsX11_init_r5)))) ++ wsX60 ++ wsX50 ++ wsX90 ++ wsX20 ++ wsX80 ++ wsX110 ++ wsX30 ++ wsX00 ++ wsX70 ++ wsX10 ++ wsX100 ++ wsX40)
def wsX11_remember_r1 : List Cond := [Cond.fieldLink RX11 80 "CutAtlas" "pastFirst" "I", Cond.fieldLink RX11 84 "CutAtlas" "pastHeld" "I", Cond.fieldLink RX11 76 "CutAtlas" "past" "[LCutAtlas$Net;", Cond.classLink RX11 28 RX3, Cond.instantiable RX3 7, Cond.initialized RX3, Cond.fieldLink RX11 31 "CutAtlas" "net" "LCutAtlas$Net;", Cond.instanceMethod yX3_init, Cond.code yX3_init cX3_init 1 none, Cond.methodLink RX3 3 objectInit, Cond.instanceMethod objectInit, Cond.code objectInit ⟨#[0xb1]⟩ 1 none, Cond.fieldLink RX3 9 "CutAtlas$Net" "places" "I", Cond.fieldLink RX3 15 "CutAtlas$Net" "lines" "I", Cond.arrayClass .int, Cond.fieldLink RX3 18 "CutAtlas$Net" "kinds" "[I", Cond.fieldLink RX3 22 "CutAtlas$Net" "starts" "[I", Cond.fieldLink RX3 25 "CutAtlas$Net" "ends" "[I", Cond.fieldLink RX3 28 "CutAtlas$Net" "widths" "[I", Cond.fieldLink RX3 31 "CutAtlas$Net" "prices" "[I", Cond.methodLink RX11 151 yX3_become, Cond.instanceMethod yX3_become, Cond.selects RX3 yX3_become yX3_become, Cond.code yX3_become cX3_become 2 none]
def wsX11_remember_r2 : List Cond := [Cond.methodLink RX3 46 arraycopyName, Cond.native arraycopyName, Cond.static arraycopyName, Cond.initialized "java/lang/System"]
def wsX11_remember : List Cond := .code yX11_remember cX11_remember 2 none :: ((wsX11_remember_r1 ++ wsX11_remember_r2) ++ wsX110 ++ wsX30)
def wsX11_place_r1 : List Cond := [Cond.fieldLink RX11 31 "CutAtlas" "net" "LCutAtlas$Net;", Cond.fieldLink RX11 94 "CutAtlas$Net" "places" "I", Cond.methodLink RX11 97 yX11_remember, Cond.instanceMethod yX11_remember, Cond.selects RX11 yX11_remember yX11_remember, Cond.initialized RX11, Cond.code yX11_remember cX11_remember 2 none, Cond.fieldLink RX11 80 "CutAtlas" "pastFirst" "I", Cond.fieldLink RX11 84 "CutAtlas" "pastHeld" "I", Cond.fieldLink RX11 76 "CutAtlas" "past" "[LCutAtlas$Net;", Cond.classLink RX11 28 RX3, Cond.instantiable RX3 7, Cond.initialized RX3, Cond.instanceMethod yX3_init, Cond.code yX3_init cX3_init 1 none, Cond.methodLink RX3 3 objectInit, Cond.instanceMethod objectInit, Cond.code objectInit ⟨#[0xb1]⟩ 1 none, Cond.fieldLink RX3 9 "CutAtlas$Net" "places" "I", Cond.fieldLink RX3 15 "CutAtlas$Net" "lines" "I", Cond.arrayClass .int, Cond.fieldLink RX3 18 "CutAtlas$Net" "kinds" "[I", Cond.fieldLink RX3 22 "CutAtlas$Net" "starts" "[I", Cond.fieldLink RX3 25 "CutAtlas$Net" "ends" "[I"]
def wsX11_place_r2 : List Cond := [Cond.fieldLink RX3 28 "CutAtlas$Net" "widths" "[I", Cond.fieldLink RX3 31 "CutAtlas$Net" "prices" "[I", Cond.methodLink RX11 151 yX3_become, Cond.instanceMethod yX3_become, Cond.selects RX3 yX3_become yX3_become, Cond.code yX3_become cX3_become 2 none, Cond.methodLink RX3 46 arraycopyName, Cond.native arraycopyName, Cond.static arraycopyName, Cond.initialized "java/lang/System"]
def wsX11_place : List Cond := .code yX11_place cX11_place 1 (some .int) :: ((wsX11_place_r1 ++ wsX11_place_r2) ++ wsX110 ++ wsX30)
def wsX11_lineRefusal : List Cond := .code yX11_lineRefusal cX11_lineRefusal 11 (some .int) :: ([.constantLong RX11 300 (5), .fieldLink RX11 31 "CutAtlas" "net" "LCutAtlas$Net;", .constantLong RX11 302 (1000), .constantLong RX11 304 (100), .fieldLink RX11 294 "CutAtlas$Net" "lines" "I", .methodLink RX11 135 yX3_hasPair, .instanceMethod yX3_hasPair, .selects RX3 yX3_hasPair yX3_hasPair, .initialized RX3, .code yX3_hasPair cX3_hasPair 5 (some .boolean), .methodLink RX3 34 yX3_hasPlace, .instanceMethod yX3_hasPlace, .selects RX3 yX3_hasPlace yX3_hasPlace, .code yX3_hasPlace cX3_hasPlace 3 (some .boolean), .fieldLink RX3 9 "CutAtlas$Net" "places" "I"] ++ wsX110 ++ wsX30)
def wsX11_line_r1 : List Cond := [Cond.fieldLink RX11 87 "CutAtlas" "traced" "J", Cond.fieldLink RX11 22 "CutAtlas" "kinds" "[LCutAtlas$PlainKind;", Cond.methodLink RX11 100 yX11_lineRefusal, Cond.instanceMethod yX11_lineRefusal, Cond.selects RX11 yX11_lineRefusal yX11_lineRefusal, Cond.initialized RX11, Cond.code yX11_lineRefusal cX11_lineRefusal 11 (some .int), Cond.constantLong RX11 300 (5), Cond.fieldLink RX11 31 "CutAtlas" "net" "LCutAtlas$Net;", Cond.constantLong RX11 302 (1000), Cond.constantLong RX11 304 (100), Cond.fieldLink RX11 294 "CutAtlas$Net" "lines" "I", Cond.methodLink RX11 135 yX3_hasPair, Cond.instanceMethod yX3_hasPair, Cond.selects RX3 yX3_hasPair yX3_hasPair, Cond.initialized RX3, Cond.code yX3_hasPair cX3_hasPair 5 (some .boolean), Cond.methodLink RX3 34 yX3_hasPlace, Cond.instanceMethod yX3_hasPlace, Cond.selects RX3 yX3_hasPlace yX3_hasPlace, Cond.code yX3_hasPlace cX3_hasPlace 3 (some .boolean), Cond.fieldLink RX3 9 "CutAtlas$Net" "places" "I", Cond.methodLink RX11 97 yX11_remember, Cond.instanceMethod yX11_remember]
def wsX11_line_r2 : List Cond := [Cond.selects RX11 yX11_remember yX11_remember, Cond.code yX11_remember cX11_remember 2 none, Cond.fieldLink RX11 80 "CutAtlas" "pastFirst" "I", Cond.fieldLink RX11 84 "CutAtlas" "pastHeld" "I", Cond.fieldLink RX11 76 "CutAtlas" "past" "[LCutAtlas$Net;", Cond.classLink RX11 28 RX3, Cond.instantiable RX3 7, Cond.instanceMethod yX3_init, Cond.code yX3_init cX3_init 1 none, Cond.methodLink RX3 3 objectInit, Cond.instanceMethod objectInit, Cond.code objectInit ⟨#[0xb1]⟩ 1 none, Cond.fieldLink RX3 15 "CutAtlas$Net" "lines" "I", Cond.arrayClass .int, Cond.fieldLink RX3 18 "CutAtlas$Net" "kinds" "[I", Cond.fieldLink RX3 22 "CutAtlas$Net" "starts" "[I", Cond.fieldLink RX3 25 "CutAtlas$Net" "ends" "[I", Cond.fieldLink RX3 28 "CutAtlas$Net" "widths" "[I", Cond.fieldLink RX3 31 "CutAtlas$Net" "prices" "[I", Cond.methodLink RX11 151 yX3_become, Cond.instanceMethod yX3_become, Cond.selects RX3 yX3_become yX3_become, Cond.code yX3_become cX3_become 2 none, Cond.methodLink RX3 46 arraycopyName]
def wsX11_line_r3 : List Cond := [Cond.native arraycopyName, Cond.static arraycopyName, Cond.initialized "java/lang/System", Cond.methodLink RX11 104 ⟨"CutAtlas$PlainKind", "beginsMark", "()I"⟩, Cond.sameMethod "CutAtlas$PlainKind" "CutAtlas$PlainKind" "beginsMark" "()I", Cond.selects RX2 ⟨"CutAtlas$PlainKind", "beginsMark", "()I"⟩ yX6_beginsMark, Cond.instanceMethod yX6_beginsMark, Cond.initialized RX6, Cond.code yX6_beginsMark cX6_beginsMark 1 (some .int), Cond.selects RX5 ⟨"CutAtlas$PlainKind", "beginsMark", "()I"⟩ yX6_beginsMark, Cond.methodLink RX11 104 yX6_beginsMark, Cond.selects RX6 yX6_beginsMark yX6_beginsMark, Cond.instanceMethod ⟨"CutAtlas$PlainKind", "beginsMark", "()I"⟩, Cond.selects RX8 ⟨"CutAtlas$PlainKind", "beginsMark", "()I"⟩ yX8_beginsMark, Cond.instanceMethod yX8_beginsMark, Cond.initialized RX8, Cond.code yX8_beginsMark cX8_beginsMark 1 (some .int), Cond.constant RX8 16 (1000000), Cond.selects RX9 ⟨"CutAtlas$PlainKind", "beginsMark", "()I"⟩ yX6_beginsMark, Cond.methodLink RX11 108 yX11_addLine, Cond.instanceMethod yX11_addLine, Cond.selects RX11 yX11_addLine yX11_addLine, Cond.code yX11_addLine cX11_addLine 6 (some .int), Cond.methodLink RX11 306 ⟨"CutAtlas$PlainKind", "begins", "(I)I"⟩]
def wsX11_line_r4 : List Cond := [Cond.sameMethod "CutAtlas$PlainKind" "CutAtlas$PlainKind" "begins" "(I)I", Cond.selects RX2 ⟨"CutAtlas$PlainKind", "begins", "(I)I"⟩ yX6_begins, Cond.instanceMethod yX6_begins, Cond.code yX6_begins cX6_begins 2 (some .int), Cond.selects RX5 ⟨"CutAtlas$PlainKind", "begins", "(I)I"⟩ yX6_begins, Cond.methodLink RX11 306 yX6_begins, Cond.selects RX6 yX6_begins yX6_begins, Cond.instanceMethod ⟨"CutAtlas$PlainKind", "begins", "(I)I"⟩, Cond.selects RX8 ⟨"CutAtlas$PlainKind", "begins", "(I)I"⟩ yX8_begins, Cond.instanceMethod yX8_begins, Cond.code yX8_begins cX8_begins 2 (some .int), Cond.selects RX9 ⟨"CutAtlas$PlainKind", "begins", "(I)I"⟩ yX6_begins, Cond.methodLink RX11 309 yX3_append, Cond.instanceMethod yX3_append, Cond.selects RX3 yX3_append yX3_append, Cond.code yX3_append cX3_append 6 (some .int)]
def wsX11_line : List Cond := .code yX11_line cX11_line 7 (some .int) :: ((wsX11_line_r1 ++ (wsX11_line_r2 ++ (wsX11_line_r3 ++ wsX11_line_r4))) ++ wsX110 ++ wsX30)
def wsX11_widen_r1 : List Cond := [Cond.fieldLink RX11 31 "CutAtlas" "net" "LCutAtlas$Net;", Cond.fieldLink RX11 22 "CutAtlas" "kinds" "[LCutAtlas$PlainKind;", Cond.fieldLink RX11 116 "CutAtlas$Net" "kinds" "[I", Cond.fieldLink RX11 119 "CutAtlas$Net" "prices" "[I", Cond.fieldLink RX11 129 "CutAtlas$Net" "widths" "[I", Cond.fieldLink RX11 87 "CutAtlas" "traced" "J", Cond.methodLink RX11 112 yX3_hasLine, Cond.instanceMethod yX3_hasLine, Cond.selects RX3 yX3_hasLine yX3_hasLine, Cond.initialized RX3, Cond.code yX3_hasLine cX3_hasLine 2 (some .boolean), Cond.fieldLink RX3 15 "CutAtlas$Net" "lines" "I", Cond.methodLink RX11 122 ⟨"CutAtlas$PlainKind", "costs", "(I)I"⟩, Cond.sameMethod "CutAtlas$PlainKind" "CutAtlas$PlainKind" "costs" "(I)I", Cond.instanceMethod ⟨"CutAtlas$PlainKind", "costs", "(I)I"⟩, Cond.selects RX2 ⟨"CutAtlas$PlainKind", "costs", "(I)I"⟩ yX2_costs, Cond.instanceMethod yX2_costs, Cond.initialized RX2, Cond.code yX2_costs cX2_costs 2 (some .int), Cond.code yX6_costs cX6_costs 2 (some .int), Cond.selects RX5 ⟨"CutAtlas$PlainKind", "costs", "(I)I"⟩ yX6_costs, Cond.instanceMethod yX6_costs, Cond.initialized RX6, Cond.methodLink RX11 122 yX6_costs]
def wsX11_widen_r2 : List Cond := [Cond.selects RX6 yX6_costs yX6_costs, Cond.selects RX8 ⟨"CutAtlas$PlainKind", "costs", "(I)I"⟩ yX8_costs, Cond.instanceMethod yX8_costs, Cond.initialized RX8, Cond.code yX8_costs cX8_costs 2 (some .int), Cond.methodLink RX8 7 yX2_costs, Cond.sameMethod "CutAtlas$DearKind" "CutAtlas$DearKind" "costs" "(I)I", Cond.superclass RX8 RX2, Cond.selects RX9 ⟨"CutAtlas$PlainKind", "costs", "(I)I"⟩ yX6_costs, Cond.methodLink RX11 126 yX3_isMissing, Cond.instanceMethod yX3_isMissing, Cond.selects RX3 yX3_isMissing yX3_isMissing, Cond.code yX3_isMissing cX3_isMissing 2 (some .boolean), Cond.fieldLink RX3 22 "CutAtlas$Net" "starts" "[I", Cond.methodLink RX11 97 yX11_remember, Cond.instanceMethod yX11_remember, Cond.selects RX11 yX11_remember yX11_remember, Cond.initialized RX11, Cond.code yX11_remember cX11_remember 2 none, Cond.fieldLink RX11 80 "CutAtlas" "pastFirst" "I", Cond.fieldLink RX11 84 "CutAtlas" "pastHeld" "I", Cond.fieldLink RX11 76 "CutAtlas" "past" "[LCutAtlas$Net;", Cond.classLink RX11 28 RX3, Cond.instantiable RX3 7]
def wsX11_widen_r3 : List Cond := [Cond.instanceMethod yX3_init, Cond.code yX3_init cX3_init 1 none, Cond.methodLink RX3 3 objectInit, Cond.instanceMethod objectInit, Cond.code objectInit ⟨#[0xb1]⟩ 1 none, Cond.fieldLink RX3 9 "CutAtlas$Net" "places" "I", Cond.arrayClass .int, Cond.fieldLink RX3 18 "CutAtlas$Net" "kinds" "[I", Cond.fieldLink RX3 25 "CutAtlas$Net" "ends" "[I", Cond.fieldLink RX3 28 "CutAtlas$Net" "widths" "[I", Cond.fieldLink RX3 31 "CutAtlas$Net" "prices" "[I", Cond.methodLink RX11 151 yX3_become, Cond.instanceMethod yX3_become, Cond.selects RX3 yX3_become yX3_become, Cond.code yX3_become cX3_become 2 none, Cond.methodLink RX3 46 arraycopyName, Cond.native arraycopyName, Cond.static arraycopyName, Cond.initialized "java/lang/System", Cond.methodLink RX11 132 ⟨"CutAtlas$PlainKind", "costsMark", "()I"⟩, Cond.sameMethod "CutAtlas$PlainKind" "CutAtlas$PlainKind" "costsMark" "()I", Cond.instanceMethod ⟨"CutAtlas$PlainKind", "costsMark", "()I"⟩, Cond.selects RX2 ⟨"CutAtlas$PlainKind", "costsMark", "()I"⟩ yX2_costsMark, Cond.instanceMethod yX2_costsMark]
def wsX11_widen_r4 : List Cond := [Cond.code yX2_costsMark cX2_costsMark 1 (some .int), Cond.code yX6_costsMark cX6_costsMark 1 (some .int), Cond.selects RX5 ⟨"CutAtlas$PlainKind", "costsMark", "()I"⟩ yX6_costsMark, Cond.instanceMethod yX6_costsMark, Cond.methodLink RX11 132 yX6_costsMark, Cond.selects RX6 yX6_costsMark yX6_costsMark, Cond.selects RX8 ⟨"CutAtlas$PlainKind", "costsMark", "()I"⟩ yX8_costsMark, Cond.instanceMethod yX8_costsMark, Cond.code yX8_costsMark cX8_costsMark 1 (some .int), Cond.constant RX8 11 (100000), Cond.methodLink RX8 12 yX2_costsMark, Cond.sameMethod "CutAtlas$DearKind" "CutAtlas$DearKind" "costsMark" "()I", Cond.selects RX9 ⟨"CutAtlas$PlainKind", "costsMark", "()I"⟩ yX6_costsMark]
def wsX11_widen : List Cond := .code yX11_widen cX11_widen 5 (some .int) :: ((wsX11_widen_r1 ++ (wsX11_widen_r2 ++ (wsX11_widen_r3 ++ wsX11_widen_r4))) ++ wsX110 ++ wsX30)
def wsX11_width_r1 : List Cond := [Cond.fieldLink RX11 31 "CutAtlas" "net" "LCutAtlas$Net;", Cond.fieldLink RX11 129 "CutAtlas$Net" "widths" "[I", Cond.methodLink RX11 112 yX3_hasLine, Cond.instanceMethod yX3_hasLine, Cond.selects RX3 yX3_hasLine yX3_hasLine, Cond.initialized RX3, Cond.code yX3_hasLine cX3_hasLine 2 (some .boolean), Cond.fieldLink RX3 15 "CutAtlas$Net" "lines" "I", Cond.methodLink RX11 126 yX3_isMissing, Cond.instanceMethod yX3_isMissing, Cond.selects RX3 yX3_isMissing yX3_isMissing, Cond.code yX3_isMissing cX3_isMissing 2 (some .boolean), Cond.fieldLink RX3 22 "CutAtlas$Net" "starts" "[I", Cond.methodLink RX11 97 yX11_remember, Cond.instanceMethod yX11_remember, Cond.selects RX11 yX11_remember yX11_remember, Cond.initialized RX11, Cond.code yX11_remember cX11_remember 2 none, Cond.fieldLink RX11 80 "CutAtlas" "pastFirst" "I", Cond.fieldLink RX11 84 "CutAtlas" "pastHeld" "I", Cond.fieldLink RX11 76 "CutAtlas" "past" "[LCutAtlas$Net;", Cond.classLink RX11 28 RX3, Cond.instantiable RX3 7, Cond.instanceMethod yX3_init]
def wsX11_width_r2 : List Cond := [Cond.code yX3_init cX3_init 1 none, Cond.methodLink RX3 3 objectInit, Cond.instanceMethod objectInit, Cond.code objectInit ⟨#[0xb1]⟩ 1 none, Cond.fieldLink RX3 9 "CutAtlas$Net" "places" "I", Cond.arrayClass .int, Cond.fieldLink RX3 18 "CutAtlas$Net" "kinds" "[I", Cond.fieldLink RX3 25 "CutAtlas$Net" "ends" "[I", Cond.fieldLink RX3 28 "CutAtlas$Net" "widths" "[I", Cond.fieldLink RX3 31 "CutAtlas$Net" "prices" "[I", Cond.methodLink RX11 151 yX3_become, Cond.instanceMethod yX3_become, Cond.selects RX3 yX3_become yX3_become, Cond.code yX3_become cX3_become 2 none, Cond.methodLink RX3 46 arraycopyName, Cond.native arraycopyName, Cond.static arraycopyName, Cond.initialized "java/lang/System"]
def wsX11_width : List Cond := .code yX11_width cX11_width 4 (some .int) :: ((wsX11_width_r1 ++ wsX11_width_r2) ++ wsX110 ++ wsX30)
def wsX11_merge_r1 : List Cond := [Cond.fieldLink RX11 31 "CutAtlas" "net" "LCutAtlas$Net;", Cond.methodLink RX11 139 Lib.Math.min.name, Cond.static Lib.Math.min.name, Cond.initialized "java/lang/Math", Cond.code Lib.Math.min.name Lib.Math.min.code 2 (some .int), Cond.methodLink RX11 145 Lib.Math.max.name, Cond.static Lib.Math.max.name, Cond.code Lib.Math.max.name Lib.Math.max.code 2 (some .int), Cond.methodLink RX11 135 yX3_hasPair, Cond.instanceMethod yX3_hasPair, Cond.selects RX3 yX3_hasPair yX3_hasPair, Cond.initialized RX3, Cond.code yX3_hasPair cX3_hasPair 5 (some .boolean), Cond.methodLink RX3 34 yX3_hasPlace, Cond.instanceMethod yX3_hasPlace, Cond.selects RX3 yX3_hasPlace yX3_hasPlace, Cond.code yX3_hasPlace cX3_hasPlace 3 (some .boolean), Cond.fieldLink RX3 9 "CutAtlas$Net" "places" "I", Cond.methodLink RX11 97 yX11_remember, Cond.instanceMethod yX11_remember, Cond.selects RX11 yX11_remember yX11_remember, Cond.initialized RX11, Cond.code yX11_remember cX11_remember 2 none, Cond.fieldLink RX11 80 "CutAtlas" "pastFirst" "I"]
def wsX11_merge_r2 : List Cond := [Cond.fieldLink RX11 84 "CutAtlas" "pastHeld" "I", Cond.fieldLink RX11 76 "CutAtlas" "past" "[LCutAtlas$Net;", Cond.classLink RX11 28 RX3, Cond.instantiable RX3 7, Cond.instanceMethod yX3_init, Cond.code yX3_init cX3_init 1 none, Cond.methodLink RX3 3 objectInit, Cond.instanceMethod objectInit, Cond.code objectInit ⟨#[0xb1]⟩ 1 none, Cond.fieldLink RX3 15 "CutAtlas$Net" "lines" "I", Cond.arrayClass .int, Cond.fieldLink RX3 18 "CutAtlas$Net" "kinds" "[I", Cond.fieldLink RX3 22 "CutAtlas$Net" "starts" "[I", Cond.fieldLink RX3 25 "CutAtlas$Net" "ends" "[I", Cond.fieldLink RX3 28 "CutAtlas$Net" "widths" "[I", Cond.fieldLink RX3 31 "CutAtlas$Net" "prices" "[I", Cond.methodLink RX11 151 yX3_become, Cond.instanceMethod yX3_become, Cond.selects RX3 yX3_become yX3_become, Cond.code yX3_become cX3_become 2 none, Cond.methodLink RX3 46 arraycopyName, Cond.native arraycopyName, Cond.static arraycopyName, Cond.initialized "java/lang/System"]
def wsX11_merge_r3 : List Cond := [Cond.methodLink RX11 148 yX3_join, Cond.instanceMethod yX3_join, Cond.selects RX3 yX3_join yX3_join, Cond.code yX3_join cX3_join 5 (some .int), Cond.methodLink RX3 38 yX3_isMissing, Cond.instanceMethod yX3_isMissing, Cond.selects RX3 yX3_isMissing yX3_isMissing, Cond.code yX3_isMissing cX3_isMissing 2 (some .boolean), Cond.methodLink RX3 42 yX3_renumbered, Cond.static yX3_renumbered, Cond.code yX3_renumbered cX3_renumbered 3 (some .int)]
def wsX11_merge : List Cond := .code yX11_merge cX11_merge 3 (some .int) :: ((wsX11_merge_r1 ++ (wsX11_merge_r2 ++ wsX11_merge_r3)) ++ wsX110 ++ wsX30)
def wsX11_undo : List Cond := .code yX11_undo cX11_undo 2 (some .int) :: ([.fieldLink RX11 84 "CutAtlas" "pastHeld" "I", .fieldLink RX11 76 "CutAtlas" "past" "[LCutAtlas$Net;", .fieldLink RX11 80 "CutAtlas" "pastFirst" "I", .fieldLink RX11 31 "CutAtlas" "net" "LCutAtlas$Net;", .methodLink RX11 151 yX3_become, .instanceMethod yX3_become, .selects RX3 yX3_become yX3_become, .initialized RX3, .code yX3_become cX3_become 2 none, .fieldLink RX3 9 "CutAtlas$Net" "places" "I", .fieldLink RX3 15 "CutAtlas$Net" "lines" "I", .fieldLink RX3 18 "CutAtlas$Net" "kinds" "[I", .methodLink RX3 46 arraycopyName, .native arraycopyName, .static arraycopyName, .initialized "java/lang/System", .fieldLink RX3 22 "CutAtlas$Net" "starts" "[I", .fieldLink RX3 25 "CutAtlas$Net" "ends" "[I", .fieldLink RX3 28 "CutAtlas$Net" "widths" "[I", .fieldLink RX3 31 "CutAtlas$Net" "prices" "[I"] ++ wsX110 ++ wsX30)
def wsX11_told : List Cond := .code yX11_told cX11_told 3 (some .int) :: ([.fieldLink RX11 31 "CutAtlas" "net" "LCutAtlas$Net;", .fieldLink RX11 116 "CutAtlas$Net" "kinds" "[I", .fieldLink RX11 155 "CutAtlas$Net" "starts" "[I", .fieldLink RX11 158 "CutAtlas$Net" "ends" "[I", .fieldLink RX11 129 "CutAtlas$Net" "widths" "[I", .fieldLink RX11 119 "CutAtlas$Net" "prices" "[I", .methodLink RX11 112 yX3_hasLine, .instanceMethod yX3_hasLine, .selects RX3 yX3_hasLine yX3_hasLine, .initialized RX3, .code yX3_hasLine cX3_hasLine 2 (some .boolean), .fieldLink RX3 15 "CutAtlas$Net" "lines" "I", .methodLink RX11 126 yX3_isMissing, .instanceMethod yX3_isMissing, .selects RX3 yX3_isMissing yX3_isMissing, .code yX3_isMissing cX3_isMissing 2 (some .boolean), .fieldLink RX3 22 "CutAtlas$Net" "starts" "[I"] ++ wsX110 ++ wsX30)
def wsX11_ask_r1 : List Cond := [Cond.fieldLink RX11 31 "CutAtlas" "net" "LCutAtlas$Net;", Cond.fieldLink RX11 22 "CutAtlas" "kinds" "[LCutAtlas$PlainKind;", Cond.fieldLink RX11 116 "CutAtlas$Net" "kinds" "[I", Cond.fieldLink RX11 87 "CutAtlas" "traced" "J", Cond.fieldLink RX11 119 "CutAtlas$Net" "prices" "[I", Cond.fieldLink RX11 129 "CutAtlas$Net" "widths" "[I", Cond.methodLink RX11 112 yX3_hasLine, Cond.instanceMethod yX3_hasLine, Cond.selects RX3 yX3_hasLine yX3_hasLine, Cond.initialized RX3, Cond.code yX3_hasLine cX3_hasLine 2 (some .boolean), Cond.fieldLink RX3 15 "CutAtlas$Net" "lines" "I", Cond.methodLink RX11 132 ⟨"CutAtlas$PlainKind", "costsMark", "()I"⟩, Cond.sameMethod "CutAtlas$PlainKind" "CutAtlas$PlainKind" "costsMark" "()I", Cond.instanceMethod ⟨"CutAtlas$PlainKind", "costsMark", "()I"⟩, Cond.selects RX2 ⟨"CutAtlas$PlainKind", "costsMark", "()I"⟩ yX2_costsMark, Cond.instanceMethod yX2_costsMark, Cond.initialized RX2, Cond.code yX2_costsMark cX2_costsMark 1 (some .int), Cond.code yX6_costsMark cX6_costsMark 1 (some .int), Cond.selects RX5 ⟨"CutAtlas$PlainKind", "costsMark", "()I"⟩ yX6_costsMark, Cond.instanceMethod yX6_costsMark, Cond.initialized RX6, Cond.methodLink RX11 132 yX6_costsMark]
def wsX11_ask_r2 : List Cond := [Cond.selects RX6 yX6_costsMark yX6_costsMark, Cond.selects RX8 ⟨"CutAtlas$PlainKind", "costsMark", "()I"⟩ yX8_costsMark, Cond.instanceMethod yX8_costsMark, Cond.initialized RX8, Cond.code yX8_costsMark cX8_costsMark 1 (some .int), Cond.constant RX8 11 (100000), Cond.methodLink RX8 12 yX2_costsMark, Cond.sameMethod "CutAtlas$DearKind" "CutAtlas$DearKind" "costsMark" "()I", Cond.superclass RX8 RX2, Cond.selects RX9 ⟨"CutAtlas$PlainKind", "costsMark", "()I"⟩ yX6_costsMark, Cond.methodLink RX11 122 ⟨"CutAtlas$PlainKind", "costs", "(I)I"⟩, Cond.sameMethod "CutAtlas$PlainKind" "CutAtlas$PlainKind" "costs" "(I)I", Cond.instanceMethod ⟨"CutAtlas$PlainKind", "costs", "(I)I"⟩, Cond.selects RX2 ⟨"CutAtlas$PlainKind", "costs", "(I)I"⟩ yX2_costs, Cond.instanceMethod yX2_costs, Cond.code yX2_costs cX2_costs 2 (some .int), Cond.code yX6_costs cX6_costs 2 (some .int), Cond.selects RX5 ⟨"CutAtlas$PlainKind", "costs", "(I)I"⟩ yX6_costs, Cond.instanceMethod yX6_costs, Cond.methodLink RX11 122 yX6_costs, Cond.selects RX6 yX6_costs yX6_costs, Cond.selects RX8 ⟨"CutAtlas$PlainKind", "costs", "(I)I"⟩ yX8_costs, Cond.instanceMethod yX8_costs, Cond.code yX8_costs cX8_costs 2 (some .int)]
def wsX11_ask_r3 : List Cond := [Cond.methodLink RX8 7 yX2_costs, Cond.sameMethod "CutAtlas$DearKind" "CutAtlas$DearKind" "costs" "(I)I", Cond.selects RX9 ⟨"CutAtlas$PlainKind", "costs", "(I)I"⟩ yX6_costs, Cond.methodLink RX11 161 ⟨"CutAtlas$PlainKind", "letsMark", "(Z)I"⟩, Cond.sameMethod "CutAtlas$PlainKind" "CutAtlas$PlainKind" "letsMark" "(Z)I", Cond.selects RX2 ⟨"CutAtlas$PlainKind", "letsMark", "(Z)I"⟩ yX6_letsMark, Cond.instanceMethod yX6_letsMark, Cond.code yX6_letsMark cX6_letsMark 2 (some .int), Cond.instanceMethod ⟨"CutAtlas$PlainKind", "letsMark", "(Z)I"⟩, Cond.selects RX5 ⟨"CutAtlas$PlainKind", "letsMark", "(Z)I"⟩ yX5_letsMark, Cond.instanceMethod yX5_letsMark, Cond.initialized RX5, Cond.code yX5_letsMark cX5_letsMark 2 (some .int), Cond.methodLink RX5 11 yX6_letsMark, Cond.superclass RX5 RX6, Cond.methodLink RX11 161 yX6_letsMark, Cond.selects RX6 yX6_letsMark yX6_letsMark, Cond.selects RX8 ⟨"CutAtlas$PlainKind", "letsMark", "(Z)I"⟩ yX6_letsMark, Cond.selects RX9 ⟨"CutAtlas$PlainKind", "letsMark", "(Z)I"⟩ yX9_letsMark, Cond.instanceMethod yX9_letsMark, Cond.initialized RX9, Cond.code yX9_letsMark cX9_letsMark 2 (some .int), Cond.methodLink RX11 165 ⟨"CutAtlas$PlainKind", "lets", "(IZ)I"⟩, Cond.sameMethod "CutAtlas$PlainKind" "CutAtlas$PlainKind" "lets" "(IZ)I"]
def wsX11_ask_r4 : List Cond := [Cond.selects RX2 ⟨"CutAtlas$PlainKind", "lets", "(IZ)I"⟩ yX6_lets, Cond.instanceMethod yX6_lets, Cond.code yX6_lets cX6_lets 3 (some .int), Cond.instanceMethod ⟨"CutAtlas$PlainKind", "lets", "(IZ)I"⟩, Cond.selects RX5 ⟨"CutAtlas$PlainKind", "lets", "(IZ)I"⟩ yX5_lets, Cond.instanceMethod yX5_lets, Cond.code yX5_lets cX5_lets 3 (some .int), Cond.methodLink RX5 7 yX6_lets, Cond.methodLink RX11 165 yX6_lets, Cond.selects RX6 yX6_lets yX6_lets, Cond.selects RX8 ⟨"CutAtlas$PlainKind", "lets", "(IZ)I"⟩ yX6_lets, Cond.selects RX9 ⟨"CutAtlas$PlainKind", "lets", "(IZ)I"⟩ yX9_lets, Cond.instanceMethod yX9_lets, Cond.code yX9_lets cX9_lets 3 (some .int)]
def wsX11_ask : List Cond := .code yX11_ask cX11_ask 5 (some .int) :: ((wsX11_ask_r1 ++ (wsX11_ask_r2 ++ (wsX11_ask_r3 ++ wsX11_ask_r4))) ++ wsX110 ++ wsX30)
def wsX11_most_r1 : List Cond := [Cond.fieldLink RX11 31 "CutAtlas" "net" "LCutAtlas$Net;", Cond.methodLink RX11 135 yX3_hasPair, Cond.instanceMethod yX3_hasPair, Cond.selects RX3 yX3_hasPair yX3_hasPair, Cond.initialized RX3, Cond.code yX3_hasPair cX3_hasPair 5 (some .boolean), Cond.methodLink RX3 34 yX3_hasPlace, Cond.instanceMethod yX3_hasPlace, Cond.selects RX3 yX3_hasPlace yX3_hasPlace, Cond.code yX3_hasPlace cX3_hasPlace 3 (some .boolean), Cond.fieldLink RX3 9 "CutAtlas$Net" "places" "I", Cond.methodLink RX11 169 yX11_mostNow, Cond.instanceMethod yX11_mostNow, Cond.selects RX11 yX11_mostNow yX11_mostNow, Cond.initialized RX11, Cond.code yX11_mostNow cX11_mostNow 3 (some .int), Cond.fieldLink RX11 40 "CutAtlas" "current" "LCutAtlas$Current;", Cond.methodLink RX11 190 yX0_load, Cond.instanceMethod yX0_load, Cond.selects RX0 yX0_load yX0_load, Cond.initialized RX0, Cond.code yX0_load cX0_load 5 none, Cond.fieldLink RX0 35 "CutAtlas$Current" "net" "LCutAtlas$Net;", Cond.fieldLink RX0 43 "CutAtlas$Net" "places" "I"]
def wsX11_most_r2 : List Cond := [Cond.fieldLink RX0 11 "CutAtlas$Current" "lets" "[[I", Cond.fieldLink RX0 55 "CutAtlas$Net" "lines" "I", Cond.fieldLink RX0 62 "CutAtlas$Net" "widths" "[I", Cond.fieldLink RX0 39 "CutAtlas$Current" "kinds" "[LCutAtlas$PlainKind;", Cond.fieldLink RX0 65 "CutAtlas$Net" "kinds" "[I", Cond.fieldLink RX0 23 "CutAtlas$Current" "letsForth" "[I", Cond.fieldLink RX0 26 "CutAtlas$Current" "letsBack" "[I", Cond.fieldLink RX0 76 "CutAtlas$Net" "starts" "[I", Cond.fieldLink RX0 79 "CutAtlas$Net" "ends" "[I", Cond.methodLink RX0 49 yJ7_fill_53178, Cond.static yJ7_fill_53178, Cond.initialized RJ7, Cond.code yJ7_fill_53178 cJ7_fill_53178 4 none, Cond.methodLink RX0 58 yX3_isMissing, Cond.instanceMethod yX3_isMissing, Cond.selects RX3 yX3_isMissing yX3_isMissing, Cond.code yX3_isMissing cX3_isMissing 2 (some .boolean), Cond.fieldLink RX3 22 "CutAtlas$Net" "starts" "[I", Cond.methodLink RX0 67 ⟨"CutAtlas$PlainKind", "lets", "(IZ)I"⟩, Cond.sameMethod "CutAtlas$PlainKind" "CutAtlas$PlainKind" "lets" "(IZ)I", Cond.selects RX2 ⟨"CutAtlas$PlainKind", "lets", "(IZ)I"⟩ yX6_lets, Cond.instanceMethod yX6_lets, Cond.initialized RX6, Cond.code yX6_lets cX6_lets 3 (some .int)]
def wsX11_most_r3 : List Cond := [Cond.instanceMethod ⟨"CutAtlas$PlainKind", "lets", "(IZ)I"⟩, Cond.selects RX5 ⟨"CutAtlas$PlainKind", "lets", "(IZ)I"⟩ yX5_lets, Cond.instanceMethod yX5_lets, Cond.initialized RX5, Cond.code yX5_lets cX5_lets 3 (some .int), Cond.methodLink RX5 7 yX6_lets, Cond.superclass RX5 RX6, Cond.methodLink RX0 67 yX6_lets, Cond.selects RX6 yX6_lets yX6_lets, Cond.selects RX8 ⟨"CutAtlas$PlainKind", "lets", "(IZ)I"⟩ yX6_lets, Cond.selects RX9 ⟨"CutAtlas$PlainKind", "lets", "(IZ)I"⟩ yX9_lets, Cond.instanceMethod yX9_lets, Cond.initialized RX9, Cond.code yX9_lets cX9_lets 3 (some .int), Cond.methodLink RX0 72 yX0_asRoom, Cond.static yX0_asRoom, Cond.code yX0_asRoom cX0_asRoom 1 (some .int), Cond.constant RX0 82 (1000000), Cond.methodLink RX11 198 yX0_fill, Cond.instanceMethod yX0_fill, Cond.selects RX0 yX0_fill yX0_fill, Cond.code yX0_fill cX0_fill 5 (some .int), Cond.fieldLink RX0 19 "CutAtlas$Current" "flowing" "[I", Cond.fieldLink RX0 16 "CutAtlas$Current" "room" "[[I"]
def wsX11_most_r4 : List Cond := [Cond.methodLink RX0 83 arraycopyName, Cond.native arraycopyName, Cond.static arraycopyName, Cond.initialized "java/lang/System", Cond.methodLink RX0 89 yX0_reachedFrom, Cond.instanceMethod yX0_reachedFrom, Cond.selects RX0 yX0_reachedFrom yX0_reachedFrom, Cond.code yX0_reachedFrom cX0_reachedFrom 7 (some .int), Cond.fieldLink RX0 29 "CutAtlas$Current" "queue" "[I", Cond.methodLink RX0 93 yX0_findWay, Cond.instanceMethod yX0_findWay, Cond.selects RX0 yX0_findWay yX0_findWay, Cond.code yX0_findWay cX0_findWay 8 (some .boolean), Cond.fieldLink RX0 32 "CutAtlas$Current" "cameFrom" "[I", Cond.methodLink RX0 97 yX0_sendAlongWay, Cond.instanceMethod yX0_sendAlongWay, Cond.selects RX0 yX0_sendAlongWay yX0_sendAlongWay, Cond.code yX0_sendAlongWay cX0_sendAlongWay 6 (some .int), Cond.constant RX0 100 (1000000000), Cond.methodLink RX0 101 Lib.Math.min.name, Cond.static Lib.Math.min.name, Cond.initialized "java/lang/Math", Cond.code Lib.Math.min.name Lib.Math.min.code 2 (some .int), Cond.methodLink RX0 106 yX0_sendOver]
def wsX11_most_r5 : List Cond := [Cond.instanceMethod yX0_sendOver, Cond.selects RX0 yX0_sendOver yX0_sendOver, Cond.code yX0_sendOver cX0_sendOver 7 none]
def wsX11_most : List Cond := .code yX11_most cX11_most 3 (some .int) :: ((wsX11_most_r1 ++ (wsX11_most_r2 ++ (wsX11_most_r3 ++ (wsX11_most_r4 ++ wsX11_most_r5)))) ++ wsX110 ++ wsX30 ++ wsX00)
def wsX11_flow_r1 : List Cond := [Cond.fieldLink RX11 31 "CutAtlas" "net" "LCutAtlas$Net;", Cond.constant RX11 172 (-1000000), Cond.fieldLink RX11 40 "CutAtlas" "current" "LCutAtlas$Current;", Cond.fieldLink RX11 173 "CutAtlas$Current" "flowing" "[I", Cond.methodLink RX11 135 yX3_hasPair, Cond.instanceMethod yX3_hasPair, Cond.selects RX3 yX3_hasPair yX3_hasPair, Cond.initialized RX3, Cond.code yX3_hasPair cX3_hasPair 5 (some .boolean), Cond.methodLink RX3 34 yX3_hasPlace, Cond.instanceMethod yX3_hasPlace, Cond.selects RX3 yX3_hasPlace yX3_hasPlace, Cond.code yX3_hasPlace cX3_hasPlace 3 (some .boolean), Cond.fieldLink RX3 9 "CutAtlas$Net" "places" "I", Cond.methodLink RX11 112 yX3_hasLine, Cond.instanceMethod yX3_hasLine, Cond.selects RX3 yX3_hasLine yX3_hasLine, Cond.code yX3_hasLine cX3_hasLine 2 (some .boolean), Cond.fieldLink RX3 15 "CutAtlas$Net" "lines" "I", Cond.methodLink RX11 126 yX3_isMissing, Cond.instanceMethod yX3_isMissing, Cond.selects RX3 yX3_isMissing yX3_isMissing, Cond.code yX3_isMissing cX3_isMissing 2 (some .boolean), Cond.fieldLink RX3 22 "CutAtlas$Net" "starts" "[I"]
def wsX11_flow_r2 : List Cond := [Cond.methodLink RX11 169 yX11_mostNow, Cond.instanceMethod yX11_mostNow, Cond.selects RX11 yX11_mostNow yX11_mostNow, Cond.initialized RX11, Cond.code yX11_mostNow cX11_mostNow 3 (some .int), Cond.methodLink RX11 190 yX0_load, Cond.instanceMethod yX0_load, Cond.selects RX0 yX0_load yX0_load, Cond.initialized RX0, Cond.code yX0_load cX0_load 5 none, Cond.fieldLink RX0 35 "CutAtlas$Current" "net" "LCutAtlas$Net;", Cond.fieldLink RX0 43 "CutAtlas$Net" "places" "I", Cond.fieldLink RX0 11 "CutAtlas$Current" "lets" "[[I", Cond.fieldLink RX0 55 "CutAtlas$Net" "lines" "I", Cond.fieldLink RX0 62 "CutAtlas$Net" "widths" "[I", Cond.fieldLink RX0 39 "CutAtlas$Current" "kinds" "[LCutAtlas$PlainKind;", Cond.fieldLink RX0 65 "CutAtlas$Net" "kinds" "[I", Cond.fieldLink RX0 23 "CutAtlas$Current" "letsForth" "[I", Cond.fieldLink RX0 26 "CutAtlas$Current" "letsBack" "[I", Cond.fieldLink RX0 76 "CutAtlas$Net" "starts" "[I", Cond.fieldLink RX0 79 "CutAtlas$Net" "ends" "[I", Cond.methodLink RX0 49 yJ7_fill_53178, Cond.static yJ7_fill_53178, Cond.initialized RJ7]
def wsX11_flow_r3 : List Cond := [Cond.code yJ7_fill_53178 cJ7_fill_53178 4 none, Cond.methodLink RX0 58 yX3_isMissing, Cond.methodLink RX0 67 ⟨"CutAtlas$PlainKind", "lets", "(IZ)I"⟩, Cond.sameMethod "CutAtlas$PlainKind" "CutAtlas$PlainKind" "lets" "(IZ)I", Cond.selects RX2 ⟨"CutAtlas$PlainKind", "lets", "(IZ)I"⟩ yX6_lets, Cond.instanceMethod yX6_lets, Cond.initialized RX6, Cond.code yX6_lets cX6_lets 3 (some .int), Cond.instanceMethod ⟨"CutAtlas$PlainKind", "lets", "(IZ)I"⟩, Cond.selects RX5 ⟨"CutAtlas$PlainKind", "lets", "(IZ)I"⟩ yX5_lets, Cond.instanceMethod yX5_lets, Cond.initialized RX5, Cond.code yX5_lets cX5_lets 3 (some .int), Cond.methodLink RX5 7 yX6_lets, Cond.superclass RX5 RX6, Cond.methodLink RX0 67 yX6_lets, Cond.selects RX6 yX6_lets yX6_lets, Cond.selects RX8 ⟨"CutAtlas$PlainKind", "lets", "(IZ)I"⟩ yX6_lets, Cond.selects RX9 ⟨"CutAtlas$PlainKind", "lets", "(IZ)I"⟩ yX9_lets, Cond.instanceMethod yX9_lets, Cond.initialized RX9, Cond.code yX9_lets cX9_lets 3 (some .int), Cond.methodLink RX0 72 yX0_asRoom, Cond.static yX0_asRoom]
def wsX11_flow_r4 : List Cond := [Cond.code yX0_asRoom cX0_asRoom 1 (some .int), Cond.constant RX0 82 (1000000), Cond.methodLink RX11 198 yX0_fill, Cond.instanceMethod yX0_fill, Cond.selects RX0 yX0_fill yX0_fill, Cond.code yX0_fill cX0_fill 5 (some .int), Cond.fieldLink RX0 19 "CutAtlas$Current" "flowing" "[I", Cond.fieldLink RX0 16 "CutAtlas$Current" "room" "[[I", Cond.methodLink RX0 83 arraycopyName, Cond.native arraycopyName, Cond.static arraycopyName, Cond.initialized "java/lang/System", Cond.methodLink RX0 89 yX0_reachedFrom, Cond.instanceMethod yX0_reachedFrom, Cond.selects RX0 yX0_reachedFrom yX0_reachedFrom, Cond.code yX0_reachedFrom cX0_reachedFrom 7 (some .int), Cond.fieldLink RX0 29 "CutAtlas$Current" "queue" "[I", Cond.methodLink RX0 93 yX0_findWay, Cond.instanceMethod yX0_findWay, Cond.selects RX0 yX0_findWay yX0_findWay, Cond.code yX0_findWay cX0_findWay 8 (some .boolean), Cond.fieldLink RX0 32 "CutAtlas$Current" "cameFrom" "[I", Cond.methodLink RX0 97 yX0_sendAlongWay, Cond.instanceMethod yX0_sendAlongWay]
def wsX11_flow_r5 : List Cond := [Cond.selects RX0 yX0_sendAlongWay yX0_sendAlongWay, Cond.code yX0_sendAlongWay cX0_sendAlongWay 6 (some .int), Cond.constant RX0 100 (1000000000), Cond.methodLink RX0 101 Lib.Math.min.name, Cond.static Lib.Math.min.name, Cond.initialized "java/lang/Math", Cond.code Lib.Math.min.name Lib.Math.min.code 2 (some .int), Cond.methodLink RX0 106 yX0_sendOver, Cond.instanceMethod yX0_sendOver, Cond.selects RX0 yX0_sendOver yX0_sendOver, Cond.code yX0_sendOver cX0_sendOver 7 none]
def wsX11_flow : List Cond := .code yX11_flow cX11_flow 4 (some .int) :: ((wsX11_flow_r1 ++ (wsX11_flow_r2 ++ (wsX11_flow_r3 ++ (wsX11_flow_r4 ++ wsX11_flow_r5)))) ++ wsX110 ++ wsX00 ++ wsX30)
def wsX11_cut_r1 : List Cond := [Cond.fieldLink RX11 31 "CutAtlas" "net" "LCutAtlas$Net;", Cond.fieldLink RX11 40 "CutAtlas" "current" "LCutAtlas$Current;", Cond.methodLink RX11 135 yX3_hasPair, Cond.instanceMethod yX3_hasPair, Cond.selects RX3 yX3_hasPair yX3_hasPair, Cond.initialized RX3, Cond.code yX3_hasPair cX3_hasPair 5 (some .boolean), Cond.methodLink RX3 34 yX3_hasPlace, Cond.instanceMethod yX3_hasPlace, Cond.selects RX3 yX3_hasPlace yX3_hasPlace, Cond.code yX3_hasPlace cX3_hasPlace 3 (some .boolean), Cond.fieldLink RX3 9 "CutAtlas$Net" "places" "I", Cond.methodLink RX11 169 yX11_mostNow, Cond.instanceMethod yX11_mostNow, Cond.selects RX11 yX11_mostNow yX11_mostNow, Cond.initialized RX11, Cond.code yX11_mostNow cX11_mostNow 3 (some .int), Cond.methodLink RX11 190 yX0_load, Cond.instanceMethod yX0_load, Cond.selects RX0 yX0_load yX0_load, Cond.initialized RX0, Cond.code yX0_load cX0_load 5 none, Cond.fieldLink RX0 35 "CutAtlas$Current" "net" "LCutAtlas$Net;", Cond.fieldLink RX0 43 "CutAtlas$Net" "places" "I"]
def wsX11_cut_r2 : List Cond := [Cond.fieldLink RX0 11 "CutAtlas$Current" "lets" "[[I", Cond.fieldLink RX0 55 "CutAtlas$Net" "lines" "I", Cond.fieldLink RX0 62 "CutAtlas$Net" "widths" "[I", Cond.fieldLink RX0 39 "CutAtlas$Current" "kinds" "[LCutAtlas$PlainKind;", Cond.fieldLink RX0 65 "CutAtlas$Net" "kinds" "[I", Cond.fieldLink RX0 23 "CutAtlas$Current" "letsForth" "[I", Cond.fieldLink RX0 26 "CutAtlas$Current" "letsBack" "[I", Cond.fieldLink RX0 76 "CutAtlas$Net" "starts" "[I", Cond.fieldLink RX0 79 "CutAtlas$Net" "ends" "[I", Cond.methodLink RX0 49 yJ7_fill_53178, Cond.static yJ7_fill_53178, Cond.initialized RJ7, Cond.code yJ7_fill_53178 cJ7_fill_53178 4 none, Cond.methodLink RX0 58 yX3_isMissing, Cond.instanceMethod yX3_isMissing, Cond.selects RX3 yX3_isMissing yX3_isMissing, Cond.code yX3_isMissing cX3_isMissing 2 (some .boolean), Cond.fieldLink RX3 22 "CutAtlas$Net" "starts" "[I", Cond.methodLink RX0 67 ⟨"CutAtlas$PlainKind", "lets", "(IZ)I"⟩, Cond.sameMethod "CutAtlas$PlainKind" "CutAtlas$PlainKind" "lets" "(IZ)I", Cond.selects RX2 ⟨"CutAtlas$PlainKind", "lets", "(IZ)I"⟩ yX6_lets, Cond.instanceMethod yX6_lets, Cond.initialized RX6, Cond.code yX6_lets cX6_lets 3 (some .int)]
def wsX11_cut_r3 : List Cond := [Cond.instanceMethod ⟨"CutAtlas$PlainKind", "lets", "(IZ)I"⟩, Cond.selects RX5 ⟨"CutAtlas$PlainKind", "lets", "(IZ)I"⟩ yX5_lets, Cond.instanceMethod yX5_lets, Cond.initialized RX5, Cond.code yX5_lets cX5_lets 3 (some .int), Cond.methodLink RX5 7 yX6_lets, Cond.superclass RX5 RX6, Cond.methodLink RX0 67 yX6_lets, Cond.selects RX6 yX6_lets yX6_lets, Cond.selects RX8 ⟨"CutAtlas$PlainKind", "lets", "(IZ)I"⟩ yX6_lets, Cond.selects RX9 ⟨"CutAtlas$PlainKind", "lets", "(IZ)I"⟩ yX9_lets, Cond.instanceMethod yX9_lets, Cond.initialized RX9, Cond.code yX9_lets cX9_lets 3 (some .int), Cond.methodLink RX0 72 yX0_asRoom, Cond.static yX0_asRoom, Cond.code yX0_asRoom cX0_asRoom 1 (some .int), Cond.constant RX0 82 (1000000), Cond.methodLink RX11 198 yX0_fill, Cond.instanceMethod yX0_fill, Cond.selects RX0 yX0_fill yX0_fill, Cond.code yX0_fill cX0_fill 5 (some .int), Cond.fieldLink RX0 19 "CutAtlas$Current" "flowing" "[I", Cond.fieldLink RX0 16 "CutAtlas$Current" "room" "[[I"]
def wsX11_cut_r4 : List Cond := [Cond.methodLink RX0 83 arraycopyName, Cond.native arraycopyName, Cond.static arraycopyName, Cond.initialized "java/lang/System", Cond.methodLink RX0 89 yX0_reachedFrom, Cond.instanceMethod yX0_reachedFrom, Cond.selects RX0 yX0_reachedFrom yX0_reachedFrom, Cond.code yX0_reachedFrom cX0_reachedFrom 7 (some .int), Cond.fieldLink RX0 29 "CutAtlas$Current" "queue" "[I", Cond.methodLink RX0 93 yX0_findWay, Cond.instanceMethod yX0_findWay, Cond.selects RX0 yX0_findWay yX0_findWay, Cond.code yX0_findWay cX0_findWay 8 (some .boolean), Cond.fieldLink RX0 32 "CutAtlas$Current" "cameFrom" "[I", Cond.methodLink RX0 97 yX0_sendAlongWay, Cond.instanceMethod yX0_sendAlongWay, Cond.selects RX0 yX0_sendAlongWay yX0_sendAlongWay, Cond.code yX0_sendAlongWay cX0_sendAlongWay 6 (some .int), Cond.constant RX0 100 (1000000000), Cond.methodLink RX0 101 Lib.Math.min.name, Cond.static Lib.Math.min.name, Cond.initialized "java/lang/Math", Cond.code Lib.Math.min.name Lib.Math.min.code 2 (some .int), Cond.methodLink RX0 106 yX0_sendOver]
def wsX11_cut_r5 : List Cond := [Cond.instanceMethod yX0_sendOver, Cond.selects RX0 yX0_sendOver yX0_sendOver, Cond.code yX0_sendOver cX0_sendOver 7 none, Cond.methodLink RX11 176 yX0_nearCut, Cond.instanceMethod yX0_nearCut, Cond.selects RX0 yX0_nearCut yX0_nearCut, Cond.code yX0_nearCut cX0_nearCut 2 (some .int), Cond.methodLink RX11 179 yX0_farCut, Cond.instanceMethod yX0_farCut, Cond.selects RX0 yX0_farCut yX0_farCut, Cond.code yX0_farCut cX0_farCut 2 (some .int), Cond.methodLink RX0 110 yX0_reaching, Cond.instanceMethod yX0_reaching, Cond.selects RX0 yX0_reaching yX0_reaching, Cond.code yX0_reaching cX0_reaching 6 (some .int)]
def wsX11_cut : List Cond := .code yX11_cut cX11_cut 4 (some .int) :: ((wsX11_cut_r1 ++ (wsX11_cut_r2 ++ (wsX11_cut_r3 ++ (wsX11_cut_r4 ++ wsX11_cut_r5)))) ++ wsX110 ++ wsX30 ++ wsX00)
def wsX11_count_r1 : List Cond := [Cond.fieldLink RX11 31 "CutAtlas" "net" "LCutAtlas$Net;", Cond.fieldLink RX11 49 "CutAtlas" "hunt" "LCutAtlas$SetHunt;", Cond.methodLink RX11 135 yX3_hasPair, Cond.instanceMethod yX3_hasPair, Cond.selects RX3 yX3_hasPair yX3_hasPair, Cond.initialized RX3, Cond.code yX3_hasPair cX3_hasPair 5 (some .boolean), Cond.methodLink RX3 34 yX3_hasPlace, Cond.instanceMethod yX3_hasPlace, Cond.selects RX3 yX3_hasPlace yX3_hasPlace, Cond.code yX3_hasPlace cX3_hasPlace 3 (some .boolean), Cond.fieldLink RX3 9 "CutAtlas$Net" "places" "I", Cond.methodLink RX11 169 yX11_mostNow, Cond.instanceMethod yX11_mostNow, Cond.selects RX11 yX11_mostNow yX11_mostNow, Cond.initialized RX11, Cond.code yX11_mostNow cX11_mostNow 3 (some .int), Cond.fieldLink RX11 40 "CutAtlas" "current" "LCutAtlas$Current;", Cond.methodLink RX11 190 yX0_load, Cond.instanceMethod yX0_load, Cond.selects RX0 yX0_load yX0_load, Cond.initialized RX0, Cond.code yX0_load cX0_load 5 none, Cond.fieldLink RX0 35 "CutAtlas$Current" "net" "LCutAtlas$Net;"]
def wsX11_count_r2 : List Cond := [Cond.fieldLink RX0 43 "CutAtlas$Net" "places" "I", Cond.fieldLink RX0 11 "CutAtlas$Current" "lets" "[[I", Cond.fieldLink RX0 55 "CutAtlas$Net" "lines" "I", Cond.fieldLink RX0 62 "CutAtlas$Net" "widths" "[I", Cond.fieldLink RX0 39 "CutAtlas$Current" "kinds" "[LCutAtlas$PlainKind;", Cond.fieldLink RX0 65 "CutAtlas$Net" "kinds" "[I", Cond.fieldLink RX0 23 "CutAtlas$Current" "letsForth" "[I", Cond.fieldLink RX0 26 "CutAtlas$Current" "letsBack" "[I", Cond.fieldLink RX0 76 "CutAtlas$Net" "starts" "[I", Cond.fieldLink RX0 79 "CutAtlas$Net" "ends" "[I", Cond.methodLink RX0 49 yJ7_fill_53178, Cond.static yJ7_fill_53178, Cond.initialized RJ7, Cond.code yJ7_fill_53178 cJ7_fill_53178 4 none, Cond.methodLink RX0 58 yX3_isMissing, Cond.instanceMethod yX3_isMissing, Cond.selects RX3 yX3_isMissing yX3_isMissing, Cond.code yX3_isMissing cX3_isMissing 2 (some .boolean), Cond.fieldLink RX3 22 "CutAtlas$Net" "starts" "[I", Cond.methodLink RX0 67 ⟨"CutAtlas$PlainKind", "lets", "(IZ)I"⟩, Cond.sameMethod "CutAtlas$PlainKind" "CutAtlas$PlainKind" "lets" "(IZ)I", Cond.selects RX2 ⟨"CutAtlas$PlainKind", "lets", "(IZ)I"⟩ yX6_lets, Cond.instanceMethod yX6_lets, Cond.initialized RX6]
def wsX11_count_r3 : List Cond := [Cond.code yX6_lets cX6_lets 3 (some .int), Cond.instanceMethod ⟨"CutAtlas$PlainKind", "lets", "(IZ)I"⟩, Cond.selects RX5 ⟨"CutAtlas$PlainKind", "lets", "(IZ)I"⟩ yX5_lets, Cond.instanceMethod yX5_lets, Cond.initialized RX5, Cond.code yX5_lets cX5_lets 3 (some .int), Cond.methodLink RX5 7 yX6_lets, Cond.superclass RX5 RX6, Cond.methodLink RX0 67 yX6_lets, Cond.selects RX6 yX6_lets yX6_lets, Cond.selects RX8 ⟨"CutAtlas$PlainKind", "lets", "(IZ)I"⟩ yX6_lets, Cond.selects RX9 ⟨"CutAtlas$PlainKind", "lets", "(IZ)I"⟩ yX9_lets, Cond.instanceMethod yX9_lets, Cond.initialized RX9, Cond.code yX9_lets cX9_lets 3 (some .int), Cond.methodLink RX0 72 yX0_asRoom, Cond.static yX0_asRoom, Cond.code yX0_asRoom cX0_asRoom 1 (some .int), Cond.constant RX0 82 (1000000), Cond.methodLink RX11 198 yX0_fill, Cond.instanceMethod yX0_fill, Cond.selects RX0 yX0_fill yX0_fill, Cond.code yX0_fill cX0_fill 5 (some .int), Cond.fieldLink RX0 19 "CutAtlas$Current" "flowing" "[I"]
def wsX11_count_r4 : List Cond := [Cond.fieldLink RX0 16 "CutAtlas$Current" "room" "[[I", Cond.methodLink RX0 83 arraycopyName, Cond.native arraycopyName, Cond.static arraycopyName, Cond.initialized "java/lang/System", Cond.methodLink RX0 89 yX0_reachedFrom, Cond.instanceMethod yX0_reachedFrom, Cond.selects RX0 yX0_reachedFrom yX0_reachedFrom, Cond.code yX0_reachedFrom cX0_reachedFrom 7 (some .int), Cond.fieldLink RX0 29 "CutAtlas$Current" "queue" "[I", Cond.methodLink RX0 93 yX0_findWay, Cond.instanceMethod yX0_findWay, Cond.selects RX0 yX0_findWay yX0_findWay, Cond.code yX0_findWay cX0_findWay 8 (some .boolean), Cond.fieldLink RX0 32 "CutAtlas$Current" "cameFrom" "[I", Cond.methodLink RX0 97 yX0_sendAlongWay, Cond.instanceMethod yX0_sendAlongWay, Cond.selects RX0 yX0_sendAlongWay yX0_sendAlongWay, Cond.code yX0_sendAlongWay cX0_sendAlongWay 6 (some .int), Cond.constant RX0 100 (1000000000), Cond.methodLink RX0 101 Lib.Math.min.name, Cond.static Lib.Math.min.name, Cond.initialized "java/lang/Math", Cond.code Lib.Math.min.name Lib.Math.min.code 2 (some .int)]
def wsX11_count_r5 : List Cond := [Cond.methodLink RX0 106 yX0_sendOver, Cond.instanceMethod yX0_sendOver, Cond.selects RX0 yX0_sendOver yX0_sendOver, Cond.code yX0_sendOver cX0_sendOver 7 none, Cond.methodLink RX11 182 yX7_countCuts, Cond.instanceMethod yX7_countCuts, Cond.selects RX7 yX7_countCuts yX7_countCuts, Cond.initialized RX7, Cond.code yX7_countCuts cX7_countCuts 4 (some .int), Cond.constant RX7 15 (1000000000), Cond.fieldLink RX7 20 "CutAtlas$SetHunt" "met" "I", Cond.methodLink RX7 16 yX7_hunt, Cond.instanceMethod yX7_hunt, Cond.selects RX7 yX7_hunt yX7_hunt, Cond.code yX7_hunt cX7_hunt 5 none, Cond.fieldLink RX7 27 "CutAtlas$SetHunt" "must" "I", Cond.fieldLink RX7 30 "CutAtlas$SetHunt" "mustNot" "I", Cond.fieldLink RX7 33 "CutAtlas$SetHunt" "aim" "I", Cond.fieldLink RX7 36 "CutAtlas$SetHunt" "wanted" "I", Cond.fieldLink RX7 24 "CutAtlas$SetHunt" "found" "I", Cond.fieldLink RX7 9 "CutAtlas$SetHunt" "current" "LCutAtlas$Current;", Cond.fieldLink RX7 39 "CutAtlas$Current" "net" "LCutAtlas$Net;", Cond.fieldLink RX7 45 "CutAtlas$Net" "places" "I", Cond.methodLink RX7 50 yX7_chooseForCut]
def wsX11_count_r6 : List Cond := [Cond.instanceMethod yX7_chooseForCut, Cond.selects RX7 yX7_chooseForCut yX7_chooseForCut, Cond.code yX7_chooseForCut cX7_chooseForCut 5 none, Cond.methodLink RX7 54 yX7_meet, Cond.instanceMethod yX7_meet, Cond.selects RX7 yX7_meet yX7_meet, Cond.code yX7_meet cX7_meet 3 none, Cond.methodLink RX7 58 yX7_letIn, Cond.instanceMethod yX7_letIn, Cond.selects RX7 yX7_letIn yX7_letIn, Cond.code yX7_letIn cX7_letIn 5 (some .int), Cond.fieldLink RX7 65 "CutAtlas$Current" "lets" "[[I", Cond.methodLink RX7 62 yX7_letOut, Cond.instanceMethod yX7_letOut, Cond.selects RX7 yX7_letOut yX7_letOut, Cond.code yX7_letOut cX7_letOut 5 (some .int)]
def wsX11_count : List Cond := .code yX11_count cX11_count 4 (some .int) :: ((wsX11_count_r1 ++ (wsX11_count_r2 ++ (wsX11_count_r3 ++ (wsX11_count_r4 ++ (wsX11_count_r5 ++ wsX11_count_r6))))) ++ wsX110 ++ wsX30 ++ wsX00 ++ wsX70)
def wsX11_next_r1 : List Cond := [Cond.fieldLink RX11 31 "CutAtlas" "net" "LCutAtlas$Net;", Cond.fieldLink RX11 49 "CutAtlas" "hunt" "LCutAtlas$SetHunt;", Cond.methodLink RX11 135 yX3_hasPair, Cond.instanceMethod yX3_hasPair, Cond.selects RX3 yX3_hasPair yX3_hasPair, Cond.initialized RX3, Cond.code yX3_hasPair cX3_hasPair 5 (some .boolean), Cond.methodLink RX3 34 yX3_hasPlace, Cond.instanceMethod yX3_hasPlace, Cond.selects RX3 yX3_hasPlace yX3_hasPlace, Cond.code yX3_hasPlace cX3_hasPlace 3 (some .boolean), Cond.fieldLink RX3 9 "CutAtlas$Net" "places" "I", Cond.methodLink RX11 169 yX11_mostNow, Cond.instanceMethod yX11_mostNow, Cond.selects RX11 yX11_mostNow yX11_mostNow, Cond.initialized RX11, Cond.code yX11_mostNow cX11_mostNow 3 (some .int), Cond.fieldLink RX11 40 "CutAtlas" "current" "LCutAtlas$Current;", Cond.methodLink RX11 190 yX0_load, Cond.instanceMethod yX0_load, Cond.selects RX0 yX0_load yX0_load, Cond.initialized RX0, Cond.code yX0_load cX0_load 5 none, Cond.fieldLink RX0 35 "CutAtlas$Current" "net" "LCutAtlas$Net;"]
def wsX11_next_r2 : List Cond := [Cond.fieldLink RX0 43 "CutAtlas$Net" "places" "I", Cond.fieldLink RX0 11 "CutAtlas$Current" "lets" "[[I", Cond.fieldLink RX0 55 "CutAtlas$Net" "lines" "I", Cond.fieldLink RX0 62 "CutAtlas$Net" "widths" "[I", Cond.fieldLink RX0 39 "CutAtlas$Current" "kinds" "[LCutAtlas$PlainKind;", Cond.fieldLink RX0 65 "CutAtlas$Net" "kinds" "[I", Cond.fieldLink RX0 23 "CutAtlas$Current" "letsForth" "[I", Cond.fieldLink RX0 26 "CutAtlas$Current" "letsBack" "[I", Cond.fieldLink RX0 76 "CutAtlas$Net" "starts" "[I", Cond.fieldLink RX0 79 "CutAtlas$Net" "ends" "[I", Cond.methodLink RX0 49 yJ7_fill_53178, Cond.static yJ7_fill_53178, Cond.initialized RJ7, Cond.code yJ7_fill_53178 cJ7_fill_53178 4 none, Cond.methodLink RX0 58 yX3_isMissing, Cond.instanceMethod yX3_isMissing, Cond.selects RX3 yX3_isMissing yX3_isMissing, Cond.code yX3_isMissing cX3_isMissing 2 (some .boolean), Cond.fieldLink RX3 22 "CutAtlas$Net" "starts" "[I", Cond.methodLink RX0 67 ⟨"CutAtlas$PlainKind", "lets", "(IZ)I"⟩, Cond.sameMethod "CutAtlas$PlainKind" "CutAtlas$PlainKind" "lets" "(IZ)I", Cond.selects RX2 ⟨"CutAtlas$PlainKind", "lets", "(IZ)I"⟩ yX6_lets, Cond.instanceMethod yX6_lets, Cond.initialized RX6]
def wsX11_next_r3 : List Cond := [Cond.code yX6_lets cX6_lets 3 (some .int), Cond.instanceMethod ⟨"CutAtlas$PlainKind", "lets", "(IZ)I"⟩, Cond.selects RX5 ⟨"CutAtlas$PlainKind", "lets", "(IZ)I"⟩ yX5_lets, Cond.instanceMethod yX5_lets, Cond.initialized RX5, Cond.code yX5_lets cX5_lets 3 (some .int), Cond.methodLink RX5 7 yX6_lets, Cond.superclass RX5 RX6, Cond.methodLink RX0 67 yX6_lets, Cond.selects RX6 yX6_lets yX6_lets, Cond.selects RX8 ⟨"CutAtlas$PlainKind", "lets", "(IZ)I"⟩ yX6_lets, Cond.selects RX9 ⟨"CutAtlas$PlainKind", "lets", "(IZ)I"⟩ yX9_lets, Cond.instanceMethod yX9_lets, Cond.initialized RX9, Cond.code yX9_lets cX9_lets 3 (some .int), Cond.methodLink RX0 72 yX0_asRoom, Cond.static yX0_asRoom, Cond.code yX0_asRoom cX0_asRoom 1 (some .int), Cond.constant RX0 82 (1000000), Cond.methodLink RX11 198 yX0_fill, Cond.instanceMethod yX0_fill, Cond.selects RX0 yX0_fill yX0_fill, Cond.code yX0_fill cX0_fill 5 (some .int), Cond.fieldLink RX0 19 "CutAtlas$Current" "flowing" "[I"]
def wsX11_next_r4 : List Cond := [Cond.fieldLink RX0 16 "CutAtlas$Current" "room" "[[I", Cond.methodLink RX0 83 arraycopyName, Cond.native arraycopyName, Cond.static arraycopyName, Cond.initialized "java/lang/System", Cond.methodLink RX0 89 yX0_reachedFrom, Cond.instanceMethod yX0_reachedFrom, Cond.selects RX0 yX0_reachedFrom yX0_reachedFrom, Cond.code yX0_reachedFrom cX0_reachedFrom 7 (some .int), Cond.fieldLink RX0 29 "CutAtlas$Current" "queue" "[I", Cond.methodLink RX0 93 yX0_findWay, Cond.instanceMethod yX0_findWay, Cond.selects RX0 yX0_findWay yX0_findWay, Cond.code yX0_findWay cX0_findWay 8 (some .boolean), Cond.fieldLink RX0 32 "CutAtlas$Current" "cameFrom" "[I", Cond.methodLink RX0 97 yX0_sendAlongWay, Cond.instanceMethod yX0_sendAlongWay, Cond.selects RX0 yX0_sendAlongWay yX0_sendAlongWay, Cond.code yX0_sendAlongWay cX0_sendAlongWay 6 (some .int), Cond.constant RX0 100 (1000000000), Cond.methodLink RX0 101 Lib.Math.min.name, Cond.static Lib.Math.min.name, Cond.initialized "java/lang/Math", Cond.code Lib.Math.min.name Lib.Math.min.code 2 (some .int)]
def wsX11_next_r5 : List Cond := [Cond.methodLink RX0 106 yX0_sendOver, Cond.instanceMethod yX0_sendOver, Cond.selects RX0 yX0_sendOver yX0_sendOver, Cond.code yX0_sendOver cX0_sendOver 7 none, Cond.methodLink RX11 186 yX7_findCut, Cond.instanceMethod yX7_findCut, Cond.selects RX7 yX7_findCut yX7_findCut, Cond.initialized RX7, Cond.code yX7_findCut cX7_findCut 5 (some .int), Cond.fieldLink RX7 24 "CutAtlas$SetHunt" "found" "I", Cond.methodLink RX7 16 yX7_hunt, Cond.instanceMethod yX7_hunt, Cond.selects RX7 yX7_hunt yX7_hunt, Cond.code yX7_hunt cX7_hunt 5 none, Cond.fieldLink RX7 27 "CutAtlas$SetHunt" "must" "I", Cond.fieldLink RX7 30 "CutAtlas$SetHunt" "mustNot" "I", Cond.fieldLink RX7 33 "CutAtlas$SetHunt" "aim" "I", Cond.fieldLink RX7 36 "CutAtlas$SetHunt" "wanted" "I", Cond.fieldLink RX7 20 "CutAtlas$SetHunt" "met" "I", Cond.fieldLink RX7 9 "CutAtlas$SetHunt" "current" "LCutAtlas$Current;", Cond.fieldLink RX7 39 "CutAtlas$Current" "net" "LCutAtlas$Net;", Cond.fieldLink RX7 45 "CutAtlas$Net" "places" "I", Cond.methodLink RX7 50 yX7_chooseForCut, Cond.instanceMethod yX7_chooseForCut]
def wsX11_next_r6 : List Cond := [Cond.selects RX7 yX7_chooseForCut yX7_chooseForCut, Cond.code yX7_chooseForCut cX7_chooseForCut 5 none, Cond.methodLink RX7 54 yX7_meet, Cond.instanceMethod yX7_meet, Cond.selects RX7 yX7_meet yX7_meet, Cond.code yX7_meet cX7_meet 3 none, Cond.methodLink RX7 58 yX7_letIn, Cond.instanceMethod yX7_letIn, Cond.selects RX7 yX7_letIn yX7_letIn, Cond.code yX7_letIn cX7_letIn 5 (some .int), Cond.fieldLink RX7 65 "CutAtlas$Current" "lets" "[[I", Cond.methodLink RX7 62 yX7_letOut, Cond.instanceMethod yX7_letOut, Cond.selects RX7 yX7_letOut yX7_letOut, Cond.code yX7_letOut cX7_letOut 5 (some .int)]
def wsX11_next : List Cond := .code yX11_next cX11_next 5 (some .int) :: ((wsX11_next_r1 ++ (wsX11_next_r2 ++ (wsX11_next_r3 ++ (wsX11_next_r4 ++ (wsX11_next_r5 ++ wsX11_next_r6))))) ++ wsX110 ++ wsX30 ++ wsX00 ++ wsX70)
def wsX11_size_r1 : List Cond := [Cond.fieldLink RX11 31 "CutAtlas" "net" "LCutAtlas$Net;", Cond.fieldLink RX11 40 "CutAtlas" "current" "LCutAtlas$Current;", Cond.constant RX11 197 (1000000), Cond.methodLink RX11 135 yX3_hasPair, Cond.instanceMethod yX3_hasPair, Cond.selects RX3 yX3_hasPair yX3_hasPair, Cond.initialized RX3, Cond.code yX3_hasPair cX3_hasPair 5 (some .boolean), Cond.methodLink RX3 34 yX3_hasPlace, Cond.instanceMethod yX3_hasPlace, Cond.selects RX3 yX3_hasPlace yX3_hasPlace, Cond.code yX3_hasPlace cX3_hasPlace 3 (some .boolean), Cond.fieldLink RX3 9 "CutAtlas$Net" "places" "I", Cond.methodLink RX11 190 yX0_load, Cond.instanceMethod yX0_load, Cond.selects RX0 yX0_load yX0_load, Cond.initialized RX0, Cond.code yX0_load cX0_load 5 none, Cond.fieldLink RX0 35 "CutAtlas$Current" "net" "LCutAtlas$Net;", Cond.fieldLink RX0 43 "CutAtlas$Net" "places" "I", Cond.fieldLink RX0 11 "CutAtlas$Current" "lets" "[[I", Cond.fieldLink RX0 55 "CutAtlas$Net" "lines" "I", Cond.fieldLink RX0 62 "CutAtlas$Net" "widths" "[I", Cond.fieldLink RX0 39 "CutAtlas$Current" "kinds" "[LCutAtlas$PlainKind;"]
def wsX11_size_r2 : List Cond := [Cond.fieldLink RX0 65 "CutAtlas$Net" "kinds" "[I", Cond.fieldLink RX0 23 "CutAtlas$Current" "letsForth" "[I", Cond.fieldLink RX0 26 "CutAtlas$Current" "letsBack" "[I", Cond.fieldLink RX0 76 "CutAtlas$Net" "starts" "[I", Cond.fieldLink RX0 79 "CutAtlas$Net" "ends" "[I", Cond.methodLink RX0 49 yJ7_fill_53178, Cond.static yJ7_fill_53178, Cond.initialized RJ7, Cond.code yJ7_fill_53178 cJ7_fill_53178 4 none, Cond.methodLink RX0 58 yX3_isMissing, Cond.instanceMethod yX3_isMissing, Cond.selects RX3 yX3_isMissing yX3_isMissing, Cond.code yX3_isMissing cX3_isMissing 2 (some .boolean), Cond.fieldLink RX3 22 "CutAtlas$Net" "starts" "[I", Cond.methodLink RX0 67 ⟨"CutAtlas$PlainKind", "lets", "(IZ)I"⟩, Cond.sameMethod "CutAtlas$PlainKind" "CutAtlas$PlainKind" "lets" "(IZ)I", Cond.selects RX2 ⟨"CutAtlas$PlainKind", "lets", "(IZ)I"⟩ yX6_lets, Cond.instanceMethod yX6_lets, Cond.initialized RX6, Cond.code yX6_lets cX6_lets 3 (some .int), Cond.instanceMethod ⟨"CutAtlas$PlainKind", "lets", "(IZ)I"⟩, Cond.selects RX5 ⟨"CutAtlas$PlainKind", "lets", "(IZ)I"⟩ yX5_lets, Cond.instanceMethod yX5_lets, Cond.initialized RX5]
def wsX11_size_r3 : List Cond := [Cond.code yX5_lets cX5_lets 3 (some .int), Cond.methodLink RX5 7 yX6_lets, Cond.superclass RX5 RX6, Cond.methodLink RX0 67 yX6_lets, Cond.selects RX6 yX6_lets yX6_lets, Cond.selects RX8 ⟨"CutAtlas$PlainKind", "lets", "(IZ)I"⟩ yX6_lets, Cond.selects RX9 ⟨"CutAtlas$PlainKind", "lets", "(IZ)I"⟩ yX9_lets, Cond.instanceMethod yX9_lets, Cond.initialized RX9, Cond.code yX9_lets cX9_lets 3 (some .int), Cond.methodLink RX0 72 yX0_asRoom, Cond.static yX0_asRoom, Cond.code yX0_asRoom cX0_asRoom 1 (some .int), Cond.constant RX0 82 (1000000), Cond.methodLink RX11 194 yX0_leaving, Cond.instanceMethod yX0_leaving, Cond.selects RX0 yX0_leaving yX0_leaving, Cond.code yX0_leaving cX0_leaving 4 (some .int), Cond.methodLink RX0 113 yX0_betweenSets, Cond.instanceMethod yX0_betweenSets, Cond.selects RX0 yX0_betweenSets yX0_betweenSets, Cond.code yX0_betweenSets cX0_betweenSets 5 (some .int)]
def wsX11_size : List Cond := .code yX11_size cX11_size 5 (some .int) :: ((wsX11_size_r1 ++ (wsX11_size_r2 ++ wsX11_size_r3)) ++ wsX110 ++ wsX30 ++ wsX00)
def wsX11_raise_r1 : List Cond := [Cond.fieldLink RX11 31 "CutAtlas" "net" "LCutAtlas$Net;", Cond.fieldLink RX11 40 "CutAtlas" "current" "LCutAtlas$Current;", Cond.methodLink RX11 135 yX3_hasPair, Cond.instanceMethod yX3_hasPair, Cond.selects RX3 yX3_hasPair yX3_hasPair, Cond.initialized RX3, Cond.code yX3_hasPair cX3_hasPair 5 (some .boolean), Cond.methodLink RX3 34 yX3_hasPlace, Cond.instanceMethod yX3_hasPlace, Cond.selects RX3 yX3_hasPlace yX3_hasPlace, Cond.code yX3_hasPlace cX3_hasPlace 3 (some .boolean), Cond.fieldLink RX3 9 "CutAtlas$Net" "places" "I", Cond.methodLink RX11 112 yX3_hasLine, Cond.instanceMethod yX3_hasLine, Cond.selects RX3 yX3_hasLine yX3_hasLine, Cond.code yX3_hasLine cX3_hasLine 2 (some .boolean), Cond.fieldLink RX3 15 "CutAtlas$Net" "lines" "I", Cond.methodLink RX11 126 yX3_isMissing, Cond.instanceMethod yX3_isMissing, Cond.selects RX3 yX3_isMissing yX3_isMissing, Cond.code yX3_isMissing cX3_isMissing 2 (some .boolean), Cond.fieldLink RX3 22 "CutAtlas$Net" "starts" "[I", Cond.methodLink RX11 190 yX0_load, Cond.instanceMethod yX0_load]
def wsX11_raise_r2 : List Cond := [Cond.selects RX0 yX0_load yX0_load, Cond.initialized RX0, Cond.code yX0_load cX0_load 5 none, Cond.fieldLink RX0 35 "CutAtlas$Current" "net" "LCutAtlas$Net;", Cond.fieldLink RX0 43 "CutAtlas$Net" "places" "I", Cond.fieldLink RX0 11 "CutAtlas$Current" "lets" "[[I", Cond.fieldLink RX0 55 "CutAtlas$Net" "lines" "I", Cond.fieldLink RX0 62 "CutAtlas$Net" "widths" "[I", Cond.fieldLink RX0 39 "CutAtlas$Current" "kinds" "[LCutAtlas$PlainKind;", Cond.fieldLink RX0 65 "CutAtlas$Net" "kinds" "[I", Cond.fieldLink RX0 23 "CutAtlas$Current" "letsForth" "[I", Cond.fieldLink RX0 26 "CutAtlas$Current" "letsBack" "[I", Cond.fieldLink RX0 76 "CutAtlas$Net" "starts" "[I", Cond.fieldLink RX0 79 "CutAtlas$Net" "ends" "[I", Cond.methodLink RX0 49 yJ7_fill_53178, Cond.static yJ7_fill_53178, Cond.initialized RJ7, Cond.code yJ7_fill_53178 cJ7_fill_53178 4 none, Cond.methodLink RX0 58 yX3_isMissing, Cond.methodLink RX0 67 ⟨"CutAtlas$PlainKind", "lets", "(IZ)I"⟩, Cond.sameMethod "CutAtlas$PlainKind" "CutAtlas$PlainKind" "lets" "(IZ)I", Cond.selects RX2 ⟨"CutAtlas$PlainKind", "lets", "(IZ)I"⟩ yX6_lets, Cond.instanceMethod yX6_lets, Cond.initialized RX6]
def wsX11_raise_r3 : List Cond := [Cond.code yX6_lets cX6_lets 3 (some .int), Cond.instanceMethod ⟨"CutAtlas$PlainKind", "lets", "(IZ)I"⟩, Cond.selects RX5 ⟨"CutAtlas$PlainKind", "lets", "(IZ)I"⟩ yX5_lets, Cond.instanceMethod yX5_lets, Cond.initialized RX5, Cond.code yX5_lets cX5_lets 3 (some .int), Cond.methodLink RX5 7 yX6_lets, Cond.superclass RX5 RX6, Cond.methodLink RX0 67 yX6_lets, Cond.selects RX6 yX6_lets yX6_lets, Cond.selects RX8 ⟨"CutAtlas$PlainKind", "lets", "(IZ)I"⟩ yX6_lets, Cond.selects RX9 ⟨"CutAtlas$PlainKind", "lets", "(IZ)I"⟩ yX9_lets, Cond.instanceMethod yX9_lets, Cond.initialized RX9, Cond.code yX9_lets cX9_lets 3 (some .int), Cond.methodLink RX0 72 yX0_asRoom, Cond.static yX0_asRoom, Cond.code yX0_asRoom cX0_asRoom 1 (some .int), Cond.constant RX0 82 (1000000), Cond.methodLink RX11 198 yX0_fill, Cond.instanceMethod yX0_fill, Cond.selects RX0 yX0_fill yX0_fill, Cond.code yX0_fill cX0_fill 5 (some .int), Cond.fieldLink RX0 19 "CutAtlas$Current" "flowing" "[I"]
def wsX11_raise_r4 : List Cond := [Cond.fieldLink RX0 16 "CutAtlas$Current" "room" "[[I", Cond.methodLink RX0 83 arraycopyName, Cond.native arraycopyName, Cond.static arraycopyName, Cond.initialized "java/lang/System", Cond.methodLink RX0 89 yX0_reachedFrom, Cond.instanceMethod yX0_reachedFrom, Cond.selects RX0 yX0_reachedFrom yX0_reachedFrom, Cond.code yX0_reachedFrom cX0_reachedFrom 7 (some .int), Cond.fieldLink RX0 29 "CutAtlas$Current" "queue" "[I", Cond.methodLink RX0 93 yX0_findWay, Cond.instanceMethod yX0_findWay, Cond.selects RX0 yX0_findWay yX0_findWay, Cond.code yX0_findWay cX0_findWay 8 (some .boolean), Cond.fieldLink RX0 32 "CutAtlas$Current" "cameFrom" "[I", Cond.methodLink RX0 97 yX0_sendAlongWay, Cond.instanceMethod yX0_sendAlongWay, Cond.selects RX0 yX0_sendAlongWay yX0_sendAlongWay, Cond.code yX0_sendAlongWay cX0_sendAlongWay 6 (some .int), Cond.constant RX0 100 (1000000000), Cond.methodLink RX0 101 Lib.Math.min.name, Cond.static Lib.Math.min.name, Cond.initialized "java/lang/Math", Cond.code Lib.Math.min.name Lib.Math.min.code 2 (some .int)]
def wsX11_raise_r5 : List Cond := [Cond.methodLink RX0 106 yX0_sendOver, Cond.instanceMethod yX0_sendOver, Cond.selects RX0 yX0_sendOver yX0_sendOver, Cond.code yX0_sendOver cX0_sendOver 7 none]
def wsX11_raise : List Cond := .code yX11_raise cX11_raise 4 (some .int) :: ((wsX11_raise_r1 ++ (wsX11_raise_r2 ++ (wsX11_raise_r3 ++ (wsX11_raise_r4 ++ wsX11_raise_r5)))) ++ wsX110 ++ wsX30 ++ wsX00)
def wsX11_cheapest_r1 : List Cond := [Cond.fieldLink RX11 31 "CutAtlas" "net" "LCutAtlas$Net;", Cond.fieldLink RX11 65 "CutAtlas" "widening" "LCutAtlas$Widening;", Cond.methodLink RX11 135 yX3_hasPair, Cond.instanceMethod yX3_hasPair, Cond.selects RX3 yX3_hasPair yX3_hasPair, Cond.initialized RX3, Cond.code yX3_hasPair cX3_hasPair 5 (some .boolean), Cond.methodLink RX3 34 yX3_hasPlace, Cond.instanceMethod yX3_hasPlace, Cond.selects RX3 yX3_hasPlace yX3_hasPlace, Cond.code yX3_hasPlace cX3_hasPlace 3 (some .boolean), Cond.fieldLink RX3 9 "CutAtlas$Net" "places" "I", Cond.methodLink RX11 169 yX11_mostNow, Cond.instanceMethod yX11_mostNow, Cond.selects RX11 yX11_mostNow yX11_mostNow, Cond.initialized RX11, Cond.code yX11_mostNow cX11_mostNow 3 (some .int), Cond.fieldLink RX11 40 "CutAtlas" "current" "LCutAtlas$Current;", Cond.methodLink RX11 190 yX0_load, Cond.instanceMethod yX0_load, Cond.selects RX0 yX0_load yX0_load, Cond.initialized RX0, Cond.code yX0_load cX0_load 5 none, Cond.fieldLink RX0 35 "CutAtlas$Current" "net" "LCutAtlas$Net;"]
def wsX11_cheapest_r2 : List Cond := [Cond.fieldLink RX0 43 "CutAtlas$Net" "places" "I", Cond.fieldLink RX0 11 "CutAtlas$Current" "lets" "[[I", Cond.fieldLink RX0 55 "CutAtlas$Net" "lines" "I", Cond.fieldLink RX0 62 "CutAtlas$Net" "widths" "[I", Cond.fieldLink RX0 39 "CutAtlas$Current" "kinds" "[LCutAtlas$PlainKind;", Cond.fieldLink RX0 65 "CutAtlas$Net" "kinds" "[I", Cond.fieldLink RX0 23 "CutAtlas$Current" "letsForth" "[I", Cond.fieldLink RX0 26 "CutAtlas$Current" "letsBack" "[I", Cond.fieldLink RX0 76 "CutAtlas$Net" "starts" "[I", Cond.fieldLink RX0 79 "CutAtlas$Net" "ends" "[I", Cond.methodLink RX0 49 yJ7_fill_53178, Cond.static yJ7_fill_53178, Cond.initialized RJ7, Cond.code yJ7_fill_53178 cJ7_fill_53178 4 none, Cond.methodLink RX0 58 yX3_isMissing, Cond.instanceMethod yX3_isMissing, Cond.selects RX3 yX3_isMissing yX3_isMissing, Cond.code yX3_isMissing cX3_isMissing 2 (some .boolean), Cond.fieldLink RX3 22 "CutAtlas$Net" "starts" "[I", Cond.methodLink RX0 67 ⟨"CutAtlas$PlainKind", "lets", "(IZ)I"⟩, Cond.sameMethod "CutAtlas$PlainKind" "CutAtlas$PlainKind" "lets" "(IZ)I", Cond.selects RX2 ⟨"CutAtlas$PlainKind", "lets", "(IZ)I"⟩ yX6_lets, Cond.instanceMethod yX6_lets, Cond.initialized RX6]
def wsX11_cheapest_r3 : List Cond := [Cond.code yX6_lets cX6_lets 3 (some .int), Cond.instanceMethod ⟨"CutAtlas$PlainKind", "lets", "(IZ)I"⟩, Cond.selects RX5 ⟨"CutAtlas$PlainKind", "lets", "(IZ)I"⟩ yX5_lets, Cond.instanceMethod yX5_lets, Cond.initialized RX5, Cond.code yX5_lets cX5_lets 3 (some .int), Cond.methodLink RX5 7 yX6_lets, Cond.superclass RX5 RX6, Cond.methodLink RX0 67 yX6_lets, Cond.selects RX6 yX6_lets yX6_lets, Cond.selects RX8 ⟨"CutAtlas$PlainKind", "lets", "(IZ)I"⟩ yX6_lets, Cond.selects RX9 ⟨"CutAtlas$PlainKind", "lets", "(IZ)I"⟩ yX9_lets, Cond.instanceMethod yX9_lets, Cond.initialized RX9, Cond.code yX9_lets cX9_lets 3 (some .int), Cond.methodLink RX0 72 yX0_asRoom, Cond.static yX0_asRoom, Cond.code yX0_asRoom cX0_asRoom 1 (some .int), Cond.constant RX0 82 (1000000), Cond.methodLink RX11 198 yX0_fill, Cond.instanceMethod yX0_fill, Cond.selects RX0 yX0_fill yX0_fill, Cond.code yX0_fill cX0_fill 5 (some .int), Cond.fieldLink RX0 19 "CutAtlas$Current" "flowing" "[I"]
def wsX11_cheapest_r4 : List Cond := [Cond.fieldLink RX0 16 "CutAtlas$Current" "room" "[[I", Cond.methodLink RX0 83 arraycopyName, Cond.native arraycopyName, Cond.static arraycopyName, Cond.initialized "java/lang/System", Cond.methodLink RX0 89 yX0_reachedFrom, Cond.instanceMethod yX0_reachedFrom, Cond.selects RX0 yX0_reachedFrom yX0_reachedFrom, Cond.code yX0_reachedFrom cX0_reachedFrom 7 (some .int), Cond.fieldLink RX0 29 "CutAtlas$Current" "queue" "[I", Cond.methodLink RX0 93 yX0_findWay, Cond.instanceMethod yX0_findWay, Cond.selects RX0 yX0_findWay yX0_findWay, Cond.code yX0_findWay cX0_findWay 8 (some .boolean), Cond.fieldLink RX0 32 "CutAtlas$Current" "cameFrom" "[I", Cond.methodLink RX0 97 yX0_sendAlongWay, Cond.instanceMethod yX0_sendAlongWay, Cond.selects RX0 yX0_sendAlongWay yX0_sendAlongWay, Cond.code yX0_sendAlongWay cX0_sendAlongWay 6 (some .int), Cond.constant RX0 100 (1000000000), Cond.methodLink RX0 101 Lib.Math.min.name, Cond.static Lib.Math.min.name, Cond.initialized "java/lang/Math", Cond.code Lib.Math.min.name Lib.Math.min.code 2 (some .int)]
def wsX11_cheapest_r5 : List Cond := [Cond.methodLink RX0 106 yX0_sendOver, Cond.instanceMethod yX0_sendOver, Cond.selects RX0 yX0_sendOver yX0_sendOver, Cond.code yX0_sendOver cX0_sendOver 7 none, Cond.methodLink RX11 201 yX10_pay, Cond.instanceMethod yX10_pay, Cond.selects RX10 yX10_pay yX10_pay, Cond.initialized RX10, Cond.code yX10_pay cX10_pay 8 (some .int), Cond.fieldLink RX10 16 "CutAtlas$Widening" "costs" "[I", Cond.constant RX10 38 (1000000000), Cond.methodLink RX10 31 yX10_findPrices, Cond.instanceMethod yX10_findPrices, Cond.selects RX10 yX10_findPrices yX10_findPrices, Cond.code yX10_findPrices cX10_findPrices 6 none, Cond.fieldLink RX10 23 "CutAtlas$Widening" "current" "LCutAtlas$Current;", Cond.fieldLink RX10 47 "CutAtlas$Current" "net" "LCutAtlas$Net;", Cond.fieldLink RX10 53 "CutAtlas$Net" "places" "I", Cond.fieldLink RX10 11 "CutAtlas$Widening" "prices" "[[I", Cond.fieldLink RX10 65 "CutAtlas$Net" "lines" "I", Cond.fieldLink RX10 27 "CutAtlas$Widening" "kinds" "[LCutAtlas$PlainKind;", Cond.fieldLink RX10 68 "CutAtlas$Net" "kinds" "[I", Cond.fieldLink RX10 70 "CutAtlas$Net" "prices" "[I", Cond.fieldLink RX10 81 "CutAtlas$Net" "starts" "[I"]
def wsX11_cheapest_r6 : List Cond := [Cond.fieldLink RX10 84 "CutAtlas$Net" "ends" "[I", Cond.methodLink RX10 87 Lib.Math.min.name, Cond.methodLink RX10 59 yJ7_fill_53178, Cond.methodLink RX10 72 ⟨"CutAtlas$PlainKind", "costs", "(I)I"⟩, Cond.sameMethod "CutAtlas$PlainKind" "CutAtlas$PlainKind" "costs" "(I)I", Cond.instanceMethod ⟨"CutAtlas$PlainKind", "costs", "(I)I"⟩, Cond.selects RX2 ⟨"CutAtlas$PlainKind", "costs", "(I)I"⟩ yX2_costs, Cond.instanceMethod yX2_costs, Cond.initialized RX2, Cond.code yX2_costs cX2_costs 2 (some .int), Cond.code yX6_costs cX6_costs 2 (some .int), Cond.selects RX5 ⟨"CutAtlas$PlainKind", "costs", "(I)I"⟩ yX6_costs, Cond.instanceMethod yX6_costs, Cond.methodLink RX10 72 yX6_costs, Cond.selects RX6 yX6_costs yX6_costs, Cond.selects RX8 ⟨"CutAtlas$PlainKind", "costs", "(I)I"⟩ yX8_costs, Cond.instanceMethod yX8_costs, Cond.initialized RX8, Cond.code yX8_costs cX8_costs 2 (some .int), Cond.methodLink RX8 7 yX2_costs, Cond.sameMethod "CutAtlas$DearKind" "CutAtlas$DearKind" "costs" "(I)I", Cond.superclass RX8 RX2, Cond.selects RX9 ⟨"CutAtlas$PlainKind", "costs", "(I)I"⟩ yX6_costs, Cond.methodLink RX10 77 yX3_isMissing]
def wsX11_cheapest_r7 : List Cond := [Cond.methodLink RX10 34 yX10_findCosts, Cond.instanceMethod yX10_findCosts, Cond.selects RX10 yX10_findCosts yX10_findCosts, Cond.code yX10_findCosts cX10_findCosts 6 none, Cond.methodLink RX10 93 yX10_lookFrom, Cond.instanceMethod yX10_lookFrom, Cond.selects RX10 yX10_lookFrom yX10_lookFrom, Cond.code yX10_lookFrom cX10_lookFrom 5 (some .boolean), Cond.fieldLink RX10 20 "CutAtlas$Widening" "cameFrom" "[I", Cond.methodLink RX10 96 yX10_stepCosts, Cond.instanceMethod yX10_stepCosts, Cond.selects RX10 yX10_stepCosts yX10_stepCosts, Cond.code yX10_stepCosts cX10_stepCosts 3 (some .int), Cond.fieldLink RX10 99 "CutAtlas$Current" "room" "[[I", Cond.methodLink RX10 39 yX10_roomOfWay, Cond.instanceMethod yX10_roomOfWay, Cond.selects RX10 yX10_roomOfWay yX10_roomOfWay, Cond.code yX10_roomOfWay cX10_roomOfWay 7 (some .int), Cond.methodLink RX10 102 yX10_stepRoom, Cond.instanceMethod yX10_stepRoom, Cond.selects RX10 yX10_stepRoom yX10_stepRoom, Cond.code yX10_stepRoom cX10_stepRoom 3 (some .int), Cond.methodLink RX10 43 yX10_sendAlongWay, Cond.instanceMethod yX10_sendAlongWay]
def wsX11_cheapest_r8 : List Cond := [Cond.selects RX10 yX10_sendAlongWay yX10_sendAlongWay, Cond.code yX10_sendAlongWay cX10_sendAlongWay 6 none]
def wsX11_cheapest : List Cond := .code yX11_cheapest cX11_cheapest 5 (some .int) :: ((wsX11_cheapest_r1 ++ (wsX11_cheapest_r2 ++ (wsX11_cheapest_r3 ++ (wsX11_cheapest_r4 ++ (wsX11_cheapest_r5 ++ (wsX11_cheapest_r6 ++ (wsX11_cheapest_r7 ++ wsX11_cheapest_r8))))))) ++ wsX110 ++ wsX30 ++ wsX00 ++ wsX100)
def wsX11_tree_r1 : List Cond := [Cond.fieldLink RX11 31 "CutAtlas" "net" "LCutAtlas$Net;", Cond.fieldLink RX11 56 "CutAtlas" "cutTree" "LCutAtlas$CutTree;", Cond.fieldLink RX11 215 "CutAtlas$CutTree" "nexts" "[I", Cond.fieldLink RX11 218 "CutAtlas$CutTree" "numbers" "[I", Cond.methodLink RX11 204 yX3_isWhole, Cond.instanceMethod yX3_isWhole, Cond.selects RX3 yX3_isWhole yX3_isWhole, Cond.initialized RX3, Cond.code yX3_isWhole cX3_isWhole 3 (some .boolean), Cond.fieldLink RX3 15 "CutAtlas$Net" "lines" "I", Cond.fieldLink RX3 18 "CutAtlas$Net" "kinds" "[I", Cond.fieldLink RX3 9 "CutAtlas$Net" "places" "I", Cond.methodLink RX3 38 yX3_isMissing, Cond.instanceMethod yX3_isMissing, Cond.selects RX3 yX3_isMissing yX3_isMissing, Cond.code yX3_isMissing cX3_isMissing 2 (some .boolean), Cond.fieldLink RX3 22 "CutAtlas$Net" "starts" "[I", Cond.methodLink RX11 208 yX3_hasPlace, Cond.instanceMethod yX3_hasPlace, Cond.selects RX3 yX3_hasPlace yX3_hasPlace, Cond.code yX3_hasPlace cX3_hasPlace 3 (some .boolean), Cond.methodLink RX11 212 yX1_grow, Cond.instanceMethod yX1_grow, Cond.selects RX1 yX1_grow yX1_grow]
def wsX11_tree_r2 : List Cond := [Cond.initialized RX1, Cond.code yX1_grow cX1_grow 2 none, Cond.fieldLink RX1 18 "CutAtlas$CutTree" "current" "LCutAtlas$Current;", Cond.fieldLink RX1 9 "CutAtlas$CutTree" "nexts" "[I", Cond.fieldLink RX1 15 "CutAtlas$CutTree" "numbers" "[I", Cond.fieldLink RX1 34 "CutAtlas$Current" "net" "LCutAtlas$Net;", Cond.fieldLink RX1 38 "CutAtlas$Net" "places" "I", Cond.methodLink RX1 22 yX0_load, Cond.instanceMethod yX0_load, Cond.selects RX0 yX0_load yX0_load, Cond.initialized RX0, Cond.code yX0_load cX0_load 5 none, Cond.fieldLink RX0 35 "CutAtlas$Current" "net" "LCutAtlas$Net;", Cond.fieldLink RX0 43 "CutAtlas$Net" "places" "I", Cond.fieldLink RX0 11 "CutAtlas$Current" "lets" "[[I", Cond.fieldLink RX0 55 "CutAtlas$Net" "lines" "I", Cond.fieldLink RX0 62 "CutAtlas$Net" "widths" "[I", Cond.fieldLink RX0 39 "CutAtlas$Current" "kinds" "[LCutAtlas$PlainKind;", Cond.fieldLink RX0 65 "CutAtlas$Net" "kinds" "[I", Cond.fieldLink RX0 23 "CutAtlas$Current" "letsForth" "[I", Cond.fieldLink RX0 26 "CutAtlas$Current" "letsBack" "[I", Cond.fieldLink RX0 76 "CutAtlas$Net" "starts" "[I", Cond.fieldLink RX0 79 "CutAtlas$Net" "ends" "[I", Cond.methodLink RX0 49 yJ7_fill_53178]
def wsX11_tree_r3 : List Cond := [Cond.static yJ7_fill_53178, Cond.initialized RJ7, Cond.code yJ7_fill_53178 cJ7_fill_53178 4 none, Cond.methodLink RX0 58 yX3_isMissing, Cond.methodLink RX0 67 ⟨"CutAtlas$PlainKind", "lets", "(IZ)I"⟩, Cond.sameMethod "CutAtlas$PlainKind" "CutAtlas$PlainKind" "lets" "(IZ)I", Cond.selects RX2 ⟨"CutAtlas$PlainKind", "lets", "(IZ)I"⟩ yX6_lets, Cond.instanceMethod yX6_lets, Cond.initialized RX6, Cond.code yX6_lets cX6_lets 3 (some .int), Cond.instanceMethod ⟨"CutAtlas$PlainKind", "lets", "(IZ)I"⟩, Cond.selects RX5 ⟨"CutAtlas$PlainKind", "lets", "(IZ)I"⟩ yX5_lets, Cond.instanceMethod yX5_lets, Cond.initialized RX5, Cond.code yX5_lets cX5_lets 3 (some .int), Cond.methodLink RX5 7 yX6_lets, Cond.superclass RX5 RX6, Cond.methodLink RX0 67 yX6_lets, Cond.selects RX6 yX6_lets yX6_lets, Cond.selects RX8 ⟨"CutAtlas$PlainKind", "lets", "(IZ)I"⟩ yX6_lets, Cond.selects RX9 ⟨"CutAtlas$PlainKind", "lets", "(IZ)I"⟩ yX9_lets, Cond.instanceMethod yX9_lets, Cond.initialized RX9, Cond.code yX9_lets cX9_lets 3 (some .int)]
def wsX11_tree_r4 : List Cond := [Cond.methodLink RX0 72 yX0_asRoom, Cond.static yX0_asRoom, Cond.code yX0_asRoom cX0_asRoom 1 (some .int), Cond.constant RX0 82 (1000000), Cond.methodLink RX1 28 yJ7_fill_53178, Cond.methodLink RX1 44 yX1_hang, Cond.instanceMethod yX1_hang, Cond.selects RX1 yX1_hang yX1_hang, Cond.code yX1_hang cX1_hang 6 none, Cond.methodLink RX1 47 yX0_fill, Cond.instanceMethod yX0_fill, Cond.selects RX0 yX0_fill yX0_fill, Cond.code yX0_fill cX0_fill 5 (some .int), Cond.fieldLink RX0 19 "CutAtlas$Current" "flowing" "[I", Cond.fieldLink RX0 16 "CutAtlas$Current" "room" "[[I", Cond.methodLink RX0 83 arraycopyName, Cond.native arraycopyName, Cond.static arraycopyName, Cond.initialized "java/lang/System", Cond.methodLink RX0 89 yX0_reachedFrom, Cond.instanceMethod yX0_reachedFrom, Cond.selects RX0 yX0_reachedFrom yX0_reachedFrom, Cond.code yX0_reachedFrom cX0_reachedFrom 7 (some .int), Cond.fieldLink RX0 29 "CutAtlas$Current" "queue" "[I"]
def wsX11_tree_r5 : List Cond := [Cond.methodLink RX0 93 yX0_findWay, Cond.instanceMethod yX0_findWay, Cond.selects RX0 yX0_findWay yX0_findWay, Cond.code yX0_findWay cX0_findWay 8 (some .boolean), Cond.fieldLink RX0 32 "CutAtlas$Current" "cameFrom" "[I", Cond.methodLink RX0 97 yX0_sendAlongWay, Cond.instanceMethod yX0_sendAlongWay, Cond.selects RX0 yX0_sendAlongWay yX0_sendAlongWay, Cond.code yX0_sendAlongWay cX0_sendAlongWay 6 (some .int), Cond.constant RX0 100 (1000000000), Cond.methodLink RX0 101 Lib.Math.min.name, Cond.static Lib.Math.min.name, Cond.initialized "java/lang/Math", Cond.code Lib.Math.min.name Lib.Math.min.code 2 (some .int), Cond.methodLink RX0 106 yX0_sendOver, Cond.instanceMethod yX0_sendOver, Cond.selects RX0 yX0_sendOver yX0_sendOver, Cond.code yX0_sendOver cX0_sendOver 7 none, Cond.methodLink RX1 50 yX0_nearCut, Cond.instanceMethod yX0_nearCut, Cond.selects RX0 yX0_nearCut yX0_nearCut, Cond.code yX0_nearCut cX0_nearCut 2 (some .int)]
def wsX11_tree : List Cond := .code yX11_tree cX11_tree 3 (some .int) :: ((wsX11_tree_r1 ++ (wsX11_tree_r2 ++ (wsX11_tree_r3 ++ (wsX11_tree_r4 ++ wsX11_tree_r5)))) ++ wsX110 ++ wsX10 ++ wsX30 ++ wsX00)
def wsX11_between_r1 : List Cond := [Cond.fieldLink RX11 31 "CutAtlas" "net" "LCutAtlas$Net;", Cond.fieldLink RX11 56 "CutAtlas" "cutTree" "LCutAtlas$CutTree;", Cond.methodLink RX11 204 yX3_isWhole, Cond.instanceMethod yX3_isWhole, Cond.selects RX3 yX3_isWhole yX3_isWhole, Cond.initialized RX3, Cond.code yX3_isWhole cX3_isWhole 3 (some .boolean), Cond.fieldLink RX3 15 "CutAtlas$Net" "lines" "I", Cond.fieldLink RX3 18 "CutAtlas$Net" "kinds" "[I", Cond.fieldLink RX3 9 "CutAtlas$Net" "places" "I", Cond.methodLink RX3 38 yX3_isMissing, Cond.instanceMethod yX3_isMissing, Cond.selects RX3 yX3_isMissing yX3_isMissing, Cond.code yX3_isMissing cX3_isMissing 2 (some .boolean), Cond.fieldLink RX3 22 "CutAtlas$Net" "starts" "[I", Cond.methodLink RX11 135 yX3_hasPair, Cond.instanceMethod yX3_hasPair, Cond.selects RX3 yX3_hasPair yX3_hasPair, Cond.code yX3_hasPair cX3_hasPair 5 (some .boolean), Cond.methodLink RX3 34 yX3_hasPlace, Cond.instanceMethod yX3_hasPlace, Cond.selects RX3 yX3_hasPlace yX3_hasPlace, Cond.code yX3_hasPlace cX3_hasPlace 3 (some .boolean), Cond.methodLink RX11 212 yX1_grow]
def wsX11_between_r2 : List Cond := [Cond.instanceMethod yX1_grow, Cond.selects RX1 yX1_grow yX1_grow, Cond.initialized RX1, Cond.code yX1_grow cX1_grow 2 none, Cond.fieldLink RX1 18 "CutAtlas$CutTree" "current" "LCutAtlas$Current;", Cond.fieldLink RX1 9 "CutAtlas$CutTree" "nexts" "[I", Cond.fieldLink RX1 15 "CutAtlas$CutTree" "numbers" "[I", Cond.fieldLink RX1 34 "CutAtlas$Current" "net" "LCutAtlas$Net;", Cond.fieldLink RX1 38 "CutAtlas$Net" "places" "I", Cond.methodLink RX1 22 yX0_load, Cond.instanceMethod yX0_load, Cond.selects RX0 yX0_load yX0_load, Cond.initialized RX0, Cond.code yX0_load cX0_load 5 none, Cond.fieldLink RX0 35 "CutAtlas$Current" "net" "LCutAtlas$Net;", Cond.fieldLink RX0 43 "CutAtlas$Net" "places" "I", Cond.fieldLink RX0 11 "CutAtlas$Current" "lets" "[[I", Cond.fieldLink RX0 55 "CutAtlas$Net" "lines" "I", Cond.fieldLink RX0 62 "CutAtlas$Net" "widths" "[I", Cond.fieldLink RX0 39 "CutAtlas$Current" "kinds" "[LCutAtlas$PlainKind;", Cond.fieldLink RX0 65 "CutAtlas$Net" "kinds" "[I", Cond.fieldLink RX0 23 "CutAtlas$Current" "letsForth" "[I", Cond.fieldLink RX0 26 "CutAtlas$Current" "letsBack" "[I", Cond.fieldLink RX0 76 "CutAtlas$Net" "starts" "[I"]
def wsX11_between_r3 : List Cond := [Cond.fieldLink RX0 79 "CutAtlas$Net" "ends" "[I", Cond.methodLink RX0 49 yJ7_fill_53178, Cond.static yJ7_fill_53178, Cond.initialized RJ7, Cond.code yJ7_fill_53178 cJ7_fill_53178 4 none, Cond.methodLink RX0 58 yX3_isMissing, Cond.methodLink RX0 67 ⟨"CutAtlas$PlainKind", "lets", "(IZ)I"⟩, Cond.sameMethod "CutAtlas$PlainKind" "CutAtlas$PlainKind" "lets" "(IZ)I", Cond.selects RX2 ⟨"CutAtlas$PlainKind", "lets", "(IZ)I"⟩ yX6_lets, Cond.instanceMethod yX6_lets, Cond.initialized RX6, Cond.code yX6_lets cX6_lets 3 (some .int), Cond.instanceMethod ⟨"CutAtlas$PlainKind", "lets", "(IZ)I"⟩, Cond.selects RX5 ⟨"CutAtlas$PlainKind", "lets", "(IZ)I"⟩ yX5_lets, Cond.instanceMethod yX5_lets, Cond.initialized RX5, Cond.code yX5_lets cX5_lets 3 (some .int), Cond.methodLink RX5 7 yX6_lets, Cond.superclass RX5 RX6, Cond.methodLink RX0 67 yX6_lets, Cond.selects RX6 yX6_lets yX6_lets, Cond.selects RX8 ⟨"CutAtlas$PlainKind", "lets", "(IZ)I"⟩ yX6_lets, Cond.selects RX9 ⟨"CutAtlas$PlainKind", "lets", "(IZ)I"⟩ yX9_lets, Cond.instanceMethod yX9_lets]
def wsX11_between_r4 : List Cond := [Cond.initialized RX9, Cond.code yX9_lets cX9_lets 3 (some .int), Cond.methodLink RX0 72 yX0_asRoom, Cond.static yX0_asRoom, Cond.code yX0_asRoom cX0_asRoom 1 (some .int), Cond.constant RX0 82 (1000000), Cond.methodLink RX1 28 yJ7_fill_53178, Cond.methodLink RX1 44 yX1_hang, Cond.instanceMethod yX1_hang, Cond.selects RX1 yX1_hang yX1_hang, Cond.code yX1_hang cX1_hang 6 none, Cond.methodLink RX1 47 yX0_fill, Cond.instanceMethod yX0_fill, Cond.selects RX0 yX0_fill yX0_fill, Cond.code yX0_fill cX0_fill 5 (some .int), Cond.fieldLink RX0 19 "CutAtlas$Current" "flowing" "[I", Cond.fieldLink RX0 16 "CutAtlas$Current" "room" "[[I", Cond.methodLink RX0 83 arraycopyName, Cond.native arraycopyName, Cond.static arraycopyName, Cond.initialized "java/lang/System", Cond.methodLink RX0 89 yX0_reachedFrom, Cond.instanceMethod yX0_reachedFrom, Cond.selects RX0 yX0_reachedFrom yX0_reachedFrom]
def wsX11_between_r5 : List Cond := [Cond.code yX0_reachedFrom cX0_reachedFrom 7 (some .int), Cond.fieldLink RX0 29 "CutAtlas$Current" "queue" "[I", Cond.methodLink RX0 93 yX0_findWay, Cond.instanceMethod yX0_findWay, Cond.selects RX0 yX0_findWay yX0_findWay, Cond.code yX0_findWay cX0_findWay 8 (some .boolean), Cond.fieldLink RX0 32 "CutAtlas$Current" "cameFrom" "[I", Cond.methodLink RX0 97 yX0_sendAlongWay, Cond.instanceMethod yX0_sendAlongWay, Cond.selects RX0 yX0_sendAlongWay yX0_sendAlongWay, Cond.code yX0_sendAlongWay cX0_sendAlongWay 6 (some .int), Cond.constant RX0 100 (1000000000), Cond.methodLink RX0 101 Lib.Math.min.name, Cond.static Lib.Math.min.name, Cond.initialized "java/lang/Math", Cond.code Lib.Math.min.name Lib.Math.min.code 2 (some .int), Cond.methodLink RX0 106 yX0_sendOver, Cond.instanceMethod yX0_sendOver, Cond.selects RX0 yX0_sendOver yX0_sendOver, Cond.code yX0_sendOver cX0_sendOver 7 none, Cond.methodLink RX1 50 yX0_nearCut, Cond.instanceMethod yX0_nearCut, Cond.selects RX0 yX0_nearCut yX0_nearCut, Cond.code yX0_nearCut cX0_nearCut 2 (some .int)]
def wsX11_between_r6 : List Cond := [Cond.methodLink RX11 221 yX1_leastOnWay, Cond.instanceMethod yX1_leastOnWay, Cond.selects RX1 yX1_leastOnWay yX1_leastOnWay, Cond.code yX1_leastOnWay cX1_leastOnWay 9 (some .int), Cond.constant RX1 54 (1000000000), Cond.methodLink RX1 58 Lib.Math.min.name, Cond.methodLink RX1 55 yX1_stepsToRoot, Cond.instanceMethod yX1_stepsToRoot, Cond.selects RX1 yX1_stepsToRoot yX1_stepsToRoot, Cond.code yX1_stepsToRoot cX1_stepsToRoot 4 (some .int)]
def wsX11_between : List Cond := .code yX11_between cX11_between 3 (some .int) :: ((wsX11_between_r1 ++ (wsX11_between_r2 ++ (wsX11_between_r3 ++ (wsX11_between_r4 ++ (wsX11_between_r5 ++ wsX11_between_r6))))) ++ wsX110 ++ wsX30 ++ wsX10 ++ wsX00)
def wsX11_least_r1 : List Cond := [Cond.fieldLink RX11 31 "CutAtlas" "net" "LCutAtlas$Net;", Cond.fieldLink RX11 56 "CutAtlas" "cutTree" "LCutAtlas$CutTree;", Cond.methodLink RX11 204 yX3_isWhole, Cond.instanceMethod yX3_isWhole, Cond.selects RX3 yX3_isWhole yX3_isWhole, Cond.initialized RX3, Cond.code yX3_isWhole cX3_isWhole 3 (some .boolean), Cond.fieldLink RX3 15 "CutAtlas$Net" "lines" "I", Cond.fieldLink RX3 18 "CutAtlas$Net" "kinds" "[I", Cond.fieldLink RX3 9 "CutAtlas$Net" "places" "I", Cond.methodLink RX3 38 yX3_isMissing, Cond.instanceMethod yX3_isMissing, Cond.selects RX3 yX3_isMissing yX3_isMissing, Cond.code yX3_isMissing cX3_isMissing 2 (some .boolean), Cond.fieldLink RX3 22 "CutAtlas$Net" "starts" "[I", Cond.methodLink RX11 212 yX1_grow, Cond.instanceMethod yX1_grow, Cond.selects RX1 yX1_grow yX1_grow, Cond.initialized RX1, Cond.code yX1_grow cX1_grow 2 none, Cond.fieldLink RX1 18 "CutAtlas$CutTree" "current" "LCutAtlas$Current;", Cond.fieldLink RX1 9 "CutAtlas$CutTree" "nexts" "[I", Cond.fieldLink RX1 15 "CutAtlas$CutTree" "numbers" "[I", Cond.fieldLink RX1 34 "CutAtlas$Current" "net" "LCutAtlas$Net;"]
def wsX11_least_r2 : List Cond := [Cond.fieldLink RX1 38 "CutAtlas$Net" "places" "I", Cond.methodLink RX1 22 yX0_load, Cond.instanceMethod yX0_load, Cond.selects RX0 yX0_load yX0_load, Cond.initialized RX0, Cond.code yX0_load cX0_load 5 none, Cond.fieldLink RX0 35 "CutAtlas$Current" "net" "LCutAtlas$Net;", Cond.fieldLink RX0 43 "CutAtlas$Net" "places" "I", Cond.fieldLink RX0 11 "CutAtlas$Current" "lets" "[[I", Cond.fieldLink RX0 55 "CutAtlas$Net" "lines" "I", Cond.fieldLink RX0 62 "CutAtlas$Net" "widths" "[I", Cond.fieldLink RX0 39 "CutAtlas$Current" "kinds" "[LCutAtlas$PlainKind;", Cond.fieldLink RX0 65 "CutAtlas$Net" "kinds" "[I", Cond.fieldLink RX0 23 "CutAtlas$Current" "letsForth" "[I", Cond.fieldLink RX0 26 "CutAtlas$Current" "letsBack" "[I", Cond.fieldLink RX0 76 "CutAtlas$Net" "starts" "[I", Cond.fieldLink RX0 79 "CutAtlas$Net" "ends" "[I", Cond.methodLink RX0 49 yJ7_fill_53178, Cond.static yJ7_fill_53178, Cond.initialized RJ7, Cond.code yJ7_fill_53178 cJ7_fill_53178 4 none, Cond.methodLink RX0 58 yX3_isMissing, Cond.methodLink RX0 67 ⟨"CutAtlas$PlainKind", "lets", "(IZ)I"⟩, Cond.sameMethod "CutAtlas$PlainKind" "CutAtlas$PlainKind" "lets" "(IZ)I"]
def wsX11_least_r3 : List Cond := [Cond.selects RX2 ⟨"CutAtlas$PlainKind", "lets", "(IZ)I"⟩ yX6_lets, Cond.instanceMethod yX6_lets, Cond.initialized RX6, Cond.code yX6_lets cX6_lets 3 (some .int), Cond.instanceMethod ⟨"CutAtlas$PlainKind", "lets", "(IZ)I"⟩, Cond.selects RX5 ⟨"CutAtlas$PlainKind", "lets", "(IZ)I"⟩ yX5_lets, Cond.instanceMethod yX5_lets, Cond.initialized RX5, Cond.code yX5_lets cX5_lets 3 (some .int), Cond.methodLink RX5 7 yX6_lets, Cond.superclass RX5 RX6, Cond.methodLink RX0 67 yX6_lets, Cond.selects RX6 yX6_lets yX6_lets, Cond.selects RX8 ⟨"CutAtlas$PlainKind", "lets", "(IZ)I"⟩ yX6_lets, Cond.selects RX9 ⟨"CutAtlas$PlainKind", "lets", "(IZ)I"⟩ yX9_lets, Cond.instanceMethod yX9_lets, Cond.initialized RX9, Cond.code yX9_lets cX9_lets 3 (some .int), Cond.methodLink RX0 72 yX0_asRoom, Cond.static yX0_asRoom, Cond.code yX0_asRoom cX0_asRoom 1 (some .int), Cond.constant RX0 82 (1000000), Cond.methodLink RX1 28 yJ7_fill_53178, Cond.methodLink RX1 44 yX1_hang]
def wsX11_least_r4 : List Cond := [Cond.instanceMethod yX1_hang, Cond.selects RX1 yX1_hang yX1_hang, Cond.code yX1_hang cX1_hang 6 none, Cond.methodLink RX1 47 yX0_fill, Cond.instanceMethod yX0_fill, Cond.selects RX0 yX0_fill yX0_fill, Cond.code yX0_fill cX0_fill 5 (some .int), Cond.fieldLink RX0 19 "CutAtlas$Current" "flowing" "[I", Cond.fieldLink RX0 16 "CutAtlas$Current" "room" "[[I", Cond.methodLink RX0 83 arraycopyName, Cond.native arraycopyName, Cond.static arraycopyName, Cond.initialized "java/lang/System", Cond.methodLink RX0 89 yX0_reachedFrom, Cond.instanceMethod yX0_reachedFrom, Cond.selects RX0 yX0_reachedFrom yX0_reachedFrom, Cond.code yX0_reachedFrom cX0_reachedFrom 7 (some .int), Cond.fieldLink RX0 29 "CutAtlas$Current" "queue" "[I", Cond.methodLink RX0 93 yX0_findWay, Cond.instanceMethod yX0_findWay, Cond.selects RX0 yX0_findWay yX0_findWay, Cond.code yX0_findWay cX0_findWay 8 (some .boolean), Cond.fieldLink RX0 32 "CutAtlas$Current" "cameFrom" "[I", Cond.methodLink RX0 97 yX0_sendAlongWay]
def wsX11_least_r5 : List Cond := [Cond.instanceMethod yX0_sendAlongWay, Cond.selects RX0 yX0_sendAlongWay yX0_sendAlongWay, Cond.code yX0_sendAlongWay cX0_sendAlongWay 6 (some .int), Cond.constant RX0 100 (1000000000), Cond.methodLink RX0 101 Lib.Math.min.name, Cond.static Lib.Math.min.name, Cond.initialized "java/lang/Math", Cond.code Lib.Math.min.name Lib.Math.min.code 2 (some .int), Cond.methodLink RX0 106 yX0_sendOver, Cond.instanceMethod yX0_sendOver, Cond.selects RX0 yX0_sendOver yX0_sendOver, Cond.code yX0_sendOver cX0_sendOver 7 none, Cond.methodLink RX1 50 yX0_nearCut, Cond.instanceMethod yX0_nearCut, Cond.selects RX0 yX0_nearCut yX0_nearCut, Cond.code yX0_nearCut cX0_nearCut 2 (some .int), Cond.methodLink RX11 224 yX1_leastNumber, Cond.instanceMethod yX1_leastNumber, Cond.selects RX1 yX1_leastNumber yX1_leastNumber, Cond.code yX1_leastNumber cX1_leastNumber 3 (some .int), Cond.constant RX1 54 (1000000000), Cond.methodLink RX1 58 Lib.Math.min.name]
def wsX11_least : List Cond := .code yX11_least cX11_least 1 (some .int) :: ((wsX11_least_r1 ++ (wsX11_least_r2 ++ (wsX11_least_r3 ++ (wsX11_least_r4 ++ wsX11_least_r5)))) ++ wsX110 ++ wsX30 ++ wsX10 ++ wsX00)
def wsX11_cuts_r1 : List Cond := [Cond.fieldLink RX11 31 "CutAtlas" "net" "LCutAtlas$Net;", Cond.fieldLink RX11 56 "CutAtlas" "cutTree" "LCutAtlas$CutTree;", Cond.fieldLink RX11 49 "CutAtlas" "hunt" "LCutAtlas$SetHunt;", Cond.methodLink RX11 204 yX3_isWhole, Cond.instanceMethod yX3_isWhole, Cond.selects RX3 yX3_isWhole yX3_isWhole, Cond.initialized RX3, Cond.code yX3_isWhole cX3_isWhole 3 (some .boolean), Cond.fieldLink RX3 15 "CutAtlas$Net" "lines" "I", Cond.fieldLink RX3 18 "CutAtlas$Net" "kinds" "[I", Cond.fieldLink RX3 9 "CutAtlas$Net" "places" "I", Cond.methodLink RX3 38 yX3_isMissing, Cond.instanceMethod yX3_isMissing, Cond.selects RX3 yX3_isMissing yX3_isMissing, Cond.code yX3_isMissing cX3_isMissing 2 (some .boolean), Cond.fieldLink RX3 22 "CutAtlas$Net" "starts" "[I", Cond.methodLink RX11 212 yX1_grow, Cond.instanceMethod yX1_grow, Cond.selects RX1 yX1_grow yX1_grow, Cond.initialized RX1, Cond.code yX1_grow cX1_grow 2 none, Cond.fieldLink RX1 18 "CutAtlas$CutTree" "current" "LCutAtlas$Current;", Cond.fieldLink RX1 9 "CutAtlas$CutTree" "nexts" "[I", Cond.fieldLink RX1 15 "CutAtlas$CutTree" "numbers" "[I"]
def wsX11_cuts_r2 : List Cond := [Cond.fieldLink RX1 34 "CutAtlas$Current" "net" "LCutAtlas$Net;", Cond.fieldLink RX1 38 "CutAtlas$Net" "places" "I", Cond.methodLink RX1 22 yX0_load, Cond.instanceMethod yX0_load, Cond.selects RX0 yX0_load yX0_load, Cond.initialized RX0, Cond.code yX0_load cX0_load 5 none, Cond.fieldLink RX0 35 "CutAtlas$Current" "net" "LCutAtlas$Net;", Cond.fieldLink RX0 43 "CutAtlas$Net" "places" "I", Cond.fieldLink RX0 11 "CutAtlas$Current" "lets" "[[I", Cond.fieldLink RX0 55 "CutAtlas$Net" "lines" "I", Cond.fieldLink RX0 62 "CutAtlas$Net" "widths" "[I", Cond.fieldLink RX0 39 "CutAtlas$Current" "kinds" "[LCutAtlas$PlainKind;", Cond.fieldLink RX0 65 "CutAtlas$Net" "kinds" "[I", Cond.fieldLink RX0 23 "CutAtlas$Current" "letsForth" "[I", Cond.fieldLink RX0 26 "CutAtlas$Current" "letsBack" "[I", Cond.fieldLink RX0 76 "CutAtlas$Net" "starts" "[I", Cond.fieldLink RX0 79 "CutAtlas$Net" "ends" "[I", Cond.methodLink RX0 49 yJ7_fill_53178, Cond.static yJ7_fill_53178, Cond.initialized RJ7, Cond.code yJ7_fill_53178 cJ7_fill_53178 4 none, Cond.methodLink RX0 58 yX3_isMissing, Cond.methodLink RX0 67 ⟨"CutAtlas$PlainKind", "lets", "(IZ)I"⟩]
def wsX11_cuts_r3 : List Cond := [Cond.sameMethod "CutAtlas$PlainKind" "CutAtlas$PlainKind" "lets" "(IZ)I", Cond.selects RX2 ⟨"CutAtlas$PlainKind", "lets", "(IZ)I"⟩ yX6_lets, Cond.instanceMethod yX6_lets, Cond.initialized RX6, Cond.code yX6_lets cX6_lets 3 (some .int), Cond.instanceMethod ⟨"CutAtlas$PlainKind", "lets", "(IZ)I"⟩, Cond.selects RX5 ⟨"CutAtlas$PlainKind", "lets", "(IZ)I"⟩ yX5_lets, Cond.instanceMethod yX5_lets, Cond.initialized RX5, Cond.code yX5_lets cX5_lets 3 (some .int), Cond.methodLink RX5 7 yX6_lets, Cond.superclass RX5 RX6, Cond.methodLink RX0 67 yX6_lets, Cond.selects RX6 yX6_lets yX6_lets, Cond.selects RX8 ⟨"CutAtlas$PlainKind", "lets", "(IZ)I"⟩ yX6_lets, Cond.selects RX9 ⟨"CutAtlas$PlainKind", "lets", "(IZ)I"⟩ yX9_lets, Cond.instanceMethod yX9_lets, Cond.initialized RX9, Cond.code yX9_lets cX9_lets 3 (some .int), Cond.methodLink RX0 72 yX0_asRoom, Cond.static yX0_asRoom, Cond.code yX0_asRoom cX0_asRoom 1 (some .int), Cond.constant RX0 82 (1000000), Cond.methodLink RX1 28 yJ7_fill_53178]
def wsX11_cuts_r4 : List Cond := [Cond.methodLink RX1 44 yX1_hang, Cond.instanceMethod yX1_hang, Cond.selects RX1 yX1_hang yX1_hang, Cond.code yX1_hang cX1_hang 6 none, Cond.methodLink RX1 47 yX0_fill, Cond.instanceMethod yX0_fill, Cond.selects RX0 yX0_fill yX0_fill, Cond.code yX0_fill cX0_fill 5 (some .int), Cond.fieldLink RX0 19 "CutAtlas$Current" "flowing" "[I", Cond.fieldLink RX0 16 "CutAtlas$Current" "room" "[[I", Cond.methodLink RX0 83 arraycopyName, Cond.native arraycopyName, Cond.static arraycopyName, Cond.initialized "java/lang/System", Cond.methodLink RX0 89 yX0_reachedFrom, Cond.instanceMethod yX0_reachedFrom, Cond.selects RX0 yX0_reachedFrom yX0_reachedFrom, Cond.code yX0_reachedFrom cX0_reachedFrom 7 (some .int), Cond.fieldLink RX0 29 "CutAtlas$Current" "queue" "[I", Cond.methodLink RX0 93 yX0_findWay, Cond.instanceMethod yX0_findWay, Cond.selects RX0 yX0_findWay yX0_findWay, Cond.code yX0_findWay cX0_findWay 8 (some .boolean), Cond.fieldLink RX0 32 "CutAtlas$Current" "cameFrom" "[I"]
def wsX11_cuts_r5 : List Cond := [Cond.methodLink RX0 97 yX0_sendAlongWay, Cond.instanceMethod yX0_sendAlongWay, Cond.selects RX0 yX0_sendAlongWay yX0_sendAlongWay, Cond.code yX0_sendAlongWay cX0_sendAlongWay 6 (some .int), Cond.constant RX0 100 (1000000000), Cond.methodLink RX0 101 Lib.Math.min.name, Cond.static Lib.Math.min.name, Cond.initialized "java/lang/Math", Cond.code Lib.Math.min.name Lib.Math.min.code 2 (some .int), Cond.methodLink RX0 106 yX0_sendOver, Cond.instanceMethod yX0_sendOver, Cond.selects RX0 yX0_sendOver yX0_sendOver, Cond.code yX0_sendOver cX0_sendOver 7 none, Cond.methodLink RX1 50 yX0_nearCut, Cond.instanceMethod yX0_nearCut, Cond.selects RX0 yX0_nearCut yX0_nearCut, Cond.code yX0_nearCut cX0_nearCut 2 (some .int), Cond.methodLink RX11 224 yX1_leastNumber, Cond.instanceMethod yX1_leastNumber, Cond.selects RX1 yX1_leastNumber yX1_leastNumber, Cond.code yX1_leastNumber cX1_leastNumber 3 (some .int), Cond.constant RX1 54 (1000000000), Cond.methodLink RX1 58 Lib.Math.min.name, Cond.methodLink RX11 182 yX7_countCuts]
def wsX11_cuts_r6 : List Cond := [Cond.instanceMethod yX7_countCuts, Cond.selects RX7 yX7_countCuts yX7_countCuts, Cond.initialized RX7, Cond.code yX7_countCuts cX7_countCuts 4 (some .int), Cond.constant RX7 15 (1000000000), Cond.fieldLink RX7 20 "CutAtlas$SetHunt" "met" "I", Cond.methodLink RX7 16 yX7_hunt, Cond.instanceMethod yX7_hunt, Cond.selects RX7 yX7_hunt yX7_hunt, Cond.code yX7_hunt cX7_hunt 5 none, Cond.fieldLink RX7 27 "CutAtlas$SetHunt" "must" "I", Cond.fieldLink RX7 30 "CutAtlas$SetHunt" "mustNot" "I", Cond.fieldLink RX7 33 "CutAtlas$SetHunt" "aim" "I", Cond.fieldLink RX7 36 "CutAtlas$SetHunt" "wanted" "I", Cond.fieldLink RX7 24 "CutAtlas$SetHunt" "found" "I", Cond.fieldLink RX7 9 "CutAtlas$SetHunt" "current" "LCutAtlas$Current;", Cond.fieldLink RX7 39 "CutAtlas$Current" "net" "LCutAtlas$Net;", Cond.fieldLink RX7 45 "CutAtlas$Net" "places" "I", Cond.methodLink RX7 50 yX7_chooseForCut, Cond.instanceMethod yX7_chooseForCut, Cond.selects RX7 yX7_chooseForCut yX7_chooseForCut, Cond.code yX7_chooseForCut cX7_chooseForCut 5 none, Cond.methodLink RX7 54 yX7_meet, Cond.instanceMethod yX7_meet]
def wsX11_cuts_r7 : List Cond := [Cond.selects RX7 yX7_meet yX7_meet, Cond.code yX7_meet cX7_meet 3 none, Cond.methodLink RX7 58 yX7_letIn, Cond.instanceMethod yX7_letIn, Cond.selects RX7 yX7_letIn yX7_letIn, Cond.code yX7_letIn cX7_letIn 5 (some .int), Cond.fieldLink RX7 65 "CutAtlas$Current" "lets" "[[I", Cond.methodLink RX7 62 yX7_letOut, Cond.instanceMethod yX7_letOut, Cond.selects RX7 yX7_letOut yX7_letOut, Cond.code yX7_letOut cX7_letOut 5 (some .int)]
def wsX11_cuts : List Cond := .code yX11_cuts cX11_cuts 1 (some .int) :: ((wsX11_cuts_r1 ++ (wsX11_cuts_r2 ++ (wsX11_cuts_r3 ++ (wsX11_cuts_r4 ++ (wsX11_cuts_r5 ++ (wsX11_cuts_r6 ++ wsX11_cuts_r7)))))) ++ wsX110 ++ wsX30 ++ wsX10 ++ wsX00 ++ wsX70)
def wsX11_cutAt_r1 : List Cond := [Cond.fieldLink RX11 31 "CutAtlas" "net" "LCutAtlas$Net;", Cond.fieldLink RX11 56 "CutAtlas" "cutTree" "LCutAtlas$CutTree;", Cond.fieldLink RX11 49 "CutAtlas" "hunt" "LCutAtlas$SetHunt;", Cond.methodLink RX11 204 yX3_isWhole, Cond.instanceMethod yX3_isWhole, Cond.selects RX3 yX3_isWhole yX3_isWhole, Cond.initialized RX3, Cond.code yX3_isWhole cX3_isWhole 3 (some .boolean), Cond.fieldLink RX3 15 "CutAtlas$Net" "lines" "I", Cond.fieldLink RX3 18 "CutAtlas$Net" "kinds" "[I", Cond.fieldLink RX3 9 "CutAtlas$Net" "places" "I", Cond.methodLink RX3 38 yX3_isMissing, Cond.instanceMethod yX3_isMissing, Cond.selects RX3 yX3_isMissing yX3_isMissing, Cond.code yX3_isMissing cX3_isMissing 2 (some .boolean), Cond.fieldLink RX3 22 "CutAtlas$Net" "starts" "[I", Cond.methodLink RX11 212 yX1_grow, Cond.instanceMethod yX1_grow, Cond.selects RX1 yX1_grow yX1_grow, Cond.initialized RX1, Cond.code yX1_grow cX1_grow 2 none, Cond.fieldLink RX1 18 "CutAtlas$CutTree" "current" "LCutAtlas$Current;", Cond.fieldLink RX1 9 "CutAtlas$CutTree" "nexts" "[I", Cond.fieldLink RX1 15 "CutAtlas$CutTree" "numbers" "[I"]
def wsX11_cutAt_r2 : List Cond := [Cond.fieldLink RX1 34 "CutAtlas$Current" "net" "LCutAtlas$Net;", Cond.fieldLink RX1 38 "CutAtlas$Net" "places" "I", Cond.methodLink RX1 22 yX0_load, Cond.instanceMethod yX0_load, Cond.selects RX0 yX0_load yX0_load, Cond.initialized RX0, Cond.code yX0_load cX0_load 5 none, Cond.fieldLink RX0 35 "CutAtlas$Current" "net" "LCutAtlas$Net;", Cond.fieldLink RX0 43 "CutAtlas$Net" "places" "I", Cond.fieldLink RX0 11 "CutAtlas$Current" "lets" "[[I", Cond.fieldLink RX0 55 "CutAtlas$Net" "lines" "I", Cond.fieldLink RX0 62 "CutAtlas$Net" "widths" "[I", Cond.fieldLink RX0 39 "CutAtlas$Current" "kinds" "[LCutAtlas$PlainKind;", Cond.fieldLink RX0 65 "CutAtlas$Net" "kinds" "[I", Cond.fieldLink RX0 23 "CutAtlas$Current" "letsForth" "[I", Cond.fieldLink RX0 26 "CutAtlas$Current" "letsBack" "[I", Cond.fieldLink RX0 76 "CutAtlas$Net" "starts" "[I", Cond.fieldLink RX0 79 "CutAtlas$Net" "ends" "[I", Cond.methodLink RX0 49 yJ7_fill_53178, Cond.static yJ7_fill_53178, Cond.initialized RJ7, Cond.code yJ7_fill_53178 cJ7_fill_53178 4 none, Cond.methodLink RX0 58 yX3_isMissing, Cond.methodLink RX0 67 ⟨"CutAtlas$PlainKind", "lets", "(IZ)I"⟩]
def wsX11_cutAt_r3 : List Cond := [Cond.sameMethod "CutAtlas$PlainKind" "CutAtlas$PlainKind" "lets" "(IZ)I", Cond.selects RX2 ⟨"CutAtlas$PlainKind", "lets", "(IZ)I"⟩ yX6_lets, Cond.instanceMethod yX6_lets, Cond.initialized RX6, Cond.code yX6_lets cX6_lets 3 (some .int), Cond.instanceMethod ⟨"CutAtlas$PlainKind", "lets", "(IZ)I"⟩, Cond.selects RX5 ⟨"CutAtlas$PlainKind", "lets", "(IZ)I"⟩ yX5_lets, Cond.instanceMethod yX5_lets, Cond.initialized RX5, Cond.code yX5_lets cX5_lets 3 (some .int), Cond.methodLink RX5 7 yX6_lets, Cond.superclass RX5 RX6, Cond.methodLink RX0 67 yX6_lets, Cond.selects RX6 yX6_lets yX6_lets, Cond.selects RX8 ⟨"CutAtlas$PlainKind", "lets", "(IZ)I"⟩ yX6_lets, Cond.selects RX9 ⟨"CutAtlas$PlainKind", "lets", "(IZ)I"⟩ yX9_lets, Cond.instanceMethod yX9_lets, Cond.initialized RX9, Cond.code yX9_lets cX9_lets 3 (some .int), Cond.methodLink RX0 72 yX0_asRoom, Cond.static yX0_asRoom, Cond.code yX0_asRoom cX0_asRoom 1 (some .int), Cond.constant RX0 82 (1000000), Cond.methodLink RX1 28 yJ7_fill_53178]
def wsX11_cutAt_r4 : List Cond := [Cond.methodLink RX1 44 yX1_hang, Cond.instanceMethod yX1_hang, Cond.selects RX1 yX1_hang yX1_hang, Cond.code yX1_hang cX1_hang 6 none, Cond.methodLink RX1 47 yX0_fill, Cond.instanceMethod yX0_fill, Cond.selects RX0 yX0_fill yX0_fill, Cond.code yX0_fill cX0_fill 5 (some .int), Cond.fieldLink RX0 19 "CutAtlas$Current" "flowing" "[I", Cond.fieldLink RX0 16 "CutAtlas$Current" "room" "[[I", Cond.methodLink RX0 83 arraycopyName, Cond.native arraycopyName, Cond.static arraycopyName, Cond.initialized "java/lang/System", Cond.methodLink RX0 89 yX0_reachedFrom, Cond.instanceMethod yX0_reachedFrom, Cond.selects RX0 yX0_reachedFrom yX0_reachedFrom, Cond.code yX0_reachedFrom cX0_reachedFrom 7 (some .int), Cond.fieldLink RX0 29 "CutAtlas$Current" "queue" "[I", Cond.methodLink RX0 93 yX0_findWay, Cond.instanceMethod yX0_findWay, Cond.selects RX0 yX0_findWay yX0_findWay, Cond.code yX0_findWay cX0_findWay 8 (some .boolean), Cond.fieldLink RX0 32 "CutAtlas$Current" "cameFrom" "[I"]
def wsX11_cutAt_r5 : List Cond := [Cond.methodLink RX0 97 yX0_sendAlongWay, Cond.instanceMethod yX0_sendAlongWay, Cond.selects RX0 yX0_sendAlongWay yX0_sendAlongWay, Cond.code yX0_sendAlongWay cX0_sendAlongWay 6 (some .int), Cond.constant RX0 100 (1000000000), Cond.methodLink RX0 101 Lib.Math.min.name, Cond.static Lib.Math.min.name, Cond.initialized "java/lang/Math", Cond.code Lib.Math.min.name Lib.Math.min.code 2 (some .int), Cond.methodLink RX0 106 yX0_sendOver, Cond.instanceMethod yX0_sendOver, Cond.selects RX0 yX0_sendOver yX0_sendOver, Cond.code yX0_sendOver cX0_sendOver 7 none, Cond.methodLink RX1 50 yX0_nearCut, Cond.instanceMethod yX0_nearCut, Cond.selects RX0 yX0_nearCut yX0_nearCut, Cond.code yX0_nearCut cX0_nearCut 2 (some .int), Cond.methodLink RX11 224 yX1_leastNumber, Cond.instanceMethod yX1_leastNumber, Cond.selects RX1 yX1_leastNumber yX1_leastNumber, Cond.code yX1_leastNumber cX1_leastNumber 3 (some .int), Cond.constant RX1 54 (1000000000), Cond.methodLink RX1 58 Lib.Math.min.name, Cond.methodLink RX11 186 yX7_findCut]
def wsX11_cutAt_r6 : List Cond := [Cond.instanceMethod yX7_findCut, Cond.selects RX7 yX7_findCut yX7_findCut, Cond.initialized RX7, Cond.code yX7_findCut cX7_findCut 5 (some .int), Cond.fieldLink RX7 24 "CutAtlas$SetHunt" "found" "I", Cond.methodLink RX7 16 yX7_hunt, Cond.instanceMethod yX7_hunt, Cond.selects RX7 yX7_hunt yX7_hunt, Cond.code yX7_hunt cX7_hunt 5 none, Cond.fieldLink RX7 27 "CutAtlas$SetHunt" "must" "I", Cond.fieldLink RX7 30 "CutAtlas$SetHunt" "mustNot" "I", Cond.fieldLink RX7 33 "CutAtlas$SetHunt" "aim" "I", Cond.fieldLink RX7 36 "CutAtlas$SetHunt" "wanted" "I", Cond.fieldLink RX7 20 "CutAtlas$SetHunt" "met" "I", Cond.fieldLink RX7 9 "CutAtlas$SetHunt" "current" "LCutAtlas$Current;", Cond.fieldLink RX7 39 "CutAtlas$Current" "net" "LCutAtlas$Net;", Cond.fieldLink RX7 45 "CutAtlas$Net" "places" "I", Cond.methodLink RX7 50 yX7_chooseForCut, Cond.instanceMethod yX7_chooseForCut, Cond.selects RX7 yX7_chooseForCut yX7_chooseForCut, Cond.code yX7_chooseForCut cX7_chooseForCut 5 none, Cond.methodLink RX7 54 yX7_meet, Cond.instanceMethod yX7_meet, Cond.selects RX7 yX7_meet yX7_meet]
def wsX11_cutAt_r7 : List Cond := [Cond.code yX7_meet cX7_meet 3 none, Cond.methodLink RX7 58 yX7_letIn, Cond.instanceMethod yX7_letIn, Cond.selects RX7 yX7_letIn yX7_letIn, Cond.code yX7_letIn cX7_letIn 5 (some .int), Cond.fieldLink RX7 65 "CutAtlas$Current" "lets" "[[I", Cond.methodLink RX7 62 yX7_letOut, Cond.instanceMethod yX7_letOut, Cond.selects RX7 yX7_letOut yX7_letOut, Cond.code yX7_letOut cX7_letOut 5 (some .int)]
def wsX11_cutAt : List Cond := .code yX11_cutAt cX11_cutAt 2 (some .int) :: ((wsX11_cutAt_r1 ++ (wsX11_cutAt_r2 ++ (wsX11_cutAt_r3 ++ (wsX11_cutAt_r4 ++ (wsX11_cutAt_r5 ++ (wsX11_cutAt_r6 ++ wsX11_cutAt_r7)))))) ++ wsX110 ++ wsX30 ++ wsX10 ++ wsX00 ++ wsX70)
def wsX11_weak_r1 : List Cond := [Cond.fieldLink RX11 31 "CutAtlas" "net" "LCutAtlas$Net;", Cond.fieldLink RX11 56 "CutAtlas" "cutTree" "LCutAtlas$CutTree;", Cond.fieldLink RX11 155 "CutAtlas$Net" "starts" "[I", Cond.fieldLink RX11 158 "CutAtlas$Net" "ends" "[I", Cond.methodLink RX11 112 yX3_hasLine, Cond.instanceMethod yX3_hasLine, Cond.selects RX3 yX3_hasLine yX3_hasLine, Cond.initialized RX3, Cond.code yX3_hasLine cX3_hasLine 2 (some .boolean), Cond.fieldLink RX3 15 "CutAtlas$Net" "lines" "I", Cond.methodLink RX11 204 yX3_isWhole, Cond.instanceMethod yX3_isWhole, Cond.selects RX3 yX3_isWhole yX3_isWhole, Cond.code yX3_isWhole cX3_isWhole 3 (some .boolean), Cond.fieldLink RX3 18 "CutAtlas$Net" "kinds" "[I", Cond.fieldLink RX3 9 "CutAtlas$Net" "places" "I", Cond.methodLink RX3 38 yX3_isMissing, Cond.instanceMethod yX3_isMissing, Cond.selects RX3 yX3_isMissing yX3_isMissing, Cond.code yX3_isMissing cX3_isMissing 2 (some .boolean), Cond.fieldLink RX3 22 "CutAtlas$Net" "starts" "[I", Cond.methodLink RX11 126 yX3_isMissing, Cond.methodLink RX11 212 yX1_grow, Cond.instanceMethod yX1_grow]
def wsX11_weak_r2 : List Cond := [Cond.selects RX1 yX1_grow yX1_grow, Cond.initialized RX1, Cond.code yX1_grow cX1_grow 2 none, Cond.fieldLink RX1 18 "CutAtlas$CutTree" "current" "LCutAtlas$Current;", Cond.fieldLink RX1 9 "CutAtlas$CutTree" "nexts" "[I", Cond.fieldLink RX1 15 "CutAtlas$CutTree" "numbers" "[I", Cond.fieldLink RX1 34 "CutAtlas$Current" "net" "LCutAtlas$Net;", Cond.fieldLink RX1 38 "CutAtlas$Net" "places" "I", Cond.methodLink RX1 22 yX0_load, Cond.instanceMethod yX0_load, Cond.selects RX0 yX0_load yX0_load, Cond.initialized RX0, Cond.code yX0_load cX0_load 5 none, Cond.fieldLink RX0 35 "CutAtlas$Current" "net" "LCutAtlas$Net;", Cond.fieldLink RX0 43 "CutAtlas$Net" "places" "I", Cond.fieldLink RX0 11 "CutAtlas$Current" "lets" "[[I", Cond.fieldLink RX0 55 "CutAtlas$Net" "lines" "I", Cond.fieldLink RX0 62 "CutAtlas$Net" "widths" "[I", Cond.fieldLink RX0 39 "CutAtlas$Current" "kinds" "[LCutAtlas$PlainKind;", Cond.fieldLink RX0 65 "CutAtlas$Net" "kinds" "[I", Cond.fieldLink RX0 23 "CutAtlas$Current" "letsForth" "[I", Cond.fieldLink RX0 26 "CutAtlas$Current" "letsBack" "[I", Cond.fieldLink RX0 76 "CutAtlas$Net" "starts" "[I", Cond.fieldLink RX0 79 "CutAtlas$Net" "ends" "[I"]
def wsX11_weak_r3 : List Cond := [Cond.methodLink RX0 49 yJ7_fill_53178, Cond.static yJ7_fill_53178, Cond.initialized RJ7, Cond.code yJ7_fill_53178 cJ7_fill_53178 4 none, Cond.methodLink RX0 58 yX3_isMissing, Cond.methodLink RX0 67 ⟨"CutAtlas$PlainKind", "lets", "(IZ)I"⟩, Cond.sameMethod "CutAtlas$PlainKind" "CutAtlas$PlainKind" "lets" "(IZ)I", Cond.selects RX2 ⟨"CutAtlas$PlainKind", "lets", "(IZ)I"⟩ yX6_lets, Cond.instanceMethod yX6_lets, Cond.initialized RX6, Cond.code yX6_lets cX6_lets 3 (some .int), Cond.instanceMethod ⟨"CutAtlas$PlainKind", "lets", "(IZ)I"⟩, Cond.selects RX5 ⟨"CutAtlas$PlainKind", "lets", "(IZ)I"⟩ yX5_lets, Cond.instanceMethod yX5_lets, Cond.initialized RX5, Cond.code yX5_lets cX5_lets 3 (some .int), Cond.methodLink RX5 7 yX6_lets, Cond.superclass RX5 RX6, Cond.methodLink RX0 67 yX6_lets, Cond.selects RX6 yX6_lets yX6_lets, Cond.selects RX8 ⟨"CutAtlas$PlainKind", "lets", "(IZ)I"⟩ yX6_lets, Cond.selects RX9 ⟨"CutAtlas$PlainKind", "lets", "(IZ)I"⟩ yX9_lets, Cond.instanceMethod yX9_lets, Cond.initialized RX9]
def wsX11_weak_r4 : List Cond := [Cond.code yX9_lets cX9_lets 3 (some .int), Cond.methodLink RX0 72 yX0_asRoom, Cond.static yX0_asRoom, Cond.code yX0_asRoom cX0_asRoom 1 (some .int), Cond.constant RX0 82 (1000000), Cond.methodLink RX1 28 yJ7_fill_53178, Cond.methodLink RX1 44 yX1_hang, Cond.instanceMethod yX1_hang, Cond.selects RX1 yX1_hang yX1_hang, Cond.code yX1_hang cX1_hang 6 none, Cond.methodLink RX1 47 yX0_fill, Cond.instanceMethod yX0_fill, Cond.selects RX0 yX0_fill yX0_fill, Cond.code yX0_fill cX0_fill 5 (some .int), Cond.fieldLink RX0 19 "CutAtlas$Current" "flowing" "[I", Cond.fieldLink RX0 16 "CutAtlas$Current" "room" "[[I", Cond.methodLink RX0 83 arraycopyName, Cond.native arraycopyName, Cond.static arraycopyName, Cond.initialized "java/lang/System", Cond.methodLink RX0 89 yX0_reachedFrom, Cond.instanceMethod yX0_reachedFrom, Cond.selects RX0 yX0_reachedFrom yX0_reachedFrom, Cond.code yX0_reachedFrom cX0_reachedFrom 7 (some .int)]
def wsX11_weak_r5 : List Cond := [Cond.fieldLink RX0 29 "CutAtlas$Current" "queue" "[I", Cond.methodLink RX0 93 yX0_findWay, Cond.instanceMethod yX0_findWay, Cond.selects RX0 yX0_findWay yX0_findWay, Cond.code yX0_findWay cX0_findWay 8 (some .boolean), Cond.fieldLink RX0 32 "CutAtlas$Current" "cameFrom" "[I", Cond.methodLink RX0 97 yX0_sendAlongWay, Cond.instanceMethod yX0_sendAlongWay, Cond.selects RX0 yX0_sendAlongWay yX0_sendAlongWay, Cond.code yX0_sendAlongWay cX0_sendAlongWay 6 (some .int), Cond.constant RX0 100 (1000000000), Cond.methodLink RX0 101 Lib.Math.min.name, Cond.static Lib.Math.min.name, Cond.initialized "java/lang/Math", Cond.code Lib.Math.min.name Lib.Math.min.code 2 (some .int), Cond.methodLink RX0 106 yX0_sendOver, Cond.instanceMethod yX0_sendOver, Cond.selects RX0 yX0_sendOver yX0_sendOver, Cond.code yX0_sendOver cX0_sendOver 7 none, Cond.methodLink RX1 50 yX0_nearCut, Cond.instanceMethod yX0_nearCut, Cond.selects RX0 yX0_nearCut yX0_nearCut, Cond.code yX0_nearCut cX0_nearCut 2 (some .int), Cond.methodLink RX11 221 yX1_leastOnWay]
def wsX11_weak_r6 : List Cond := [Cond.instanceMethod yX1_leastOnWay, Cond.selects RX1 yX1_leastOnWay yX1_leastOnWay, Cond.code yX1_leastOnWay cX1_leastOnWay 9 (some .int), Cond.constant RX1 54 (1000000000), Cond.methodLink RX1 58 Lib.Math.min.name, Cond.methodLink RX1 55 yX1_stepsToRoot, Cond.instanceMethod yX1_stepsToRoot, Cond.selects RX1 yX1_stepsToRoot yX1_stepsToRoot, Cond.code yX1_stepsToRoot cX1_stepsToRoot 4 (some .int), Cond.methodLink RX11 224 yX1_leastNumber, Cond.instanceMethod yX1_leastNumber, Cond.selects RX1 yX1_leastNumber yX1_leastNumber, Cond.code yX1_leastNumber cX1_leastNumber 3 (some .int)]
def wsX11_weak : List Cond := .code yX11_weak cX11_weak 2 (some .int) :: ((wsX11_weak_r1 ++ (wsX11_weak_r2 ++ (wsX11_weak_r3 ++ (wsX11_weak_r4 ++ (wsX11_weak_r5 ++ wsX11_weak_r6))))) ++ wsX110 ++ wsX30 ++ wsX10 ++ wsX00)
def wsX11_part_r1 : List Cond := [Cond.fieldLink RX11 31 "CutAtlas" "net" "LCutAtlas$Net;", Cond.fieldLink RX11 56 "CutAtlas" "cutTree" "LCutAtlas$CutTree;", Cond.fieldLink RX11 94 "CutAtlas$Net" "places" "I", Cond.methodLink RX11 204 yX3_isWhole, Cond.instanceMethod yX3_isWhole, Cond.selects RX3 yX3_isWhole yX3_isWhole, Cond.initialized RX3, Cond.code yX3_isWhole cX3_isWhole 3 (some .boolean), Cond.fieldLink RX3 15 "CutAtlas$Net" "lines" "I", Cond.fieldLink RX3 18 "CutAtlas$Net" "kinds" "[I", Cond.fieldLink RX3 9 "CutAtlas$Net" "places" "I", Cond.methodLink RX3 38 yX3_isMissing, Cond.instanceMethod yX3_isMissing, Cond.selects RX3 yX3_isMissing yX3_isMissing, Cond.code yX3_isMissing cX3_isMissing 2 (some .boolean), Cond.fieldLink RX3 22 "CutAtlas$Net" "starts" "[I", Cond.methodLink RX11 208 yX3_hasPlace, Cond.instanceMethod yX3_hasPlace, Cond.selects RX3 yX3_hasPlace yX3_hasPlace, Cond.code yX3_hasPlace cX3_hasPlace 3 (some .boolean), Cond.methodLink RX11 212 yX1_grow, Cond.instanceMethod yX1_grow, Cond.selects RX1 yX1_grow yX1_grow, Cond.initialized RX1]
def wsX11_part_r2 : List Cond := [Cond.code yX1_grow cX1_grow 2 none, Cond.fieldLink RX1 18 "CutAtlas$CutTree" "current" "LCutAtlas$Current;", Cond.fieldLink RX1 9 "CutAtlas$CutTree" "nexts" "[I", Cond.fieldLink RX1 15 "CutAtlas$CutTree" "numbers" "[I", Cond.fieldLink RX1 34 "CutAtlas$Current" "net" "LCutAtlas$Net;", Cond.fieldLink RX1 38 "CutAtlas$Net" "places" "I", Cond.methodLink RX1 22 yX0_load, Cond.instanceMethod yX0_load, Cond.selects RX0 yX0_load yX0_load, Cond.initialized RX0, Cond.code yX0_load cX0_load 5 none, Cond.fieldLink RX0 35 "CutAtlas$Current" "net" "LCutAtlas$Net;", Cond.fieldLink RX0 43 "CutAtlas$Net" "places" "I", Cond.fieldLink RX0 11 "CutAtlas$Current" "lets" "[[I", Cond.fieldLink RX0 55 "CutAtlas$Net" "lines" "I", Cond.fieldLink RX0 62 "CutAtlas$Net" "widths" "[I", Cond.fieldLink RX0 39 "CutAtlas$Current" "kinds" "[LCutAtlas$PlainKind;", Cond.fieldLink RX0 65 "CutAtlas$Net" "kinds" "[I", Cond.fieldLink RX0 23 "CutAtlas$Current" "letsForth" "[I", Cond.fieldLink RX0 26 "CutAtlas$Current" "letsBack" "[I", Cond.fieldLink RX0 76 "CutAtlas$Net" "starts" "[I", Cond.fieldLink RX0 79 "CutAtlas$Net" "ends" "[I", Cond.methodLink RX0 49 yJ7_fill_53178, Cond.static yJ7_fill_53178]
def wsX11_part_r3 : List Cond := [Cond.initialized RJ7, Cond.code yJ7_fill_53178 cJ7_fill_53178 4 none, Cond.methodLink RX0 58 yX3_isMissing, Cond.methodLink RX0 67 ⟨"CutAtlas$PlainKind", "lets", "(IZ)I"⟩, Cond.sameMethod "CutAtlas$PlainKind" "CutAtlas$PlainKind" "lets" "(IZ)I", Cond.selects RX2 ⟨"CutAtlas$PlainKind", "lets", "(IZ)I"⟩ yX6_lets, Cond.instanceMethod yX6_lets, Cond.initialized RX6, Cond.code yX6_lets cX6_lets 3 (some .int), Cond.instanceMethod ⟨"CutAtlas$PlainKind", "lets", "(IZ)I"⟩, Cond.selects RX5 ⟨"CutAtlas$PlainKind", "lets", "(IZ)I"⟩ yX5_lets, Cond.instanceMethod yX5_lets, Cond.initialized RX5, Cond.code yX5_lets cX5_lets 3 (some .int), Cond.methodLink RX5 7 yX6_lets, Cond.superclass RX5 RX6, Cond.methodLink RX0 67 yX6_lets, Cond.selects RX6 yX6_lets yX6_lets, Cond.selects RX8 ⟨"CutAtlas$PlainKind", "lets", "(IZ)I"⟩ yX6_lets, Cond.selects RX9 ⟨"CutAtlas$PlainKind", "lets", "(IZ)I"⟩ yX9_lets, Cond.instanceMethod yX9_lets, Cond.initialized RX9, Cond.code yX9_lets cX9_lets 3 (some .int), Cond.methodLink RX0 72 yX0_asRoom]
def wsX11_part_r4 : List Cond := [Cond.static yX0_asRoom, Cond.code yX0_asRoom cX0_asRoom 1 (some .int), Cond.constant RX0 82 (1000000), Cond.methodLink RX1 28 yJ7_fill_53178, Cond.methodLink RX1 44 yX1_hang, Cond.instanceMethod yX1_hang, Cond.selects RX1 yX1_hang yX1_hang, Cond.code yX1_hang cX1_hang 6 none, Cond.methodLink RX1 47 yX0_fill, Cond.instanceMethod yX0_fill, Cond.selects RX0 yX0_fill yX0_fill, Cond.code yX0_fill cX0_fill 5 (some .int), Cond.fieldLink RX0 19 "CutAtlas$Current" "flowing" "[I", Cond.fieldLink RX0 16 "CutAtlas$Current" "room" "[[I", Cond.methodLink RX0 83 arraycopyName, Cond.native arraycopyName, Cond.static arraycopyName, Cond.initialized "java/lang/System", Cond.methodLink RX0 89 yX0_reachedFrom, Cond.instanceMethod yX0_reachedFrom, Cond.selects RX0 yX0_reachedFrom yX0_reachedFrom, Cond.code yX0_reachedFrom cX0_reachedFrom 7 (some .int), Cond.fieldLink RX0 29 "CutAtlas$Current" "queue" "[I", Cond.methodLink RX0 93 yX0_findWay]
def wsX11_part_r5 : List Cond := [Cond.instanceMethod yX0_findWay, Cond.selects RX0 yX0_findWay yX0_findWay, Cond.code yX0_findWay cX0_findWay 8 (some .boolean), Cond.fieldLink RX0 32 "CutAtlas$Current" "cameFrom" "[I", Cond.methodLink RX0 97 yX0_sendAlongWay, Cond.instanceMethod yX0_sendAlongWay, Cond.selects RX0 yX0_sendAlongWay yX0_sendAlongWay, Cond.code yX0_sendAlongWay cX0_sendAlongWay 6 (some .int), Cond.constant RX0 100 (1000000000), Cond.methodLink RX0 101 Lib.Math.min.name, Cond.static Lib.Math.min.name, Cond.initialized "java/lang/Math", Cond.code Lib.Math.min.name Lib.Math.min.code 2 (some .int), Cond.methodLink RX0 106 yX0_sendOver, Cond.instanceMethod yX0_sendOver, Cond.selects RX0 yX0_sendOver yX0_sendOver, Cond.code yX0_sendOver cX0_sendOver 7 none, Cond.methodLink RX1 50 yX0_nearCut, Cond.instanceMethod yX0_nearCut, Cond.selects RX0 yX0_nearCut yX0_nearCut, Cond.code yX0_nearCut cX0_nearCut 2 (some .int), Cond.methodLink RX11 227 yX1_partsBelow, Cond.instanceMethod yX1_partsBelow, Cond.selects RX1 yX1_partsBelow yX1_partsBelow]
def wsX11_part_r6 : List Cond := [Cond.code yX1_partsBelow cX1_partsBelow 5 (some .int), Cond.methodLink RX1 66 yX1_leastAlike, Cond.instanceMethod yX1_leastAlike, Cond.selects RX1 yX1_leastAlike yX1_leastAlike, Cond.code yX1_leastAlike cX1_leastAlike 4 (some .int), Cond.methodLink RX1 63 yX1_leastOnWay, Cond.instanceMethod yX1_leastOnWay, Cond.selects RX1 yX1_leastOnWay yX1_leastOnWay, Cond.code yX1_leastOnWay cX1_leastOnWay 9 (some .int), Cond.constant RX1 54 (1000000000), Cond.methodLink RX1 58 Lib.Math.min.name, Cond.methodLink RX1 55 yX1_stepsToRoot, Cond.instanceMethod yX1_stepsToRoot, Cond.selects RX1 yX1_stepsToRoot yX1_stepsToRoot, Cond.code yX1_stepsToRoot cX1_stepsToRoot 4 (some .int), Cond.methodLink RX11 230 yX1_leastAlike]
def wsX11_part : List Cond := .code yX11_part cX11_part 3 (some .int) :: ((wsX11_part_r1 ++ (wsX11_part_r2 ++ (wsX11_part_r3 ++ (wsX11_part_r4 ++ (wsX11_part_r5 ++ wsX11_part_r6))))) ++ wsX110 ++ wsX30 ++ wsX10 ++ wsX00)
def wsX11_dense_r1 : List Cond := [Cond.fieldLink RX11 31 "CutAtlas" "net" "LCutAtlas$Net;", Cond.fieldLink RX11 40 "CutAtlas" "current" "LCutAtlas$Current;", Cond.fieldLink RX11 49 "CutAtlas" "hunt" "LCutAtlas$SetHunt;", Cond.fieldLink RX11 236 "CutAtlas$SetHunt" "denseSet" "I", Cond.fieldLink RX11 239 "CutAtlas$SetHunt" "denseSum" "I", Cond.methodLink RX11 204 yX3_isWhole, Cond.instanceMethod yX3_isWhole, Cond.selects RX3 yX3_isWhole yX3_isWhole, Cond.initialized RX3, Cond.code yX3_isWhole cX3_isWhole 3 (some .boolean), Cond.fieldLink RX3 15 "CutAtlas$Net" "lines" "I", Cond.fieldLink RX3 18 "CutAtlas$Net" "kinds" "[I", Cond.fieldLink RX3 9 "CutAtlas$Net" "places" "I", Cond.methodLink RX3 38 yX3_isMissing, Cond.instanceMethod yX3_isMissing, Cond.selects RX3 yX3_isMissing yX3_isMissing, Cond.code yX3_isMissing cX3_isMissing 2 (some .boolean), Cond.fieldLink RX3 22 "CutAtlas$Net" "starts" "[I", Cond.methodLink RX11 190 yX0_load, Cond.instanceMethod yX0_load, Cond.selects RX0 yX0_load yX0_load, Cond.initialized RX0, Cond.code yX0_load cX0_load 5 none, Cond.fieldLink RX0 35 "CutAtlas$Current" "net" "LCutAtlas$Net;"]
def wsX11_dense_r2 : List Cond := [Cond.fieldLink RX0 43 "CutAtlas$Net" "places" "I", Cond.fieldLink RX0 11 "CutAtlas$Current" "lets" "[[I", Cond.fieldLink RX0 55 "CutAtlas$Net" "lines" "I", Cond.fieldLink RX0 62 "CutAtlas$Net" "widths" "[I", Cond.fieldLink RX0 39 "CutAtlas$Current" "kinds" "[LCutAtlas$PlainKind;", Cond.fieldLink RX0 65 "CutAtlas$Net" "kinds" "[I", Cond.fieldLink RX0 23 "CutAtlas$Current" "letsForth" "[I", Cond.fieldLink RX0 26 "CutAtlas$Current" "letsBack" "[I", Cond.fieldLink RX0 76 "CutAtlas$Net" "starts" "[I", Cond.fieldLink RX0 79 "CutAtlas$Net" "ends" "[I", Cond.methodLink RX0 49 yJ7_fill_53178, Cond.static yJ7_fill_53178, Cond.initialized RJ7, Cond.code yJ7_fill_53178 cJ7_fill_53178 4 none, Cond.methodLink RX0 58 yX3_isMissing, Cond.methodLink RX0 67 ⟨"CutAtlas$PlainKind", "lets", "(IZ)I"⟩, Cond.sameMethod "CutAtlas$PlainKind" "CutAtlas$PlainKind" "lets" "(IZ)I", Cond.selects RX2 ⟨"CutAtlas$PlainKind", "lets", "(IZ)I"⟩ yX6_lets, Cond.instanceMethod yX6_lets, Cond.initialized RX6, Cond.code yX6_lets cX6_lets 3 (some .int), Cond.instanceMethod ⟨"CutAtlas$PlainKind", "lets", "(IZ)I"⟩, Cond.selects RX5 ⟨"CutAtlas$PlainKind", "lets", "(IZ)I"⟩ yX5_lets, Cond.instanceMethod yX5_lets]
def wsX11_dense_r3 : List Cond := [Cond.initialized RX5, Cond.code yX5_lets cX5_lets 3 (some .int), Cond.methodLink RX5 7 yX6_lets, Cond.superclass RX5 RX6, Cond.methodLink RX0 67 yX6_lets, Cond.selects RX6 yX6_lets yX6_lets, Cond.selects RX8 ⟨"CutAtlas$PlainKind", "lets", "(IZ)I"⟩ yX6_lets, Cond.selects RX9 ⟨"CutAtlas$PlainKind", "lets", "(IZ)I"⟩ yX9_lets, Cond.instanceMethod yX9_lets, Cond.initialized RX9, Cond.code yX9_lets cX9_lets 3 (some .int), Cond.methodLink RX0 72 yX0_asRoom, Cond.static yX0_asRoom, Cond.code yX0_asRoom cX0_asRoom 1 (some .int), Cond.constant RX0 82 (1000000), Cond.methodLink RX11 233 yX7_findDensest, Cond.instanceMethod yX7_findDensest, Cond.selects RX7 yX7_findDensest yX7_findDensest, Cond.initialized RX7, Cond.code yX7_findDensest cX7_findDensest 1 none, Cond.fieldLink RX7 69 "CutAtlas$SetHunt" "denseSet" "I", Cond.fieldLink RX7 72 "CutAtlas$SetHunt" "denseSum" "I", Cond.fieldLink RX7 9 "CutAtlas$SetHunt" "current" "LCutAtlas$Current;", Cond.fieldLink RX7 39 "CutAtlas$Current" "net" "LCutAtlas$Net;"]
def wsX11_dense_r4 : List Cond := [Cond.fieldLink RX7 45 "CutAtlas$Net" "places" "I", Cond.methodLink RX7 75 yX7_chooseForDense, Cond.instanceMethod yX7_chooseForDense, Cond.selects RX7 yX7_chooseForDense yX7_chooseForDense, Cond.code yX7_chooseForDense cX7_chooseForDense 4 none, Cond.methodLink RX7 78 yX7_compareDense, Cond.instanceMethod yX7_compareDense, Cond.selects RX7 yX7_compareDense yX7_compareDense, Cond.code yX7_compareDense cX7_compareDense 7 none, Cond.methodLink RX7 81 yJ6_bitCount_0f7a4, Cond.static yJ6_bitCount_0f7a4, Cond.initialized RJ6, Cond.code yJ6_bitCount_0f7a4 cJ6_bitCount_0f7a4 1 (some .int), Cond.constant RJ6 265 (1431655765), Cond.constant RJ6 266 (858993459), Cond.constant RJ6 267 (252645135), Cond.methodLink RX7 58 yX7_letIn, Cond.instanceMethod yX7_letIn, Cond.selects RX7 yX7_letIn yX7_letIn, Cond.code yX7_letIn cX7_letIn 5 (some .int), Cond.fieldLink RX7 65 "CutAtlas$Current" "lets" "[[I", Cond.methodLink RX11 242 yJ6_bitCount_0f7a4]
def wsX11_dense : List Cond := .code yX11_dense cX11_dense 2 (some .int) :: ((wsX11_dense_r1 ++ (wsX11_dense_r2 ++ (wsX11_dense_r3 ++ wsX11_dense_r4))) ++ wsX110 ++ wsX70 ++ wsX30 ++ wsX00)
def wsX11_isMapNumber : List Cond := .code yX11_isMapNumber cX11_isMapNumber 1 (some .boolean) :: ([])
def wsX11_isMapKind : List Cond := .code yX11_isMapKind cX11_isMapKind 1 (some .boolean) :: ([])
def wsX11_mapRefusal : List Cond := .code yX11_mapRefusal cX11_mapRefusal 3 (some .int) :: ([.methodLink RX11 267 yX11_isMapNumber, .static yX11_isMapNumber, .initialized RX11, .code yX11_isMapNumber cX11_isMapNumber 1 (some .boolean), .methodLink RX11 312 yX11_isMapKind, .static yX11_isMapKind, .code yX11_isMapKind cX11_isMapKind 1 (some .boolean)])
def wsX11_map : List Cond := .code yX11_map cX11_map 4 (some .int) :: ([.fieldLink RX11 91 "CutAtlas" "finding" "I", .fieldLink RX11 72 "CutAtlas" "maps" "[LCutAtlas$NumberMap;", .methodLink RX11 247 yX11_mapRefusal, .static yX11_mapRefusal, .initialized RX11, .code yX11_mapRefusal cX11_mapRefusal 3 (some .int), .methodLink RX11 267 yX11_isMapNumber, .static yX11_isMapNumber, .code yX11_isMapNumber cX11_isMapNumber 1 (some .boolean), .methodLink RX11 312 yX11_isMapKind, .static yX11_isMapKind, .code yX11_isMapKind cX11_isMapKind 1 (some .boolean), .methodLink RX11 250 yX4_begin, .instanceMethod yX4_begin, .selects RX4 yX4_begin yX4_begin, .initialized RX4, .code yX4_begin cX4_begin 3 none, .fieldLink RX4 9 "CutAtlas$NumberMap" "kind" "I", .fieldLink RX4 15 "CutAtlas$NumberMap" "rows" "I", .fieldLink RX4 18 "CutAtlas$NumberMap" "lengths" "[I", .methodLink RX4 26 yJ7_fill_53178, .static yJ7_fill_53178, .initialized RJ7, .code yJ7_fill_53178 cJ7_fill_53178 4 none] ++ wsX110 ++ wsX40)
def wsX11_rowRefusal : List Cond := .code yX11_rowRefusal cX11_rowRefusal 4 (some .int) :: ([.fieldLink RX11 72 "CutAtlas" "maps" "[LCutAtlas$NumberMap;", .methodLink RX11 267 yX11_isMapNumber, .static yX11_isMapNumber, .initialized RX11, .code yX11_isMapNumber cX11_isMapNumber 1 (some .boolean), .methodLink RX11 281 yX4_isThere, .instanceMethod yX4_isThere, .selects RX4 yX4_isThere yX4_isThere, .initialized RX4, .code yX4_isThere cX4_isThere 1 (some .boolean), .fieldLink RX4 15 "CutAtlas$NumberMap" "rows" "I", .methodLink RX11 315 yX4_hasRow, .instanceMethod yX4_hasRow, .selects RX4 yX4_hasRow yX4_hasRow, .code yX4_hasRow cX4_hasRow 2 (some .boolean)] ++ wsX110 ++ wsX40)
def wsX11_row_r1 : List Cond := [Cond.fieldLink RX11 91 "CutAtlas" "finding" "I", Cond.fieldLink RX11 72 "CutAtlas" "maps" "[LCutAtlas$NumberMap;", Cond.methodLink RX11 254 yX11_rowRefusal, Cond.instanceMethod yX11_rowRefusal, Cond.selects RX11 yX11_rowRefusal yX11_rowRefusal, Cond.initialized RX11, Cond.code yX11_rowRefusal cX11_rowRefusal 4 (some .int), Cond.methodLink RX11 267 yX11_isMapNumber, Cond.static yX11_isMapNumber, Cond.code yX11_isMapNumber cX11_isMapNumber 1 (some .boolean), Cond.methodLink RX11 281 yX4_isThere, Cond.instanceMethod yX4_isThere, Cond.selects RX4 yX4_isThere yX4_isThere, Cond.initialized RX4, Cond.code yX4_isThere cX4_isThere 1 (some .boolean), Cond.fieldLink RX4 15 "CutAtlas$NumberMap" "rows" "I", Cond.methodLink RX11 315 yX4_hasRow, Cond.instanceMethod yX4_hasRow, Cond.selects RX4 yX4_hasRow yX4_hasRow, Cond.code yX4_hasRow cX4_hasRow 2 (some .boolean), Cond.methodLink RX11 257 yX4_beginRow, Cond.instanceMethod yX4_beginRow, Cond.selects RX4 yX4_beginRow yX4_beginRow, Cond.code yX4_beginRow cX4_beginRow 4 none]
def wsX11_row_r2 : List Cond := [Cond.fieldLink RX4 18 "CutAtlas$NumberMap" "lengths" "[I", Cond.fieldLink RX4 22 "CutAtlas$NumberMap" "numbers" "[J"]
def wsX11_row : List Cond := .code yX11_row cX11_row 4 (some .int) :: ((wsX11_row_r1 ++ wsX11_row_r2) ++ wsX110 ++ wsX40)
def wsX11_numberRefusal : List Cond := .code yX11_numberRefusal cX11_numberRefusal 5 (some .int) :: ([.fieldLink RX11 72 "CutAtlas" "maps" "[LCutAtlas$NumberMap;", .fieldLink RX11 318 "CutAtlas$NumberMap" "kind" "I", .fieldLink RX11 321 "CutAtlas$NumberMap" "lengths" "[I", .methodLink RX11 267 yX11_isMapNumber, .static yX11_isMapNumber, .initialized RX11, .code yX11_isMapNumber cX11_isMapNumber 1 (some .boolean), .methodLink RX11 312 yX11_isMapKind, .static yX11_isMapKind, .code yX11_isMapKind cX11_isMapKind 1 (some .boolean), .methodLink RX11 281 yX4_isThere, .instanceMethod yX4_isThere, .selects RX4 yX4_isThere yX4_isThere, .initialized RX4, .code yX4_isThere cX4_isThere 1 (some .boolean), .fieldLink RX4 15 "CutAtlas$NumberMap" "rows" "I", .methodLink RX11 315 yX4_hasRow, .instanceMethod yX4_hasRow, .selects RX4 yX4_hasRow yX4_hasRow, .code yX4_hasRow cX4_hasRow 2 (some .boolean)] ++ wsX110 ++ wsX40)
def wsX11_put_r1 : List Cond := [Cond.fieldLink RX11 91 "CutAtlas" "finding" "I", Cond.fieldLink RX11 72 "CutAtlas" "maps" "[LCutAtlas$NumberMap;", Cond.methodLink RX11 260 yX11_numberRefusal, Cond.instanceMethod yX11_numberRefusal, Cond.selects RX11 yX11_numberRefusal yX11_numberRefusal, Cond.initialized RX11, Cond.code yX11_numberRefusal cX11_numberRefusal 5 (some .int), Cond.fieldLink RX11 318 "CutAtlas$NumberMap" "kind" "I", Cond.fieldLink RX11 321 "CutAtlas$NumberMap" "lengths" "[I", Cond.methodLink RX11 267 yX11_isMapNumber, Cond.static yX11_isMapNumber, Cond.code yX11_isMapNumber cX11_isMapNumber 1 (some .boolean), Cond.methodLink RX11 312 yX11_isMapKind, Cond.static yX11_isMapKind, Cond.code yX11_isMapKind cX11_isMapKind 1 (some .boolean), Cond.methodLink RX11 281 yX4_isThere, Cond.instanceMethod yX4_isThere, Cond.selects RX4 yX4_isThere yX4_isThere, Cond.initialized RX4, Cond.code yX4_isThere cX4_isThere 1 (some .boolean), Cond.fieldLink RX4 15 "CutAtlas$NumberMap" "rows" "I", Cond.methodLink RX11 315 yX4_hasRow, Cond.instanceMethod yX4_hasRow, Cond.selects RX4 yX4_hasRow yX4_hasRow]
def wsX11_put_r2 : List Cond := [Cond.code yX4_hasRow cX4_hasRow 2 (some .boolean), Cond.methodLink RX11 263 yX4_store, Cond.instanceMethod yX4_store, Cond.selects RX4 yX4_store yX4_store, Cond.code yX4_store cX4_store 7 none, Cond.fieldLink RX4 9 "CutAtlas$NumberMap" "kind" "I", Cond.fieldLink RX4 22 "CutAtlas$NumberMap" "numbers" "[J"]
def wsX11_put : List Cond := .code yX11_put cX11_put 7 (some .int) :: ((wsX11_put_r1 ++ wsX11_put_r2) ++ wsX110 ++ wsX40)
def wsX11_copy_r1 : List Cond := [Cond.fieldLink RX11 72 "CutAtlas" "maps" "[LCutAtlas$NumberMap;", Cond.fieldLink RX11 91 "CutAtlas" "finding" "I", Cond.methodLink RX11 267 yX11_isMapNumber, Cond.static yX11_isMapNumber, Cond.initialized RX11, Cond.code yX11_isMapNumber cX11_isMapNumber 1 (some .boolean), Cond.methodLink RX11 270 yX4_moveRefusal, Cond.instanceMethod yX4_moveRefusal, Cond.selects RX4 yX4_moveRefusal yX4_moveRefusal, Cond.initialized RX4, Cond.code yX4_moveRefusal cX4_moveRefusal 6 (some .int), Cond.fieldLink RX4 18 "CutAtlas$NumberMap" "lengths" "[I", Cond.methodLink RX4 36 yX4_isThere, Cond.instanceMethod yX4_isThere, Cond.selects RX4 yX4_isThere yX4_isThere, Cond.code yX4_isThere cX4_isThere 1 (some .boolean), Cond.fieldLink RX4 15 "CutAtlas$NumberMap" "rows" "I", Cond.methodLink RX4 40 yX4_hasRow, Cond.instanceMethod yX4_hasRow, Cond.selects RX4 yX4_hasRow yX4_hasRow, Cond.code yX4_hasRow cX4_hasRow 2 (some .boolean), Cond.methodLink RX4 44 yX4_hasNumbers, Cond.instanceMethod yX4_hasNumbers, Cond.selects RX4 yX4_hasNumbers yX4_hasNumbers]
def wsX11_copy_r2 : List Cond := [Cond.code yX4_hasNumbers cX4_hasNumbers 4 (some .boolean), Cond.methodLink RX11 273 yX4_move, Cond.instanceMethod yX4_move, Cond.selects RX4 yX4_move yX4_move, Cond.code yX4_move cX4_move 6 none, Cond.fieldLink RX4 22 "CutAtlas$NumberMap" "numbers" "[J", Cond.methodLink RX4 48 arraycopyName, Cond.native arraycopyName, Cond.static arraycopyName, Cond.initialized "java/lang/System"]
def wsX11_copy : List Cond := .code yX11_copy cX11_copy 7 (some .int) :: ((wsX11_copy_r1 ++ wsX11_copy_r2) ++ wsX110 ++ wsX40)
def wsX11_item_r1 : List Cond := [Cond.fieldLink RX11 91 "CutAtlas" "finding" "I", Cond.fieldLink RX11 72 "CutAtlas" "maps" "[LCutAtlas$NumberMap;", Cond.methodLink RX11 260 yX11_numberRefusal, Cond.instanceMethod yX11_numberRefusal, Cond.selects RX11 yX11_numberRefusal yX11_numberRefusal, Cond.initialized RX11, Cond.code yX11_numberRefusal cX11_numberRefusal 5 (some .int), Cond.fieldLink RX11 318 "CutAtlas$NumberMap" "kind" "I", Cond.fieldLink RX11 321 "CutAtlas$NumberMap" "lengths" "[I", Cond.methodLink RX11 267 yX11_isMapNumber, Cond.static yX11_isMapNumber, Cond.code yX11_isMapNumber cX11_isMapNumber 1 (some .boolean), Cond.methodLink RX11 312 yX11_isMapKind, Cond.static yX11_isMapKind, Cond.code yX11_isMapKind cX11_isMapKind 1 (some .boolean), Cond.methodLink RX11 281 yX4_isThere, Cond.instanceMethod yX4_isThere, Cond.selects RX4 yX4_isThere yX4_isThere, Cond.initialized RX4, Cond.code yX4_isThere cX4_isThere 1 (some .boolean), Cond.fieldLink RX4 15 "CutAtlas$NumberMap" "rows" "I", Cond.methodLink RX11 315 yX4_hasRow, Cond.instanceMethod yX4_hasRow, Cond.selects RX4 yX4_hasRow yX4_hasRow]
def wsX11_item_r2 : List Cond := [Cond.code yX4_hasRow cX4_hasRow 2 (some .boolean), Cond.methodLink RX11 277 yX4_number, Cond.instanceMethod yX4_number, Cond.selects RX4 yX4_number yX4_number, Cond.code yX4_number cX4_number 3 (some .long), Cond.fieldLink RX4 22 "CutAtlas$NumberMap" "numbers" "[J"]
def wsX11_item : List Cond := .code yX11_item cX11_item 5 (some .long) :: ((wsX11_item_r1 ++ wsX11_item_r2) ++ wsX110 ++ wsX40)
def wsX11_read_r1 : List Cond := [Cond.fieldLink RX11 91 "CutAtlas" "finding" "I", Cond.fieldLink RX11 72 "CutAtlas" "maps" "[LCutAtlas$NumberMap;", Cond.fieldLink RX11 284 "CutAtlas$NumberMap" "rows" "I", Cond.methodLink RX11 267 yX11_isMapNumber, Cond.static yX11_isMapNumber, Cond.initialized RX11, Cond.code yX11_isMapNumber cX11_isMapNumber 1 (some .boolean), Cond.methodLink RX11 281 yX4_isThere, Cond.instanceMethod yX4_isThere, Cond.selects RX4 yX4_isThere yX4_isThere, Cond.initialized RX4, Cond.code yX4_isThere cX4_isThere 1 (some .boolean), Cond.fieldLink RX4 15 "CutAtlas$NumberMap" "rows" "I", Cond.methodLink RX11 287 yX11_readRefusal, Cond.instanceMethod yX11_readRefusal, Cond.selects RX11 yX11_readRefusal yX11_readRefusal, Cond.code yX11_readRefusal cX11_readRefusal 3 (some .int), Cond.fieldLink RX11 321 "CutAtlas$NumberMap" "lengths" "[I", Cond.methodLink RX11 277 yX4_number, Cond.instanceMethod yX4_number, Cond.selects RX4 yX4_number yX4_number, Cond.code yX4_number cX4_number 3 (some .long), Cond.fieldLink RX4 22 "CutAtlas$NumberMap" "numbers" "[J", Cond.methodLink RX11 100 yX11_lineRefusal]
def wsX11_read_r2 : List Cond := [Cond.instanceMethod yX11_lineRefusal, Cond.selects RX11 yX11_lineRefusal yX11_lineRefusal, Cond.code yX11_lineRefusal cX11_lineRefusal 11 (some .int), Cond.constantLong RX11 300 (5), Cond.fieldLink RX11 31 "CutAtlas" "net" "LCutAtlas$Net;", Cond.constantLong RX11 302 (1000), Cond.constantLong RX11 304 (100), Cond.fieldLink RX11 294 "CutAtlas$Net" "lines" "I", Cond.methodLink RX11 135 yX3_hasPair, Cond.instanceMethod yX3_hasPair, Cond.selects RX3 yX3_hasPair yX3_hasPair, Cond.initialized RX3, Cond.code yX3_hasPair cX3_hasPair 5 (some .boolean), Cond.methodLink RX3 34 yX3_hasPlace, Cond.instanceMethod yX3_hasPlace, Cond.selects RX3 yX3_hasPlace yX3_hasPlace, Cond.code yX3_hasPlace cX3_hasPlace 3 (some .boolean), Cond.fieldLink RX3 9 "CutAtlas$Net" "places" "I", Cond.methodLink RX11 97 yX11_remember, Cond.instanceMethod yX11_remember, Cond.selects RX11 yX11_remember yX11_remember, Cond.code yX11_remember cX11_remember 2 none, Cond.fieldLink RX11 80 "CutAtlas" "pastFirst" "I", Cond.fieldLink RX11 84 "CutAtlas" "pastHeld" "I"]
def wsX11_read_r3 : List Cond := [Cond.fieldLink RX11 76 "CutAtlas" "past" "[LCutAtlas$Net;", Cond.classLink RX11 28 RX3, Cond.instantiable RX3 7, Cond.instanceMethod yX3_init, Cond.code yX3_init cX3_init 1 none, Cond.methodLink RX3 3 objectInit, Cond.instanceMethod objectInit, Cond.code objectInit ⟨#[0xb1]⟩ 1 none, Cond.fieldLink RX3 15 "CutAtlas$Net" "lines" "I", Cond.arrayClass .int, Cond.fieldLink RX3 18 "CutAtlas$Net" "kinds" "[I", Cond.fieldLink RX3 22 "CutAtlas$Net" "starts" "[I", Cond.fieldLink RX3 25 "CutAtlas$Net" "ends" "[I", Cond.fieldLink RX3 28 "CutAtlas$Net" "widths" "[I", Cond.fieldLink RX3 31 "CutAtlas$Net" "prices" "[I", Cond.methodLink RX11 151 yX3_become, Cond.instanceMethod yX3_become, Cond.selects RX3 yX3_become yX3_become, Cond.code yX3_become cX3_become 2 none, Cond.methodLink RX3 46 arraycopyName, Cond.native arraycopyName, Cond.static arraycopyName, Cond.initialized "java/lang/System", Cond.methodLink RX11 291 yX4_whole]
def wsX11_read_r4 : List Cond := [Cond.instanceMethod yX4_whole, Cond.selects RX4 yX4_whole yX4_whole, Cond.code yX4_whole cX4_whole 3 (some .int), Cond.methodLink RX4 32 yX4_number, Cond.methodLink RX11 108 yX11_addLine, Cond.instanceMethod yX11_addLine, Cond.selects RX11 yX11_addLine yX11_addLine, Cond.code yX11_addLine cX11_addLine 6 (some .int), Cond.fieldLink RX11 22 "CutAtlas" "kinds" "[LCutAtlas$PlainKind;", Cond.methodLink RX11 306 ⟨"CutAtlas$PlainKind", "begins", "(I)I"⟩, Cond.sameMethod "CutAtlas$PlainKind" "CutAtlas$PlainKind" "begins" "(I)I", Cond.selects RX2 ⟨"CutAtlas$PlainKind", "begins", "(I)I"⟩ yX6_begins, Cond.instanceMethod yX6_begins, Cond.initialized RX6, Cond.code yX6_begins cX6_begins 2 (some .int), Cond.selects RX5 ⟨"CutAtlas$PlainKind", "begins", "(I)I"⟩ yX6_begins, Cond.methodLink RX11 306 yX6_begins, Cond.selects RX6 yX6_begins yX6_begins, Cond.instanceMethod ⟨"CutAtlas$PlainKind", "begins", "(I)I"⟩, Cond.selects RX8 ⟨"CutAtlas$PlainKind", "begins", "(I)I"⟩ yX8_begins, Cond.instanceMethod yX8_begins, Cond.initialized RX8, Cond.code yX8_begins cX8_begins 2 (some .int), Cond.selects RX9 ⟨"CutAtlas$PlainKind", "begins", "(I)I"⟩ yX6_begins]
def wsX11_read_r5 : List Cond := [Cond.methodLink RX11 309 yX3_append, Cond.instanceMethod yX3_append, Cond.selects RX3 yX3_append yX3_append, Cond.code yX3_append cX3_append 6 (some .int)]
def wsX11_read : List Cond := .code yX11_read cX11_read 5 (some .int) :: ((wsX11_read_r1 ++ (wsX11_read_r2 ++ (wsX11_read_r3 ++ (wsX11_read_r4 ++ wsX11_read_r5)))) ++ wsX110 ++ wsX40 ++ wsX30)
def wsX11_about : List Cond := .code yX11_about cX11_about 2 (some .int) :: ([.fieldLink RX11 31 "CutAtlas" "net" "LCutAtlas$Net;", .fieldLink RX11 94 "CutAtlas$Net" "places" "I", .fieldLink RX11 294 "CutAtlas$Net" "lines" "I", .fieldLink RX11 84 "CutAtlas" "pastHeld" "I", .methodLink RX11 297 yX3_missingLines, .instanceMethod yX3_missingLines, .selects RX3 yX3_missingLines yX3_missingLines, .initialized RX3, .code yX3_missingLines cX3_missingLines 3 (some .int), .fieldLink RX3 15 "CutAtlas$Net" "lines" "I", .methodLink RX3 38 yX3_isMissing, .instanceMethod yX3_isMissing, .selects RX3 yX3_isMissing yX3_isMissing, .code yX3_isMissing cX3_isMissing 2 (some .boolean), .fieldLink RX3 22 "CutAtlas$Net" "starts" "[I", .methodLink RX11 204 yX3_isWhole, .instanceMethod yX3_isWhole, .selects RX3 yX3_isWhole yX3_isWhole, .code yX3_isWhole cX3_isWhole 3 (some .boolean), .fieldLink RX3 18 "CutAtlas$Net" "kinds" "[I", .fieldLink RX3 9 "CutAtlas$Net" "places" "I"] ++ wsX110 ++ wsX30)
def wsX11_trace : List Cond := .code yX11_trace cX11_trace 1 (some .long) :: ([.fieldLink RX11 87 "CutAtlas" "traced" "J"] ++ wsX110)
def wsX11_status : List Cond := .code yX11_status cX11_status 1 (some .int) :: ([.fieldLink RX11 91 "CutAtlas" "finding" "I"] ++ wsX110)
def wsL_law_r1 : List Cond := [Cond.classLink RL 7 RX11, Cond.instantiable RX11 12, Cond.initialized RX11, Cond.classLink RL 10 RX12, Cond.instantiable RX12 34, Cond.initialized RX12, Cond.constantLong RL 122 (4294967295), Cond.methodLink RL 9 yX11_init, Cond.instanceMethod yX11_init, Cond.code yX11_init cX11_init 1 none, Cond.methodLink RX11 1 objectInit, Cond.instanceMethod objectInit, Cond.code objectInit ⟨#[0xb1]⟩ 1 none, Cond.classLink RX11 7 RX6, Cond.instantiable RX6 0, Cond.initialized RX6, Cond.classLink RX11 10 RX5, Cond.instantiable RX5 0, Cond.initialized RX5, Cond.classLink RX11 13 RX9, Cond.instantiable RX9 0, Cond.initialized RX9, Cond.classLink RX11 16 RX2, Cond.instantiable RX2 0]
def wsL_law_r2 : List Cond := [Cond.initialized RX2, Cond.classLink RX11 19 RX8, Cond.instantiable RX8 0, Cond.initialized RX8, Cond.fieldLink RX11 22 "CutAtlas" "kinds" "[LCutAtlas$PlainKind;", Cond.classLink RX11 28 RX3, Cond.instantiable RX3 7, Cond.initialized RX3, Cond.fieldLink RX11 31 "CutAtlas" "net" "LCutAtlas$Net;", Cond.classLink RX11 35 RX0, Cond.instantiable RX0 9, Cond.initialized RX0, Cond.fieldLink RX11 40 "CutAtlas" "current" "LCutAtlas$Current;", Cond.classLink RX11 44 RX7, Cond.instantiable RX7 9, Cond.initialized RX7, Cond.fieldLink RX11 49 "CutAtlas" "hunt" "LCutAtlas$SetHunt;", Cond.classLink RX11 53 RX1, Cond.instantiable RX1 3, Cond.initialized RX1, Cond.fieldLink RX11 56 "CutAtlas" "cutTree" "LCutAtlas$CutTree;", Cond.classLink RX11 60 RX10, Cond.instantiable RX10 5, Cond.initialized RX10]
def wsL_law_r3 : List Cond := [Cond.fieldLink RX11 65 "CutAtlas" "widening" "LCutAtlas$Widening;", Cond.classLink RX11 69 RX4, Cond.instantiable RX4 4, Cond.initialized RX4, Cond.fieldLink RX11 72 "CutAtlas" "maps" "[LCutAtlas$NumberMap;", Cond.fieldLink RX11 76 "CutAtlas" "past" "[LCutAtlas$Net;", Cond.fieldLink RX11 80 "CutAtlas" "pastFirst" "I", Cond.fieldLink RX11 84 "CutAtlas" "pastHeld" "I", Cond.fieldLink RX11 87 "CutAtlas" "traced" "J", Cond.fieldLink RX11 91 "CutAtlas" "finding" "I", Cond.instanceMethod yX6_init, Cond.code yX6_init cX6_init 1 none, Cond.methodLink RX6 3 objectInit, Cond.instanceMethod yX5_init, Cond.code yX5_init cX5_init 1 none, Cond.instanceMethod yX9_init, Cond.code yX9_init cX9_init 1 none, Cond.instanceMethod yX2_init, Cond.code yX2_init cX2_init 1 none, Cond.instanceMethod yX8_init, Cond.code yX8_init cX8_init 1 none, Cond.instanceMethod yX3_init, Cond.code yX3_init cX3_init 1 none, Cond.methodLink RX3 3 objectInit]
def wsL_law_r4 : List Cond := [Cond.fieldLink RX3 9 "CutAtlas$Net" "places" "I", Cond.fieldLink RX3 15 "CutAtlas$Net" "lines" "I", Cond.arrayClass .int, Cond.fieldLink RX3 18 "CutAtlas$Net" "kinds" "[I", Cond.fieldLink RX3 22 "CutAtlas$Net" "starts" "[I", Cond.fieldLink RX3 25 "CutAtlas$Net" "ends" "[I", Cond.fieldLink RX3 28 "CutAtlas$Net" "widths" "[I", Cond.fieldLink RX3 31 "CutAtlas$Net" "prices" "[I", Cond.methodLink RX11 37 yX0_init, Cond.instanceMethod yX0_init, Cond.code yX0_init cX0_init 3 none, Cond.methodLink RX0 3 objectInit, Cond.classLink RX0 9 "[[I", Cond.fieldLink RX0 11 "CutAtlas$Current" "lets" "[[I", Cond.fieldLink RX0 16 "CutAtlas$Current" "room" "[[I", Cond.fieldLink RX0 19 "CutAtlas$Current" "flowing" "[I", Cond.fieldLink RX0 23 "CutAtlas$Current" "letsForth" "[I", Cond.fieldLink RX0 26 "CutAtlas$Current" "letsBack" "[I", Cond.fieldLink RX0 29 "CutAtlas$Current" "queue" "[I", Cond.fieldLink RX0 32 "CutAtlas$Current" "cameFrom" "[I", Cond.fieldLink RX0 35 "CutAtlas$Current" "net" "LCutAtlas$Net;", Cond.fieldLink RX0 39 "CutAtlas$Current" "kinds" "[LCutAtlas$PlainKind;", Cond.methodLink RX11 46 yX7_init, Cond.instanceMethod yX7_init]
def wsL_law_r5 : List Cond := [Cond.code yX7_init cX7_init 2 none, Cond.methodLink RX7 3 objectInit, Cond.fieldLink RX7 9 "CutAtlas$SetHunt" "current" "LCutAtlas$Current;", Cond.methodLink RX11 55 yX1_init, Cond.instanceMethod yX1_init, Cond.code yX1_init cX1_init 2 none, Cond.methodLink RX1 3 objectInit, Cond.fieldLink RX1 9 "CutAtlas$CutTree" "nexts" "[I", Cond.fieldLink RX1 15 "CutAtlas$CutTree" "numbers" "[I", Cond.fieldLink RX1 18 "CutAtlas$CutTree" "current" "LCutAtlas$Current;", Cond.methodLink RX11 62 yX10_init, Cond.instanceMethod yX10_init, Cond.code yX10_init cX10_init 3 none, Cond.methodLink RX10 3 objectInit, Cond.classLink RX10 9 "[[I", Cond.fieldLink RX10 11 "CutAtlas$Widening" "prices" "[[I", Cond.fieldLink RX10 16 "CutAtlas$Widening" "costs" "[I", Cond.fieldLink RX10 20 "CutAtlas$Widening" "cameFrom" "[I", Cond.fieldLink RX10 23 "CutAtlas$Widening" "current" "LCutAtlas$Current;", Cond.fieldLink RX10 27 "CutAtlas$Widening" "kinds" "[LCutAtlas$PlainKind;", Cond.instanceMethod yX4_init, Cond.code yX4_init cX4_init 1 none, Cond.methodLink RX4 3 objectInit, Cond.fieldLink RX4 9 "CutAtlas$NumberMap" "kind" "I"]
def wsL_law_r6 : List Cond := [Cond.fieldLink RX4 15 "CutAtlas$NumberMap" "rows" "I", Cond.fieldLink RX4 18 "CutAtlas$NumberMap" "lengths" "[I", Cond.arrayClass .long, Cond.fieldLink RX4 22 "CutAtlas$NumberMap" "numbers" "[J", Cond.methodLink RL 12 yX12_init, Cond.instanceMethod yX12_init, Cond.code yX12_init cX12_init 1 none, Cond.methodLink RX12 1 objectInit, Cond.fieldLink RX12 7 "CutAtlasModel" "kind" "[I", Cond.fieldLink RX12 13 "CutAtlasModel" "from" "[I", Cond.fieldLink RX12 16 "CutAtlasModel" "to" "[I", Cond.fieldLink RX12 19 "CutAtlasModel" "width" "[I", Cond.fieldLink RX12 22 "CutAtlasModel" "price" "[I", Cond.arrayClass .boolean, Cond.fieldLink RX12 25 "CutAtlasModel" "isMissing" "[Z", Cond.fieldLink RX12 29 "CutAtlasModel" "oldPlaces" "[I", Cond.fieldLink RX12 32 "CutAtlasModel" "oldLines" "[I", Cond.fieldLink RX12 35 "CutAtlasModel" "old" "[I", Cond.fieldLink RX12 38 "CutAtlasModel" "hasMap" "[Z", Cond.fieldLink RX12 41 "CutAtlasModel" "mapKind" "[I", Cond.fieldLink RX12 44 "CutAtlasModel" "mapRows" "[I", Cond.fieldLink RX12 47 "CutAtlasModel" "rowSize" "[I", Cond.fieldLink RX12 50 "CutAtlasModel" "cells" "[J", Cond.fieldLink RX12 54 "CutAtlasModel" "copied" "[J"]
def wsL_law_r7 : List Cond := [Cond.fieldLink RX12 57 "CutAtlasModel" "raised" "I", Cond.fieldLink RX12 61 "CutAtlasModel" "flows" "[I", Cond.fieldLink RX12 64 "CutAtlasModel" "queue" "[I", Cond.fieldLink RX12 67 "CutAtlasModel" "cameFrom" "[I", Cond.fieldLink RX12 70 "CutAtlasModel" "paid" "[J", Cond.fieldLink RX12 73 "CutAtlasModel" "byLine" "[I", Cond.fieldLink RX12 76 "CutAtlasModel" "byPlace" "[I", Cond.fieldLink RX12 79 "CutAtlasModel" "treeNext" "[I", Cond.fieldLink RX12 82 "CutAtlasModel" "treeNumber" "[I", Cond.methodLink RL 13 yX11_place, Cond.instanceMethod yX11_place, Cond.selects RX11 yX11_place yX11_place, Cond.code yX11_place cX11_place 1 (some .int), Cond.fieldLink RX11 94 "CutAtlas$Net" "places" "I", Cond.methodLink RX11 97 yX11_remember, Cond.instanceMethod yX11_remember, Cond.selects RX11 yX11_remember yX11_remember, Cond.code yX11_remember cX11_remember 2 none, Cond.methodLink RX11 151 yX3_become, Cond.instanceMethod yX3_become, Cond.selects RX3 yX3_become yX3_become, Cond.code yX3_become cX3_become 2 none, Cond.methodLink RX3 46 arraycopyName, Cond.native arraycopyName]
def wsL_law_r8 : List Cond := [Cond.static arraycopyName, Cond.initialized "java/lang/System", Cond.methodLink RL 17 yX12_place, Cond.instanceMethod yX12_place, Cond.selects RX12 yX12_place yX12_place, Cond.code yX12_place cX12_place 1 (some .int), Cond.fieldLink RX12 85 "CutAtlasModel" "thrown" "I", Cond.fieldLink RX12 88 "CutAtlasModel" "places" "I", Cond.methodLink RX12 105 yX12_keeps, Cond.instanceMethod yX12_keeps, Cond.selects RX12 yX12_keeps yX12_keeps, Cond.code yX12_keeps cX12_keeps 3 none, Cond.fieldLink RX12 102 "CutAtlasModel" "undone" "I", Cond.fieldLink RX12 95 "CutAtlasModel" "lines" "I", Cond.methodLink RL 18 yX11_line, Cond.instanceMethod yX11_line, Cond.selects RX11 yX11_line yX11_line, Cond.code yX11_line cX11_line 7 (some .int), Cond.methodLink RX11 100 yX11_lineRefusal, Cond.instanceMethod yX11_lineRefusal, Cond.selects RX11 yX11_lineRefusal yX11_lineRefusal, Cond.code yX11_lineRefusal cX11_lineRefusal 11 (some .int), Cond.constantLong RX11 300 (5), Cond.constantLong RX11 302 (1000)]
def wsL_law_r9 : List Cond := [Cond.constantLong RX11 304 (100), Cond.fieldLink RX11 294 "CutAtlas$Net" "lines" "I", Cond.methodLink RX11 135 yX3_hasPair, Cond.instanceMethod yX3_hasPair, Cond.selects RX3 yX3_hasPair yX3_hasPair, Cond.code yX3_hasPair cX3_hasPair 5 (some .boolean), Cond.methodLink RX3 34 yX3_hasPlace, Cond.instanceMethod yX3_hasPlace, Cond.selects RX3 yX3_hasPlace yX3_hasPlace, Cond.code yX3_hasPlace cX3_hasPlace 3 (some .boolean), Cond.methodLink RX11 104 ⟨"CutAtlas$PlainKind", "beginsMark", "()I"⟩, Cond.sameMethod "CutAtlas$PlainKind" "CutAtlas$PlainKind" "beginsMark" "()I", Cond.selects RX2 ⟨"CutAtlas$PlainKind", "beginsMark", "()I"⟩ yX6_beginsMark, Cond.instanceMethod yX6_beginsMark, Cond.code yX6_beginsMark cX6_beginsMark 1 (some .int), Cond.selects RX5 ⟨"CutAtlas$PlainKind", "beginsMark", "()I"⟩ yX6_beginsMark, Cond.methodLink RX11 104 yX6_beginsMark, Cond.selects RX6 yX6_beginsMark yX6_beginsMark, Cond.instanceMethod ⟨"CutAtlas$PlainKind", "beginsMark", "()I"⟩, Cond.selects RX8 ⟨"CutAtlas$PlainKind", "beginsMark", "()I"⟩ yX8_beginsMark, Cond.instanceMethod yX8_beginsMark, Cond.code yX8_beginsMark cX8_beginsMark 1 (some .int), Cond.constant RX8 16 (1000000), Cond.selects RX9 ⟨"CutAtlas$PlainKind", "beginsMark", "()I"⟩ yX6_beginsMark]
def wsL_law_r10 : List Cond := [Cond.methodLink RX11 108 yX11_addLine, Cond.instanceMethod yX11_addLine, Cond.selects RX11 yX11_addLine yX11_addLine, Cond.code yX11_addLine cX11_addLine 6 (some .int), Cond.methodLink RX11 306 ⟨"CutAtlas$PlainKind", "begins", "(I)I"⟩, Cond.sameMethod "CutAtlas$PlainKind" "CutAtlas$PlainKind" "begins" "(I)I", Cond.selects RX2 ⟨"CutAtlas$PlainKind", "begins", "(I)I"⟩ yX6_begins, Cond.instanceMethod yX6_begins, Cond.code yX6_begins cX6_begins 2 (some .int), Cond.selects RX5 ⟨"CutAtlas$PlainKind", "begins", "(I)I"⟩ yX6_begins, Cond.methodLink RX11 306 yX6_begins, Cond.selects RX6 yX6_begins yX6_begins, Cond.instanceMethod ⟨"CutAtlas$PlainKind", "begins", "(I)I"⟩, Cond.selects RX8 ⟨"CutAtlas$PlainKind", "begins", "(I)I"⟩ yX8_begins, Cond.instanceMethod yX8_begins, Cond.code yX8_begins cX8_begins 2 (some .int), Cond.selects RX9 ⟨"CutAtlas$PlainKind", "begins", "(I)I"⟩ yX6_begins, Cond.methodLink RX11 309 yX3_append, Cond.instanceMethod yX3_append, Cond.selects RX3 yX3_append yX3_append, Cond.code yX3_append cX3_append 6 (some .int), Cond.methodLink RL 22 yX12_line, Cond.instanceMethod yX12_line, Cond.selects RX12 yX12_line yX12_line]
def wsL_law_r11 : List Cond := [Cond.code yX12_line cX12_line 7 (some .int), Cond.methodLink RX12 120 yX12_refused, Cond.instanceMethod yX12_refused, Cond.selects RX12 yX12_refused yX12_refused, Cond.code yX12_refused cX12_refused 12 (some .int), Cond.constantLong RX12 108 (4), Cond.constantLong RX12 110 (1000), Cond.constantLong RX12 112 (100), Cond.methodLink RX12 91 yX12_in, Cond.static yX12_in, Cond.code yX12_in cX12_in 6 (some .boolean), Cond.methodLink RX12 124 yX12_adds, Cond.instanceMethod yX12_adds, Cond.selects RX12 yX12_adds yX12_adds, Cond.code yX12_adds cX12_adds 6 none, Cond.fieldLink RX12 114 "CutAtlasModel" "trace" "J", Cond.constantLong RX12 118 (1000000), Cond.methodLink RL 23 yX11_widen, Cond.instanceMethod yX11_widen, Cond.selects RX11 yX11_widen yX11_widen, Cond.code yX11_widen cX11_widen 5 (some .int), Cond.fieldLink RX11 116 "CutAtlas$Net" "kinds" "[I", Cond.fieldLink RX11 119 "CutAtlas$Net" "prices" "[I", Cond.fieldLink RX11 129 "CutAtlas$Net" "widths" "[I"]
def wsL_law_r12 : List Cond := [Cond.methodLink RX11 112 yX3_hasLine, Cond.instanceMethod yX3_hasLine, Cond.selects RX3 yX3_hasLine yX3_hasLine, Cond.code yX3_hasLine cX3_hasLine 2 (some .boolean), Cond.methodLink RX11 122 ⟨"CutAtlas$PlainKind", "costs", "(I)I"⟩, Cond.sameMethod "CutAtlas$PlainKind" "CutAtlas$PlainKind" "costs" "(I)I", Cond.instanceMethod ⟨"CutAtlas$PlainKind", "costs", "(I)I"⟩, Cond.selects RX2 ⟨"CutAtlas$PlainKind", "costs", "(I)I"⟩ yX2_costs, Cond.instanceMethod yX2_costs, Cond.code yX2_costs cX2_costs 2 (some .int), Cond.code yX6_costs cX6_costs 2 (some .int), Cond.selects RX5 ⟨"CutAtlas$PlainKind", "costs", "(I)I"⟩ yX6_costs, Cond.instanceMethod yX6_costs, Cond.methodLink RX11 122 yX6_costs, Cond.selects RX6 yX6_costs yX6_costs, Cond.selects RX8 ⟨"CutAtlas$PlainKind", "costs", "(I)I"⟩ yX8_costs, Cond.instanceMethod yX8_costs, Cond.code yX8_costs cX8_costs 2 (some .int), Cond.methodLink RX8 7 yX2_costs, Cond.sameMethod "CutAtlas$DearKind" "CutAtlas$DearKind" "costs" "(I)I", Cond.superclass RX8 RX2, Cond.selects RX9 ⟨"CutAtlas$PlainKind", "costs", "(I)I"⟩ yX6_costs, Cond.methodLink RX11 126 yX3_isMissing, Cond.instanceMethod yX3_isMissing]
def wsL_law_r13 : List Cond := [Cond.selects RX3 yX3_isMissing yX3_isMissing, Cond.code yX3_isMissing cX3_isMissing 2 (some .boolean), Cond.methodLink RX11 132 ⟨"CutAtlas$PlainKind", "costsMark", "()I"⟩, Cond.sameMethod "CutAtlas$PlainKind" "CutAtlas$PlainKind" "costsMark" "()I", Cond.instanceMethod ⟨"CutAtlas$PlainKind", "costsMark", "()I"⟩, Cond.selects RX2 ⟨"CutAtlas$PlainKind", "costsMark", "()I"⟩ yX2_costsMark, Cond.instanceMethod yX2_costsMark, Cond.code yX2_costsMark cX2_costsMark 1 (some .int), Cond.code yX6_costsMark cX6_costsMark 1 (some .int), Cond.selects RX5 ⟨"CutAtlas$PlainKind", "costsMark", "()I"⟩ yX6_costsMark, Cond.instanceMethod yX6_costsMark, Cond.methodLink RX11 132 yX6_costsMark, Cond.selects RX6 yX6_costsMark yX6_costsMark, Cond.selects RX8 ⟨"CutAtlas$PlainKind", "costsMark", "()I"⟩ yX8_costsMark, Cond.instanceMethod yX8_costsMark, Cond.code yX8_costsMark cX8_costsMark 1 (some .int), Cond.constant RX8 11 (100000), Cond.methodLink RX8 12 yX2_costsMark, Cond.sameMethod "CutAtlas$DearKind" "CutAtlas$DearKind" "costsMark" "()I", Cond.selects RX9 ⟨"CutAtlas$PlainKind", "costsMark", "()I"⟩ yX6_costsMark, Cond.methodLink RL 27 yX12_widen, Cond.instanceMethod yX12_widen, Cond.selects RX12 yX12_widen yX12_widen, Cond.code yX12_widen cX12_widen 3 (some .int)]
def wsL_law_r14 : List Cond := [Cond.methodLink RX12 132 yX12_isLine, Cond.instanceMethod yX12_isLine, Cond.selects RX12 yX12_isLine yX12_isLine, Cond.code yX12_isLine cX12_isLine 2 (some .boolean), Cond.methodLink RX12 135 yX12_costs, Cond.instanceMethod yX12_costs, Cond.selects RX12 yX12_costs yX12_costs, Cond.code yX12_costs cX12_costs 2 (some .int), Cond.methodLink RX12 139 yX12_costsTrace, Cond.instanceMethod yX12_costsTrace, Cond.selects RX12 yX12_costsTrace yX12_costsTrace, Cond.code yX12_costsTrace cX12_costsTrace 2 (some .long), Cond.constantLong RX12 128 (10000), Cond.constantLong RX12 130 (110000), Cond.methodLink RL 28 yX11_width, Cond.instanceMethod yX11_width, Cond.selects RX11 yX11_width yX11_width, Cond.code yX11_width cX11_width 4 (some .int), Cond.methodLink RL 31 yX12_width, Cond.instanceMethod yX12_width, Cond.selects RX12 yX12_width yX12_width, Cond.code yX12_width cX12_width 4 (some .int), Cond.methodLink RL 32 yX11_merge, Cond.instanceMethod yX11_merge]
def wsL_law_r15 : List Cond := [Cond.selects RX11 yX11_merge yX11_merge, Cond.code yX11_merge cX11_merge 3 (some .int), Cond.methodLink RX11 139 Lib.Math.min.name, Cond.static Lib.Math.min.name, Cond.initialized "java/lang/Math", Cond.code Lib.Math.min.name Lib.Math.min.code 2 (some .int), Cond.methodLink RX11 145 Lib.Math.max.name, Cond.static Lib.Math.max.name, Cond.code Lib.Math.max.name Lib.Math.max.code 2 (some .int), Cond.methodLink RX11 148 yX3_join, Cond.instanceMethod yX3_join, Cond.selects RX3 yX3_join yX3_join, Cond.code yX3_join cX3_join 5 (some .int), Cond.methodLink RX3 38 yX3_isMissing, Cond.methodLink RX3 42 yX3_renumbered, Cond.static yX3_renumbered, Cond.code yX3_renumbered cX3_renumbered 3 (some .int), Cond.methodLink RL 35 yX12_merge, Cond.instanceMethod yX12_merge, Cond.selects RX12 yX12_merge yX12_merge, Cond.code yX12_merge cX12_merge 7 (some .int), Cond.methodLink RX12 143 yX12_arePlaces, Cond.instanceMethod yX12_arePlaces, Cond.selects RX12 yX12_arePlaces yX12_arePlaces]
def wsL_law_r16 : List Cond := [Cond.code yX12_arePlaces cX12_arePlaces 3 (some .boolean), Cond.methodLink RX12 98 yX12_isPlace, Cond.instanceMethod yX12_isPlace, Cond.selects RX12 yX12_isPlace yX12_isPlace, Cond.code yX12_isPlace cX12_isPlace 2 (some .boolean), Cond.methodLink RL 36 yX11_undo, Cond.instanceMethod yX11_undo, Cond.selects RX11 yX11_undo yX11_undo, Cond.code yX11_undo cX11_undo 2 (some .int), Cond.methodLink RL 39 yX12_undo, Cond.instanceMethod yX12_undo, Cond.selects RX12 yX12_undo yX12_undo, Cond.code yX12_undo cX12_undo 3 (some .int), Cond.methodLink RL 40 yX11_told, Cond.instanceMethod yX11_told, Cond.selects RX11 yX11_told yX11_told, Cond.code yX11_told cX11_told 3 (some .int), Cond.fieldLink RX11 155 "CutAtlas$Net" "starts" "[I", Cond.fieldLink RX11 158 "CutAtlas$Net" "ends" "[I", Cond.methodLink RL 43 yX12_told, Cond.instanceMethod yX12_told, Cond.selects RX12 yX12_told yX12_told, Cond.code yX12_told cX12_told 4 (some .int), Cond.constantLong RX12 147 (5)]
def wsL_law_r17 : List Cond := [Cond.methodLink RL 44 yX11_ask, Cond.instanceMethod yX11_ask, Cond.selects RX11 yX11_ask yX11_ask, Cond.code yX11_ask cX11_ask 5 (some .int), Cond.methodLink RX11 161 ⟨"CutAtlas$PlainKind", "letsMark", "(Z)I"⟩, Cond.sameMethod "CutAtlas$PlainKind" "CutAtlas$PlainKind" "letsMark" "(Z)I", Cond.selects RX2 ⟨"CutAtlas$PlainKind", "letsMark", "(Z)I"⟩ yX6_letsMark, Cond.instanceMethod yX6_letsMark, Cond.code yX6_letsMark cX6_letsMark 2 (some .int), Cond.instanceMethod ⟨"CutAtlas$PlainKind", "letsMark", "(Z)I"⟩, Cond.selects RX5 ⟨"CutAtlas$PlainKind", "letsMark", "(Z)I"⟩ yX5_letsMark, Cond.instanceMethod yX5_letsMark, Cond.code yX5_letsMark cX5_letsMark 2 (some .int), Cond.methodLink RX5 11 yX6_letsMark, Cond.superclass RX5 RX6, Cond.methodLink RX11 161 yX6_letsMark, Cond.selects RX6 yX6_letsMark yX6_letsMark, Cond.selects RX8 ⟨"CutAtlas$PlainKind", "letsMark", "(Z)I"⟩ yX6_letsMark, Cond.selects RX9 ⟨"CutAtlas$PlainKind", "letsMark", "(Z)I"⟩ yX9_letsMark, Cond.instanceMethod yX9_letsMark, Cond.code yX9_letsMark cX9_letsMark 2 (some .int), Cond.methodLink RX11 165 ⟨"CutAtlas$PlainKind", "lets", "(IZ)I"⟩, Cond.sameMethod "CutAtlas$PlainKind" "CutAtlas$PlainKind" "lets" "(IZ)I", Cond.selects RX2 ⟨"CutAtlas$PlainKind", "lets", "(IZ)I"⟩ yX6_lets]
def wsL_law_r18 : List Cond := [Cond.instanceMethod yX6_lets, Cond.code yX6_lets cX6_lets 3 (some .int), Cond.instanceMethod ⟨"CutAtlas$PlainKind", "lets", "(IZ)I"⟩, Cond.selects RX5 ⟨"CutAtlas$PlainKind", "lets", "(IZ)I"⟩ yX5_lets, Cond.instanceMethod yX5_lets, Cond.code yX5_lets cX5_lets 3 (some .int), Cond.methodLink RX5 7 yX6_lets, Cond.methodLink RX11 165 yX6_lets, Cond.selects RX6 yX6_lets yX6_lets, Cond.selects RX8 ⟨"CutAtlas$PlainKind", "lets", "(IZ)I"⟩ yX6_lets, Cond.selects RX9 ⟨"CutAtlas$PlainKind", "lets", "(IZ)I"⟩ yX9_lets, Cond.instanceMethod yX9_lets, Cond.code yX9_lets cX9_lets 3 (some .int), Cond.methodLink RL 47 yX12_ask, Cond.instanceMethod yX12_ask, Cond.selects RX12 yX12_ask yX12_ask, Cond.code yX12_ask cX12_ask 4 (some .int), Cond.constantLong RX12 149 (2), Cond.constantLong RX12 151 (11), Cond.constantLong RX12 153 (10), Cond.methodLink RX12 155 yX12_lets, Cond.instanceMethod yX12_lets, Cond.selects RX12 yX12_lets yX12_lets, Cond.code yX12_lets cX12_lets 3 (some .int)]
def wsL_law_r19 : List Cond := [Cond.methodLink RL 48 yX11_most, Cond.instanceMethod yX11_most, Cond.selects RX11 yX11_most yX11_most, Cond.code yX11_most cX11_most 3 (some .int), Cond.methodLink RX11 169 yX11_mostNow, Cond.instanceMethod yX11_mostNow, Cond.selects RX11 yX11_mostNow yX11_mostNow, Cond.code yX11_mostNow cX11_mostNow 3 (some .int), Cond.methodLink RX11 190 yX0_load, Cond.instanceMethod yX0_load, Cond.selects RX0 yX0_load yX0_load, Cond.code yX0_load cX0_load 5 none, Cond.fieldLink RX0 43 "CutAtlas$Net" "places" "I", Cond.fieldLink RX0 55 "CutAtlas$Net" "lines" "I", Cond.fieldLink RX0 62 "CutAtlas$Net" "widths" "[I", Cond.fieldLink RX0 65 "CutAtlas$Net" "kinds" "[I", Cond.fieldLink RX0 76 "CutAtlas$Net" "starts" "[I", Cond.fieldLink RX0 79 "CutAtlas$Net" "ends" "[I", Cond.methodLink RX0 49 yJ7_fill_53178, Cond.static yJ7_fill_53178, Cond.initialized RJ7, Cond.code yJ7_fill_53178 cJ7_fill_53178 4 none, Cond.methodLink RX0 58 yX3_isMissing, Cond.methodLink RX0 67 ⟨"CutAtlas$PlainKind", "lets", "(IZ)I"⟩]
def wsL_law_r20 : List Cond := [Cond.methodLink RX0 67 yX6_lets, Cond.methodLink RX0 72 yX0_asRoom, Cond.static yX0_asRoom, Cond.code yX0_asRoom cX0_asRoom 1 (some .int), Cond.constant RX0 82 (1000000), Cond.methodLink RX11 198 yX0_fill, Cond.instanceMethod yX0_fill, Cond.selects RX0 yX0_fill yX0_fill, Cond.code yX0_fill cX0_fill 5 (some .int), Cond.methodLink RX0 83 arraycopyName, Cond.methodLink RX0 89 yX0_reachedFrom, Cond.instanceMethod yX0_reachedFrom, Cond.selects RX0 yX0_reachedFrom yX0_reachedFrom, Cond.code yX0_reachedFrom cX0_reachedFrom 7 (some .int), Cond.methodLink RX0 93 yX0_findWay, Cond.instanceMethod yX0_findWay, Cond.selects RX0 yX0_findWay yX0_findWay, Cond.code yX0_findWay cX0_findWay 8 (some .boolean), Cond.methodLink RX0 97 yX0_sendAlongWay, Cond.instanceMethod yX0_sendAlongWay, Cond.selects RX0 yX0_sendAlongWay yX0_sendAlongWay, Cond.code yX0_sendAlongWay cX0_sendAlongWay 6 (some .int), Cond.constant RX0 100 (1000000000), Cond.methodLink RX0 101 Lib.Math.min.name]
def wsL_law_r21 : List Cond := [Cond.methodLink RX0 106 yX0_sendOver, Cond.instanceMethod yX0_sendOver, Cond.selects RX0 yX0_sendOver yX0_sendOver, Cond.code yX0_sendOver cX0_sendOver 7 none, Cond.methodLink RL 51 yX12_most, Cond.instanceMethod yX12_most, Cond.selects RX12 yX12_most yX12_most, Cond.code yX12_most cX12_most 3 (some .int), Cond.methodLink RX12 166 yX12_mostOf, Cond.instanceMethod yX12_mostOf, Cond.selects RX12 yX12_mostOf yX12_mostOf, Cond.code yX12_mostOf cX12_mostOf 6 (some .int), Cond.constant RX12 159 (1000000), Cond.methodLink RX12 163 yX12_sizeOf, Cond.instanceMethod yX12_sizeOf, Cond.selects RX12 yX12_sizeOf yX12_sizeOf, Cond.code yX12_sizeOf cX12_sizeOf 6 (some .int), Cond.methodLink RX12 160 yX12_room, Cond.instanceMethod yX12_room, Cond.selects RX12 yX12_room yX12_room, Cond.code yX12_room cX12_room 5 (some .int), Cond.methodLink RX12 170 yX12_asTold, Cond.static yX12_asTold, Cond.code yX12_asTold cX12_asTold 1 (some .int)]
def wsL_law_r22 : List Cond := [Cond.methodLink RL 52 yX11_flow, Cond.instanceMethod yX11_flow, Cond.selects RX11 yX11_flow yX11_flow, Cond.code yX11_flow cX11_flow 4 (some .int), Cond.constant RX11 172 (-1000000), Cond.fieldLink RX11 173 "CutAtlas$Current" "flowing" "[I", Cond.methodLink RL 56 yX12_flow, Cond.instanceMethod yX12_flow, Cond.selects RX12 yX12_flow yX12_flow, Cond.code yX12_flow cX12_flow 4 (some .int), Cond.constant RX12 187 (-1000000), Cond.methodLink RX12 188 yX12_flowOf, Cond.instanceMethod yX12_flowOf, Cond.selects RX12 yX12_flowOf yX12_flowOf, Cond.code yX12_flowOf cX12_flowOf 9 none, Cond.constant RX12 186 (2147483647), Cond.methodLink RX12 183 yX12_hasWay, Cond.instanceMethod yX12_hasWay, Cond.selects RX12 yX12_hasWay yX12_hasWay, Cond.code yX12_hasWay cX12_hasWay 6 (some .boolean), Cond.methodLink RX12 177 yX12_isMet, Cond.instanceMethod yX12_isMet, Cond.selects RX12 yX12_isMet yX12_isMet, Cond.code yX12_isMet cX12_isMet 5 (some .boolean)]
def wsL_law_r23 : List Cond := [Cond.methodLink RX12 180 yX12_leftOf, Cond.instanceMethod yX12_leftOf, Cond.selects RX12 yX12_leftOf yX12_leftOf, Cond.code yX12_leftOf cX12_leftOf 5 (some .int), Cond.methodLink RX12 173 yX12_left, Cond.instanceMethod yX12_left, Cond.selects RX12 yX12_left yX12_left, Cond.code yX12_left cX12_left 4 (some .int), Cond.methodLink RL 57 yX11_cut, Cond.instanceMethod yX11_cut, Cond.selects RX11 yX11_cut yX11_cut, Cond.code yX11_cut cX11_cut 4 (some .int), Cond.methodLink RX11 176 yX0_nearCut, Cond.instanceMethod yX0_nearCut, Cond.selects RX0 yX0_nearCut yX0_nearCut, Cond.code yX0_nearCut cX0_nearCut 2 (some .int), Cond.methodLink RX11 179 yX0_farCut, Cond.instanceMethod yX0_farCut, Cond.selects RX0 yX0_farCut yX0_farCut, Cond.code yX0_farCut cX0_farCut 2 (some .int), Cond.methodLink RX0 110 yX0_reaching, Cond.instanceMethod yX0_reaching, Cond.selects RX0 yX0_reaching yX0_reaching, Cond.code yX0_reaching cX0_reaching 6 (some .int)]
def wsL_law_r24 : List Cond := [Cond.methodLink RL 60 yX12_cut, Cond.instanceMethod yX12_cut, Cond.selects RX12 yX12_cut yX12_cut, Cond.code yX12_cut cX12_cut 5 (some .int), Cond.fieldLink RX12 195 "CutAtlasModel" "near" "I", Cond.fieldLink RX12 198 "CutAtlasModel" "far" "I", Cond.methodLink RX12 207 yX12_cutsOf, Cond.instanceMethod yX12_cutsOf, Cond.selects RX12 yX12_cutsOf yX12_cutsOf, Cond.code yX12_cutsOf cX12_cutsOf 6 none, Cond.fieldLink RX12 192 "CutAtlasModel" "cuts" "I", Cond.fieldLink RX12 201 "CutAtlasModel" "chosen" "I", Cond.methodLink RX12 204 yX12_bitsOf, Cond.static yX12_bitsOf, Cond.code yX12_bitsOf cX12_bitsOf 3 (some .int), Cond.methodLink RL 61 yX11_count, Cond.instanceMethod yX11_count, Cond.selects RX11 yX11_count yX11_count, Cond.code yX11_count cX11_count 4 (some .int), Cond.methodLink RX11 182 yX7_countCuts, Cond.instanceMethod yX7_countCuts, Cond.selects RX7 yX7_countCuts yX7_countCuts, Cond.code yX7_countCuts cX7_countCuts 4 (some .int), Cond.constant RX7 15 (1000000000)]
def wsL_law_r25 : List Cond := [Cond.fieldLink RX7 20 "CutAtlas$SetHunt" "met" "I", Cond.methodLink RX7 16 yX7_hunt, Cond.instanceMethod yX7_hunt, Cond.selects RX7 yX7_hunt yX7_hunt, Cond.code yX7_hunt cX7_hunt 5 none, Cond.fieldLink RX7 27 "CutAtlas$SetHunt" "must" "I", Cond.fieldLink RX7 30 "CutAtlas$SetHunt" "mustNot" "I", Cond.fieldLink RX7 33 "CutAtlas$SetHunt" "aim" "I", Cond.fieldLink RX7 36 "CutAtlas$SetHunt" "wanted" "I", Cond.fieldLink RX7 24 "CutAtlas$SetHunt" "found" "I", Cond.fieldLink RX7 39 "CutAtlas$Current" "net" "LCutAtlas$Net;", Cond.fieldLink RX7 45 "CutAtlas$Net" "places" "I", Cond.methodLink RX7 50 yX7_chooseForCut, Cond.instanceMethod yX7_chooseForCut, Cond.selects RX7 yX7_chooseForCut yX7_chooseForCut, Cond.code yX7_chooseForCut cX7_chooseForCut 5 none, Cond.methodLink RX7 54 yX7_meet, Cond.instanceMethod yX7_meet, Cond.selects RX7 yX7_meet yX7_meet, Cond.code yX7_meet cX7_meet 3 none, Cond.methodLink RX7 58 yX7_letIn, Cond.instanceMethod yX7_letIn, Cond.selects RX7 yX7_letIn yX7_letIn, Cond.code yX7_letIn cX7_letIn 5 (some .int)]
def wsL_law_r26 : List Cond := [Cond.fieldLink RX7 65 "CutAtlas$Current" "lets" "[[I", Cond.methodLink RX7 62 yX7_letOut, Cond.instanceMethod yX7_letOut, Cond.selects RX7 yX7_letOut yX7_letOut, Cond.code yX7_letOut cX7_letOut 5 (some .int), Cond.methodLink RL 64 yX12_count, Cond.instanceMethod yX12_count, Cond.selects RX12 yX12_count yX12_count, Cond.code yX12_count cX12_count 4 (some .int), Cond.methodLink RL 65 yX11_next, Cond.instanceMethod yX11_next, Cond.selects RX11 yX11_next yX11_next, Cond.code yX11_next cX11_next 5 (some .int), Cond.methodLink RX11 186 yX7_findCut, Cond.instanceMethod yX7_findCut, Cond.selects RX7 yX7_findCut yX7_findCut, Cond.code yX7_findCut cX7_findCut 5 (some .int), Cond.methodLink RL 68 yX12_next, Cond.instanceMethod yX12_next, Cond.selects RX12 yX12_next yX12_next, Cond.code yX12_next cX12_next 5 (some .int), Cond.methodLink RL 69 yX11_size, Cond.instanceMethod yX11_size, Cond.selects RX11 yX11_size yX11_size]
def wsL_law_r27 : List Cond := [Cond.code yX11_size cX11_size 5 (some .int), Cond.constant RX11 197 (1000000), Cond.methodLink RX11 194 yX0_leaving, Cond.instanceMethod yX0_leaving, Cond.selects RX0 yX0_leaving yX0_leaving, Cond.code yX0_leaving cX0_leaving 4 (some .int), Cond.methodLink RX0 113 yX0_betweenSets, Cond.instanceMethod yX0_betweenSets, Cond.selects RX0 yX0_betweenSets yX0_betweenSets, Cond.code yX0_betweenSets cX0_betweenSets 5 (some .int), Cond.methodLink RL 72 yX12_size, Cond.instanceMethod yX12_size, Cond.selects RX12 yX12_size yX12_size, Cond.code yX12_size cX12_size 5 (some .int), Cond.methodLink RL 73 yX11_raise, Cond.instanceMethod yX11_raise, Cond.selects RX11 yX11_raise yX11_raise, Cond.code yX11_raise cX11_raise 4 (some .int), Cond.methodLink RL 76 yX12_raise, Cond.instanceMethod yX12_raise, Cond.selects RX12 yX12_raise yX12_raise, Cond.code yX12_raise cX12_raise 5 (some .int), Cond.methodLink RL 77 yX11_cheapest, Cond.instanceMethod yX11_cheapest]
def wsL_law_r28 : List Cond := [Cond.selects RX11 yX11_cheapest yX11_cheapest, Cond.code yX11_cheapest cX11_cheapest 5 (some .int), Cond.methodLink RX11 201 yX10_pay, Cond.instanceMethod yX10_pay, Cond.selects RX10 yX10_pay yX10_pay, Cond.code yX10_pay cX10_pay 8 (some .int), Cond.constant RX10 38 (1000000000), Cond.methodLink RX10 31 yX10_findPrices, Cond.instanceMethod yX10_findPrices, Cond.selects RX10 yX10_findPrices yX10_findPrices, Cond.code yX10_findPrices cX10_findPrices 6 none, Cond.fieldLink RX10 47 "CutAtlas$Current" "net" "LCutAtlas$Net;", Cond.fieldLink RX10 53 "CutAtlas$Net" "places" "I", Cond.fieldLink RX10 65 "CutAtlas$Net" "lines" "I", Cond.fieldLink RX10 68 "CutAtlas$Net" "kinds" "[I", Cond.fieldLink RX10 70 "CutAtlas$Net" "prices" "[I", Cond.fieldLink RX10 81 "CutAtlas$Net" "starts" "[I", Cond.fieldLink RX10 84 "CutAtlas$Net" "ends" "[I", Cond.methodLink RX10 87 Lib.Math.min.name, Cond.methodLink RX10 59 yJ7_fill_53178, Cond.methodLink RX10 72 ⟨"CutAtlas$PlainKind", "costs", "(I)I"⟩, Cond.methodLink RX10 72 yX6_costs, Cond.methodLink RX10 77 yX3_isMissing, Cond.methodLink RX10 34 yX10_findCosts]
def wsL_law_r29 : List Cond := [Cond.instanceMethod yX10_findCosts, Cond.selects RX10 yX10_findCosts yX10_findCosts, Cond.code yX10_findCosts cX10_findCosts 6 none, Cond.methodLink RX10 93 yX10_lookFrom, Cond.instanceMethod yX10_lookFrom, Cond.selects RX10 yX10_lookFrom yX10_lookFrom, Cond.code yX10_lookFrom cX10_lookFrom 5 (some .boolean), Cond.methodLink RX10 96 yX10_stepCosts, Cond.instanceMethod yX10_stepCosts, Cond.selects RX10 yX10_stepCosts yX10_stepCosts, Cond.code yX10_stepCosts cX10_stepCosts 3 (some .int), Cond.fieldLink RX10 99 "CutAtlas$Current" "room" "[[I", Cond.methodLink RX10 39 yX10_roomOfWay, Cond.instanceMethod yX10_roomOfWay, Cond.selects RX10 yX10_roomOfWay yX10_roomOfWay, Cond.code yX10_roomOfWay cX10_roomOfWay 7 (some .int), Cond.methodLink RX10 102 yX10_stepRoom, Cond.instanceMethod yX10_stepRoom, Cond.selects RX10 yX10_stepRoom yX10_stepRoom, Cond.code yX10_stepRoom cX10_stepRoom 3 (some .int), Cond.methodLink RX10 43 yX10_sendAlongWay, Cond.instanceMethod yX10_sendAlongWay, Cond.selects RX10 yX10_sendAlongWay yX10_sendAlongWay, Cond.code yX10_sendAlongWay cX10_sendAlongWay 6 none]
def wsL_law_r30 : List Cond := [Cond.methodLink RL 80 yX12_cheapest, Cond.instanceMethod yX12_cheapest, Cond.selects RX12 yX12_cheapest yX12_cheapest, Cond.code yX12_cheapest cX12_cheapest 10 (some .int), Cond.constantLong RX12 217 (500), Cond.methodLink RX12 219 yX12_cheapWay, Cond.instanceMethod yX12_cheapWay, Cond.selects RX12 yX12_cheapWay yX12_cheapWay, Cond.code yX12_cheapWay cX12_cheapWay 10 (some .boolean), Cond.constantLong RX12 211 (1099511627776), Cond.methodLink RX12 213 yX12_step, Cond.instanceMethod yX12_step, Cond.selects RX12 yX12_step yX12_step, Cond.code yX12_step cX12_step 7 (some .long), Cond.methodLink RX12 222 yX12_amount, Cond.instanceMethod yX12_amount, Cond.selects RX12 yX12_amount yX12_amount, Cond.code yX12_amount cX12_amount 6 (some .int), Cond.methodLink RL 81 yX11_tree, Cond.instanceMethod yX11_tree, Cond.selects RX11 yX11_tree yX11_tree, Cond.code yX11_tree cX11_tree 3 (some .int), Cond.fieldLink RX11 215 "CutAtlas$CutTree" "nexts" "[I", Cond.fieldLink RX11 218 "CutAtlas$CutTree" "numbers" "[I"]
def wsL_law_r31 : List Cond := [Cond.methodLink RX11 204 yX3_isWhole, Cond.instanceMethod yX3_isWhole, Cond.selects RX3 yX3_isWhole yX3_isWhole, Cond.code yX3_isWhole cX3_isWhole 3 (some .boolean), Cond.methodLink RX11 208 yX3_hasPlace, Cond.methodLink RX11 212 yX1_grow, Cond.instanceMethod yX1_grow, Cond.selects RX1 yX1_grow yX1_grow, Cond.code yX1_grow cX1_grow 2 none, Cond.fieldLink RX1 34 "CutAtlas$Current" "net" "LCutAtlas$Net;", Cond.fieldLink RX1 38 "CutAtlas$Net" "places" "I", Cond.methodLink RX1 22 yX0_load, Cond.methodLink RX1 28 yJ7_fill_53178, Cond.methodLink RX1 44 yX1_hang, Cond.instanceMethod yX1_hang, Cond.selects RX1 yX1_hang yX1_hang, Cond.code yX1_hang cX1_hang 6 none, Cond.methodLink RX1 47 yX0_fill, Cond.methodLink RX1 50 yX0_nearCut, Cond.methodLink RL 84 yX12_tree, Cond.instanceMethod yX12_tree, Cond.selects RX12 yX12_tree yX12_tree, Cond.code yX12_tree cX12_tree 3 (some .int), Cond.methodLink RX12 225 yX12_isWhole]
def wsL_law_r32 : List Cond := [Cond.instanceMethod yX12_isWhole, Cond.selects RX12 yX12_isWhole yX12_isWhole, Cond.code yX12_isWhole cX12_isWhole 3 (some .boolean), Cond.methodLink RX12 229 yX12_plants, Cond.instanceMethod yX12_plants, Cond.selects RX12 yX12_plants yX12_plants, Cond.code yX12_plants cX12_plants 6 none, Cond.methodLink RL 85 yX11_between, Cond.instanceMethod yX11_between, Cond.selects RX11 yX11_between yX11_between, Cond.code yX11_between cX11_between 3 (some .int), Cond.methodLink RX11 221 yX1_leastOnWay, Cond.instanceMethod yX1_leastOnWay, Cond.selects RX1 yX1_leastOnWay yX1_leastOnWay, Cond.code yX1_leastOnWay cX1_leastOnWay 9 (some .int), Cond.constant RX1 54 (1000000000), Cond.methodLink RX1 58 Lib.Math.min.name, Cond.methodLink RX1 55 yX1_stepsToRoot, Cond.instanceMethod yX1_stepsToRoot, Cond.selects RX1 yX1_stepsToRoot yX1_stepsToRoot, Cond.code yX1_stepsToRoot cX1_stepsToRoot 4 (some .int), Cond.methodLink RL 88 yX12_between, Cond.instanceMethod yX12_between, Cond.selects RX12 yX12_between yX12_between]
def wsL_law_r33 : List Cond := [Cond.code yX12_between cX12_between 3 (some .int), Cond.methodLink RL 89 yX11_least, Cond.instanceMethod yX11_least, Cond.selects RX11 yX11_least yX11_least, Cond.code yX11_least cX11_least 1 (some .int), Cond.methodLink RX11 224 yX1_leastNumber, Cond.instanceMethod yX1_leastNumber, Cond.selects RX1 yX1_leastNumber yX1_leastNumber, Cond.code yX1_leastNumber cX1_leastNumber 3 (some .int), Cond.methodLink RL 92 yX12_least, Cond.instanceMethod yX12_least, Cond.selects RX12 yX12_least yX12_least, Cond.code yX12_least cX12_least 1 (some .int), Cond.methodLink RX12 232 yX12_leastOf, Cond.instanceMethod yX12_leastOf, Cond.selects RX12 yX12_leastOf yX12_leastOf, Cond.code yX12_leastOf cX12_leastOf 4 (some .int), Cond.methodLink RL 93 yX11_cuts, Cond.instanceMethod yX11_cuts, Cond.selects RX11 yX11_cuts yX11_cuts, Cond.code yX11_cuts cX11_cuts 1 (some .int), Cond.methodLink RL 96 yX12_cuts, Cond.instanceMethod yX12_cuts, Cond.selects RX12 yX12_cuts yX12_cuts]
def wsL_law_r34 : List Cond := [Cond.code yX12_cuts cX12_cuts 1 (some .int), Cond.methodLink RX12 236 yX12_wholeCuts, Cond.instanceMethod yX12_wholeCuts, Cond.selects RX12 yX12_wholeCuts yX12_wholeCuts, Cond.code yX12_wholeCuts cX12_wholeCuts 4 none, Cond.methodLink RL 97 yX11_cutAt, Cond.instanceMethod yX11_cutAt, Cond.selects RX11 yX11_cutAt yX11_cutAt, Cond.code yX11_cutAt cX11_cutAt 2 (some .int), Cond.methodLink RL 101 yX12_cutAt, Cond.instanceMethod yX12_cutAt, Cond.selects RX12 yX12_cutAt yX12_cutAt, Cond.code yX12_cutAt cX12_cutAt 2 (some .int), Cond.methodLink RL 102 yX11_weak, Cond.instanceMethod yX11_weak, Cond.selects RX11 yX11_weak yX11_weak, Cond.code yX11_weak cX11_weak 2 (some .int), Cond.methodLink RL 105 yX12_weak, Cond.instanceMethod yX12_weak, Cond.selects RX12 yX12_weak yX12_weak, Cond.code yX12_weak cX12_weak 4 (some .int), Cond.methodLink RL 106 yX11_part, Cond.instanceMethod yX11_part, Cond.selects RX11 yX11_part yX11_part]
def wsL_law_r35 : List Cond := [Cond.code yX11_part cX11_part 3 (some .int), Cond.methodLink RX11 227 yX1_partsBelow, Cond.instanceMethod yX1_partsBelow, Cond.selects RX1 yX1_partsBelow yX1_partsBelow, Cond.code yX1_partsBelow cX1_partsBelow 5 (some .int), Cond.methodLink RX1 66 yX1_leastAlike, Cond.instanceMethod yX1_leastAlike, Cond.selects RX1 yX1_leastAlike yX1_leastAlike, Cond.code yX1_leastAlike cX1_leastAlike 4 (some .int), Cond.methodLink RX1 63 yX1_leastOnWay, Cond.methodLink RX11 230 yX1_leastAlike, Cond.methodLink RL 109 yX12_part, Cond.instanceMethod yX12_part, Cond.selects RX12 yX12_part yX12_part, Cond.code yX12_part cX12_part 8 (some .int), Cond.methodLink RL 110 yX11_dense, Cond.instanceMethod yX11_dense, Cond.selects RX11 yX11_dense yX11_dense, Cond.code yX11_dense cX11_dense 2 (some .int), Cond.fieldLink RX11 236 "CutAtlas$SetHunt" "denseSet" "I", Cond.fieldLink RX11 239 "CutAtlas$SetHunt" "denseSum" "I", Cond.methodLink RX11 233 yX7_findDensest, Cond.instanceMethod yX7_findDensest, Cond.selects RX7 yX7_findDensest yX7_findDensest]
def wsL_law_r36 : List Cond := [Cond.code yX7_findDensest cX7_findDensest 1 none, Cond.fieldLink RX7 69 "CutAtlas$SetHunt" "denseSet" "I", Cond.fieldLink RX7 72 "CutAtlas$SetHunt" "denseSum" "I", Cond.methodLink RX7 75 yX7_chooseForDense, Cond.instanceMethod yX7_chooseForDense, Cond.selects RX7 yX7_chooseForDense yX7_chooseForDense, Cond.code yX7_chooseForDense cX7_chooseForDense 4 none, Cond.methodLink RX7 78 yX7_compareDense, Cond.instanceMethod yX7_compareDense, Cond.selects RX7 yX7_compareDense yX7_compareDense, Cond.code yX7_compareDense cX7_compareDense 7 none, Cond.methodLink RX7 81 yJ6_bitCount_0f7a4, Cond.static yJ6_bitCount_0f7a4, Cond.initialized RJ6, Cond.code yJ6_bitCount_0f7a4 cJ6_bitCount_0f7a4 1 (some .int), Cond.constant RJ6 265 (1431655765), Cond.constant RJ6 266 (858993459), Cond.constant RJ6 267 (252645135), Cond.methodLink RX11 242 yJ6_bitCount_0f7a4, Cond.methodLink RL 113 yX12_dense, Cond.instanceMethod yX12_dense, Cond.selects RX12 yX12_dense yX12_dense, Cond.code yX12_dense cX12_dense 8 (some .int), Cond.methodLink RL 114 yX11_map]
def wsL_law_r37 : List Cond := [Cond.instanceMethod yX11_map, Cond.selects RX11 yX11_map yX11_map, Cond.code yX11_map cX11_map 4 (some .int), Cond.methodLink RX11 247 yX11_mapRefusal, Cond.static yX11_mapRefusal, Cond.code yX11_mapRefusal cX11_mapRefusal 3 (some .int), Cond.methodLink RX11 267 yX11_isMapNumber, Cond.static yX11_isMapNumber, Cond.code yX11_isMapNumber cX11_isMapNumber 1 (some .boolean), Cond.methodLink RX11 312 yX11_isMapKind, Cond.static yX11_isMapKind, Cond.code yX11_isMapKind cX11_isMapKind 1 (some .boolean), Cond.methodLink RX11 250 yX4_begin, Cond.instanceMethod yX4_begin, Cond.selects RX4 yX4_begin yX4_begin, Cond.code yX4_begin cX4_begin 3 none, Cond.methodLink RX4 26 yJ7_fill_53178, Cond.methodLink RL 117 yX12_map, Cond.instanceMethod yX12_map, Cond.selects RX12 yX12_map yX12_map, Cond.code yX12_map cX12_map 5 (some .int), Cond.fieldLink RX12 240 "CutAtlasModel" "status" "I", Cond.constantLong RX12 243 (3), Cond.methodLink RX12 245 yX12_no]
def wsL_law_r38 : List Cond := [Cond.instanceMethod yX12_no, Cond.selects RX12 yX12_no yX12_no, Cond.code yX12_no cX12_no 2 (some .int), Cond.methodLink RL 118 yX11_row, Cond.instanceMethod yX11_row, Cond.selects RX11 yX11_row yX11_row, Cond.code yX11_row cX11_row 4 (some .int), Cond.methodLink RX11 254 yX11_rowRefusal, Cond.instanceMethod yX11_rowRefusal, Cond.selects RX11 yX11_rowRefusal yX11_rowRefusal, Cond.code yX11_rowRefusal cX11_rowRefusal 4 (some .int), Cond.methodLink RX11 281 yX4_isThere, Cond.instanceMethod yX4_isThere, Cond.selects RX4 yX4_isThere yX4_isThere, Cond.code yX4_isThere cX4_isThere 1 (some .boolean), Cond.methodLink RX11 315 yX4_hasRow, Cond.instanceMethod yX4_hasRow, Cond.selects RX4 yX4_hasRow yX4_hasRow, Cond.code yX4_hasRow cX4_hasRow 2 (some .boolean), Cond.methodLink RX11 257 yX4_beginRow, Cond.instanceMethod yX4_beginRow, Cond.selects RX4 yX4_beginRow yX4_beginRow, Cond.code yX4_beginRow cX4_beginRow 4 none, Cond.methodLink RL 121 yX12_row]
def wsL_law_r39 : List Cond := [Cond.instanceMethod yX12_row, Cond.selects RX12 yX12_row yX12_row, Cond.code yX12_row cX12_row 5 (some .int), Cond.methodLink RL 124 yX11_put, Cond.instanceMethod yX11_put, Cond.selects RX11 yX11_put yX11_put, Cond.code yX11_put cX11_put 7 (some .int), Cond.methodLink RX11 260 yX11_numberRefusal, Cond.instanceMethod yX11_numberRefusal, Cond.selects RX11 yX11_numberRefusal yX11_numberRefusal, Cond.code yX11_numberRefusal cX11_numberRefusal 5 (some .int), Cond.fieldLink RX11 318 "CutAtlas$NumberMap" "kind" "I", Cond.fieldLink RX11 321 "CutAtlas$NumberMap" "lengths" "[I", Cond.methodLink RX11 263 yX4_store, Cond.instanceMethod yX4_store, Cond.selects RX4 yX4_store yX4_store, Cond.code yX4_store cX4_store 7 none, Cond.methodLink RL 128 yX12_put, Cond.instanceMethod yX12_put, Cond.selects RX12 yX12_put yX12_put, Cond.code yX12_put cX12_put 8 (some .int), Cond.methodLink RX12 248 yX12_wrong, Cond.instanceMethod yX12_wrong, Cond.selects RX12 yX12_wrong yX12_wrong]
def wsL_law_r40 : List Cond := [Cond.code yX12_wrong cX12_wrong 6 (some .int), Cond.methodLink RL 129 yX11_copy, Cond.instanceMethod yX11_copy, Cond.selects RX11 yX11_copy yX11_copy, Cond.code yX11_copy cX11_copy 7 (some .int), Cond.methodLink RX11 270 yX4_moveRefusal, Cond.instanceMethod yX4_moveRefusal, Cond.selects RX4 yX4_moveRefusal yX4_moveRefusal, Cond.code yX4_moveRefusal cX4_moveRefusal 6 (some .int), Cond.methodLink RX4 36 yX4_isThere, Cond.methodLink RX4 40 yX4_hasRow, Cond.methodLink RX4 44 yX4_hasNumbers, Cond.instanceMethod yX4_hasNumbers, Cond.selects RX4 yX4_hasNumbers yX4_hasNumbers, Cond.code yX4_hasNumbers cX4_hasNumbers 4 (some .boolean), Cond.methodLink RX11 273 yX4_move, Cond.instanceMethod yX4_move, Cond.selects RX4 yX4_move yX4_move, Cond.code yX4_move cX4_move 6 none, Cond.methodLink RX4 48 arraycopyName, Cond.methodLink RL 133 yX12_copy, Cond.instanceMethod yX12_copy, Cond.selects RX12 yX12_copy yX12_copy, Cond.code yX12_copy cX12_copy 10 (some .int)]
def wsL_law_r41 : List Cond := [Cond.methodLink RX12 252 yX12_areThere, Cond.static yX12_areThere, Cond.code yX12_areThere cX12_areThere 3 (some .boolean), Cond.methodLink RL 134 yX11_item, Cond.instanceMethod yX11_item, Cond.selects RX11 yX11_item yX11_item, Cond.code yX11_item cX11_item 5 (some .long), Cond.methodLink RX11 277 yX4_number, Cond.instanceMethod yX4_number, Cond.selects RX4 yX4_number yX4_number, Cond.code yX4_number cX4_number 3 (some .long), Cond.methodLink RL 138 yX12_item, Cond.instanceMethod yX12_item, Cond.selects RX12 yX12_item yX12_item, Cond.code yX12_item cX12_item 5 (some .long), Cond.methodLink RL 139 yX11_read, Cond.instanceMethod yX11_read, Cond.selects RX11 yX11_read yX11_read, Cond.code yX11_read cX11_read 5 (some .int), Cond.fieldLink RX11 284 "CutAtlas$NumberMap" "rows" "I", Cond.methodLink RX11 287 yX11_readRefusal, Cond.instanceMethod yX11_readRefusal, Cond.selects RX11 yX11_readRefusal yX11_readRefusal, Cond.code yX11_readRefusal cX11_readRefusal 3 (some .int)]
def wsL_law_r42 : List Cond := [Cond.methodLink RX11 291 yX4_whole, Cond.instanceMethod yX4_whole, Cond.selects RX4 yX4_whole yX4_whole, Cond.code yX4_whole cX4_whole 3 (some .int), Cond.methodLink RX4 32 yX4_number, Cond.methodLink RL 142 yX12_read, Cond.instanceMethod yX12_read, Cond.selects RX12 yX12_read yX12_read, Cond.code yX12_read cX12_read 7 (some .int), Cond.methodLink RL 143 yX11_about, Cond.instanceMethod yX11_about, Cond.selects RX11 yX11_about yX11_about, Cond.code yX11_about cX11_about 2 (some .int), Cond.methodLink RX11 297 yX3_missingLines, Cond.instanceMethod yX3_missingLines, Cond.selects RX3 yX3_missingLines yX3_missingLines, Cond.code yX3_missingLines cX3_missingLines 3 (some .int), Cond.methodLink RL 146 yX12_about, Cond.instanceMethod yX12_about, Cond.selects RX12 yX12_about yX12_about, Cond.code yX12_about cX12_about 4 (some .int), Cond.methodLink RL 147 yX11_trace, Cond.instanceMethod yX11_trace, Cond.selects RX11 yX11_trace yX11_trace]
def wsL_law_r43 : List Cond := [Cond.code yX11_trace cX11_trace 1 (some .long), Cond.methodLink RL 151 yX12_trace, Cond.instanceMethod yX12_trace, Cond.selects RX12 yX12_trace yX12_trace, Cond.code yX12_trace cX12_trace 1 (some .long), Cond.methodLink RL 152 yX11_status, Cond.instanceMethod yX11_status, Cond.selects RX11 yX11_status yX11_status, Cond.code yX11_status cX11_status 1 (some .int), Cond.methodLink RL 155 yX12_status, Cond.instanceMethod yX12_status, Cond.selects RX12 yX12_status yX12_status, Cond.code yX12_status cX12_status 1 (some .int)]
def wsL_law : List Cond := (wsL_law_r1 ++ (wsL_law_r2 ++ (wsL_law_r3 ++ (wsL_law_r4 ++ (wsL_law_r5 ++ (wsL_law_r6 ++ (wsL_law_r7 ++ (wsL_law_r8 ++ (wsL_law_r9 ++ (wsL_law_r10 ++ (wsL_law_r11 ++ (wsL_law_r12 ++ (wsL_law_r13 ++ (wsL_law_r14 ++ (wsL_law_r15 ++ (wsL_law_r16 ++ (wsL_law_r17 ++ (wsL_law_r18 ++ (wsL_law_r19 ++ (wsL_law_r20 ++ (wsL_law_r21 ++ (wsL_law_r22 ++ (wsL_law_r23 ++ (wsL_law_r24 ++ (wsL_law_r25 ++ (wsL_law_r26 ++ (wsL_law_r27 ++ (wsL_law_r28 ++ (wsL_law_r29 ++ (wsL_law_r30 ++ (wsL_law_r31 ++ (wsL_law_r32 ++ (wsL_law_r33 ++ (wsL_law_r34 ++ (wsL_law_r35 ++ (wsL_law_r36 ++ (wsL_law_r37 ++ (wsL_law_r38 ++ (wsL_law_r39 ++ (wsL_law_r40 ++ (wsL_law_r41 ++ (wsL_law_r42 ++ wsL_law_r43)))))))))))))))))))))))))))))))))))))))))) ++ wsX110 ++ wsX120 ++ wsX60 ++ wsX50 ++ wsX90 ++ wsX20 ++ wsX80 ++ wsX30 ++ wsX00 ++ wsX70 ++ wsX10 ++ wsX100 ++ wsX40 ++ ([] : List Cond)
theorem inlX11 : ∀ w ∈ wsX110, w ∈ wsL_law := fun _ h => List.mem_append_left _ (List.mem_append_left _ (List.mem_append_left _ (List.mem_append_left _ (List.mem_append_left _ (List.mem_append_left _ (List.mem_append_left _ (List.mem_append_left _ (List.mem_append_left _ (List.mem_append_left _ (List.mem_append_left _ (List.mem_append_left _ (List.mem_append_left _ (List.mem_append_right _ h)))))))))))))
theorem inlX12 : ∀ w ∈ wsX120, w ∈ wsL_law := fun _ h => List.mem_append_left _ (List.mem_append_left _ (List.mem_append_left _ (List.mem_append_left _ (List.mem_append_left _ (List.mem_append_left _ (List.mem_append_left _ (List.mem_append_left _ (List.mem_append_left _ (List.mem_append_left _ (List.mem_append_left _ (List.mem_append_left _ (List.mem_append_right _ h))))))))))))
set_option maxRecDepth 20000 in
theorem ggX2_init_X6_init : GoodIn wsX2_init wsX6_init := goodIn_r _ [3, 4, 5, 6] (by decide +kernel) (by decide +kernel)
set_option maxRecDepth 20000 in
theorem gX2_init_X6_init_n1 : GoodIn wsX2_init (wsX6_init) := ggX2_init_X6_init
set_option maxRecDepth 20000 in
theorem ggX3_hasPair_X3_hasPlace : GoodIn wsX3_hasPair wsX3_hasPlace := goodIn_r _ [5, 6, 7, 8, 9, 10, 11, 12, 13] (by decide +kernel) (by decide +kernel)
set_option maxRecDepth 20000 in
theorem gX3_hasPair_X3_hasPlace : GoodIn wsX3_hasPair (wsV RX3 34 RX3 yX3_hasPlace wsX3_hasPlace) := goodIn_app (goodIn_of _ (by decide +kernel)) ggX3_hasPair_X3_hasPlace
set_option maxRecDepth 20000 in
theorem ggX4_begin_J7_fill_53178 : GoodIn wsX4_begin wsJ7_fill_53178 := goodIn_r _ [7] (by decide +kernel) (by decide +kernel)
set_option maxRecDepth 20000 in
theorem gX4_begin_J7_fill_53178 : GoodIn wsX4_begin (va_wsS RX4 26 yJ7_fill_53178 wsJ7_fill_53178) := goodIn_app (goodIn_of _ (by decide +kernel)) ggX4_begin_J7_fill_53178
set_option maxRecDepth 20000 in
theorem ggX4_moveRefusal_X4_isThere : GoodIn wsX4_moveRefusal wsX4_isThere := goodIn_r _ [6, 7, 16, 17, 18, 19] (by decide +kernel) (by decide +kernel)
set_option maxRecDepth 20000 in
theorem gX4_moveRefusal_X4_isThere : GoodIn wsX4_moveRefusal (wsV RX4 36 RX4 yX4_isThere wsX4_isThere) := goodIn_app (goodIn_of _ (by decide +kernel)) ggX4_moveRefusal_X4_isThere
set_option maxRecDepth 20000 in
theorem ggX5_init_X6_init : GoodIn wsX5_init wsX6_init := goodIn_r _ [3, 4, 5, 6] (by decide +kernel) (by decide +kernel)
set_option maxRecDepth 20000 in
theorem gX5_init_X6_init_n1 : GoodIn wsX5_init (wsX6_init) := ggX5_init_X6_init
set_option maxRecDepth 20000 in
theorem ggX8_init_X2_init : GoodIn wsX8_init wsX2_init := goodIn_r _ [3, 4, 5, 6, 7, 8, 9] (by decide +kernel) (by decide +kernel)
set_option maxRecDepth 20000 in
theorem gX8_init_X2_init_n1 : GoodIn wsX8_init (wsX2_init) := ggX8_init_X2_init
set_option maxRecDepth 20000 in
theorem ggX9_init_X6_init : GoodIn wsX9_init wsX6_init := goodIn_r _ [3, 4, 5, 6] (by decide +kernel) (by decide +kernel)
set_option maxRecDepth 20000 in
theorem gX9_init_X6_init_n3 : GoodIn wsX9_init (wsX6_init) := ggX9_init_X6_init
set_option maxRecDepth 20000 in
theorem ggX11_init_X6_init : GoodIn wsX11_init wsX6_init := goodIn_r _ [50, 51, 2, 3] (by decide +kernel) (by decide +kernel)
set_option maxRecDepth 20000 in
theorem gX11_init_X6_init_n9 : GoodIn wsX11_init (wsX6_init) := ggX11_init_X6_init
set_option maxRecDepth 20000 in
theorem ggX11_init_X5_init : GoodIn wsX11_init wsX5_init := goodIn_r _ [53, 49, 6, 50, 51, 2, 3] (by decide +kernel) (by decide +kernel)
set_option maxRecDepth 20000 in
theorem gX11_init_X5_init_n12 : GoodIn wsX11_init (wsX5_init) := ggX11_init_X5_init
set_option maxRecDepth 20000 in
theorem ggX11_init_X9_init : GoodIn wsX11_init wsX9_init := goodIn_r _ [55, 49, 6, 50, 51, 2, 3] (by decide +kernel) (by decide +kernel)
set_option maxRecDepth 20000 in
theorem gX11_init_X9_init_n15 : GoodIn wsX11_init (wsX9_init) := ggX11_init_X9_init
set_option maxRecDepth 20000 in
theorem ggX11_init_X2_init : GoodIn wsX11_init wsX2_init := goodIn_r _ [57, 49, 6, 50, 51, 2, 3] (by decide +kernel) (by decide +kernel)
set_option maxRecDepth 20000 in
theorem gX11_init_X2_init_n18 : GoodIn wsX11_init (wsX2_init) := ggX11_init_X2_init
set_option maxRecDepth 20000 in
theorem ggX11_init_X8_init : GoodIn wsX11_init wsX8_init := goodIn_r _ [59, 56, 15, 57, 49, 6, 50, 51, 2, 3] (by decide +kernel) (by decide +kernel)
set_option maxRecDepth 20000 in
theorem gX11_init_X8_init_n21 : GoodIn wsX11_init (wsX8_init) := ggX11_init_X8_init
set_option maxRecDepth 20000 in
theorem ggX11_init_X3_init : GoodIn wsX11_init wsX3_init := goodIn_r _ [61, 62, 2, 3, 63, 64, 65, 66, 67, 68, 69, 70, 127, 128, 129, 130, 131, 132, 133] (by decide +kernel) (by decide +kernel)
set_option maxRecDepth 20000 in
theorem gX11_init_X3_init_n30 : GoodIn wsX11_init (wsX3_init) := ggX11_init_X3_init
set_option maxRecDepth 20000 in
theorem ggX11_init_X0_init : GoodIn wsX11_init wsX0_init := goodIn_r _ [73, 74, 2, 3, 75, 65, 76, 77, 78, 79, 80, 81, 82, 83, 84, 134, 135, 136, 137, 138, 139, 140, 141, 142] (by decide +kernel) (by decide +kernel)
set_option maxRecDepth 20000 in
theorem gX11_init_X0_init : GoodIn wsX11_init (wsX0_init) := ggX11_init_X0_init
set_option maxRecDepth 20000 in
theorem ggX11_init_X7_init : GoodIn wsX11_init wsX7_init := goodIn_r _ [87, 88, 2, 3, 89, 143, 144, 145, 146, 147, 148, 149, 150, 151] (by decide +kernel) (by decide +kernel)
set_option maxRecDepth 20000 in
theorem gX11_init_X7_init : GoodIn wsX11_init (wsX7_init) := ggX11_init_X7_init
set_option maxRecDepth 20000 in
theorem ggX11_init_X1_init : GoodIn wsX11_init wsX1_init := goodIn_r _ [92, 93, 2, 3, 65, 94, 95, 96, 152, 153, 154] (by decide +kernel) (by decide +kernel)
set_option maxRecDepth 20000 in
theorem gX11_init_X1_init : GoodIn wsX11_init (wsX1_init) := ggX11_init_X1_init
set_option maxRecDepth 20000 in
theorem ggX11_init_X10_init : GoodIn wsX11_init wsX10_init := goodIn_r _ [99, 100, 2, 3, 101, 65, 102, 103, 104, 105, 106, 155, 156, 157, 158, 159] (by decide +kernel) (by decide +kernel)
set_option maxRecDepth 20000 in
theorem gX11_init_X10_init : GoodIn wsX11_init (wsX10_init) := ggX11_init_X10_init
set_option maxRecDepth 20000 in
theorem ggX11_init_X4_init : GoodIn wsX11_init wsX4_init := goodIn_r _ [108, 109, 2, 3, 110, 111, 65, 112, 113, 114, 160, 161, 162, 163] (by decide +kernel) (by decide +kernel)
set_option maxRecDepth 20000 in
theorem gX11_init_X4_init_n71 : GoodIn wsX11_init (wsX4_init) := ggX11_init_X4_init
set_option maxRecDepth 20000 in
theorem ggX11_place_X11_remember : GoodIn wsX11_place wsX11_remember := goodIn_r _ [7, 8, 9, 10, 11, 12, 13, 1, 14, 15, 16, 17, 18, 19, 20, 21, 22, 23, 24, 25, 26, 27, 28, 29, 30, 31, 32, 33, 34, 35, 36, 37, 38, 39, 40, 41, 42, 43, 44, 45, 46, 47, 48, 49, 50, 51, 52, 53] (by decide +kernel) (by decide +kernel)
set_option maxRecDepth 20000 in
theorem gX11_place_X11_remember : GoodIn wsX11_place (wsV RX11 97 RX11 yX11_remember wsX11_remember) := goodIn_app (goodIn_of _ (by decide +kernel)) ggX11_place_X11_remember
set_option maxRecDepth 20000 in
theorem ggX11_line_X11_lineRefusal : GoodIn wsX11_line wsX11_lineRefusal := goodIn_r _ [7, 8, 9, 10, 11, 12, 13, 14, 15, 16, 17, 18, 19, 20, 21, 22, 89, 90, 91, 92, 93, 94, 95, 96, 97, 98, 99, 100, 101, 102, 103, 104, 105, 106, 107] (by decide +kernel) (by decide +kernel)
set_option maxRecDepth 20000 in
theorem gX11_line_X11_lineRefusal : GoodIn wsX11_line (wsV RX11 100 RX11 yX11_lineRefusal wsX11_lineRefusal) := goodIn_app (goodIn_of _ (by decide +kernel)) ggX11_line_X11_lineRefusal
set_option maxRecDepth 20000 in
theorem ggX11_widen_X3_hasLine : GoodIn wsX11_widen wsX3_hasLine := goodIn_r _ [11, 12, 98, 99, 100, 101, 102, 103, 104] (by decide +kernel) (by decide +kernel)
set_option maxRecDepth 20000 in
theorem gX11_widen_X3_hasLine : GoodIn wsX11_widen (wsV RX11 112 RX3 yX3_hasLine wsX3_hasLine) := goodIn_app (goodIn_of _ (by decide +kernel)) ggX11_widen_X3_hasLine
set_option maxRecDepth 20000 in
theorem ggX11_width_X3_hasLine : GoodIn wsX11_width wsX3_hasLine := goodIn_r _ [7, 8, 55, 56, 57, 58, 59, 60, 61] (by decide +kernel) (by decide +kernel)
set_option maxRecDepth 20000 in
theorem gX11_width_X3_hasLine : GoodIn wsX11_width (wsV RX11 112 RX3 yX3_hasLine wsX3_hasLine) := goodIn_app (goodIn_of _ (by decide +kernel)) ggX11_width_X3_hasLine
set_option maxRecDepth 20000 in
theorem ggX11_merge_X3_hasPair : GoodIn wsX11_merge wsX3_hasPair := goodIn_r _ [13, 14, 15, 16, 12, 17, 18, 72, 73, 74, 75, 76, 77, 78] (by decide +kernel) (by decide +kernel)
set_option maxRecDepth 20000 in
theorem gX11_merge_X3_hasPair : GoodIn wsX11_merge (wsV RX11 135 RX3 yX3_hasPair wsX3_hasPair) := goodIn_app (goodIn_of _ (by decide +kernel)) ggX11_merge_X3_hasPair
set_option maxRecDepth 20000 in
theorem ggX11_told_X3_hasLine : GoodIn wsX11_told wsX3_hasLine := goodIn_r _ [11, 12, 30, 31, 32, 33, 34, 35, 36] (by decide +kernel) (by decide +kernel)
set_option maxRecDepth 20000 in
theorem gX11_told_X3_hasLine : GoodIn wsX11_told (wsV RX11 112 RX3 yX3_hasLine wsX3_hasLine) := goodIn_app (goodIn_of _ (by decide +kernel)) ggX11_told_X3_hasLine
set_option maxRecDepth 20000 in
theorem ggX11_ask_X3_hasLine : GoodIn wsX11_ask wsX3_hasLine := goodIn_r _ [11, 12, 99, 100, 101, 102, 103, 104, 105] (by decide +kernel) (by decide +kernel)
set_option maxRecDepth 20000 in
theorem gX11_ask_X3_hasLine : GoodIn wsX11_ask (wsV RX11 112 RX3 yX3_hasLine wsX3_hasLine) := goodIn_app (goodIn_of _ (by decide +kernel)) ggX11_ask_X3_hasLine
set_option maxRecDepth 20000 in
theorem ggX11_most_X3_hasPair : GoodIn wsX11_most wsX3_hasPair := goodIn_r _ [6, 7, 8, 9, 5, 10, 11, 112, 113, 114, 115, 116, 117, 118] (by decide +kernel) (by decide +kernel)
set_option maxRecDepth 20000 in
theorem gX11_most_X3_hasPair : GoodIn wsX11_most (wsV RX11 135 RX3 yX3_hasPair wsX3_hasPair) := goodIn_app (goodIn_of _ (by decide +kernel)) ggX11_most_X3_hasPair
set_option maxRecDepth 20000 in
theorem ggX11_flow_X3_hasPair : GoodIn wsX11_flow wsX3_hasPair := goodIn_r _ [9, 10, 11, 12, 8, 13, 14, 129, 130, 131, 132, 133, 134, 135] (by decide +kernel) (by decide +kernel)
set_option maxRecDepth 20000 in
theorem gX11_flow_X3_hasPair : GoodIn wsX11_flow (wsV RX11 135 RX3 yX3_hasPair wsX3_hasPair) := goodIn_app (goodIn_of _ (by decide +kernel)) ggX11_flow_X3_hasPair
set_option maxRecDepth 20000 in
theorem ggX11_cut_X3_hasPair : GoodIn wsX11_cut wsX3_hasPair := goodIn_r _ [7, 8, 9, 10, 6, 11, 12, 124, 125, 126, 127, 128, 129, 130] (by decide +kernel) (by decide +kernel)
set_option maxRecDepth 20000 in
theorem gX11_cut_X3_hasPair : GoodIn wsX11_cut (wsV RX11 135 RX3 yX3_hasPair wsX3_hasPair) := goodIn_app (goodIn_of _ (by decide +kernel)) ggX11_cut_X3_hasPair
set_option maxRecDepth 20000 in
theorem ggX11_count_X3_hasPair : GoodIn wsX11_count wsX3_hasPair := goodIn_r _ [7, 8, 9, 10, 6, 11, 12, 149, 150, 151, 152, 153, 154, 155] (by decide +kernel) (by decide +kernel)
set_option maxRecDepth 20000 in
theorem gX11_count_X3_hasPair : GoodIn wsX11_count (wsV RX11 135 RX3 yX3_hasPair wsX3_hasPair) := goodIn_app (goodIn_of _ (by decide +kernel)) ggX11_count_X3_hasPair
set_option maxRecDepth 20000 in
theorem ggX11_next_X3_hasPair : GoodIn wsX11_next wsX3_hasPair := goodIn_r _ [7, 8, 9, 10, 6, 11, 12, 148, 149, 150, 151, 152, 153, 154] (by decide +kernel) (by decide +kernel)
set_option maxRecDepth 20000 in
theorem gX11_next_X3_hasPair : GoodIn wsX11_next (wsV RX11 135 RX3 yX3_hasPair wsX3_hasPair) := goodIn_app (goodIn_of _ (by decide +kernel)) ggX11_next_X3_hasPair
set_option maxRecDepth 20000 in
theorem ggX11_size_X3_hasPair : GoodIn wsX11_size wsX3_hasPair := goodIn_r _ [8, 9, 10, 11, 7, 12, 13, 83, 84, 85, 86, 87, 88, 89] (by decide +kernel) (by decide +kernel)
set_option maxRecDepth 20000 in
theorem gX11_size_X3_hasPair : GoodIn wsX11_size (wsV RX11 135 RX3 yX3_hasPair wsX3_hasPair) := goodIn_app (goodIn_of _ (by decide +kernel)) ggX11_size_X3_hasPair
set_option maxRecDepth 20000 in
theorem ggX11_raise_X3_hasPair : GoodIn wsX11_raise wsX3_hasPair := goodIn_r _ [7, 8, 9, 10, 6, 11, 12, 113, 114, 115, 116, 117, 118, 119] (by decide +kernel) (by decide +kernel)
set_option maxRecDepth 20000 in
theorem gX11_raise_X3_hasPair : GoodIn wsX11_raise (wsV RX11 135 RX3 yX3_hasPair wsX3_hasPair) := goodIn_app (goodIn_of _ (by decide +kernel)) ggX11_raise_X3_hasPair
set_option maxRecDepth 20000 in
theorem ggX11_cheapest_X3_hasPair : GoodIn wsX11_cheapest wsX3_hasPair := goodIn_r _ [7, 8, 9, 10, 6, 11, 12, 183, 184, 185, 186, 187, 188, 189] (by decide +kernel) (by decide +kernel)
set_option maxRecDepth 20000 in
theorem gX11_cheapest_X3_hasPair : GoodIn wsX11_cheapest (wsV RX11 135 RX3 yX3_hasPair wsX3_hasPair) := goodIn_app (goodIn_of _ (by decide +kernel)) ggX11_cheapest_X3_hasPair
set_option maxRecDepth 20000 in
theorem ggX11_tree_X3_isWhole : GoodIn wsX11_tree wsX3_isWhole := goodIn_r _ [9, 10, 11, 12, 13, 14, 15, 8, 16, 17, 134, 135, 136, 137, 138, 139, 140] (by decide +kernel) (by decide +kernel)
set_option maxRecDepth 20000 in
theorem gX11_tree_X3_isWhole : GoodIn wsX11_tree (wsV RX11 204 RX3 yX3_isWhole wsX3_isWhole) := goodIn_app (goodIn_of _ (by decide +kernel)) ggX11_tree_X3_isWhole
set_option maxRecDepth 20000 in
theorem ggX11_between_X3_isWhole : GoodIn wsX11_between wsX3_isWhole := goodIn_r _ [7, 8, 9, 10, 11, 12, 13, 6, 14, 15, 143, 144, 145, 146, 147, 148, 149] (by decide +kernel) (by decide +kernel)
set_option maxRecDepth 20000 in
theorem gX11_between_X3_isWhole : GoodIn wsX11_between (wsV RX11 204 RX3 yX3_isWhole wsX3_isWhole) := goodIn_app (goodIn_of _ (by decide +kernel)) ggX11_between_X3_isWhole
set_option maxRecDepth 20000 in
theorem ggX11_least_X3_isWhole : GoodIn wsX11_least wsX3_isWhole := goodIn_r _ [7, 8, 9, 10, 11, 12, 13, 6, 14, 15, 131, 132, 133, 134, 135, 136, 137] (by decide +kernel) (by decide +kernel)
set_option maxRecDepth 20000 in
theorem gX11_least_X3_isWhole : GoodIn wsX11_least (wsV RX11 204 RX3 yX3_isWhole wsX3_isWhole) := goodIn_app (goodIn_of _ (by decide +kernel)) ggX11_least_X3_isWhole
set_option maxRecDepth 20000 in
theorem ggX11_cuts_X3_isWhole : GoodIn wsX11_cuts wsX3_isWhole := goodIn_r _ [8, 9, 10, 11, 12, 13, 14, 7, 15, 16, 168, 169, 170, 171, 172, 173, 174] (by decide +kernel) (by decide +kernel)
set_option maxRecDepth 20000 in
theorem gX11_cuts_X3_isWhole : GoodIn wsX11_cuts (wsV RX11 204 RX3 yX3_isWhole wsX3_isWhole) := goodIn_app (goodIn_of _ (by decide +kernel)) ggX11_cuts_X3_isWhole
set_option maxRecDepth 20000 in
theorem ggX11_cutAt_X3_isWhole : GoodIn wsX11_cutAt wsX3_isWhole := goodIn_r _ [8, 9, 10, 11, 12, 13, 14, 7, 15, 16, 167, 168, 169, 170, 171, 172, 173] (by decide +kernel) (by decide +kernel)
set_option maxRecDepth 20000 in
theorem gX11_cutAt_X3_isWhole : GoodIn wsX11_cutAt (wsV RX11 204 RX3 yX3_isWhole wsX3_isWhole) := goodIn_app (goodIn_of _ (by decide +kernel)) ggX11_cutAt_X3_isWhole
set_option maxRecDepth 20000 in
theorem ggX11_weak_X3_hasLine : GoodIn wsX11_weak wsX3_hasLine := goodIn_r _ [9, 10, 146, 147, 148, 149, 150, 151, 152] (by decide +kernel) (by decide +kernel)
set_option maxRecDepth 20000 in
theorem gX11_weak_X3_hasLine : GoodIn wsX11_weak (wsV RX11 112 RX3 yX3_hasLine wsX3_hasLine) := goodIn_app (goodIn_of _ (by decide +kernel)) ggX11_weak_X3_hasLine
set_option maxRecDepth 20000 in
theorem ggX11_part_X3_isWhole : GoodIn wsX11_part wsX3_isWhole := goodIn_r _ [8, 9, 10, 11, 12, 13, 14, 7, 15, 16, 149, 150, 151, 152, 153, 154, 155] (by decide +kernel) (by decide +kernel)
set_option maxRecDepth 20000 in
theorem gX11_part_X3_isWhole : GoodIn wsX11_part (wsV RX11 204 RX3 yX3_isWhole wsX3_isWhole) := goodIn_app (goodIn_of _ (by decide +kernel)) ggX11_part_X3_isWhole
set_option maxRecDepth 20000 in
theorem ggX11_dense_X3_isWhole : GoodIn wsX11_dense wsX3_isWhole := goodIn_r _ [10, 11, 12, 13, 14, 15, 16, 9, 17, 18, 116, 117, 118, 119, 120, 121, 122] (by decide +kernel) (by decide +kernel)
set_option maxRecDepth 20000 in
theorem gX11_dense_X3_isWhole : GoodIn wsX11_dense (wsV RX11 204 RX3 yX3_isWhole wsX3_isWhole) := goodIn_app (goodIn_of _ (by decide +kernel)) ggX11_dense_X3_isWhole
set_option maxRecDepth 20000 in
theorem ggX11_map_X11_mapRefusal : GoodIn wsX11_map wsX11_mapRefusal := goodIn_r _ [6, 7, 8, 5, 9, 10, 11, 12] (by decide +kernel) (by decide +kernel)
set_option maxRecDepth 20000 in
theorem gX11_map_X11_mapRefusal : GoodIn wsX11_map (va_wsS RX11 247 yX11_mapRefusal wsX11_mapRefusal) := goodIn_app (goodIn_of _ (by decide +kernel)) ggX11_map_X11_mapRefusal
set_option maxRecDepth 20000 in
theorem ggX11_map_X4_begin : GoodIn wsX11_map wsX4_begin := goodIn_r _ [17, 18, 19, 20, 21, 22, 23, 24, 37, 38, 39, 40] (by decide +kernel) (by decide +kernel)
set_option maxRecDepth 20000 in
theorem gX11_map_X4_begin : GoodIn wsX11_map (wsV RX11 250 RX4 yX4_begin wsX4_begin) := goodIn_app (goodIn_of _ (by decide +kernel)) ggX11_map_X4_begin
set_option maxRecDepth 20000 in
theorem ggX11_row_X11_rowRefusal : GoodIn wsX11_row wsX11_rowRefusal := goodIn_r _ [7, 2, 8, 9, 6, 10, 11, 12, 13, 14, 15, 16, 17, 18, 19, 20, 27, 28, 29, 30, 31, 32, 33, 34, 35, 36, 37, 38, 39, 40, 41, 42] (by decide +kernel) (by decide +kernel)
set_option maxRecDepth 20000 in
theorem gX11_row_X11_rowRefusal : GoodIn wsX11_row (wsV RX11 254 RX11 yX11_rowRefusal wsX11_rowRefusal) := goodIn_app (goodIn_of _ (by decide +kernel)) ggX11_row_X11_rowRefusal
set_option maxRecDepth 20000 in
theorem ggX11_put_X11_numberRefusal : GoodIn wsX11_put wsX11_numberRefusal := goodIn_r _ [7, 2, 8, 9, 10, 11, 6, 12, 13, 14, 15, 16, 17, 18, 19, 20, 21, 22, 23, 24, 25, 32, 33, 34, 35, 36, 37, 38, 39, 40, 41, 42, 43, 44, 45, 46, 47] (by decide +kernel) (by decide +kernel)
set_option maxRecDepth 20000 in
theorem gX11_put_X11_numberRefusal : GoodIn wsX11_put (wsV RX11 260 RX11 yX11_numberRefusal wsX11_numberRefusal) := goodIn_app (goodIn_of _ (by decide +kernel)) ggX11_put_X11_numberRefusal
set_option maxRecDepth 20000 in
theorem ggX11_copy_X11_isMapNumber : GoodIn wsX11_copy wsX11_isMapNumber := goodIn_r _ [6] (by decide +kernel) (by decide +kernel)
set_option maxRecDepth 20000 in
theorem gX11_copy_X11_isMapNumber : GoodIn wsX11_copy (va_wsS RX11 267 yX11_isMapNumber wsX11_isMapNumber) := goodIn_app (goodIn_of _ (by decide +kernel)) ggX11_copy_X11_isMapNumber
set_option maxRecDepth 20000 in
theorem ggX11_copy_X4_moveRefusal : GoodIn wsX11_copy wsX4_moveRefusal := goodIn_r _ [11, 12, 13, 14, 15, 10, 16, 17, 18, 19, 20, 21, 22, 23, 24, 25, 47, 48, 49, 50] (by decide +kernel) (by decide +kernel)
set_option maxRecDepth 20000 in
theorem gX11_copy_X4_moveRefusal : GoodIn wsX11_copy (wsV RX11 270 RX4 yX4_moveRefusal wsX4_moveRefusal) := goodIn_app (goodIn_of _ (by decide +kernel)) ggX11_copy_X4_moveRefusal
set_option maxRecDepth 20000 in
theorem ggX11_item_X11_numberRefusal : GoodIn wsX11_item wsX11_numberRefusal := goodIn_r _ [7, 2, 8, 9, 10, 11, 6, 12, 13, 14, 15, 16, 17, 18, 19, 20, 21, 22, 23, 24, 25, 31, 32, 33, 34, 35, 36, 37, 38, 39, 40, 41, 42, 43, 44, 45, 46] (by decide +kernel) (by decide +kernel)
set_option maxRecDepth 20000 in
theorem gX11_item_X11_numberRefusal : GoodIn wsX11_item (wsV RX11 260 RX11 yX11_numberRefusal wsX11_numberRefusal) := goodIn_app (goodIn_of _ (by decide +kernel)) ggX11_item_X11_numberRefusal
set_option maxRecDepth 20000 in
theorem ggX11_read_X11_isMapNumber : GoodIn wsX11_read wsX11_isMapNumber := goodIn_r _ [7] (by decide +kernel) (by decide +kernel)
set_option maxRecDepth 20000 in
theorem gX11_read_X11_isMapNumber : GoodIn wsX11_read (va_wsS RX11 267 yX11_isMapNumber wsX11_isMapNumber) := goodIn_app (goodIn_of _ (by decide +kernel)) ggX11_read_X11_isMapNumber
set_option maxRecDepth 20000 in
theorem ggX11_read_X4_isThere : GoodIn wsX11_read wsX4_isThere := goodIn_r _ [12, 13, 113, 114, 115, 116] (by decide +kernel) (by decide +kernel)
set_option maxRecDepth 20000 in
theorem gX11_read_X4_isThere : GoodIn wsX11_read (wsV RX11 281 RX4 yX4_isThere wsX4_isThere) := goodIn_app (goodIn_of _ (by decide +kernel)) ggX11_read_X4_isThere
set_option maxRecDepth 20000 in
theorem ggX11_about_X3_missingLines : GoodIn wsX11_about wsX3_missingLines := goodIn_r _ [9, 10, 11, 12, 13, 8, 14, 15, 34, 35, 36, 37, 38, 39, 40] (by decide +kernel) (by decide +kernel)
set_option maxRecDepth 20000 in
theorem gX11_about_X3_missingLines : GoodIn wsX11_about (wsV RX11 297 RX3 yX3_missingLines wsX3_missingLines) := goodIn_app (goodIn_of _ (by decide +kernel)) ggX11_about_X3_missingLines
set_option maxRecDepth 20000 in
theorem ggX11_about_X3_isWhole : GoodIn wsX11_about wsX3_isWhole := goodIn_r _ [19, 10, 20, 21, 11, 12, 13, 8, 14, 15, 34, 35, 36, 37, 38, 39, 40] (by decide +kernel) (by decide +kernel)
set_option maxRecDepth 20000 in
theorem gX11_about_X3_isWhole : GoodIn wsX11_about (wsV RX11 204 RX3 yX3_isWhole wsX3_isWhole) := goodIn_app (goodIn_of _ (by decide +kernel)) ggX11_about_X3_isWhole
set_option maxRecDepth 20000 in
theorem ggX11_remember_X3_init : GoodIn wsX11_remember wsX3_init := goodIn_r _ [9, 10, 11, 12, 13, 14, 15, 16, 17, 18, 19, 20, 41, 42, 43, 44, 45, 46, 47] (by decide +kernel) (by decide +kernel)
set_option maxRecDepth 20000 in
theorem gX11_remember_X3_init_n30 : GoodIn wsX11_remember (wsX3_init) := ggX11_remember_X3_init
set_option maxRecDepth 20000 in
theorem ggX11_remember_X3_become : GoodIn wsX11_remember wsX3_become := goodIn_r _ [24, 13, 14, 16, 25, 26, 27, 28, 17, 18, 19, 20, 41, 42, 43, 44, 45, 46, 47] (by decide +kernel) (by decide +kernel)
set_option maxRecDepth 20000 in
theorem gX11_remember_X3_become : GoodIn wsX11_remember (wsV RX11 151 RX3 yX3_become wsX3_become) := goodIn_app (goodIn_of _ (by decide +kernel)) ggX11_remember_X3_become
set_option maxRecDepth 20000 in
theorem ggX11_lineRefusal_X3_hasPair : GoodIn wsX11_lineRefusal wsX3_hasPair := goodIn_r _ [10, 11, 12, 13, 9, 14, 15, 28, 29, 30, 31, 32, 33, 34] (by decide +kernel) (by decide +kernel)
set_option maxRecDepth 20000 in
theorem gX11_lineRefusal_X3_hasPair : GoodIn wsX11_lineRefusal (wsV RX11 135 RX3 yX3_hasPair wsX3_hasPair) := goodIn_app (goodIn_of _ (by decide +kernel)) ggX11_lineRefusal_X3_hasPair
set_option maxRecDepth 20000 in
theorem ggX11_mapRefusal_X11_isMapNumber : GoodIn wsX11_mapRefusal wsX11_isMapNumber := goodIn_r _ [4] (by decide +kernel) (by decide +kernel)
set_option maxRecDepth 20000 in
theorem gX11_mapRefusal_X11_isMapNumber : GoodIn wsX11_mapRefusal (va_wsS RX11 267 yX11_isMapNumber wsX11_isMapNumber) := goodIn_app (goodIn_of _ (by decide +kernel)) ggX11_mapRefusal_X11_isMapNumber
set_option maxRecDepth 20000 in
theorem ggX11_mapRefusal_X11_isMapKind : GoodIn wsX11_mapRefusal wsX11_isMapKind := goodIn_r _ [7] (by decide +kernel) (by decide +kernel)
set_option maxRecDepth 20000 in
theorem gX11_mapRefusal_X11_isMapKind : GoodIn wsX11_mapRefusal (va_wsS RX11 312 yX11_isMapKind wsX11_isMapKind) := goodIn_app (goodIn_of _ (by decide +kernel)) ggX11_mapRefusal_X11_isMapKind
set_option maxRecDepth 20000 in
theorem ggX11_rowRefusal_X11_isMapNumber : GoodIn wsX11_rowRefusal wsX11_isMapNumber := goodIn_r _ [5] (by decide +kernel) (by decide +kernel)
set_option maxRecDepth 20000 in
theorem gX11_rowRefusal_X11_isMapNumber : GoodIn wsX11_rowRefusal (va_wsS RX11 267 yX11_isMapNumber wsX11_isMapNumber) := goodIn_app (goodIn_of _ (by decide +kernel)) ggX11_rowRefusal_X11_isMapNumber
set_option maxRecDepth 20000 in
theorem ggX11_rowRefusal_X4_isThere : GoodIn wsX11_rowRefusal wsX4_isThere := goodIn_r _ [10, 11, 28, 29, 30, 31] (by decide +kernel) (by decide +kernel)
set_option maxRecDepth 20000 in
theorem gX11_rowRefusal_X4_isThere : GoodIn wsX11_rowRefusal (wsV RX11 281 RX4 yX4_isThere wsX4_isThere) := goodIn_app (goodIn_of _ (by decide +kernel)) ggX11_rowRefusal_X4_isThere
set_option maxRecDepth 20000 in
theorem ggX11_numberRefusal_X11_isMapNumber : GoodIn wsX11_numberRefusal wsX11_isMapNumber := goodIn_r _ [7] (by decide +kernel) (by decide +kernel)
set_option maxRecDepth 20000 in
theorem gX11_numberRefusal_X11_isMapNumber : GoodIn wsX11_numberRefusal (va_wsS RX11 267 yX11_isMapNumber wsX11_isMapNumber) := goodIn_app (goodIn_of _ (by decide +kernel)) ggX11_numberRefusal_X11_isMapNumber
set_option maxRecDepth 20000 in
theorem ggX11_numberRefusal_X11_isMapKind : GoodIn wsX11_numberRefusal wsX11_isMapKind := goodIn_r _ [10] (by decide +kernel) (by decide +kernel)
set_option maxRecDepth 20000 in
theorem gX11_numberRefusal_X11_isMapKind : GoodIn wsX11_numberRefusal (va_wsS RX11 312 yX11_isMapKind wsX11_isMapKind) := goodIn_app (goodIn_of _ (by decide +kernel)) ggX11_numberRefusal_X11_isMapKind
set_option maxRecDepth 20000 in
theorem ggX11_numberRefusal_X4_isThere : GoodIn wsX11_numberRefusal wsX4_isThere := goodIn_r _ [15, 16, 33, 34, 35, 36] (by decide +kernel) (by decide +kernel)
set_option maxRecDepth 20000 in
theorem gX11_numberRefusal_X4_isThere : GoodIn wsX11_numberRefusal (wsV RX11 281 RX4 yX4_isThere wsX4_isThere) := goodIn_app (goodIn_of _ (by decide +kernel)) ggX11_numberRefusal_X4_isThere
abbrev vwCl : List vw_C := [(RX0, TX0, 9), (RX1, TX1, 3), (RX2, TX2, 0), (RX3, TX3, 7), (RX4, TX4, 4), (RX5, TX5, 0), (RX6, TX6, 0), (RX7, TX7, 9), (RX8, TX8, 0), (RX9, TX9, 0), (RX10, TX10, 5), (RX11, TX11, 12), (RX12, TX12, 34)]
end
section
theorem dX0_init_0 : decode cX0_init 0 = .ok (.aload_n 0, 1) := by decide +kernel
theorem dX0_init_1 : decode cX0_init 1 = .ok (.invokespecial 3, 3) := by decide +kernel
theorem dX0_init_4 : decode cX0_init 4 = .ok (.aload_n 0, 1) := by decide +kernel
theorem dX0_init_5 : decode cX0_init 5 = .ok (.bipush 12, 2) := by decide +kernel
theorem dX0_init_7 : decode cX0_init 7 = .ok (.bipush 12, 2) := by decide +kernel
theorem dX0_init_9 : decode cX0_init 9 = .ok (.multianewarray 9 2, 4) := by decide +kernel
theorem dX0_init_13 : decode cX0_init 13 = .ok (.putfield 11, 3) := by decide +kernel
theorem dX0_init_16 : decode cX0_init 16 = .ok (.aload_n 0, 1) := by decide +kernel
theorem dX0_init_17 : decode cX0_init 17 = .ok (.bipush 12, 2) := by decide +kernel
theorem dX0_init_19 : decode cX0_init 19 = .ok (.bipush 12, 2) := by decide +kernel
theorem dX0_init_21 : decode cX0_init 21 = .ok (.multianewarray 9 2, 4) := by decide +kernel
theorem dX0_init_25 : decode cX0_init 25 = .ok (.putfield 16, 3) := by decide +kernel
theorem dX0_init_28 : decode cX0_init 28 = .ok (.aload_n 0, 1) := by decide +kernel
theorem dX0_init_29 : decode cX0_init 29 = .ok (.bipush 40, 2) := by decide +kernel
theorem dX0_init_31 : decode cX0_init 31 = .ok (.newarray .int, 2) := by decide +kernel
theorem dX0_init_33 : decode cX0_init 33 = .ok (.putfield 19, 3) := by decide +kernel
theorem dX0_init_36 : decode cX0_init 36 = .ok (.aload_n 0, 1) := by decide +kernel
theorem dX0_init_37 : decode cX0_init 37 = .ok (.bipush 40, 2) := by decide +kernel
theorem dX0_init_39 : decode cX0_init 39 = .ok (.newarray .int, 2) := by decide +kernel
theorem dX0_init_41 : decode cX0_init 41 = .ok (.putfield 23, 3) := by decide +kernel
theorem dX0_init_44 : decode cX0_init 44 = .ok (.aload_n 0, 1) := by decide +kernel
theorem dX0_init_45 : decode cX0_init 45 = .ok (.bipush 40, 2) := by decide +kernel
theorem dX0_init_47 : decode cX0_init 47 = .ok (.newarray .int, 2) := by decide +kernel
theorem dX0_init_49 : decode cX0_init 49 = .ok (.putfield 26, 3) := by decide +kernel
theorem dX0_init_52 : decode cX0_init 52 = .ok (.aload_n 0, 1) := by decide +kernel
theorem dX0_init_53 : decode cX0_init 53 = .ok (.bipush 12, 2) := by decide +kernel
theorem dX0_init_55 : decode cX0_init 55 = .ok (.newarray .int, 2) := by decide +kernel
theorem dX0_init_57 : decode cX0_init 57 = .ok (.putfield 29, 3) := by decide +kernel
theorem dX0_init_60 : decode cX0_init 60 = .ok (.aload_n 0, 1) := by decide +kernel
theorem dX0_init_61 : decode cX0_init 61 = .ok (.bipush 12, 2) := by decide +kernel
theorem dX0_init_63 : decode cX0_init 63 = .ok (.newarray .int, 2) := by decide +kernel
theorem dX0_init_65 : decode cX0_init 65 = .ok (.putfield 32, 3) := by decide +kernel
theorem dX0_init_68 : decode cX0_init 68 = .ok (.aload_n 0, 1) := by decide +kernel
theorem dX0_init_69 : decode cX0_init 69 = .ok (.aload_n 1, 1) := by decide +kernel
theorem dX0_init_70 : decode cX0_init 70 = .ok (.putfield 35, 3) := by decide +kernel
theorem dX0_init_73 : decode cX0_init 73 = .ok (.aload_n 0, 1) := by decide +kernel
theorem dX0_init_74 : decode cX0_init 74 = .ok (.aload_n 2, 1) := by decide +kernel
theorem dX0_init_75 : decode cX0_init 75 = .ok (.putfield 39, 3) := by decide +kernel
theorem dX0_init_78 : decode cX0_init 78 = .ok (.return_, 1) := by decide +kernel
theorem dX1_init_0 : decode cX1_init 0 = .ok (.aload_n 0, 1) := by decide +kernel
theorem dX1_init_1 : decode cX1_init 1 = .ok (.invokespecial 3, 3) := by decide +kernel
theorem dX1_init_4 : decode cX1_init 4 = .ok (.aload_n 0, 1) := by decide +kernel
theorem dX1_init_5 : decode cX1_init 5 = .ok (.bipush 12, 2) := by decide +kernel
theorem dX1_init_7 : decode cX1_init 7 = .ok (.newarray .int, 2) := by decide +kernel
theorem dX1_init_9 : decode cX1_init 9 = .ok (.putfield 9, 3) := by decide +kernel
theorem dX1_init_12 : decode cX1_init 12 = .ok (.aload_n 0, 1) := by decide +kernel
theorem dX1_init_13 : decode cX1_init 13 = .ok (.bipush 12, 2) := by decide +kernel
theorem dX1_init_15 : decode cX1_init 15 = .ok (.newarray .int, 2) := by decide +kernel
theorem dX1_init_17 : decode cX1_init 17 = .ok (.putfield 15, 3) := by decide +kernel
theorem dX1_init_20 : decode cX1_init 20 = .ok (.aload_n 0, 1) := by decide +kernel
theorem dX1_init_21 : decode cX1_init 21 = .ok (.aload_n 1, 1) := by decide +kernel
theorem dX1_init_22 : decode cX1_init 22 = .ok (.putfield 18, 3) := by decide +kernel
theorem dX1_init_25 : decode cX1_init 25 = .ok (.return_, 1) := by decide +kernel
theorem dX2_init_0 : decode cX2_init 0 = .ok (.aload_n 0, 1) := by decide +kernel
theorem dX2_init_1 : decode cX2_init 1 = .ok (.invokespecial 1, 3) := by decide +kernel
theorem dX2_init_4 : decode cX2_init 4 = .ok (.return_, 1) := by decide +kernel
theorem dX3_init_0 : decode cX3_init 0 = .ok (.aload_n 0, 1) := by decide +kernel
theorem dX3_init_1 : decode cX3_init 1 = .ok (.invokespecial 3, 3) := by decide +kernel
theorem dX3_init_4 : decode cX3_init 4 = .ok (.aload_n 0, 1) := by decide +kernel
theorem dX3_init_5 : decode cX3_init 5 = .ok (.iconst 0, 1) := by decide +kernel
theorem dX3_init_6 : decode cX3_init 6 = .ok (.putfield 9, 3) := by decide +kernel
theorem dX3_init_9 : decode cX3_init 9 = .ok (.aload_n 0, 1) := by decide +kernel
theorem dX3_init_10 : decode cX3_init 10 = .ok (.iconst 0, 1) := by decide +kernel
theorem dX3_init_11 : decode cX3_init 11 = .ok (.putfield 15, 3) := by decide +kernel
theorem dX3_init_14 : decode cX3_init 14 = .ok (.aload_n 0, 1) := by decide +kernel
theorem dX3_init_15 : decode cX3_init 15 = .ok (.bipush 40, 2) := by decide +kernel
theorem dX3_init_17 : decode cX3_init 17 = .ok (.newarray .int, 2) := by decide +kernel
theorem dX3_init_19 : decode cX3_init 19 = .ok (.putfield 18, 3) := by decide +kernel
theorem dX3_init_22 : decode cX3_init 22 = .ok (.aload_n 0, 1) := by decide +kernel
theorem dX3_init_23 : decode cX3_init 23 = .ok (.bipush 40, 2) := by decide +kernel
theorem dX3_init_25 : decode cX3_init 25 = .ok (.newarray .int, 2) := by decide +kernel
theorem dX3_init_27 : decode cX3_init 27 = .ok (.putfield 22, 3) := by decide +kernel
theorem dX3_init_30 : decode cX3_init 30 = .ok (.aload_n 0, 1) := by decide +kernel
theorem dX3_init_31 : decode cX3_init 31 = .ok (.bipush 40, 2) := by decide +kernel
theorem dX3_init_33 : decode cX3_init 33 = .ok (.newarray .int, 2) := by decide +kernel
theorem dX3_init_35 : decode cX3_init 35 = .ok (.putfield 25, 3) := by decide +kernel
theorem dX3_init_38 : decode cX3_init 38 = .ok (.aload_n 0, 1) := by decide +kernel
theorem dX3_init_39 : decode cX3_init 39 = .ok (.bipush 40, 2) := by decide +kernel
theorem dX3_init_41 : decode cX3_init 41 = .ok (.newarray .int, 2) := by decide +kernel
theorem dX3_init_43 : decode cX3_init 43 = .ok (.putfield 28, 3) := by decide +kernel
theorem dX3_init_46 : decode cX3_init 46 = .ok (.aload_n 0, 1) := by decide +kernel
theorem dX3_init_47 : decode cX3_init 47 = .ok (.bipush 40, 2) := by decide +kernel
theorem dX3_init_49 : decode cX3_init 49 = .ok (.newarray .int, 2) := by decide +kernel
theorem dX3_init_51 : decode cX3_init 51 = .ok (.putfield 31, 3) := by decide +kernel
theorem dX3_init_54 : decode cX3_init 54 = .ok (.return_, 1) := by decide +kernel
theorem dX3_hasPlace_0 : decode cX3_hasPlace 0 = .ok (.lload_n 1, 1) := by decide +kernel
theorem dX3_hasPlace_1 : decode cX3_hasPlace 1 = .ok (.lconst 0, 1) := by decide +kernel
theorem dX3_hasPlace_2 : decode cX3_hasPlace 2 = .ok (.lcmp, 1) := by decide +kernel
theorem dX3_hasPlace_3 : decode cX3_hasPlace 3 = .ok (.ifCond .lt 17, 3) := by decide +kernel
theorem dX3_hasPlace_6 : decode cX3_hasPlace 6 = .ok (.lload_n 1, 1) := by decide +kernel
theorem dX3_hasPlace_7 : decode cX3_hasPlace 7 = .ok (.aload_n 0, 1) := by decide +kernel
theorem dX3_hasPlace_8 : decode cX3_hasPlace 8 = .ok (.getfield 9, 3) := by decide +kernel
theorem dX3_hasPlace_11 : decode cX3_hasPlace 11 = .ok (.i2l, 1) := by decide +kernel
theorem dX3_hasPlace_12 : decode cX3_hasPlace 12 = .ok (.lcmp, 1) := by decide +kernel
theorem dX3_hasPlace_13 : decode cX3_hasPlace 13 = .ok (.ifCond .ge 7, 3) := by decide +kernel
theorem dX3_hasPlace_20 : decode cX3_hasPlace 20 = .ok (.iconst 0, 1) := by decide +kernel
theorem dX3_hasPlace_21 : decode cX3_hasPlace 21 = .ok (.ireturn, 1) := by decide +kernel
theorem dX3_hasPair_0 : decode cX3_hasPair 0 = .ok (.aload_n 0, 1) := by decide +kernel
theorem dX3_hasPair_1 : decode cX3_hasPair 1 = .ok (.lload_n 1, 1) := by decide +kernel
theorem dX3_hasPair_2 : decode cX3_hasPair 2 = .ok (.invokevirtual 34, 3) := by decide +kernel
theorem dX3_hasPair_5 : decode cX3_hasPair 5 = .ok (.ifCond .eq 21, 3) := by decide +kernel
theorem dX3_hasPair_26 : decode cX3_hasPair 26 = .ok (.iconst 0, 1) := by decide +kernel
theorem dX3_hasPair_27 : decode cX3_hasPair 27 = .ok (.ireturn, 1) := by decide +kernel
theorem dX3_hasLine_0 : decode cX3_hasLine 0 = .ok (.iload_n 1, 1) := by decide +kernel
theorem dX3_hasLine_1 : decode cX3_hasLine 1 = .ok (.ifCond .lt 15, 3) := by decide +kernel
theorem dX3_hasLine_4 : decode cX3_hasLine 4 = .ok (.iload_n 1, 1) := by decide +kernel
theorem dX3_hasLine_5 : decode cX3_hasLine 5 = .ok (.aload_n 0, 1) := by decide +kernel
theorem dX3_hasLine_6 : decode cX3_hasLine 6 = .ok (.getfield 15, 3) := by decide +kernel
theorem dX3_hasLine_9 : decode cX3_hasLine 9 = .ok (.if_icmp .ge 7, 3) := by decide +kernel
theorem dX3_hasLine_16 : decode cX3_hasLine 16 = .ok (.iconst 0, 1) := by decide +kernel
theorem dX3_hasLine_17 : decode cX3_hasLine 17 = .ok (.ireturn, 1) := by decide +kernel
theorem dX3_missingLines_0 : decode cX3_missingLines 0 = .ok (.iconst 0, 1) := by decide +kernel
theorem dX3_missingLines_1 : decode cX3_missingLines 1 = .ok (.istore_n 1, 1) := by decide +kernel
theorem dX3_missingLines_2 : decode cX3_missingLines 2 = .ok (.iconst 0, 1) := by decide +kernel
theorem dX3_missingLines_3 : decode cX3_missingLines 3 = .ok (.istore_n 2, 1) := by decide +kernel
theorem dX3_missingLines_4 : decode cX3_missingLines 4 = .ok (.iload_n 2, 1) := by decide +kernel
theorem dX3_missingLines_5 : decode cX3_missingLines 5 = .ok (.aload_n 0, 1) := by decide +kernel
theorem dX3_missingLines_6 : decode cX3_missingLines 6 = .ok (.getfield 15, 3) := by decide +kernel
theorem dX3_missingLines_9 : decode cX3_missingLines 9 = .ok (.if_icmp .ge 25, 3) := by decide +kernel
theorem dX3_missingLines_34 : decode cX3_missingLines 34 = .ok (.iload_n 1, 1) := by decide +kernel
theorem dX3_missingLines_35 : decode cX3_missingLines 35 = .ok (.ireturn, 1) := by decide +kernel
theorem dX3_isWhole_0 : decode cX3_isWhole 0 = .ok (.iconst 0, 1) := by decide +kernel
theorem dX3_isWhole_1 : decode cX3_isWhole 1 = .ok (.istore_n 1, 1) := by decide +kernel
theorem dX3_isWhole_2 : decode cX3_isWhole 2 = .ok (.iload_n 1, 1) := by decide +kernel
theorem dX3_isWhole_3 : decode cX3_isWhole 3 = .ok (.aload_n 0, 1) := by decide +kernel
theorem dX3_isWhole_4 : decode cX3_isWhole 4 = .ok (.getfield 15, 3) := by decide +kernel
theorem dX3_isWhole_7 : decode cX3_isWhole 7 = .ok (.if_icmp .ge 49, 3) := by decide +kernel
theorem dX3_isWhole_56 : decode cX3_isWhole 56 = .ok (.aload_n 0, 1) := by decide +kernel
theorem dX3_isWhole_57 : decode cX3_isWhole 57 = .ok (.getfield 9, 3) := by decide +kernel
theorem dX3_isWhole_60 : decode cX3_isWhole 60 = .ok (.iconst 2, 1) := by decide +kernel
theorem dX3_isWhole_61 : decode cX3_isWhole 61 = .ok (.if_icmp .lt 7, 3) := by decide +kernel
theorem dX3_isWhole_68 : decode cX3_isWhole 68 = .ok (.iconst 0, 1) := by decide +kernel
theorem dX3_isWhole_69 : decode cX3_isWhole 69 = .ok (.ireturn, 1) := by decide +kernel
theorem dX3_become_0 : decode cX3_become 0 = .ok (.aload_n 0, 1) := by decide +kernel
theorem dX3_become_1 : decode cX3_become 1 = .ok (.aload_n 1, 1) := by decide +kernel
theorem dX3_become_2 : decode cX3_become 2 = .ok (.getfield 9, 3) := by decide +kernel
theorem dX3_become_5 : decode cX3_become 5 = .ok (.putfield 9, 3) := by decide +kernel
theorem dX3_become_8 : decode cX3_become 8 = .ok (.aload_n 0, 1) := by decide +kernel
theorem dX3_become_9 : decode cX3_become 9 = .ok (.aload_n 1, 1) := by decide +kernel
theorem dX3_become_10 : decode cX3_become 10 = .ok (.getfield 15, 3) := by decide +kernel
theorem dX3_become_13 : decode cX3_become 13 = .ok (.putfield 15, 3) := by decide +kernel
theorem dX3_become_16 : decode cX3_become 16 = .ok (.aload_n 1, 1) := by decide +kernel
theorem dX3_become_17 : decode cX3_become 17 = .ok (.getfield 18, 3) := by decide +kernel
theorem dX3_become_20 : decode cX3_become 20 = .ok (.iconst 0, 1) := by decide +kernel
theorem dX3_become_21 : decode cX3_become 21 = .ok (.aload_n 0, 1) := by decide +kernel
theorem dX3_become_22 : decode cX3_become 22 = .ok (.getfield 18, 3) := by decide +kernel
theorem dX3_become_25 : decode cX3_become 25 = .ok (.iconst 0, 1) := by decide +kernel
theorem dX3_become_26 : decode cX3_become 26 = .ok (.aload_n 0, 1) := by decide +kernel
theorem dX3_become_27 : decode cX3_become 27 = .ok (.getfield 15, 3) := by decide +kernel
theorem dX3_become_30 : decode cX3_become 30 = .ok (.invokestatic 46, 3) := by decide +kernel
theorem dX3_become_33 : decode cX3_become 33 = .ok (.aload_n 1, 1) := by decide +kernel
theorem dX3_become_34 : decode cX3_become 34 = .ok (.getfield 22, 3) := by decide +kernel
theorem dX3_become_37 : decode cX3_become 37 = .ok (.iconst 0, 1) := by decide +kernel
theorem dX3_become_38 : decode cX3_become 38 = .ok (.aload_n 0, 1) := by decide +kernel
theorem dX3_become_39 : decode cX3_become 39 = .ok (.getfield 22, 3) := by decide +kernel
theorem dX3_become_42 : decode cX3_become 42 = .ok (.iconst 0, 1) := by decide +kernel
theorem dX3_become_43 : decode cX3_become 43 = .ok (.aload_n 0, 1) := by decide +kernel
theorem dX3_become_44 : decode cX3_become 44 = .ok (.getfield 15, 3) := by decide +kernel
theorem dX3_become_47 : decode cX3_become 47 = .ok (.invokestatic 46, 3) := by decide +kernel
theorem dX3_become_50 : decode cX3_become 50 = .ok (.aload_n 1, 1) := by decide +kernel
theorem dX3_become_51 : decode cX3_become 51 = .ok (.getfield 25, 3) := by decide +kernel
theorem dX3_become_54 : decode cX3_become 54 = .ok (.iconst 0, 1) := by decide +kernel
theorem dX3_become_55 : decode cX3_become 55 = .ok (.aload_n 0, 1) := by decide +kernel
theorem dX3_become_56 : decode cX3_become 56 = .ok (.getfield 25, 3) := by decide +kernel
theorem dX3_become_59 : decode cX3_become 59 = .ok (.iconst 0, 1) := by decide +kernel
theorem dX3_become_60 : decode cX3_become 60 = .ok (.aload_n 0, 1) := by decide +kernel
theorem dX3_become_61 : decode cX3_become 61 = .ok (.getfield 15, 3) := by decide +kernel
theorem dX3_become_64 : decode cX3_become 64 = .ok (.invokestatic 46, 3) := by decide +kernel
theorem dX3_become_67 : decode cX3_become 67 = .ok (.aload_n 1, 1) := by decide +kernel
theorem dX3_become_68 : decode cX3_become 68 = .ok (.getfield 28, 3) := by decide +kernel
theorem dX3_become_71 : decode cX3_become 71 = .ok (.iconst 0, 1) := by decide +kernel
theorem dX3_become_72 : decode cX3_become 72 = .ok (.aload_n 0, 1) := by decide +kernel
theorem dX3_become_73 : decode cX3_become 73 = .ok (.getfield 28, 3) := by decide +kernel
theorem dX3_become_76 : decode cX3_become 76 = .ok (.iconst 0, 1) := by decide +kernel
theorem dX3_become_77 : decode cX3_become 77 = .ok (.aload_n 0, 1) := by decide +kernel
theorem dX3_become_78 : decode cX3_become 78 = .ok (.getfield 15, 3) := by decide +kernel
theorem dX3_become_81 : decode cX3_become 81 = .ok (.invokestatic 46, 3) := by decide +kernel
theorem dX3_become_84 : decode cX3_become 84 = .ok (.aload_n 1, 1) := by decide +kernel
theorem dX3_become_85 : decode cX3_become 85 = .ok (.getfield 31, 3) := by decide +kernel
theorem dX3_become_88 : decode cX3_become 88 = .ok (.iconst 0, 1) := by decide +kernel
theorem dX3_become_89 : decode cX3_become 89 = .ok (.aload_n 0, 1) := by decide +kernel
theorem dX3_become_90 : decode cX3_become 90 = .ok (.getfield 31, 3) := by decide +kernel
theorem dX3_become_93 : decode cX3_become 93 = .ok (.iconst 0, 1) := by decide +kernel
theorem dX3_become_94 : decode cX3_become 94 = .ok (.aload_n 0, 1) := by decide +kernel
theorem dX3_become_95 : decode cX3_become 95 = .ok (.getfield 15, 3) := by decide +kernel
theorem dX3_become_98 : decode cX3_become 98 = .ok (.invokestatic 46, 3) := by decide +kernel
theorem dX3_become_101 : decode cX3_become 101 = .ok (.return_, 1) := by decide +kernel
theorem dX4_init_0 : decode cX4_init 0 = .ok (.aload_n 0, 1) := by decide +kernel
theorem dX4_init_1 : decode cX4_init 1 = .ok (.invokespecial 3, 3) := by decide +kernel
theorem dX4_init_4 : decode cX4_init 4 = .ok (.aload_n 0, 1) := by decide +kernel
theorem dX4_init_5 : decode cX4_init 5 = .ok (.iconst 0, 1) := by decide +kernel
theorem dX4_init_6 : decode cX4_init 6 = .ok (.putfield 9, 3) := by decide +kernel
theorem dX4_init_9 : decode cX4_init 9 = .ok (.aload_n 0, 1) := by decide +kernel
theorem dX4_init_10 : decode cX4_init 10 = .ok (.bipush (-9), 2) := by decide +kernel
theorem dX4_init_12 : decode cX4_init 12 = .ok (.putfield 15, 3) := by decide +kernel
theorem dX4_init_15 : decode cX4_init 15 = .ok (.aload_n 0, 1) := by decide +kernel
theorem dX4_init_16 : decode cX4_init 16 = .ok (.bipush 6, 2) := by decide +kernel
theorem dX4_init_18 : decode cX4_init 18 = .ok (.newarray .int, 2) := by decide +kernel
theorem dX4_init_20 : decode cX4_init 20 = .ok (.putfield 18, 3) := by decide +kernel
theorem dX4_init_23 : decode cX4_init 23 = .ok (.aload_n 0, 1) := by decide +kernel
theorem dX4_init_24 : decode cX4_init 24 = .ok (.bipush 30, 2) := by decide +kernel
theorem dX4_init_26 : decode cX4_init 26 = .ok (.newarray .long, 2) := by decide +kernel
theorem dX4_init_28 : decode cX4_init 28 = .ok (.putfield 22, 3) := by decide +kernel
theorem dX4_init_31 : decode cX4_init 31 = .ok (.return_, 1) := by decide +kernel
theorem dX4_isThere_0 : decode cX4_isThere 0 = .ok (.aload_n 0, 1) := by decide +kernel
theorem dX4_isThere_1 : decode cX4_isThere 1 = .ok (.getfield 15, 3) := by decide +kernel
theorem dX4_isThere_4 : decode cX4_isThere 4 = .ok (.bipush (-9), 2) := by decide +kernel
theorem dX4_isThere_6 : decode cX4_isThere 6 = .ok (.if_icmp .eq 7, 3) := by decide +kernel
theorem dX4_isThere_13 : decode cX4_isThere 13 = .ok (.iconst 0, 1) := by decide +kernel
theorem dX4_isThere_14 : decode cX4_isThere 14 = .ok (.ireturn, 1) := by decide +kernel
theorem dX4_begin_0 : decode cX4_begin 0 = .ok (.aload_n 0, 1) := by decide +kernel
theorem dX4_begin_1 : decode cX4_begin 1 = .ok (.iload_n 1, 1) := by decide +kernel
theorem dX4_begin_2 : decode cX4_begin 2 = .ok (.putfield 9, 3) := by decide +kernel
theorem dX4_begin_5 : decode cX4_begin 5 = .ok (.aload_n 0, 1) := by decide +kernel
theorem dX4_begin_6 : decode cX4_begin 6 = .ok (.iload_n 2, 1) := by decide +kernel
theorem dX4_begin_7 : decode cX4_begin 7 = .ok (.putfield 15, 3) := by decide +kernel
theorem dX4_begin_10 : decode cX4_begin 10 = .ok (.aload_n 0, 1) := by decide +kernel
theorem dX4_begin_11 : decode cX4_begin 11 = .ok (.getfield 18, 3) := by decide +kernel
theorem dX4_begin_14 : decode cX4_begin 14 = .ok (.bipush (-9), 2) := by decide +kernel
theorem dX4_begin_16 : decode cX4_begin 16 = .ok (.invokestatic 26, 3) := by decide +kernel
theorem dX4_begin_19 : decode cX4_begin 19 = .ok (.return_, 1) := by decide +kernel
theorem dX4_moveRefusal_0 : decode cX4_moveRefusal 0 = .ok (.aload_n 0, 1) := by decide +kernel
theorem dX4_moveRefusal_1 : decode cX4_moveRefusal 1 = .ok (.invokevirtual 36, 3) := by decide +kernel
theorem dX4_moveRefusal_4 : decode cX4_moveRefusal 4 = .ok (.ifCond .ne 6, 3) := by decide +kernel
theorem dX4_moveRefusal_7 : decode cX4_moveRefusal 7 = .ok (.bipush (-11), 2) := by decide +kernel
theorem dX4_moveRefusal_9 : decode cX4_moveRefusal 9 = .ok (.ireturn, 1) := by decide +kernel
theorem dX5_init_0 : decode cX5_init 0 = .ok (.aload_n 0, 1) := by decide +kernel
theorem dX5_init_1 : decode cX5_init 1 = .ok (.invokespecial 1, 3) := by decide +kernel
theorem dX5_init_4 : decode cX5_init 4 = .ok (.return_, 1) := by decide +kernel
theorem dX6_init_0 : decode cX6_init 0 = .ok (.aload_n 0, 1) := by decide +kernel
theorem dX6_init_1 : decode cX6_init 1 = .ok (.invokespecial 3, 3) := by decide +kernel
theorem dX6_init_4 : decode cX6_init 4 = .ok (.return_, 1) := by decide +kernel
theorem dX7_init_0 : decode cX7_init 0 = .ok (.aload_n 0, 1) := by decide +kernel
theorem dX7_init_1 : decode cX7_init 1 = .ok (.invokespecial 3, 3) := by decide +kernel
theorem dX7_init_4 : decode cX7_init 4 = .ok (.aload_n 0, 1) := by decide +kernel
theorem dX7_init_5 : decode cX7_init 5 = .ok (.aload_n 1, 1) := by decide +kernel
theorem dX7_init_6 : decode cX7_init 6 = .ok (.putfield 9, 3) := by decide +kernel
theorem dX7_init_9 : decode cX7_init 9 = .ok (.return_, 1) := by decide +kernel
theorem dX8_init_0 : decode cX8_init 0 = .ok (.aload_n 0, 1) := by decide +kernel
theorem dX8_init_1 : decode cX8_init 1 = .ok (.invokespecial 1, 3) := by decide +kernel
theorem dX8_init_4 : decode cX8_init 4 = .ok (.return_, 1) := by decide +kernel
theorem dX9_init_0 : decode cX9_init 0 = .ok (.aload_n 0, 1) := by decide +kernel
theorem dX9_init_1 : decode cX9_init 1 = .ok (.invokespecial 3, 3) := by decide +kernel
theorem dX9_init_4 : decode cX9_init 4 = .ok (.return_, 1) := by decide +kernel
theorem dX10_init_0 : decode cX10_init 0 = .ok (.aload_n 0, 1) := by decide +kernel
theorem dX10_init_1 : decode cX10_init 1 = .ok (.invokespecial 3, 3) := by decide +kernel
theorem dX10_init_4 : decode cX10_init 4 = .ok (.aload_n 0, 1) := by decide +kernel
theorem dX10_init_5 : decode cX10_init 5 = .ok (.bipush 12, 2) := by decide +kernel
theorem dX10_init_7 : decode cX10_init 7 = .ok (.bipush 12, 2) := by decide +kernel
theorem dX10_init_9 : decode cX10_init 9 = .ok (.multianewarray 9 2, 4) := by decide +kernel
theorem dX10_init_13 : decode cX10_init 13 = .ok (.putfield 11, 3) := by decide +kernel
theorem dX10_init_16 : decode cX10_init 16 = .ok (.aload_n 0, 1) := by decide +kernel
theorem dX10_init_17 : decode cX10_init 17 = .ok (.bipush 12, 2) := by decide +kernel
theorem dX10_init_19 : decode cX10_init 19 = .ok (.newarray .int, 2) := by decide +kernel
theorem dX10_init_21 : decode cX10_init 21 = .ok (.putfield 16, 3) := by decide +kernel
theorem dX10_init_24 : decode cX10_init 24 = .ok (.aload_n 0, 1) := by decide +kernel
theorem dX10_init_25 : decode cX10_init 25 = .ok (.bipush 12, 2) := by decide +kernel
theorem dX10_init_27 : decode cX10_init 27 = .ok (.newarray .int, 2) := by decide +kernel
theorem dX10_init_29 : decode cX10_init 29 = .ok (.putfield 20, 3) := by decide +kernel
theorem dX10_init_32 : decode cX10_init 32 = .ok (.aload_n 0, 1) := by decide +kernel
theorem dX10_init_33 : decode cX10_init 33 = .ok (.aload_n 1, 1) := by decide +kernel
theorem dX10_init_34 : decode cX10_init 34 = .ok (.putfield 23, 3) := by decide +kernel
theorem dX10_init_37 : decode cX10_init 37 = .ok (.aload_n 0, 1) := by decide +kernel
theorem dX10_init_38 : decode cX10_init 38 = .ok (.aload_n 2, 1) := by decide +kernel
theorem dX10_init_39 : decode cX10_init 39 = .ok (.putfield 27, 3) := by decide +kernel
theorem dX10_init_42 : decode cX10_init 42 = .ok (.return_, 1) := by decide +kernel
theorem dX11_init_0 : decode cX11_init 0 = .ok (.aload_n 0, 1) := by decide +kernel
theorem dX11_init_1 : decode cX11_init 1 = .ok (.invokespecial 1, 3) := by decide +kernel
theorem dX11_init_4 : decode cX11_init 4 = .ok (.aload_n 0, 1) := by decide +kernel
theorem dX11_init_5 : decode cX11_init 5 = .ok (.iconst 5, 1) := by decide +kernel
theorem dX11_init_6 : decode cX11_init 6 = .ok (.anewarray 7, 3) := by decide +kernel
theorem dX11_init_9 : decode cX11_init 9 = .ok (.dup, 1) := by decide +kernel
theorem dX11_init_10 : decode cX11_init 10 = .ok (.iconst 0, 1) := by decide +kernel
theorem dX11_init_11 : decode cX11_init 11 = .ok (.new 7, 3) := by decide +kernel
theorem dX11_init_14 : decode cX11_init 14 = .ok (.dup, 1) := by decide +kernel
theorem dX11_init_15 : decode cX11_init 15 = .ok (.invokespecial 9, 3) := by decide +kernel
theorem dX11_init_18 : decode cX11_init 18 = .ok (.aastore, 1) := by decide +kernel
theorem dX11_init_19 : decode cX11_init 19 = .ok (.dup, 1) := by decide +kernel
theorem dX11_init_20 : decode cX11_init 20 = .ok (.iconst 1, 1) := by decide +kernel
theorem dX11_init_21 : decode cX11_init 21 = .ok (.new 10, 3) := by decide +kernel
theorem dX11_init_24 : decode cX11_init 24 = .ok (.dup, 1) := by decide +kernel
theorem dX11_init_25 : decode cX11_init 25 = .ok (.invokespecial 12, 3) := by decide +kernel
theorem dX11_init_28 : decode cX11_init 28 = .ok (.aastore, 1) := by decide +kernel
theorem dX11_init_29 : decode cX11_init 29 = .ok (.dup, 1) := by decide +kernel
theorem dX11_init_30 : decode cX11_init 30 = .ok (.iconst 2, 1) := by decide +kernel
theorem dX11_init_31 : decode cX11_init 31 = .ok (.new 13, 3) := by decide +kernel
theorem dX11_init_34 : decode cX11_init 34 = .ok (.dup, 1) := by decide +kernel
theorem dX11_init_35 : decode cX11_init 35 = .ok (.invokespecial 15, 3) := by decide +kernel
theorem dX11_init_38 : decode cX11_init 38 = .ok (.aastore, 1) := by decide +kernel
theorem dX11_init_39 : decode cX11_init 39 = .ok (.dup, 1) := by decide +kernel
theorem dX11_init_40 : decode cX11_init 40 = .ok (.iconst 3, 1) := by decide +kernel
theorem dX11_init_41 : decode cX11_init 41 = .ok (.new 16, 3) := by decide +kernel
theorem dX11_init_44 : decode cX11_init 44 = .ok (.dup, 1) := by decide +kernel
theorem dX11_init_45 : decode cX11_init 45 = .ok (.invokespecial 18, 3) := by decide +kernel
theorem dX11_init_48 : decode cX11_init 48 = .ok (.aastore, 1) := by decide +kernel
theorem dX11_init_49 : decode cX11_init 49 = .ok (.dup, 1) := by decide +kernel
theorem dX11_init_50 : decode cX11_init 50 = .ok (.iconst 4, 1) := by decide +kernel
theorem dX11_init_51 : decode cX11_init 51 = .ok (.new 19, 3) := by decide +kernel
theorem dX11_init_54 : decode cX11_init 54 = .ok (.dup, 1) := by decide +kernel
theorem dX11_init_55 : decode cX11_init 55 = .ok (.invokespecial 21, 3) := by decide +kernel
theorem dX11_init_58 : decode cX11_init 58 = .ok (.aastore, 1) := by decide +kernel
theorem dX11_init_59 : decode cX11_init 59 = .ok (.putfield 22, 3) := by decide +kernel
theorem dX11_init_62 : decode cX11_init 62 = .ok (.aload_n 0, 1) := by decide +kernel
theorem dX11_init_63 : decode cX11_init 63 = .ok (.new 28, 3) := by decide +kernel
theorem dX11_init_66 : decode cX11_init 66 = .ok (.dup, 1) := by decide +kernel
theorem dX11_init_67 : decode cX11_init 67 = .ok (.invokespecial 30, 3) := by decide +kernel
theorem dX11_init_70 : decode cX11_init 70 = .ok (.putfield 31, 3) := by decide +kernel
theorem dX11_init_73 : decode cX11_init 73 = .ok (.aload_n 0, 1) := by decide +kernel
theorem dX11_init_74 : decode cX11_init 74 = .ok (.new 35, 3) := by decide +kernel
theorem dX11_init_77 : decode cX11_init 77 = .ok (.dup, 1) := by decide +kernel
theorem dX11_init_78 : decode cX11_init 78 = .ok (.aload_n 0, 1) := by decide +kernel
theorem dX11_init_79 : decode cX11_init 79 = .ok (.getfield 31, 3) := by decide +kernel
theorem dX11_init_82 : decode cX11_init 82 = .ok (.aload_n 0, 1) := by decide +kernel
theorem dX11_init_83 : decode cX11_init 83 = .ok (.getfield 22, 3) := by decide +kernel
theorem dX11_init_86 : decode cX11_init 86 = .ok (.invokespecial 37, 3) := by decide +kernel
theorem dX11_init_89 : decode cX11_init 89 = .ok (.putfield 40, 3) := by decide +kernel
theorem dX11_init_92 : decode cX11_init 92 = .ok (.aload_n 0, 1) := by decide +kernel
theorem dX11_init_93 : decode cX11_init 93 = .ok (.new 44, 3) := by decide +kernel
theorem dX11_init_96 : decode cX11_init 96 = .ok (.dup, 1) := by decide +kernel
theorem dX11_init_97 : decode cX11_init 97 = .ok (.aload_n 0, 1) := by decide +kernel
theorem dX11_init_98 : decode cX11_init 98 = .ok (.getfield 40, 3) := by decide +kernel
theorem dX11_init_101 : decode cX11_init 101 = .ok (.invokespecial 46, 3) := by decide +kernel
theorem dX11_init_104 : decode cX11_init 104 = .ok (.putfield 49, 3) := by decide +kernel
theorem dX11_init_107 : decode cX11_init 107 = .ok (.aload_n 0, 1) := by decide +kernel
theorem dX11_init_108 : decode cX11_init 108 = .ok (.new 53, 3) := by decide +kernel
theorem dX11_init_111 : decode cX11_init 111 = .ok (.dup, 1) := by decide +kernel
theorem dX11_init_112 : decode cX11_init 112 = .ok (.aload_n 0, 1) := by decide +kernel
theorem dX11_init_113 : decode cX11_init 113 = .ok (.getfield 40, 3) := by decide +kernel
theorem dX11_init_116 : decode cX11_init 116 = .ok (.invokespecial 55, 3) := by decide +kernel
theorem dX11_init_119 : decode cX11_init 119 = .ok (.putfield 56, 3) := by decide +kernel
theorem dX11_init_122 : decode cX11_init 122 = .ok (.aload_n 0, 1) := by decide +kernel
theorem dX11_init_123 : decode cX11_init 123 = .ok (.new 60, 3) := by decide +kernel
theorem dX11_init_126 : decode cX11_init 126 = .ok (.dup, 1) := by decide +kernel
theorem dX11_init_127 : decode cX11_init 127 = .ok (.aload_n 0, 1) := by decide +kernel
theorem dX11_init_128 : decode cX11_init 128 = .ok (.getfield 40, 3) := by decide +kernel
theorem dX11_init_131 : decode cX11_init 131 = .ok (.aload_n 0, 1) := by decide +kernel
theorem dX11_init_132 : decode cX11_init 132 = .ok (.getfield 22, 3) := by decide +kernel
theorem dX11_init_135 : decode cX11_init 135 = .ok (.invokespecial 62, 3) := by decide +kernel
theorem dX11_init_138 : decode cX11_init 138 = .ok (.putfield 65, 3) := by decide +kernel
theorem dX11_init_141 : decode cX11_init 141 = .ok (.aload_n 0, 1) := by decide +kernel
theorem dX11_init_142 : decode cX11_init 142 = .ok (.iconst 4, 1) := by decide +kernel
theorem dX11_init_143 : decode cX11_init 143 = .ok (.anewarray 69, 3) := by decide +kernel
theorem dX11_init_146 : decode cX11_init 146 = .ok (.dup, 1) := by decide +kernel
theorem dX11_init_147 : decode cX11_init 147 = .ok (.iconst 0, 1) := by decide +kernel
theorem dX11_init_148 : decode cX11_init 148 = .ok (.new 69, 3) := by decide +kernel
theorem dX11_init_151 : decode cX11_init 151 = .ok (.dup, 1) := by decide +kernel
theorem dX11_init_152 : decode cX11_init 152 = .ok (.invokespecial 71, 3) := by decide +kernel
theorem dX11_init_155 : decode cX11_init 155 = .ok (.aastore, 1) := by decide +kernel
theorem dX11_init_156 : decode cX11_init 156 = .ok (.dup, 1) := by decide +kernel
theorem dX11_init_157 : decode cX11_init 157 = .ok (.iconst 1, 1) := by decide +kernel
theorem dX11_init_158 : decode cX11_init 158 = .ok (.new 69, 3) := by decide +kernel
theorem dX11_init_161 : decode cX11_init 161 = .ok (.dup, 1) := by decide +kernel
theorem dX11_init_162 : decode cX11_init 162 = .ok (.invokespecial 71, 3) := by decide +kernel
theorem dX11_init_165 : decode cX11_init 165 = .ok (.aastore, 1) := by decide +kernel
theorem dX11_init_166 : decode cX11_init 166 = .ok (.dup, 1) := by decide +kernel
theorem dX11_init_167 : decode cX11_init 167 = .ok (.iconst 2, 1) := by decide +kernel
theorem dX11_init_168 : decode cX11_init 168 = .ok (.new 69, 3) := by decide +kernel
theorem dX11_init_171 : decode cX11_init 171 = .ok (.dup, 1) := by decide +kernel
theorem dX11_init_172 : decode cX11_init 172 = .ok (.invokespecial 71, 3) := by decide +kernel
theorem dX11_init_175 : decode cX11_init 175 = .ok (.aastore, 1) := by decide +kernel
theorem dX11_init_176 : decode cX11_init 176 = .ok (.dup, 1) := by decide +kernel
theorem dX11_init_177 : decode cX11_init 177 = .ok (.iconst 3, 1) := by decide +kernel
theorem dX11_init_178 : decode cX11_init 178 = .ok (.new 69, 3) := by decide +kernel
theorem dX11_init_181 : decode cX11_init 181 = .ok (.dup, 1) := by decide +kernel
theorem dX11_init_182 : decode cX11_init 182 = .ok (.invokespecial 71, 3) := by decide +kernel
theorem dX11_init_185 : decode cX11_init 185 = .ok (.aastore, 1) := by decide +kernel
theorem dX11_init_186 : decode cX11_init 186 = .ok (.putfield 72, 3) := by decide +kernel
theorem dX11_init_189 : decode cX11_init 189 = .ok (.aload_n 0, 1) := by decide +kernel
theorem dX11_init_190 : decode cX11_init 190 = .ok (.bipush 30, 2) := by decide +kernel
theorem dX11_init_192 : decode cX11_init 192 = .ok (.anewarray 28, 3) := by decide +kernel
theorem dX11_init_195 : decode cX11_init 195 = .ok (.putfield 76, 3) := by decide +kernel
theorem dX11_init_198 : decode cX11_init 198 = .ok (.aload_n 0, 1) := by decide +kernel
theorem dX11_init_199 : decode cX11_init 199 = .ok (.iconst 0, 1) := by decide +kernel
theorem dX11_init_200 : decode cX11_init 200 = .ok (.putfield 80, 3) := by decide +kernel
theorem dX11_init_203 : decode cX11_init 203 = .ok (.aload_n 0, 1) := by decide +kernel
theorem dX11_init_204 : decode cX11_init 204 = .ok (.iconst 0, 1) := by decide +kernel
theorem dX11_init_205 : decode cX11_init 205 = .ok (.putfield 84, 3) := by decide +kernel
theorem dX11_init_208 : decode cX11_init 208 = .ok (.aload_n 0, 1) := by decide +kernel
theorem dX11_init_209 : decode cX11_init 209 = .ok (.lconst 0, 1) := by decide +kernel
theorem dX11_init_210 : decode cX11_init 210 = .ok (.putfield 87, 3) := by decide +kernel
theorem dX11_init_213 : decode cX11_init 213 = .ok (.aload_n 0, 1) := by decide +kernel
theorem dX11_init_214 : decode cX11_init 214 = .ok (.iconst 0, 1) := by decide +kernel
theorem dX11_init_215 : decode cX11_init 215 = .ok (.putfield 91, 3) := by decide +kernel
theorem dX11_init_218 : decode cX11_init 218 = .ok (.return_, 1) := by decide +kernel
theorem dX11_place_0 : decode cX11_place 0 = .ok (.aload_n 0, 1) := by decide +kernel
theorem dX11_place_1 : decode cX11_place 1 = .ok (.getfield 31, 3) := by decide +kernel
theorem dX11_place_4 : decode cX11_place 4 = .ok (.getfield 94, 3) := by decide +kernel
theorem dX11_place_7 : decode cX11_place 7 = .ok (.bipush 12, 2) := by decide +kernel
theorem dX11_place_9 : decode cX11_place 9 = .ok (.if_icmp .lt 6, 3) := by decide +kernel
theorem dX11_place_15 : decode cX11_place 15 = .ok (.aload_n 0, 1) := by decide +kernel
theorem dX11_place_16 : decode cX11_place 16 = .ok (.invokevirtual 97, 3) := by decide +kernel
theorem dX11_place_19 : decode cX11_place 19 = .ok (.aload_n 0, 1) := by decide +kernel
theorem dX11_place_20 : decode cX11_place 20 = .ok (.getfield 31, 3) := by decide +kernel
theorem dX11_place_23 : decode cX11_place 23 = .ok (.dup, 1) := by decide +kernel
theorem dX11_place_24 : decode cX11_place 24 = .ok (.getfield 94, 3) := by decide +kernel
theorem dX11_place_27 : decode cX11_place 27 = .ok (.iconst 1, 1) := by decide +kernel
theorem dX11_place_28 : decode cX11_place 28 = .ok (.iadd, 1) := by decide +kernel
theorem dX11_place_29 : decode cX11_place 29 = .ok (.putfield 94, 3) := by decide +kernel
theorem dX11_place_32 : decode cX11_place 32 = .ok (.aload_n 0, 1) := by decide +kernel
theorem dX11_place_33 : decode cX11_place 33 = .ok (.getfield 31, 3) := by decide +kernel
end
section
theorem dX11_place_36 : decode cX11_place 36 = .ok (.getfield 94, 3) := by decide +kernel
theorem dX11_place_39 : decode cX11_place 39 = .ok (.iconst 1, 1) := by decide +kernel
theorem dX11_place_40 : decode cX11_place 40 = .ok (.isub, 1) := by decide +kernel
theorem dX11_place_41 : decode cX11_place 41 = .ok (.ireturn, 1) := by decide +kernel
theorem dX11_line_0 : decode cX11_line 0 = .ok (.aload_n 0, 1) := by decide +kernel
theorem dX11_line_1 : decode cX11_line 1 = .ok (.iload_n 1, 1) := by decide +kernel
theorem dX11_line_2 : decode cX11_line 2 = .ok (.i2l, 1) := by decide +kernel
theorem dX11_line_3 : decode cX11_line 3 = .ok (.iload_n 2, 1) := by decide +kernel
theorem dX11_line_4 : decode cX11_line 4 = .ok (.i2l, 1) := by decide +kernel
theorem dX11_line_5 : decode cX11_line 5 = .ok (.iload_n 3, 1) := by decide +kernel
theorem dX11_line_6 : decode cX11_line 6 = .ok (.i2l, 1) := by decide +kernel
theorem dX11_line_7 : decode cX11_line 7 = .ok (.iload 4, 2) := by decide +kernel
theorem dX11_line_9 : decode cX11_line 9 = .ok (.i2l, 1) := by decide +kernel
theorem dX11_line_10 : decode cX11_line 10 = .ok (.iload 5, 2) := by decide +kernel
theorem dX11_line_12 : decode cX11_line 12 = .ok (.i2l, 1) := by decide +kernel
theorem dX11_line_13 : decode cX11_line 13 = .ok (.invokevirtual 100, 3) := by decide +kernel
theorem dX11_line_16 : decode cX11_line 16 = .ok (.istore 6, 2) := by decide +kernel
theorem dX11_line_18 : decode cX11_line 18 = .ok (.iload 6, 2) := by decide +kernel
theorem dX11_line_20 : decode cX11_line 20 = .ok (.ifCond .eq 6, 3) := by decide +kernel
theorem dX11_line_23 : decode cX11_line 23 = .ok (.iload 6, 2) := by decide +kernel
theorem dX11_line_25 : decode cX11_line 25 = .ok (.ireturn, 1) := by decide +kernel
theorem dX11_widen_0 : decode cX11_widen 0 = .ok (.aload_n 0, 1) := by decide +kernel
theorem dX11_widen_1 : decode cX11_widen 1 = .ok (.getfield 31, 3) := by decide +kernel
theorem dX11_widen_4 : decode cX11_widen 4 = .ok (.iload_n 1, 1) := by decide +kernel
theorem dX11_widen_5 : decode cX11_widen 5 = .ok (.invokevirtual 112, 3) := by decide +kernel
theorem dX11_widen_8 : decode cX11_widen 8 = .ok (.ifCond .eq 14, 3) := by decide +kernel
theorem dX11_widen_22 : decode cX11_widen 22 = .ok (.iconst (-1), 1) := by decide +kernel
theorem dX11_widen_23 : decode cX11_widen 23 = .ok (.ireturn, 1) := by decide +kernel
theorem dX11_width_0 : decode cX11_width 0 = .ok (.aload_n 0, 1) := by decide +kernel
theorem dX11_width_1 : decode cX11_width 1 = .ok (.getfield 31, 3) := by decide +kernel
theorem dX11_width_4 : decode cX11_width 4 = .ok (.iload_n 1, 1) := by decide +kernel
theorem dX11_width_5 : decode cX11_width 5 = .ok (.invokevirtual 112, 3) := by decide +kernel
theorem dX11_width_8 : decode cX11_width 8 = .ok (.ifCond .eq 14, 3) := by decide +kernel
theorem dX11_width_22 : decode cX11_width 22 = .ok (.iconst (-1), 1) := by decide +kernel
theorem dX11_width_23 : decode cX11_width 23 = .ok (.ireturn, 1) := by decide +kernel
theorem dX11_merge_0 : decode cX11_merge 0 = .ok (.aload_n 0, 1) := by decide +kernel
theorem dX11_merge_1 : decode cX11_merge 1 = .ok (.getfield 31, 3) := by decide +kernel
theorem dX11_merge_4 : decode cX11_merge 4 = .ok (.iload_n 1, 1) := by decide +kernel
theorem dX11_merge_5 : decode cX11_merge 5 = .ok (.i2l, 1) := by decide +kernel
theorem dX11_merge_6 : decode cX11_merge 6 = .ok (.iload_n 2, 1) := by decide +kernel
theorem dX11_merge_7 : decode cX11_merge 7 = .ok (.i2l, 1) := by decide +kernel
theorem dX11_merge_8 : decode cX11_merge 8 = .ok (.invokevirtual 135, 3) := by decide +kernel
theorem dX11_merge_11 : decode cX11_merge 11 = .ok (.ifCond .ne 5, 3) := by decide +kernel
theorem dX11_merge_14 : decode cX11_merge 14 = .ok (.iconst (-1), 1) := by decide +kernel
theorem dX11_merge_15 : decode cX11_merge 15 = .ok (.ireturn, 1) := by decide +kernel
theorem dX11_undo_0 : decode cX11_undo 0 = .ok (.aload_n 0, 1) := by decide +kernel
theorem dX11_undo_1 : decode cX11_undo 1 = .ok (.getfield 84, 3) := by decide +kernel
theorem dX11_undo_4 : decode cX11_undo 4 = .ok (.ifCond .ne 6, 3) := by decide +kernel
theorem dX11_undo_7 : decode cX11_undo 7 = .ok (.bipush (-2), 2) := by decide +kernel
theorem dX11_undo_9 : decode cX11_undo 9 = .ok (.ireturn, 1) := by decide +kernel
theorem dX11_told_0 : decode cX11_told 0 = .ok (.aload_n 0, 1) := by decide +kernel
theorem dX11_told_1 : decode cX11_told 1 = .ok (.getfield 31, 3) := by decide +kernel
theorem dX11_told_4 : decode cX11_told 4 = .ok (.iload_n 1, 1) := by decide +kernel
theorem dX11_told_5 : decode cX11_told 5 = .ok (.invokevirtual 112, 3) := by decide +kernel
theorem dX11_told_8 : decode cX11_told 8 = .ok (.ifCond .ne 5, 3) := by decide +kernel
theorem dX11_told_11 : decode cX11_told 11 = .ok (.iconst (-1), 1) := by decide +kernel
theorem dX11_told_12 : decode cX11_told 12 = .ok (.ireturn, 1) := by decide +kernel
theorem dX11_ask_0 : decode cX11_ask 0 = .ok (.aload_n 0, 1) := by decide +kernel
theorem dX11_ask_1 : decode cX11_ask 1 = .ok (.getfield 31, 3) := by decide +kernel
theorem dX11_ask_4 : decode cX11_ask 4 = .ok (.iload_n 1, 1) := by decide +kernel
theorem dX11_ask_5 : decode cX11_ask 5 = .ok (.invokevirtual 112, 3) := by decide +kernel
theorem dX11_ask_8 : decode cX11_ask 8 = .ok (.ifCond .eq 12, 3) := by decide +kernel
theorem dX11_ask_20 : decode cX11_ask 20 = .ok (.iconst (-1), 1) := by decide +kernel
theorem dX11_ask_21 : decode cX11_ask 21 = .ok (.ireturn, 1) := by decide +kernel
theorem dX11_most_0 : decode cX11_most 0 = .ok (.aload_n 0, 1) := by decide +kernel
theorem dX11_most_1 : decode cX11_most 1 = .ok (.getfield 31, 3) := by decide +kernel
theorem dX11_most_4 : decode cX11_most 4 = .ok (.iload_n 1, 1) := by decide +kernel
theorem dX11_most_5 : decode cX11_most 5 = .ok (.i2l, 1) := by decide +kernel
theorem dX11_most_6 : decode cX11_most 6 = .ok (.iload_n 2, 1) := by decide +kernel
theorem dX11_most_7 : decode cX11_most 7 = .ok (.i2l, 1) := by decide +kernel
theorem dX11_most_8 : decode cX11_most 8 = .ok (.invokevirtual 135, 3) := by decide +kernel
theorem dX11_most_11 : decode cX11_most 11 = .ok (.ifCond .ne 5, 3) := by decide +kernel
theorem dX11_most_14 : decode cX11_most 14 = .ok (.iconst (-1), 1) := by decide +kernel
theorem dX11_most_15 : decode cX11_most 15 = .ok (.ireturn, 1) := by decide +kernel
theorem dX11_flow_0 : decode cX11_flow 0 = .ok (.aload_n 0, 1) := by decide +kernel
theorem dX11_flow_1 : decode cX11_flow 1 = .ok (.getfield 31, 3) := by decide +kernel
theorem dX11_flow_4 : decode cX11_flow 4 = .ok (.iload_n 1, 1) := by decide +kernel
theorem dX11_flow_5 : decode cX11_flow 5 = .ok (.i2l, 1) := by decide +kernel
theorem dX11_flow_6 : decode cX11_flow 6 = .ok (.iload_n 2, 1) := by decide +kernel
theorem dX11_flow_7 : decode cX11_flow 7 = .ok (.i2l, 1) := by decide +kernel
theorem dX11_flow_8 : decode cX11_flow 8 = .ok (.invokevirtual 135, 3) := by decide +kernel
theorem dX11_flow_11 : decode cX11_flow 11 = .ok (.ifCond .eq 25, 3) := by decide +kernel
theorem dX11_flow_36 : decode cX11_flow 36 = .ok (.ldc 172, 2) := by decide +kernel
theorem dX11_flow_38 : decode cX11_flow 38 = .ok (.ireturn, 1) := by decide +kernel
theorem dX11_cut_0 : decode cX11_cut 0 = .ok (.aload_n 0, 1) := by decide +kernel
theorem dX11_cut_1 : decode cX11_cut 1 = .ok (.getfield 31, 3) := by decide +kernel
theorem dX11_cut_4 : decode cX11_cut 4 = .ok (.iload_n 1, 1) := by decide +kernel
theorem dX11_cut_5 : decode cX11_cut 5 = .ok (.i2l, 1) := by decide +kernel
theorem dX11_cut_6 : decode cX11_cut 6 = .ok (.iload_n 2, 1) := by decide +kernel
theorem dX11_cut_7 : decode cX11_cut 7 = .ok (.i2l, 1) := by decide +kernel
theorem dX11_cut_8 : decode cX11_cut 8 = .ok (.invokevirtual 135, 3) := by decide +kernel
theorem dX11_cut_11 : decode cX11_cut 11 = .ok (.ifCond .eq 12, 3) := by decide +kernel
theorem dX11_cut_23 : decode cX11_cut 23 = .ok (.iconst (-1), 1) := by decide +kernel
theorem dX11_cut_24 : decode cX11_cut 24 = .ok (.ireturn, 1) := by decide +kernel
theorem dX11_count_0 : decode cX11_count 0 = .ok (.aload_n 0, 1) := by decide +kernel
theorem dX11_count_1 : decode cX11_count 1 = .ok (.getfield 31, 3) := by decide +kernel
theorem dX11_count_4 : decode cX11_count 4 = .ok (.iload_n 1, 1) := by decide +kernel
theorem dX11_count_5 : decode cX11_count 5 = .ok (.i2l, 1) := by decide +kernel
theorem dX11_count_6 : decode cX11_count 6 = .ok (.iload_n 2, 1) := by decide +kernel
theorem dX11_count_7 : decode cX11_count 7 = .ok (.i2l, 1) := by decide +kernel
theorem dX11_count_8 : decode cX11_count 8 = .ok (.invokevirtual 135, 3) := by decide +kernel
theorem dX11_count_11 : decode cX11_count 11 = .ok (.ifCond .ne 5, 3) := by decide +kernel
theorem dX11_count_14 : decode cX11_count 14 = .ok (.iconst (-1), 1) := by decide +kernel
theorem dX11_count_15 : decode cX11_count 15 = .ok (.ireturn, 1) := by decide +kernel
theorem dX11_next_0 : decode cX11_next 0 = .ok (.aload_n 0, 1) := by decide +kernel
theorem dX11_next_1 : decode cX11_next 1 = .ok (.getfield 31, 3) := by decide +kernel
theorem dX11_next_4 : decode cX11_next 4 = .ok (.iload_n 1, 1) := by decide +kernel
theorem dX11_next_5 : decode cX11_next 5 = .ok (.i2l, 1) := by decide +kernel
theorem dX11_next_6 : decode cX11_next 6 = .ok (.iload_n 2, 1) := by decide +kernel
theorem dX11_next_7 : decode cX11_next 7 = .ok (.i2l, 1) := by decide +kernel
theorem dX11_next_8 : decode cX11_next 8 = .ok (.invokevirtual 135, 3) := by decide +kernel
theorem dX11_next_11 : decode cX11_next 11 = .ok (.ifCond .eq 7, 3) := by decide +kernel
theorem dX11_next_18 : decode cX11_next 18 = .ok (.iconst (-1), 1) := by decide +kernel
theorem dX11_next_19 : decode cX11_next 19 = .ok (.ireturn, 1) := by decide +kernel
theorem dX11_size_0 : decode cX11_size 0 = .ok (.aload_n 0, 1) := by decide +kernel
theorem dX11_size_1 : decode cX11_size 1 = .ok (.getfield 31, 3) := by decide +kernel
theorem dX11_size_4 : decode cX11_size 4 = .ok (.iload_n 1, 1) := by decide +kernel
theorem dX11_size_5 : decode cX11_size 5 = .ok (.i2l, 1) := by decide +kernel
theorem dX11_size_6 : decode cX11_size 6 = .ok (.iload_n 2, 1) := by decide +kernel
theorem dX11_size_7 : decode cX11_size 7 = .ok (.i2l, 1) := by decide +kernel
theorem dX11_size_8 : decode cX11_size 8 = .ok (.invokevirtual 135, 3) := by decide +kernel
theorem dX11_size_11 : decode cX11_size 11 = .ok (.ifCond .ne 5, 3) := by decide +kernel
theorem dX11_size_14 : decode cX11_size 14 = .ok (.iconst (-1), 1) := by decide +kernel
theorem dX11_size_15 : decode cX11_size 15 = .ok (.ireturn, 1) := by decide +kernel
theorem dX11_raise_0 : decode cX11_raise 0 = .ok (.aload_n 0, 1) := by decide +kernel
theorem dX11_raise_1 : decode cX11_raise 1 = .ok (.getfield 31, 3) := by decide +kernel
theorem dX11_raise_4 : decode cX11_raise 4 = .ok (.iload_n 1, 1) := by decide +kernel
theorem dX11_raise_5 : decode cX11_raise 5 = .ok (.i2l, 1) := by decide +kernel
theorem dX11_raise_6 : decode cX11_raise 6 = .ok (.iload_n 2, 1) := by decide +kernel
theorem dX11_raise_7 : decode cX11_raise 7 = .ok (.i2l, 1) := by decide +kernel
theorem dX11_raise_8 : decode cX11_raise 8 = .ok (.invokevirtual 135, 3) := by decide +kernel
theorem dX11_raise_11 : decode cX11_raise 11 = .ok (.ifCond .eq 14, 3) := by decide +kernel
theorem dX11_raise_25 : decode cX11_raise 25 = .ok (.iconst (-1), 1) := by decide +kernel
theorem dX11_raise_26 : decode cX11_raise 26 = .ok (.ireturn, 1) := by decide +kernel
theorem dX11_cheapest_0 : decode cX11_cheapest 0 = .ok (.aload_n 0, 1) := by decide +kernel
theorem dX11_cheapest_1 : decode cX11_cheapest 1 = .ok (.getfield 31, 3) := by decide +kernel
theorem dX11_cheapest_4 : decode cX11_cheapest 4 = .ok (.iload_n 1, 1) := by decide +kernel
theorem dX11_cheapest_5 : decode cX11_cheapest 5 = .ok (.i2l, 1) := by decide +kernel
theorem dX11_cheapest_6 : decode cX11_cheapest 6 = .ok (.iload_n 2, 1) := by decide +kernel
theorem dX11_cheapest_7 : decode cX11_cheapest 7 = .ok (.i2l, 1) := by decide +kernel
theorem dX11_cheapest_8 : decode cX11_cheapest 8 = .ok (.invokevirtual 135, 3) := by decide +kernel
theorem dX11_cheapest_11 : decode cX11_cheapest 11 = .ok (.ifCond .eq 14, 3) := by decide +kernel
theorem dX11_cheapest_25 : decode cX11_cheapest 25 = .ok (.iconst (-1), 1) := by decide +kernel
theorem dX11_cheapest_26 : decode cX11_cheapest 26 = .ok (.ireturn, 1) := by decide +kernel
theorem dX11_tree_0 : decode cX11_tree 0 = .ok (.iload_n 2, 1) := by decide +kernel
theorem dX11_tree_1 : decode cX11_tree 1 = .ok (.ifCond .lt 8, 3) := by decide +kernel
theorem dX11_tree_4 : decode cX11_tree 4 = .ok (.iload_n 2, 1) := by decide +kernel
theorem dX11_tree_5 : decode cX11_tree 5 = .ok (.iconst 1, 1) := by decide +kernel
theorem dX11_tree_6 : decode cX11_tree 6 = .ok (.if_icmp .le 5, 3) := by decide +kernel
theorem dX11_tree_9 : decode cX11_tree 9 = .ok (.iconst (-1), 1) := by decide +kernel
theorem dX11_tree_10 : decode cX11_tree 10 = .ok (.ireturn, 1) := by decide +kernel
theorem dX11_tree_11 : decode cX11_tree 11 = .ok (.aload_n 0, 1) := by decide +kernel
theorem dX11_tree_12 : decode cX11_tree 12 = .ok (.getfield 31, 3) := by decide +kernel
theorem dX11_tree_15 : decode cX11_tree 15 = .ok (.invokevirtual 204, 3) := by decide +kernel
theorem dX11_tree_18 : decode cX11_tree 18 = .ok (.ifCond .ne 6, 3) := by decide +kernel
theorem dX11_tree_21 : decode cX11_tree 21 = .ok (.bipush (-2), 2) := by decide +kernel
theorem dX11_tree_23 : decode cX11_tree 23 = .ok (.ireturn, 1) := by decide +kernel
theorem dX11_between_0 : decode cX11_between 0 = .ok (.aload_n 0, 1) := by decide +kernel
theorem dX11_between_1 : decode cX11_between 1 = .ok (.getfield 31, 3) := by decide +kernel
theorem dX11_between_4 : decode cX11_between 4 = .ok (.invokevirtual 204, 3) := by decide +kernel
theorem dX11_between_7 : decode cX11_between 7 = .ok (.ifCond .ne 6, 3) := by decide +kernel
theorem dX11_between_10 : decode cX11_between 10 = .ok (.bipush (-2), 2) := by decide +kernel
theorem dX11_between_12 : decode cX11_between 12 = .ok (.ireturn, 1) := by decide +kernel
theorem dX11_least_0 : decode cX11_least 0 = .ok (.aload_n 0, 1) := by decide +kernel
theorem dX11_least_1 : decode cX11_least 1 = .ok (.getfield 31, 3) := by decide +kernel
theorem dX11_least_4 : decode cX11_least 4 = .ok (.invokevirtual 204, 3) := by decide +kernel
theorem dX11_least_7 : decode cX11_least 7 = .ok (.ifCond .ne 6, 3) := by decide +kernel
theorem dX11_least_10 : decode cX11_least 10 = .ok (.bipush (-2), 2) := by decide +kernel
theorem dX11_least_12 : decode cX11_least 12 = .ok (.ireturn, 1) := by decide +kernel
theorem dX11_cuts_0 : decode cX11_cuts 0 = .ok (.aload_n 0, 1) := by decide +kernel
theorem dX11_cuts_1 : decode cX11_cuts 1 = .ok (.getfield 31, 3) := by decide +kernel
theorem dX11_cuts_4 : decode cX11_cuts 4 = .ok (.invokevirtual 204, 3) := by decide +kernel
theorem dX11_cuts_7 : decode cX11_cuts 7 = .ok (.ifCond .ne 6, 3) := by decide +kernel
theorem dX11_cuts_10 : decode cX11_cuts 10 = .ok (.bipush (-2), 2) := by decide +kernel
theorem dX11_cuts_12 : decode cX11_cuts 12 = .ok (.ireturn, 1) := by decide +kernel
theorem dX11_cutAt_0 : decode cX11_cutAt 0 = .ok (.iload_n 1, 1) := by decide +kernel
theorem dX11_cutAt_1 : decode cX11_cutAt 1 = .ok (.ifCond .ge 5, 3) := by decide +kernel
theorem dX11_cutAt_4 : decode cX11_cutAt 4 = .ok (.iconst (-1), 1) := by decide +kernel
theorem dX11_cutAt_5 : decode cX11_cutAt 5 = .ok (.ireturn, 1) := by decide +kernel
theorem dX11_cutAt_6 : decode cX11_cutAt 6 = .ok (.aload_n 0, 1) := by decide +kernel
theorem dX11_cutAt_7 : decode cX11_cutAt 7 = .ok (.getfield 31, 3) := by decide +kernel
theorem dX11_cutAt_10 : decode cX11_cutAt 10 = .ok (.invokevirtual 204, 3) := by decide +kernel
theorem dX11_cutAt_13 : decode cX11_cutAt 13 = .ok (.ifCond .ne 6, 3) := by decide +kernel
theorem dX11_cutAt_16 : decode cX11_cutAt 16 = .ok (.bipush (-2), 2) := by decide +kernel
theorem dX11_cutAt_18 : decode cX11_cutAt 18 = .ok (.ireturn, 1) := by decide +kernel
theorem dX11_weak_0 : decode cX11_weak 0 = .ok (.aload_n 0, 1) := by decide +kernel
theorem dX11_weak_1 : decode cX11_weak 1 = .ok (.getfield 31, 3) := by decide +kernel
theorem dX11_weak_4 : decode cX11_weak 4 = .ok (.iload_n 1, 1) := by decide +kernel
theorem dX11_weak_5 : decode cX11_weak 5 = .ok (.invokevirtual 112, 3) := by decide +kernel
theorem dX11_weak_8 : decode cX11_weak 8 = .ok (.ifCond .ne 5, 3) := by decide +kernel
theorem dX11_weak_11 : decode cX11_weak 11 = .ok (.iconst (-1), 1) := by decide +kernel
theorem dX11_weak_12 : decode cX11_weak 12 = .ok (.ireturn, 1) := by decide +kernel
theorem dX11_part_0 : decode cX11_part 0 = .ok (.iload_n 1, 1) := by decide +kernel
theorem dX11_part_1 : decode cX11_part 1 = .ok (.ifCond .ge 5, 3) := by decide +kernel
theorem dX11_part_4 : decode cX11_part 4 = .ok (.iconst (-1), 1) := by decide +kernel
theorem dX11_part_5 : decode cX11_part 5 = .ok (.ireturn, 1) := by decide +kernel
theorem dX11_part_6 : decode cX11_part 6 = .ok (.aload_n 0, 1) := by decide +kernel
theorem dX11_part_7 : decode cX11_part 7 = .ok (.getfield 31, 3) := by decide +kernel
theorem dX11_part_10 : decode cX11_part 10 = .ok (.invokevirtual 204, 3) := by decide +kernel
theorem dX11_part_13 : decode cX11_part 13 = .ok (.ifCond .ne 6, 3) := by decide +kernel
theorem dX11_part_16 : decode cX11_part 16 = .ok (.bipush (-2), 2) := by decide +kernel
theorem dX11_part_18 : decode cX11_part 18 = .ok (.ireturn, 1) := by decide +kernel
theorem dX11_dense_0 : decode cX11_dense 0 = .ok (.iload_n 1, 1) := by decide +kernel
theorem dX11_dense_1 : decode cX11_dense 1 = .ok (.ifCond .lt 8, 3) := by decide +kernel
theorem dX11_dense_4 : decode cX11_dense 4 = .ok (.iload_n 1, 1) := by decide +kernel
theorem dX11_dense_5 : decode cX11_dense 5 = .ok (.iconst 2, 1) := by decide +kernel
theorem dX11_dense_6 : decode cX11_dense 6 = .ok (.if_icmp .le 5, 3) := by decide +kernel
theorem dX11_dense_9 : decode cX11_dense 9 = .ok (.iconst (-1), 1) := by decide +kernel
theorem dX11_dense_10 : decode cX11_dense 10 = .ok (.ireturn, 1) := by decide +kernel
theorem dX11_dense_11 : decode cX11_dense 11 = .ok (.aload_n 0, 1) := by decide +kernel
theorem dX11_dense_12 : decode cX11_dense 12 = .ok (.getfield 31, 3) := by decide +kernel
theorem dX11_dense_15 : decode cX11_dense 15 = .ok (.invokevirtual 204, 3) := by decide +kernel
theorem dX11_dense_18 : decode cX11_dense 18 = .ok (.ifCond .ne 6, 3) := by decide +kernel
theorem dX11_dense_21 : decode cX11_dense 21 = .ok (.bipush (-2), 2) := by decide +kernel
theorem dX11_dense_23 : decode cX11_dense 23 = .ok (.ireturn, 1) := by decide +kernel
theorem dX11_map_0 : decode cX11_map 0 = .ok (.aload_n 0, 1) := by decide +kernel
theorem dX11_map_1 : decode cX11_map 1 = .ok (.iload_n 1, 1) := by decide +kernel
theorem dX11_map_2 : decode cX11_map 2 = .ok (.iload_n 2, 1) := by decide +kernel
theorem dX11_map_3 : decode cX11_map 3 = .ok (.iload_n 3, 1) := by decide +kernel
theorem dX11_map_4 : decode cX11_map 4 = .ok (.invokestatic 247, 3) := by decide +kernel
theorem dX11_map_7 : decode cX11_map 7 = .ok (.putfield 91, 3) := by decide +kernel
theorem dX11_map_10 : decode cX11_map 10 = .ok (.aload_n 0, 1) := by decide +kernel
theorem dX11_map_11 : decode cX11_map 11 = .ok (.getfield 91, 3) := by decide +kernel
theorem dX11_map_14 : decode cX11_map 14 = .ok (.ifCond .eq 8, 3) := by decide +kernel
theorem dX11_map_17 : decode cX11_map 17 = .ok (.aload_n 0, 1) := by decide +kernel
theorem dX11_map_18 : decode cX11_map 18 = .ok (.getfield 91, 3) := by decide +kernel
theorem dX11_map_21 : decode cX11_map 21 = .ok (.ireturn, 1) := by decide +kernel
theorem dX11_map_22 : decode cX11_map 22 = .ok (.aload_n 0, 1) := by decide +kernel
theorem dX11_map_23 : decode cX11_map 23 = .ok (.getfield 72, 3) := by decide +kernel
theorem dX11_map_26 : decode cX11_map 26 = .ok (.iload_n 1, 1) := by decide +kernel
theorem dX11_map_27 : decode cX11_map 27 = .ok (.aaload, 1) := by decide +kernel
theorem dX11_map_28 : decode cX11_map 28 = .ok (.iload_n 2, 1) := by decide +kernel
theorem dX11_map_29 : decode cX11_map 29 = .ok (.iload_n 3, 1) := by decide +kernel
theorem dX11_map_30 : decode cX11_map 30 = .ok (.invokevirtual 250, 3) := by decide +kernel
theorem dX11_map_33 : decode cX11_map 33 = .ok (.iconst 1, 1) := by decide +kernel
theorem dX11_map_34 : decode cX11_map 34 = .ok (.ireturn, 1) := by decide +kernel
theorem dX11_row_0 : decode cX11_row 0 = .ok (.aload_n 0, 1) := by decide +kernel
theorem dX11_row_1 : decode cX11_row 1 = .ok (.aload_n 0, 1) := by decide +kernel
theorem dX11_row_2 : decode cX11_row 2 = .ok (.iload_n 1, 1) := by decide +kernel
theorem dX11_row_3 : decode cX11_row 3 = .ok (.iload_n 2, 1) := by decide +kernel
theorem dX11_row_4 : decode cX11_row 4 = .ok (.iload_n 3, 1) := by decide +kernel
theorem dX11_row_5 : decode cX11_row 5 = .ok (.invokevirtual 254, 3) := by decide +kernel
theorem dX11_row_8 : decode cX11_row 8 = .ok (.putfield 91, 3) := by decide +kernel
theorem dX11_row_11 : decode cX11_row 11 = .ok (.aload_n 0, 1) := by decide +kernel
theorem dX11_row_12 : decode cX11_row 12 = .ok (.getfield 91, 3) := by decide +kernel
theorem dX11_row_15 : decode cX11_row 15 = .ok (.ifCond .eq 8, 3) := by decide +kernel
theorem dX11_row_18 : decode cX11_row 18 = .ok (.aload_n 0, 1) := by decide +kernel
theorem dX11_row_19 : decode cX11_row 19 = .ok (.getfield 91, 3) := by decide +kernel
theorem dX11_row_22 : decode cX11_row 22 = .ok (.ireturn, 1) := by decide +kernel
theorem dX11_put_0 : decode cX11_put 0 = .ok (.aload_n 0, 1) := by decide +kernel
theorem dX11_put_1 : decode cX11_put 1 = .ok (.aload_n 0, 1) := by decide +kernel
theorem dX11_put_2 : decode cX11_put 2 = .ok (.iload_n 1, 1) := by decide +kernel
theorem dX11_put_3 : decode cX11_put 3 = .ok (.iload_n 2, 1) := by decide +kernel
theorem dX11_put_4 : decode cX11_put 4 = .ok (.iload_n 3, 1) := by decide +kernel
theorem dX11_put_5 : decode cX11_put 5 = .ok (.iload 4, 2) := by decide +kernel
theorem dX11_put_7 : decode cX11_put 7 = .ok (.invokevirtual 260, 3) := by decide +kernel
theorem dX11_put_10 : decode cX11_put 10 = .ok (.putfield 91, 3) := by decide +kernel
theorem dX11_put_13 : decode cX11_put 13 = .ok (.aload_n 0, 1) := by decide +kernel
theorem dX11_put_14 : decode cX11_put 14 = .ok (.getfield 91, 3) := by decide +kernel
theorem dX11_put_17 : decode cX11_put 17 = .ok (.ifCond .eq 8, 3) := by decide +kernel
theorem dX11_put_20 : decode cX11_put 20 = .ok (.aload_n 0, 1) := by decide +kernel
theorem dX11_put_21 : decode cX11_put 21 = .ok (.getfield 91, 3) := by decide +kernel
theorem dX11_put_24 : decode cX11_put 24 = .ok (.ireturn, 1) := by decide +kernel
theorem dX11_copy_0 : decode cX11_copy 0 = .ok (.aload_n 0, 1) := by decide +kernel
theorem dX11_copy_1 : decode cX11_copy 1 = .ok (.iload_n 1, 1) := by decide +kernel
theorem dX11_copy_2 : decode cX11_copy 2 = .ok (.invokestatic 267, 3) := by decide +kernel
theorem dX11_copy_5 : decode cX11_copy 5 = .ok (.ifCond .eq 23, 3) := by decide +kernel
theorem dX11_copy_8 : decode cX11_copy 8 = .ok (.aload_n 0, 1) := by decide +kernel
theorem dX11_copy_9 : decode cX11_copy 9 = .ok (.getfield 72, 3) := by decide +kernel
theorem dX11_copy_12 : decode cX11_copy 12 = .ok (.iload_n 1, 1) := by decide +kernel
theorem dX11_copy_13 : decode cX11_copy 13 = .ok (.aaload, 1) := by decide +kernel
theorem dX11_copy_14 : decode cX11_copy 14 = .ok (.iload_n 2, 1) := by decide +kernel
theorem dX11_copy_15 : decode cX11_copy 15 = .ok (.iload_n 3, 1) := by decide +kernel
theorem dX11_copy_16 : decode cX11_copy 16 = .ok (.iload 4, 2) := by decide +kernel
theorem dX11_copy_18 : decode cX11_copy 18 = .ok (.iload 5, 2) := by decide +kernel
theorem dX11_copy_20 : decode cX11_copy 20 = .ok (.iload 6, 2) := by decide +kernel
theorem dX11_copy_22 : decode cX11_copy 22 = .ok (.invokevirtual 270, 3) := by decide +kernel
theorem dX11_copy_25 : decode cX11_copy 25 = .ok (.goto 4, 3) := by decide +kernel
theorem dX11_copy_28 : decode cX11_copy 28 = .ok (.iconst (-1), 1) := by decide +kernel
theorem dX11_copy_29 : decode cX11_copy 29 = .ok (.putfield 91, 3) := by decide +kernel
theorem dX11_copy_32 : decode cX11_copy 32 = .ok (.aload_n 0, 1) := by decide +kernel
theorem dX11_copy_33 : decode cX11_copy 33 = .ok (.getfield 91, 3) := by decide +kernel
theorem dX11_copy_36 : decode cX11_copy 36 = .ok (.ifCond .eq 8, 3) := by decide +kernel
theorem dX11_copy_39 : decode cX11_copy 39 = .ok (.aload_n 0, 1) := by decide +kernel
theorem dX11_copy_40 : decode cX11_copy 40 = .ok (.getfield 91, 3) := by decide +kernel
theorem dX11_copy_43 : decode cX11_copy 43 = .ok (.ireturn, 1) := by decide +kernel
theorem dX11_item_0 : decode cX11_item 0 = .ok (.aload_n 0, 1) := by decide +kernel
theorem dX11_item_1 : decode cX11_item 1 = .ok (.aload_n 0, 1) := by decide +kernel
theorem dX11_item_2 : decode cX11_item 2 = .ok (.iload_n 1, 1) := by decide +kernel
theorem dX11_item_3 : decode cX11_item 3 = .ok (.iload_n 2, 1) := by decide +kernel
theorem dX11_item_4 : decode cX11_item 4 = .ok (.iload_n 3, 1) := by decide +kernel
theorem dX11_item_5 : decode cX11_item 5 = .ok (.iload 4, 2) := by decide +kernel
theorem dX11_item_7 : decode cX11_item 7 = .ok (.invokevirtual 260, 3) := by decide +kernel
theorem dX11_item_10 : decode cX11_item 10 = .ok (.putfield 91, 3) := by decide +kernel
theorem dX11_item_13 : decode cX11_item 13 = .ok (.aload_n 0, 1) := by decide +kernel
theorem dX11_item_14 : decode cX11_item 14 = .ok (.getfield 91, 3) := by decide +kernel
theorem dX11_item_17 : decode cX11_item 17 = .ok (.ifCond .eq 5, 3) := by decide +kernel
theorem dX11_item_20 : decode cX11_item 20 = .ok (.lconst 0, 1) := by decide +kernel
theorem dX11_item_21 : decode cX11_item 21 = .ok (.lreturn, 1) := by decide +kernel
theorem dX11_read_0 : decode cX11_read 0 = .ok (.iload_n 1, 1) := by decide +kernel
theorem dX11_read_1 : decode cX11_read 1 = .ok (.invokestatic 267, 3) := by decide +kernel
theorem dX11_read_4 : decode cX11_read 4 = .ok (.ifCond .ne 10, 3) := by decide +kernel
theorem dX11_read_7 : decode cX11_read 7 = .ok (.aload_n 0, 1) := by decide +kernel
theorem dX11_read_8 : decode cX11_read 8 = .ok (.iconst (-1), 1) := by decide +kernel
theorem dX11_read_9 : decode cX11_read 9 = .ok (.putfield 91, 3) := by decide +kernel
theorem dX11_read_12 : decode cX11_read 12 = .ok (.iconst (-1), 1) := by decide +kernel
theorem dX11_read_13 : decode cX11_read 13 = .ok (.ireturn, 1) := by decide +kernel
theorem dX11_read_14 : decode cX11_read 14 = .ok (.aload_n 0, 1) := by decide +kernel
theorem dX11_read_15 : decode cX11_read 15 = .ok (.getfield 72, 3) := by decide +kernel
theorem dX11_read_18 : decode cX11_read 18 = .ok (.iload_n 1, 1) := by decide +kernel
theorem dX11_read_19 : decode cX11_read 19 = .ok (.aaload, 1) := by decide +kernel
theorem dX11_read_20 : decode cX11_read 20 = .ok (.astore_n 2, 1) := by decide +kernel
theorem dX11_read_21 : decode cX11_read 21 = .ok (.aload_n 0, 1) := by decide +kernel
theorem dX11_read_22 : decode cX11_read 22 = .ok (.aload_n 2, 1) := by decide +kernel
theorem dX11_read_23 : decode cX11_read 23 = .ok (.invokevirtual 281, 3) := by decide +kernel
theorem dX11_read_26 : decode cX11_read 26 = .ok (.ifCond .eq 7, 3) := by decide +kernel
theorem dX11_read_33 : decode cX11_read 33 = .ok (.bipush (-11), 2) := by decide +kernel
theorem dX11_read_35 : decode cX11_read 35 = .ok (.putfield 91, 3) := by decide +kernel
theorem dX11_read_38 : decode cX11_read 38 = .ok (.iconst 0, 1) := by decide +kernel
theorem dX11_read_39 : decode cX11_read 39 = .ok (.istore_n 3, 1) := by decide +kernel
theorem dX11_read_40 : decode cX11_read 40 = .ok (.iconst 0, 1) := by decide +kernel
theorem dX11_read_41 : decode cX11_read 41 = .ok (.istore 4, 2) := by decide +kernel
theorem dX11_read_43 : decode cX11_read 43 = .ok (.iload 4, 2) := by decide +kernel
theorem dX11_read_45 : decode cX11_read 45 = .ok (.aload_n 2, 1) := by decide +kernel
theorem dX11_read_46 : decode cX11_read 46 = .ok (.getfield 284, 3) := by decide +kernel
theorem dX11_read_49 : decode cX11_read 49 = .ok (.if_icmp .ge 85, 3) := by decide +kernel
theorem dX11_read_134 : decode cX11_read 134 = .ok (.iload_n 3, 1) := by decide +kernel
theorem dX11_read_135 : decode cX11_read 135 = .ok (.ireturn, 1) := by decide +kernel
theorem dX11_about_0 : decode cX11_about 0 = .ok (.iload_n 1, 1) := by decide +kernel
theorem dX11_about_1 : decode cX11_about 1 = .ok (.tableswitch 80 0 4 #[35, 43, 51, 59, 64], 35) := by decide +kernel
theorem dX11_about_36 : decode cX11_about 36 = .ok (.aload_n 0, 1) := by decide +kernel
theorem dX11_about_37 : decode cX11_about 37 = .ok (.getfield 31, 3) := by decide +kernel
theorem dX11_about_40 : decode cX11_about 40 = .ok (.getfield 94, 3) := by decide +kernel
theorem dX11_about_43 : decode cX11_about 43 = .ok (.ireturn, 1) := by decide +kernel
theorem dX11_about_44 : decode cX11_about 44 = .ok (.aload_n 0, 1) := by decide +kernel
theorem dX11_about_45 : decode cX11_about 45 = .ok (.getfield 31, 3) := by decide +kernel
theorem dX11_about_48 : decode cX11_about 48 = .ok (.getfield 294, 3) := by decide +kernel
theorem dX11_about_51 : decode cX11_about 51 = .ok (.ireturn, 1) := by decide +kernel
theorem dX11_about_52 : decode cX11_about 52 = .ok (.aload_n 0, 1) := by decide +kernel
theorem dX11_about_53 : decode cX11_about 53 = .ok (.getfield 31, 3) := by decide +kernel
theorem dX11_about_56 : decode cX11_about 56 = .ok (.invokevirtual 297, 3) := by decide +kernel
theorem dX11_about_59 : decode cX11_about 59 = .ok (.ireturn, 1) := by decide +kernel
theorem dX11_about_60 : decode cX11_about 60 = .ok (.aload_n 0, 1) := by decide +kernel
theorem dX11_about_61 : decode cX11_about 61 = .ok (.getfield 84, 3) := by decide +kernel
theorem dX11_about_64 : decode cX11_about 64 = .ok (.ireturn, 1) := by decide +kernel
theorem dX11_about_65 : decode cX11_about 65 = .ok (.aload_n 0, 1) := by decide +kernel
theorem dX11_about_66 : decode cX11_about 66 = .ok (.getfield 31, 3) := by decide +kernel
theorem dX11_about_69 : decode cX11_about 69 = .ok (.invokevirtual 204, 3) := by decide +kernel
theorem dX11_about_72 : decode cX11_about 72 = .ok (.ifCond .eq 7, 3) := by decide +kernel
theorem dX11_about_79 : decode cX11_about 79 = .ok (.iconst 0, 1) := by decide +kernel
theorem dX11_about_80 : decode cX11_about 80 = .ok (.ireturn, 1) := by decide +kernel
theorem dX11_about_81 : decode cX11_about 81 = .ok (.iconst (-1), 1) := by decide +kernel
theorem dX11_about_82 : decode cX11_about 82 = .ok (.ireturn, 1) := by decide +kernel
theorem dX11_trace_0 : decode cX11_trace 0 = .ok (.aload_n 0, 1) := by decide +kernel
theorem dX11_trace_1 : decode cX11_trace 1 = .ok (.getfield 87, 3) := by decide +kernel
theorem dX11_trace_4 : decode cX11_trace 4 = .ok (.lreturn, 1) := by decide +kernel
theorem dX11_status_0 : decode cX11_status 0 = .ok (.aload_n 0, 1) := by decide +kernel
theorem dX11_status_1 : decode cX11_status 1 = .ok (.getfield 91, 3) := by decide +kernel
theorem dX11_status_4 : decode cX11_status 4 = .ok (.ireturn, 1) := by decide +kernel
theorem dX11_remember_0 : decode cX11_remember 0 = .ok (.aload_n 0, 1) := by decide +kernel
theorem dX11_remember_1 : decode cX11_remember 1 = .ok (.getfield 80, 3) := by decide +kernel
theorem dX11_remember_4 : decode cX11_remember 4 = .ok (.aload_n 0, 1) := by decide +kernel
theorem dX11_remember_5 : decode cX11_remember 5 = .ok (.getfield 84, 3) := by decide +kernel
theorem dX11_remember_8 : decode cX11_remember 8 = .ok (.iadd, 1) := by decide +kernel
theorem dX11_remember_9 : decode cX11_remember 9 = .ok (.bipush 30, 2) := by decide +kernel
theorem dX11_remember_11 : decode cX11_remember 11 = .ok (.irem, 1) := by decide +kernel
theorem dX11_remember_12 : decode cX11_remember 12 = .ok (.istore_n 1, 1) := by decide +kernel
theorem dX11_remember_13 : decode cX11_remember 13 = .ok (.aload_n 0, 1) := by decide +kernel
theorem dX11_remember_14 : decode cX11_remember 14 = .ok (.getfield 84, 3) := by decide +kernel
theorem dX11_remember_17 : decode cX11_remember 17 = .ok (.bipush 30, 2) := by decide +kernel
theorem dX11_remember_19 : decode cX11_remember 19 = .ok (.if_icmp .ge 16, 3) := by decide +kernel
theorem dX11_remember_22 : decode cX11_remember 22 = .ok (.aload_n 0, 1) := by decide +kernel
theorem dX11_remember_23 : decode cX11_remember 23 = .ok (.dup, 1) := by decide +kernel
theorem dX11_remember_24 : decode cX11_remember 24 = .ok (.getfield 84, 3) := by decide +kernel
theorem dX11_remember_27 : decode cX11_remember 27 = .ok (.iconst 1, 1) := by decide +kernel
theorem dX11_remember_28 : decode cX11_remember 28 = .ok (.iadd, 1) := by decide +kernel
theorem dX11_remember_29 : decode cX11_remember 29 = .ok (.putfield 84, 3) := by decide +kernel
theorem dX11_remember_32 : decode cX11_remember 32 = .ok (.goto 16, 3) := by decide +kernel
theorem dX11_remember_48 : decode cX11_remember 48 = .ok (.aload_n 0, 1) := by decide +kernel
theorem dX11_remember_49 : decode cX11_remember 49 = .ok (.getfield 76, 3) := by decide +kernel
theorem dX11_remember_52 : decode cX11_remember 52 = .ok (.iload_n 1, 1) := by decide +kernel
theorem dX11_remember_53 : decode cX11_remember 53 = .ok (.aaload, 1) := by decide +kernel
theorem dX11_remember_54 : decode cX11_remember 54 = .ok (.ifnonnull 16, 3) := by decide +kernel
theorem dX11_remember_57 : decode cX11_remember 57 = .ok (.aload_n 0, 1) := by decide +kernel
theorem dX11_remember_58 : decode cX11_remember 58 = .ok (.getfield 76, 3) := by decide +kernel
theorem dX11_remember_61 : decode cX11_remember 61 = .ok (.iload_n 1, 1) := by decide +kernel
theorem dX11_remember_62 : decode cX11_remember 62 = .ok (.new 28, 3) := by decide +kernel
theorem dX11_remember_65 : decode cX11_remember 65 = .ok (.dup, 1) := by decide +kernel
theorem dX11_remember_66 : decode cX11_remember 66 = .ok (.invokespecial 30, 3) := by decide +kernel
theorem dX11_remember_69 : decode cX11_remember 69 = .ok (.aastore, 1) := by decide +kernel
theorem dX11_remember_70 : decode cX11_remember 70 = .ok (.aload_n 0, 1) := by decide +kernel
theorem dX11_remember_71 : decode cX11_remember 71 = .ok (.getfield 76, 3) := by decide +kernel
theorem dX11_remember_74 : decode cX11_remember 74 = .ok (.iload_n 1, 1) := by decide +kernel
theorem dX11_remember_75 : decode cX11_remember 75 = .ok (.aaload, 1) := by decide +kernel
theorem dX11_remember_76 : decode cX11_remember 76 = .ok (.aload_n 0, 1) := by decide +kernel
theorem dX11_remember_77 : decode cX11_remember 77 = .ok (.getfield 31, 3) := by decide +kernel
theorem dX11_remember_80 : decode cX11_remember 80 = .ok (.invokevirtual 151, 3) := by decide +kernel
theorem dX11_remember_83 : decode cX11_remember 83 = .ok (.return_, 1) := by decide +kernel
theorem dX11_lineRefusal_0 : decode cX11_lineRefusal 0 = .ok (.lload_n 1, 1) := by decide +kernel
theorem dX11_lineRefusal_1 : decode cX11_lineRefusal 1 = .ok (.lconst 0, 1) := by decide +kernel
end
section
theorem dX11_lineRefusal_2 : decode cX11_lineRefusal 2 = .ok (.lcmp, 1) := by decide +kernel
theorem dX11_lineRefusal_3 : decode cX11_lineRefusal 3 = .ok (.ifCond .lt 24, 3) := by decide +kernel
theorem dX11_lineRefusal_6 : decode cX11_lineRefusal 6 = .ok (.lload_n 1, 1) := by decide +kernel
theorem dX11_lineRefusal_7 : decode cX11_lineRefusal 7 = .ok (.ldc2_w 300, 3) := by decide +kernel
theorem dX11_lineRefusal_10 : decode cX11_lineRefusal 10 = .ok (.lcmp, 1) := by decide +kernel
theorem dX11_lineRefusal_11 : decode cX11_lineRefusal 11 = .ok (.ifCond .ge 16, 3) := by decide +kernel
theorem dX11_lineRefusal_14 : decode cX11_lineRefusal 14 = .ok (.aload_n 0, 1) := by decide +kernel
theorem dX11_lineRefusal_15 : decode cX11_lineRefusal 15 = .ok (.getfield 31, 3) := by decide +kernel
theorem dX11_lineRefusal_18 : decode cX11_lineRefusal 18 = .ok (.lload_n 3, 1) := by decide +kernel
theorem dX11_lineRefusal_19 : decode cX11_lineRefusal 19 = .ok (.lload 5, 2) := by decide +kernel
theorem dX11_lineRefusal_21 : decode cX11_lineRefusal 21 = .ok (.invokevirtual 135, 3) := by decide +kernel
theorem dX11_lineRefusal_24 : decode cX11_lineRefusal 24 = .ok (.ifCond .ne 5, 3) := by decide +kernel
theorem dX11_lineRefusal_27 : decode cX11_lineRefusal 27 = .ok (.iconst (-1), 1) := by decide +kernel
theorem dX11_lineRefusal_28 : decode cX11_lineRefusal 28 = .ok (.ireturn, 1) := by decide +kernel
theorem dX11_isMapNumber_0 : decode cX11_isMapNumber 0 = .ok (.iload_n 0, 1) := by decide +kernel
theorem dX11_isMapNumber_1 : decode cX11_isMapNumber 1 = .ok (.ifCond .lt 12, 3) := by decide +kernel
theorem dX11_isMapNumber_4 : decode cX11_isMapNumber 4 = .ok (.iload_n 0, 1) := by decide +kernel
theorem dX11_isMapNumber_5 : decode cX11_isMapNumber 5 = .ok (.iconst 4, 1) := by decide +kernel
theorem dX11_isMapNumber_6 : decode cX11_isMapNumber 6 = .ok (.if_icmp .ge 7, 3) := by decide +kernel
theorem dX11_isMapNumber_9 : decode cX11_isMapNumber 9 = .ok (.iconst 1, 1) := by decide +kernel
theorem dX11_isMapNumber_10 : decode cX11_isMapNumber 10 = .ok (.goto 4, 3) := by decide +kernel
theorem dX11_isMapNumber_13 : decode cX11_isMapNumber 13 = .ok (.iconst 0, 1) := by decide +kernel
theorem dX11_isMapNumber_14 : decode cX11_isMapNumber 14 = .ok (.ireturn, 1) := by decide +kernel
theorem dX11_isMapKind_0 : decode cX11_isMapKind 0 = .ok (.iload_n 0, 1) := by decide +kernel
theorem dX11_isMapKind_1 : decode cX11_isMapKind 1 = .ok (.ifCond .lt 12, 3) := by decide +kernel
theorem dX11_isMapKind_4 : decode cX11_isMapKind 4 = .ok (.iload_n 0, 1) := by decide +kernel
theorem dX11_isMapKind_5 : decode cX11_isMapKind 5 = .ok (.iconst 3, 1) := by decide +kernel
theorem dX11_isMapKind_6 : decode cX11_isMapKind 6 = .ok (.if_icmp .ge 7, 3) := by decide +kernel
theorem dX11_isMapKind_9 : decode cX11_isMapKind 9 = .ok (.iconst 1, 1) := by decide +kernel
theorem dX11_isMapKind_10 : decode cX11_isMapKind 10 = .ok (.goto 4, 3) := by decide +kernel
theorem dX11_isMapKind_13 : decode cX11_isMapKind 13 = .ok (.iconst 0, 1) := by decide +kernel
theorem dX11_isMapKind_14 : decode cX11_isMapKind 14 = .ok (.ireturn, 1) := by decide +kernel
theorem dX11_mapRefusal_0 : decode cX11_mapRefusal 0 = .ok (.iload_n 0, 1) := by decide +kernel
theorem dX11_mapRefusal_1 : decode cX11_mapRefusal 1 = .ok (.invokestatic 267, 3) := by decide +kernel
theorem dX11_mapRefusal_4 : decode cX11_mapRefusal 4 = .ok (.ifCond .eq 16, 3) := by decide +kernel
theorem dX11_mapRefusal_7 : decode cX11_mapRefusal 7 = .ok (.iload_n 1, 1) := by decide +kernel
theorem dX11_mapRefusal_8 : decode cX11_mapRefusal 8 = .ok (.invokestatic 312, 3) := by decide +kernel
theorem dX11_mapRefusal_11 : decode cX11_mapRefusal 11 = .ok (.ifCond .eq 9, 3) := by decide +kernel
theorem dX11_mapRefusal_14 : decode cX11_mapRefusal 14 = .ok (.iload_n 2, 1) := by decide +kernel
theorem dX11_mapRefusal_15 : decode cX11_mapRefusal 15 = .ok (.bipush 6, 2) := by decide +kernel
theorem dX11_mapRefusal_17 : decode cX11_mapRefusal 17 = .ok (.if_icmp .le 5, 3) := by decide +kernel
theorem dX11_mapRefusal_20 : decode cX11_mapRefusal 20 = .ok (.iconst (-1), 1) := by decide +kernel
theorem dX11_mapRefusal_21 : decode cX11_mapRefusal 21 = .ok (.ireturn, 1) := by decide +kernel
theorem dX11_mapRefusal_22 : decode cX11_mapRefusal 22 = .ok (.iload_n 2, 1) := by decide +kernel
theorem dX11_mapRefusal_23 : decode cX11_mapRefusal 23 = .ok (.ifCond .ge 8, 3) := by decide +kernel
theorem dX11_mapRefusal_26 : decode cX11_mapRefusal 26 = .ok (.bipush (-15), 2) := by decide +kernel
theorem dX11_mapRefusal_28 : decode cX11_mapRefusal 28 = .ok (.goto 4, 3) := by decide +kernel
theorem dX11_mapRefusal_31 : decode cX11_mapRefusal 31 = .ok (.iconst 0, 1) := by decide +kernel
theorem dX11_mapRefusal_32 : decode cX11_mapRefusal 32 = .ok (.ireturn, 1) := by decide +kernel
theorem dX11_rowRefusal_0 : decode cX11_rowRefusal 0 = .ok (.iload_n 1, 1) := by decide +kernel
theorem dX11_rowRefusal_1 : decode cX11_rowRefusal 1 = .ok (.invokestatic 267, 3) := by decide +kernel
theorem dX11_rowRefusal_4 : decode cX11_rowRefusal 4 = .ok (.ifCond .eq 8, 3) := by decide +kernel
theorem dX11_rowRefusal_7 : decode cX11_rowRefusal 7 = .ok (.iload_n 3, 1) := by decide +kernel
theorem dX11_rowRefusal_8 : decode cX11_rowRefusal 8 = .ok (.iconst 5, 1) := by decide +kernel
theorem dX11_rowRefusal_9 : decode cX11_rowRefusal 9 = .ok (.if_icmp .le 5, 3) := by decide +kernel
theorem dX11_rowRefusal_12 : decode cX11_rowRefusal 12 = .ok (.iconst (-1), 1) := by decide +kernel
theorem dX11_rowRefusal_13 : decode cX11_rowRefusal 13 = .ok (.ireturn, 1) := by decide +kernel
theorem dX11_rowRefusal_14 : decode cX11_rowRefusal 14 = .ok (.aload_n 0, 1) := by decide +kernel
theorem dX11_rowRefusal_15 : decode cX11_rowRefusal 15 = .ok (.getfield 72, 3) := by decide +kernel
theorem dX11_rowRefusal_18 : decode cX11_rowRefusal 18 = .ok (.iload_n 1, 1) := by decide +kernel
theorem dX11_rowRefusal_19 : decode cX11_rowRefusal 19 = .ok (.aaload, 1) := by decide +kernel
theorem dX11_rowRefusal_20 : decode cX11_rowRefusal 20 = .ok (.invokevirtual 281, 3) := by decide +kernel
theorem dX11_rowRefusal_23 : decode cX11_rowRefusal 23 = .ok (.ifCond .ne 6, 3) := by decide +kernel
theorem dX11_rowRefusal_26 : decode cX11_rowRefusal 26 = .ok (.bipush (-11), 2) := by decide +kernel
theorem dX11_rowRefusal_28 : decode cX11_rowRefusal 28 = .ok (.ireturn, 1) := by decide +kernel
theorem dX11_numberRefusal_0 : decode cX11_numberRefusal 0 = .ok (.iload_n 1, 1) := by decide +kernel
theorem dX11_numberRefusal_1 : decode cX11_numberRefusal 1 = .ok (.invokestatic 267, 3) := by decide +kernel
theorem dX11_numberRefusal_4 : decode cX11_numberRefusal 4 = .ok (.ifCond .eq 10, 3) := by decide +kernel
theorem dX11_numberRefusal_7 : decode cX11_numberRefusal 7 = .ok (.iload_n 2, 1) := by decide +kernel
theorem dX11_numberRefusal_8 : decode cX11_numberRefusal 8 = .ok (.invokestatic 312, 3) := by decide +kernel
theorem dX11_numberRefusal_11 : decode cX11_numberRefusal 11 = .ok (.ifCond .ne 5, 3) := by decide +kernel
theorem dX11_numberRefusal_14 : decode cX11_numberRefusal 14 = .ok (.iconst (-1), 1) := by decide +kernel
theorem dX11_numberRefusal_15 : decode cX11_numberRefusal 15 = .ok (.ireturn, 1) := by decide +kernel
theorem dX11_numberRefusal_16 : decode cX11_numberRefusal 16 = .ok (.aload_n 0, 1) := by decide +kernel
theorem dX11_numberRefusal_17 : decode cX11_numberRefusal 17 = .ok (.getfield 72, 3) := by decide +kernel
theorem dX11_numberRefusal_20 : decode cX11_numberRefusal 20 = .ok (.iload_n 1, 1) := by decide +kernel
theorem dX11_numberRefusal_21 : decode cX11_numberRefusal 21 = .ok (.aaload, 1) := by decide +kernel
theorem dX11_numberRefusal_22 : decode cX11_numberRefusal 22 = .ok (.invokevirtual 281, 3) := by decide +kernel
theorem dX11_numberRefusal_25 : decode cX11_numberRefusal 25 = .ok (.ifCond .ne 6, 3) := by decide +kernel
theorem dX11_numberRefusal_28 : decode cX11_numberRefusal 28 = .ok (.bipush (-11), 2) := by decide +kernel
theorem dX11_numberRefusal_30 : decode cX11_numberRefusal 30 = .ok (.ireturn, 1) := by decide +kernel
theorem dJ7_fill_53178_0 : decode cJ7_fill_53178 0 = .ok (.iconst 0, 1) := by decide +kernel
theorem dJ7_fill_53178_1 : decode cJ7_fill_53178 1 = .ok (.istore_n 2, 1) := by decide +kernel
theorem dJ7_fill_53178_2 : decode cJ7_fill_53178 2 = .ok (.aload_n 0, 1) := by decide +kernel
theorem dJ7_fill_53178_3 : decode cJ7_fill_53178 3 = .ok (.arraylength, 1) := by decide +kernel
theorem dJ7_fill_53178_4 : decode cJ7_fill_53178 4 = .ok (.istore_n 3, 1) := by decide +kernel
theorem dJ7_fill_53178_5 : decode cJ7_fill_53178 5 = .ok (.iload_n 2, 1) := by decide +kernel
theorem dJ7_fill_53178_6 : decode cJ7_fill_53178 6 = .ok (.iload_n 3, 1) := by decide +kernel
theorem dJ7_fill_53178_7 : decode cJ7_fill_53178 7 = .ok (.if_icmp .ge 13, 3) := by decide +kernel
theorem dJ7_fill_53178_10 : decode cJ7_fill_53178 10 = .ok (.aload_n 0, 1) := by decide +kernel
theorem dJ7_fill_53178_11 : decode cJ7_fill_53178 11 = .ok (.iload_n 2, 1) := by decide +kernel
theorem dJ7_fill_53178_12 : decode cJ7_fill_53178 12 = .ok (.iload_n 1, 1) := by decide +kernel
theorem dJ7_fill_53178_13 : decode cJ7_fill_53178 13 = .ok (.iastore, 1) := by decide +kernel
theorem dJ7_fill_53178_14 : decode cJ7_fill_53178 14 = .ok (.iinc 2 1, 3) := by decide +kernel
theorem dJ7_fill_53178_17 : decode cJ7_fill_53178 17 = .ok (.goto (-12), 3) := by decide +kernel
theorem dJ7_fill_53178_20 : decode cJ7_fill_53178 20 = .ok (.return_, 1) := by decide +kernel
end
section
/-! ===== what every contract here stands on: the array classes by number, the tables' words of the nest, and small rows ===== -/
abbrev tt_ (cy : Nat → ClassId) : List (ClassId × FieldType) := [(cy 0, .int), (cy 1, .long), (cy 2, .boolean), (cy 3, .object RX6), (cy 4, .object RX4), (cy 5, .object RX3)]
def nn_ (U : State) : Prop := va_Nw (.methodLinkNest RX11 9 yX6_init RX11) U ∧ va_Nw (.methodLinkNest RX11 12 yX5_init RX11) U ∧ va_Nw (.methodLinkNest RX11 15 yX9_init RX11) U ∧ va_Nw (.methodLinkNest RX11 18 yX2_init RX11) U ∧ va_Nw (.methodLinkNest RX11 21 yX8_init RX11) U ∧ va_Nw (.methodLinkNest RX11 30 yX3_init RX11) U ∧ va_Nw (.methodLinkNest RX11 71 yX4_init RX11) U
def nk_ (U : State) : Prop := va_Nw (.methodLinkNest RX5 1 yX6_init RX11) U ∧ va_Nw (.methodLinkNest RX9 3 yX6_init RX11) U ∧ va_Nw (.methodLinkNest RX2 1 yX6_init RX11) U ∧ va_Nw (.methodLinkNest RX8 1 yX2_init RX11) U
def na_ (U : State) : Prop := va_AO RX6 U ∧ va_AO RX4 U ∧ va_AO RX3 U ∧ va_AOA .int U
def nc_ (U : State) : Prop := va_Nw (.castable RX5 RX6) U ∧ va_Nw (.castable RX9 RX6) U ∧ va_Nw (.castable RX2 RX6) U ∧ va_Nw (.castable RX8 RX6) U
def kk_ (D : va_G) (cy : Nat → ClassId) (U : State) : Prop := va_K D vwCl (tt_ cy) U ∧ nn_ U ∧ nk_ U ∧ na_ U ∧ nc_ U
theorem kk_mv {D : va_G} {cy : Nat → ClassId} {s U : State} (hW : s.WarmedH U.vm) (h : kk_ D cy s) : kk_ D cy U := by
  obtain ⟨hK, ⟨a1, a2, a3, a4, a5, a6, a7⟩, ⟨b1, b2, b3, b4⟩, ⟨c1, c2, c3, c4⟩, ⟨d1, d2, d3, d4⟩⟩ := h
  exact ⟨va_K.moved hW.alike hK, ⟨va_Nw.warmM hW a1, va_Nw.warmM hW a2, va_Nw.warmM hW a3, va_Nw.warmM hW a4, va_Nw.warmM hW a5, va_Nw.warmM hW a6, va_Nw.warmM hW a7⟩, ⟨va_Nw.warmM hW b1, va_Nw.warmM hW b2, va_Nw.warmM hW b3, va_Nw.warmM hW b4⟩, ⟨c1.moved hW.alike, c2.moved hW.alike, c3.moved hW.alike, c4.moved hW.alike⟩, ⟨va_Nw.warmC hW d1, va_Nw.warmC hW d2, va_Nw.warmC hW d3, va_Nw.warmC hW d4⟩⟩
theorem kk_cl {D : va_G} {cy : Nat → ClassId} {s U : State} (hv : s.vm = U.vm) (h : kk_ D cy s) : kk_ D cy U := by
  obtain ⟨hK, ⟨a1, a2, a3, a4, a5, a6, a7⟩, ⟨b1, b2, b3, b4⟩, ⟨c1, c2, c3, c4⟩, ⟨d1, d2, d3, d4⟩⟩ := h
  have al : s.vm.Alike U.vm := by rw [hv]; exact Vm.Alike.refl U.vm
  exact ⟨va_K.moved al hK, ⟨va_Nw.same rfl hv a1, va_Nw.same rfl hv a2, va_Nw.same rfl hv a3, va_Nw.same rfl hv a4, va_Nw.same rfl hv a5, va_Nw.same rfl hv a6, va_Nw.same rfl hv a7⟩, ⟨va_Nw.same rfl hv b1, va_Nw.same rfl hv b2, va_Nw.same rfl hv b3, va_Nw.same rfl hv b4⟩, ⟨c1.moved al, c2.moved al, c3.moved al, c4.moved al⟩, ⟨va_Nw.same rfl hv d1, va_Nw.same rfl hv d2, va_Nw.same rfl hv d3, va_Nw.same rfl hv d4⟩⟩
theorem kk_nX11_9 {D : va_G} {cy : Nat → ClassId} {U : State} (h : kk_ D cy U) : va_Nw (.methodLinkNest RX11 9 yX6_init RX11) U := h.2.1.1
theorem kk_nX11_12 {D : va_G} {cy : Nat → ClassId} {U : State} (h : kk_ D cy U) : va_Nw (.methodLinkNest RX11 12 yX5_init RX11) U := h.2.1.2.1
theorem kk_nX11_15 {D : va_G} {cy : Nat → ClassId} {U : State} (h : kk_ D cy U) : va_Nw (.methodLinkNest RX11 15 yX9_init RX11) U := h.2.1.2.2.1
theorem kk_nX11_18 {D : va_G} {cy : Nat → ClassId} {U : State} (h : kk_ D cy U) : va_Nw (.methodLinkNest RX11 18 yX2_init RX11) U := h.2.1.2.2.2.1
theorem kk_nX11_21 {D : va_G} {cy : Nat → ClassId} {U : State} (h : kk_ D cy U) : va_Nw (.methodLinkNest RX11 21 yX8_init RX11) U := h.2.1.2.2.2.2.1
theorem kk_nX11_30 {D : va_G} {cy : Nat → ClassId} {U : State} (h : kk_ D cy U) : va_Nw (.methodLinkNest RX11 30 yX3_init RX11) U := h.2.1.2.2.2.2.2.1
theorem kk_nX11_71 {D : va_G} {cy : Nat → ClassId} {U : State} (h : kk_ D cy U) : va_Nw (.methodLinkNest RX11 71 yX4_init RX11) U := h.2.1.2.2.2.2.2.2
theorem kk_nX5_1 {D : va_G} {cy : Nat → ClassId} {U : State} (h : kk_ D cy U) : va_Nw (.methodLinkNest RX5 1 yX6_init RX11) U := h.2.2.1.1
theorem kk_nX9_3 {D : va_G} {cy : Nat → ClassId} {U : State} (h : kk_ D cy U) : va_Nw (.methodLinkNest RX9 3 yX6_init RX11) U := h.2.2.1.2.1
theorem kk_nX2_1 {D : va_G} {cy : Nat → ClassId} {U : State} (h : kk_ D cy U) : va_Nw (.methodLinkNest RX2 1 yX6_init RX11) U := h.2.2.1.2.2.1
theorem kk_nX8_1 {D : va_G} {cy : Nat → ClassId} {U : State} (h : kk_ D cy U) : va_Nw (.methodLinkNest RX8 1 yX2_init RX11) U := h.2.2.1.2.2.2
theorem kk_ao3 {D : va_G} {cy : Nat → ClassId} {U : State} (h : kk_ D cy U) : va_AO RX6 U := h.2.2.2.1.1
theorem kk_ao4 {D : va_G} {cy : Nat → ClassId} {U : State} (h : kk_ D cy U) : va_AO RX4 U := h.2.2.2.1.2.1
theorem kk_ao5 {D : va_G} {cy : Nat → ClassId} {U : State} (h : kk_ D cy U) : va_AO RX3 U := h.2.2.2.1.2.2.1
theorem kk_aoa {D : va_G} {cy : Nat → ClassId} {U : State} (h : kk_ D cy U) : va_AOA .int U := h.2.2.2.1.2.2.2
theorem any_of {D : va_G} {cy : Nat → ClassId} {s : State} {H : Heap} {ws : va_W} {C : String} {a q0 ci : Nat} {fs : List Value} {r : vw_C} (hc9 : va_Nw (.castable C RX6) s) (hK : kk_ D cy s) (hP : va_P D vwCl ws H) (he : ws[q0]? = some (a, .inr (ci, fs))) (hc : vwCl[ci]? = some r) (hr : r.1 = C) : va_Any RX6 s H a := by
  refine va_rAny hK.1 hP he hc (fun comp c0 h1 h2 => ?_)
  obtain ⟨c1, t1, f1, f2, f3⟩ := Cond.castable_spec (va_Nw.use (A := #[]) rfl hc9)
  rw [hr] at h2
  have e1 : c1 = c0 := Option.some.inj (f1.symm.trans h2)
  have e2 : t1 = comp := Option.some.inj (f2.symm.trans h1)
  rw [← e1, ← e2]
  exact f3
theorem kk_any5 {D : va_G} {cy : Nat → ClassId} {s : State} {H : Heap} {ws : va_W} {a : Nat} {fs : List Value} (hK : kk_ D cy s) (hP : va_P D vwCl ws H) (q0 : Nat) (he : ws[q0]? = some (a, .inr (5, fs))) : va_Any RX6 s H a := any_of hK.2.2.2.2.1 hK hP he rfl rfl
theorem kk_any9 {D : va_G} {cy : Nat → ClassId} {s : State} {H : Heap} {ws : va_W} {a : Nat} {fs : List Value} (hK : kk_ D cy s) (hP : va_P D vwCl ws H) (q0 : Nat) (he : ws[q0]? = some (a, .inr (9, fs))) : va_Any RX6 s H a := any_of hK.2.2.2.2.2.1 hK hP he rfl rfl
theorem kk_any2 {D : va_G} {cy : Nat → ClassId} {s : State} {H : Heap} {ws : va_W} {a : Nat} {fs : List Value} (hK : kk_ D cy s) (hP : va_P D vwCl ws H) (q0 : Nat) (he : ws[q0]? = some (a, .inr (2, fs))) : va_Any RX6 s H a := any_of hK.2.2.2.2.2.2.1 hK hP he rfl rfl
theorem kk_any8 {D : va_G} {cy : Nat → ClassId} {s : State} {H : Heap} {ws : va_W} {a : Nat} {fs : List Value} (hK : kk_ D cy s) (hP : va_P D vwCl ws H) (q0 : Nat) (he : ws[q0]? = some (a, .inr (8, fs))) : va_Any RX6 s H a := any_of hK.2.2.2.2.2.2.2 hK hP he rfl rfl
/-- a row of four cells -/
def mf_ (a b c d : Nat) : Nat → Option Nat := fun i => if i = 0 then some a else if i = 1 then some b else if i = 2 then some c else if i = 3 then some d else none
/-- an int below a small bound is one of its values; what a switch asks -/
theorem sp_4 {x : Int32} (h : 0 ≤ x.toInt ∧ x.toInt < 4) : x = 0 ∨ x = 1 ∨ x = 2 ∨ x = 3 := by
  have h1 : x.toInt = 0 ∨ x.toInt = 1 ∨ x.toInt = 2 ∨ x.toInt = 3 := by omega
  rcases h1 with h | h | h | h
  · exact Or.inl (Int32.toInt_inj.mp h)
  · exact Or.inr (Or.inl (Int32.toInt_inj.mp h))
  · exact Or.inr (Or.inr (Or.inl (Int32.toInt_inj.mp h)))
  · exact Or.inr (Or.inr (Or.inr (Int32.toInt_inj.mp h)))
theorem sw_5 (x : Int32) : (x.toInt < 0 ∨ 4 < x.toInt) ∨ x.toInt = 0 ∨ x.toInt = 1 ∨ x.toInt = 2 ∨ x.toInt = 3 ∨ x.toInt = 4 := by omega
/-- a contract's start doesn't look at frames -/
theorem bl_ {av : List Value} {sz : Nat} {D : va_G} {cy : Nat → ClassId} {ws : va_W} {A : Nat → Prop} : FrameBlind (va_Pc av (fun U => U.heap.size = sz ∧ va_P D vwCl ws U.heap ∧ kk_ D cy U ∧ va_D A ws)) := fun a U g mk q => by
  obtain ⟨q0, q1, qP, qK, qD⟩ := q
  exact ⟨q0, q1, qP, kk_cl (s := U) (U := U.calling g mk a) rfl qK, qD⟩
theorem pp_nil {D : va_G} {cl : List vw_C} {H : Heap} : va_P D cl [] H := fun k q h => by simp at h
theorem dd_nil {A : Nat → Prop} : va_D A [] := ⟨fun i j p q h => by simp at h, fun k q h => by simp at h⟩
/-- behind a call that changes nothing old -/
theorem ro_keep {D : va_G} {cl : List vw_C} {ws : va_W} {H H1 : Heap} (hP : va_P D cl ws H) (hk : ∀ q : Nat, q < H.size → ¬ va_A [] H.size q → H1[q]? = H[q]?) : va_P D cl ws H1 := hP.kept (fun k q hq => by
  have hl := (hP k q hq).lt
  refine hk q.1 hl (fun h => ?_)
  rcases h with ⟨k2, e, h⟩ | h
  · simp at h
  · omega)
theorem cl_0 : (0 : Int32).toNatClampNeg = 0 := by decide
theorem cl_1 : (1 : Int32).toNatClampNeg = 1 := by decide
theorem cl_2 : (2 : Int32).toNatClampNeg = 2 := by decide
theorem cl_3 : (3 : Int32).toNatClampNeg = 3 := by decide
theorem cl_4 : (4 : Int32).toNatClampNeg = 4 := by decide
section MYW
variable {p : Program} {l : Launch} {e : Env} {R : Room} {s : State} {m : MethodId} {args : Array Value} {below : List Frame} {meth : Method} {c : Code} {H : Heap} {locs : List Loc} {cells slots : Nat} {Q : State → Prop}
variable {cc : ByteArray} {pc : Nat} {ls : Array Slot} {rest : List Value} {D : va_G} {cl : List vw_C} {A : Nat → Prop} {a : Nat} {tys : List (ClassId × FieldType)} {ws : va_W} {H0 : Heap}
theorem lv_topv {v v' : Value} (h : v = v') (k : W p l e R s m args below meth c H locs cells slots Q (F0 m pc ls (v' :: rest))) : W p l e R s m args below meth c H locs cells slots Q (F0 m pc ls (v :: rest)) := by
  subst h
  exact k
/-- a new array of a class that stands in the list of array classes -/
theorem nw_a (hexec : p.tables.exec = Jvm.exec) (hb : c.code = cc) {atype : ArrayType} {ty : FieldType} (harr : (Cond.arrayClass ty).before args s = true) (hty : newarray.typeOf atype = ty) (hK : va_K D cl tys s) (t0 : Nat) {c0 : ClassId} (ht0 : tys[t0]? = some (c0, ty)) (hob : ∀ C, ty ≠ .object C) (hP : va_P D cl ws H) (hD : va_D A ws) (hS : va_S A H0 H locs) (hA : ∀ q, H0.size ≤ q → A q)
    {n : Int32} {N' : Nat} {a0 : vp_A} (ha : ∀ cA : ClassId, vp_cell cA a0 = arrV cA N' (fun _ => defaultValue ty)) (hn : ¬ n < 0) (hN : n.toNatClampNeg = N') (hbytes : N' * componentBytes ty ≤ 536870912) (hcells : cells + 1 ≤ R.cells) (hslots : slots + N' ≤ R.slots) (hdg : decode cc pc = .ok (.newarray atype, 2))
    (kk : ∀ (q : Nat) (H1 : Heap), va_P D cl (ws ++ [(q, .inl (c0, a0))]) H1 → va_D A (ws ++ [(q, .inl (c0, a0))]) → va_S A H0 H1 locs →
      W p l e R s m args below meth c H1 locs (cells + 1) (slots + N') Q (F0 m (pc + 2) ls (.ref q :: rest))) : W p l e R s m args below meth c H locs cells slots Q (F0 m pc ls (.int n :: rest)) := by
  subst hty
  refine va_newa hexec hb harr rfl hK hP hD hS hA ha hn hN hbytes hcells hslots hdg (fun q cA H1 hK' hP' hD' hS' => ?_)
  have e1 : va_RA s cA (newarray.typeOf atype) := (hK'.2 tys.length (cA, newarray.typeOf atype) (by simp)).2
  have e0 : va_RA s c0 (newarray.typeOf atype) := (hK.2 t0 (c0, newarray.typeOf atype) ht0).2
  have e2 : cA = c0 := by
    cases atype <;> exact Option.some.inj (e1.symm.trans e0)
  subst e2
  exact kk q H1 hP' hD' hS'
theorem nw_q (hexec : p.tables.exec = Jvm.exec) (hb : c.code = cc) {own C : String} {index : Nat} (hown : s.vm.findClass own = some m.cls) (hclink : (Cond.classLink own index C).before args s = true) (hover : va_AO C s) (hK : va_K D cl tys s) (t0 : Nat) {c0 : ClassId} (ht0 : tys[t0]? = some (c0, .object C)) (hP : va_P D cl ws H) (hD : va_D A ws) (hS : va_S A H0 H locs) (hA : ∀ q, H0.size ≤ q → A q)
    {n : Int32} {N' : Nat} (hn : ¬ n < 0) (hN : n.toNatClampNeg = N') (hbytes : N' * 4 ≤ 536870912) (hcells : cells + 1 ≤ R.cells) (hslots : slots + N' ≤ R.slots) (hdg : decode cc pc = .ok (.anewarray index, 3))
    (kk : ∀ (q : Nat) (H1 : Heap), va_P D cl (ws ++ [(q, .inl (c0, N', .inr (.inr (.inr (.inr (fun _ => none))))))]) H1 → va_D A (ws ++ [(q, .inl (c0, N', .inr (.inr (.inr (.inr (fun _ => none))))))]) → va_S A H0 H1 locs →
      W p l e R s m args below meth c H1 locs (cells + 1) (slots + N') Q (F0 m (pc + 3) ls (.ref q :: rest))) : W p l e R s m args below meth c H locs cells slots Q (F0 m pc ls (.int n :: rest)) := by
  refine va_newq hexec hb hown hclink hover hK hP hD hS hA hn hN hbytes hcells hslots hdg (fun q cA H1 hK' hP' hD' hS' => ?_)
  obtain ⟨-, -, -, -, -, e1⟩ := (hK'.2 tys.length (cA, .object C) (by simp)).2
  obtain ⟨-, -, -, -, -, e0⟩ := (hK.2 t0 (c0, .object C) ht0).2
  have e2 : cA = c0 := Option.some.inj (e1.symm.trans e0)
  subst e2
  exact kk q H1 hP' hD' hS'
theorem pp_left {X Y : va_W} (h : va_P D cl (X ++ Y) H) : va_P D cl X H := fun k q hq => h k q (by
  have hl : k < X.length := (List.getElem?_eq_some_iff.mp hq).1
  rw [List.getElem?_append_left hl]
  exact hq)
theorem dd_left {X Y : va_W} (h : va_D A (X ++ Y)) : va_D A X := by
  have e : ∀ (k : Nat) (q : Nat × va_E), X[k]? = some q → (X ++ Y)[k]? = some q := fun k q hq => by
    have hl : k < X.length := (List.getElem?_eq_some_iff.mp hq).1
    rw [List.getElem?_append_left hl]
    exact hq
  exact ⟨fun i j p q hi hj => h.1 i j p q (e i p hi) (e j q hj), fun k q hk => h.2 k q (e k q hk)⟩
/-- new int[12][12]: nothing is told of its cells -/
theorem mn_a {cy : Nat → ClassId} (hexec : p.tables.exec = Jvm.exec) (hb : c.code = cc) {own : String} {index : Nat} (hown : s.vm.findClass own = some m.cls) (hclink : (Cond.classLink own index "[[I").before args s = true) (hK : kk_ D cy s) (harr : (Cond.arrayClass .int).before args s = true) (hP : va_P D vwCl ws H) (hD : va_D A ws) (hS : va_S A H0 H locs) (hA : ∀ q, H0.size ≤ q → A q)
    (hcells : cells + 13 ≤ R.cells) (hslots : slots + 156 ≤ R.slots) (hdg : decode cc pc = .ok (.multianewarray index 2, 4))
    (kk : ∀ (q : Nat) (H1 : Heap), va_P D vwCl ws H1 → va_D A ws → va_S A H0 H1 locs →
      W p l e R s m args below meth c H1 locs (cells + 1 + 12) (slots + 12 + 144) Q (F0 m (pc + 4) ls (.ref q :: rest))) : W p l e R s m args below meth c H locs cells slots Q (F0 m pc ls (.int 12 :: .int 12 :: rest)) := by
  have hcy : s.vm.findClass (FieldType.array .int).toString = some (cy 0) := (hK.1.2 0 (cy 0, .int) rfl).2
  refine va_mna (X := ws) (L := []) (f := fun _ => .inl (cy 0, (12, .inl (fun _ => 0)))) (ty := .int) (cy := cy 0) (N' := 12) (K' := 12) (z := (12, .inl (fun _ => 0))) hexec hb hown hclink (kk_aoa hK) harr hcy hK.1 (by simpa [va_pl] using hP) (by simpa [va_pl] using hD) hS hA (by decide) (by decide) (by decide) (by decide) (by decide) (by decide) (by decide) rfl rfl hcells hslots (fun c9 => ?_) hdg (fun q r cA H1 _ _ _ hP1 hD1 hS1 => ?_)
  · rw [vp_cell_i, ← arrV_new]
    rfl
  · exact kk q H1 (pp_left (pp_left hP1)) (dd_left (dd_left hD1)) hS1
end MYW
end
section
set_option maxHeartbeats 4000000 in
set_option maxRecDepth 100000 in
/-- CutAtlas$PlainKind() -/
theorem c_X6_init (l : Launch) (D : va_G) (cy : Nat → ClassId) (sz : Nat) (h0 : Nat) : Met l yX6_init wsX6_init ({ frames := 1, cells := 0, slots := 0, locals := 12 }) (va_Pc [.ref h0] (fun U => U.heap.size = sz ∧ va_P D vwCl [] U.heap ∧ kk_ D cy U ∧ va_D (fun _ => True) [])) (va_Qv (fun (_ : Unit) => True) (fun (_ : Unit) (_ : State) => True) (va_A [] sz)) 0 0 (va_A [] sz) := by
  refine Met.ofW (cc := cX6_init) (maxL := 1) (ret := none) (by decide) rfl ?_
  intro p e s m args below meth c s₁ B hml hv
  obtain ⟨rfl, hsz, hP, hK, hD0⟩ := hv
  have hx := B.exec
  have hb := B.bytes
  have hr := B.returns
  have hts := atoms_spec (ws := wsX6_init) B.pre
  have hown : s.vm.findClass RX6 = some m.cls := findClass_of_methodNamed B.named
  have hlocks := B.notSynchronized
  have hin : meth.name = "<init>" := (name_of_methodNamed B.named B.method).1
  subst hsz
  have hD : va_D (va_A [] s.heap.size) [] := dd_nil
  generalize hAe : va_A [] s.heap.size = A at hD ⊢
  have hA : ∀ q : Nat, s.heap.size ≤ q → A q := fun q h => by rw [← hAe]; exact Or.inr h
  have hS : va_S A s.heap s.heap [] := va_S.rf
  have hl := lv_entry ([.ref h0]) (n := 1) (Nat.le_of_ble_eq_true rfl)
  rw [lg_entry_eq]
  generalize (lg_sl ([.ref h0]) ++ List.replicate (1 - (lg_sl ([.ref h0])).length) Slot.unset).toArray = ls at hl ⊢
  have hl : lv_has ls 1 [(0, .ref h0)] := hl
  refine lv_aload_n hx hb dX6_init_0 rfl (lv_at hl 0 rfl) ?_
  refine W.objInit hx hb hown (hts (.methodLink RX6 3 objectInit) (by decide +kernel)) (hts (.instanceMethod objectInit) (by decide +kernel)) (hts (.code objectInit ⟨#[0xb1]⟩ 1 none) (by decide +kernel)) rfl (by rw [hml]; exact hl.1) rfl dX6_init_1 (Nat.le_of_ble_eq_true rfl) (Nat.le_of_ble_eq_true rfl) ?_
  refine W.eq (g2 := F0 m 4 ls []) rfl ?_
  exact W.vret hx hb hr (fun t ht hW => ⟨⟨(), rfl, trivial, trivial⟩, hS.F ht⟩) hS.2.2 dX6_init_4

set_option maxHeartbeats 4000000 in
set_option maxRecDepth 100000 in
/-- CutAtlas$OnewayKind() -/
theorem c_X5_init (l : Launch) (D : va_G) (cy : Nat → ClassId) (sz : Nat) (h0 : Nat) : Met l yX5_init wsX5_init ({ frames := 2, cells := 0, slots := 0, locals := 32 }) (va_Pc [.ref h0] (fun U => U.heap.size = sz ∧ va_P D vwCl [] U.heap ∧ kk_ D cy U ∧ va_D (fun _ => True) [])) (va_Qv (fun (_ : Unit) => True) (fun (_ : Unit) (_ : State) => True) (va_A [] sz)) 0 0 (va_A [] sz) := by
  refine Met.ofW (cc := cX5_init) (maxL := 1) (ret := none) (by decide) rfl ?_
  intro p e s m args below meth c s₁ B hml hv
  obtain ⟨rfl, hsz, hP, hK, hD0⟩ := hv
  have hx := B.exec
  have hb := B.bytes
  have hr := B.returns
  have hts := atoms_spec (ws := wsX5_init) B.pre
  have hown : s.vm.findClass RX5 = some m.cls := findClass_of_methodNamed B.named
  have hlocks := B.notSynchronized
  have hin : meth.name = "<init>" := (name_of_methodNamed B.named B.method).1
  subst hsz
  have hD : va_D (va_A [] s.heap.size) [] := dd_nil
  generalize hAe : va_A [] s.heap.size = A at hD ⊢
  have hA : ∀ q : Nat, s.heap.size ≤ q → A q := fun q h => by rw [← hAe]; exact Or.inr h
  have hS : va_S A s.heap s.heap [] := va_S.rf
  have hl := lv_entry ([.ref h0]) (n := 1) (Nat.le_of_ble_eq_true rfl)
  rw [lg_entry_eq]
  generalize (lg_sl ([.ref h0]) ++ List.replicate (1 - (lg_sl ([.ref h0])).length) Slot.unset).toArray = ls at hl ⊢
  have hl : lv_has ls 1 [(0, .ref h0)] := hl
  refine lv_aload_n hx hb dX5_init_0 rfl (lv_at hl 0 rfl) ?_
  have hPc := hP.sub (ws' := []) [] rfl
  have hDw : va_D (fun _ => True) [] := hD0.sub [] (by decide) rfl
  have hFc := va_free (wc := []) hD hS hA [] rfl
  refine va_callv (va_runIN (As := []) (rest := []) ⟨hx, hb, hml, hown, hts⟩ (c_X6_init l D cy s.heap.size h0) ⟨va_cnB 0 hts gX5_init_X6_init_n1 rfl rfl rfl (kk_nX5_1 hK) (hts (.initialized RX6) (by decide +kernel)) (by decide +kernel) ⟨Nat.le_of_ble_eq_true rfl, Nat.le_of_ble_eq_true rfl⟩, rfl, (hts (.instanceMethod yX6_init) (by decide +kernel))⟩ ⟨bl_, fun U hU hW => ⟨rfl, by rw [hU], by rw [hU]; exact hPc, kk_mv hW hK, hDw⟩⟩ rfl rfl hl.1 rfl (lv_room (Nat.le_of_ble_eq_true rfl)) dX5_init_1 ⟨Nat.le_of_ble_eq_true rfl, Nat.le_of_ble_eq_true rfl⟩) hS (fun q _ h => hFc q h) hFc (fun u t H locs ht hvm hw hB hz1 hk1 hS => ?_)
  have hP := ro_keep hP hk1
  have hP : va_P D vwCl [] H := hP
  exact W.vret hx hb hr (fun t ht hW => ⟨⟨(), rfl, trivial, trivial⟩, hS.F ht⟩) hS.2.2 dX5_init_4

set_option maxHeartbeats 4000000 in
set_option maxRecDepth 100000 in
/-- CutAtlas$StrongKind() -/
theorem c_X9_init (l : Launch) (D : va_G) (cy : Nat → ClassId) (sz : Nat) (h0 : Nat) : Met l yX9_init wsX9_init ({ frames := 2, cells := 0, slots := 0, locals := 32 }) (va_Pc [.ref h0] (fun U => U.heap.size = sz ∧ va_P D vwCl [] U.heap ∧ kk_ D cy U ∧ va_D (fun _ => True) [])) (va_Qv (fun (_ : Unit) => True) (fun (_ : Unit) (_ : State) => True) (va_A [] sz)) 0 0 (va_A [] sz) := by
  refine Met.ofW (cc := cX9_init) (maxL := 1) (ret := none) (by decide) rfl ?_
  intro p e s m args below meth c s₁ B hml hv
  obtain ⟨rfl, hsz, hP, hK, hD0⟩ := hv
  have hx := B.exec
  have hb := B.bytes
  have hr := B.returns
  have hts := atoms_spec (ws := wsX9_init) B.pre
  have hown : s.vm.findClass RX9 = some m.cls := findClass_of_methodNamed B.named
  have hlocks := B.notSynchronized
  have hin : meth.name = "<init>" := (name_of_methodNamed B.named B.method).1
  subst hsz
  have hD : va_D (va_A [] s.heap.size) [] := dd_nil
  generalize hAe : va_A [] s.heap.size = A at hD ⊢
  have hA : ∀ q : Nat, s.heap.size ≤ q → A q := fun q h => by rw [← hAe]; exact Or.inr h
  have hS : va_S A s.heap s.heap [] := va_S.rf
  have hl := lv_entry ([.ref h0]) (n := 1) (Nat.le_of_ble_eq_true rfl)
  rw [lg_entry_eq]
  generalize (lg_sl ([.ref h0]) ++ List.replicate (1 - (lg_sl ([.ref h0])).length) Slot.unset).toArray = ls at hl ⊢
  have hl : lv_has ls 1 [(0, .ref h0)] := hl
  refine lv_aload_n hx hb dX9_init_0 rfl (lv_at hl 0 rfl) ?_
  have hPc := hP.sub (ws' := []) [] rfl
  have hDw : va_D (fun _ => True) [] := hD0.sub [] (by decide) rfl
  have hFc := va_free (wc := []) hD hS hA [] rfl
  refine va_callv (va_runIN (As := []) (rest := []) ⟨hx, hb, hml, hown, hts⟩ (c_X6_init l D cy s.heap.size h0) ⟨va_cnB 0 hts gX9_init_X6_init_n3 rfl rfl rfl (kk_nX9_3 hK) (hts (.initialized RX6) (by decide +kernel)) (by decide +kernel) ⟨Nat.le_of_ble_eq_true rfl, Nat.le_of_ble_eq_true rfl⟩, rfl, (hts (.instanceMethod yX6_init) (by decide +kernel))⟩ ⟨bl_, fun U hU hW => ⟨rfl, by rw [hU], by rw [hU]; exact hPc, kk_mv hW hK, hDw⟩⟩ rfl rfl hl.1 rfl (lv_room (Nat.le_of_ble_eq_true rfl)) dX9_init_1 ⟨Nat.le_of_ble_eq_true rfl, Nat.le_of_ble_eq_true rfl⟩) hS (fun q _ h => hFc q h) hFc (fun u t H locs ht hvm hw hB hz1 hk1 hS => ?_)
  have hP := ro_keep hP hk1
  have hP : va_P D vwCl [] H := hP
  exact W.vret hx hb hr (fun t ht hW => ⟨⟨(), rfl, trivial, trivial⟩, hS.F ht⟩) hS.2.2 dX9_init_4

set_option maxHeartbeats 4000000 in
set_option maxRecDepth 100000 in
/-- CutAtlas$DearKind() -/
theorem c_X2_init (l : Launch) (D : va_G) (cy : Nat → ClassId) (sz : Nat) (h0 : Nat) : Met l yX2_init wsX2_init ({ frames := 2, cells := 0, slots := 0, locals := 32 }) (va_Pc [.ref h0] (fun U => U.heap.size = sz ∧ va_P D vwCl [] U.heap ∧ kk_ D cy U ∧ va_D (fun _ => True) [])) (va_Qv (fun (_ : Unit) => True) (fun (_ : Unit) (_ : State) => True) (va_A [] sz)) 0 0 (va_A [] sz) := by
  refine Met.ofW (cc := cX2_init) (maxL := 1) (ret := none) (by decide) rfl ?_
  intro p e s m args below meth c s₁ B hml hv
  obtain ⟨rfl, hsz, hP, hK, hD0⟩ := hv
  have hx := B.exec
  have hb := B.bytes
  have hr := B.returns
  have hts := atoms_spec (ws := wsX2_init) B.pre
  have hown : s.vm.findClass RX2 = some m.cls := findClass_of_methodNamed B.named
  have hlocks := B.notSynchronized
  have hin : meth.name = "<init>" := (name_of_methodNamed B.named B.method).1
  subst hsz
  have hD : va_D (va_A [] s.heap.size) [] := dd_nil
  generalize hAe : va_A [] s.heap.size = A at hD ⊢
  have hA : ∀ q : Nat, s.heap.size ≤ q → A q := fun q h => by rw [← hAe]; exact Or.inr h
  have hS : va_S A s.heap s.heap [] := va_S.rf
  have hl := lv_entry ([.ref h0]) (n := 1) (Nat.le_of_ble_eq_true rfl)
  rw [lg_entry_eq]
  generalize (lg_sl ([.ref h0]) ++ List.replicate (1 - (lg_sl ([.ref h0])).length) Slot.unset).toArray = ls at hl ⊢
  have hl : lv_has ls 1 [(0, .ref h0)] := hl
  refine lv_aload_n hx hb dX2_init_0 rfl (lv_at hl 0 rfl) ?_
  have hPc := hP.sub (ws' := []) [] rfl
  have hDw : va_D (fun _ => True) [] := hD0.sub [] (by decide) rfl
  have hFc := va_free (wc := []) hD hS hA [] rfl
  refine va_callv (va_runIN (As := []) (rest := []) ⟨hx, hb, hml, hown, hts⟩ (c_X6_init l D cy s.heap.size h0) ⟨va_cnB 0 hts gX2_init_X6_init_n1 rfl rfl rfl (kk_nX2_1 hK) (hts (.initialized RX6) (by decide +kernel)) (by decide +kernel) ⟨Nat.le_of_ble_eq_true rfl, Nat.le_of_ble_eq_true rfl⟩, rfl, (hts (.instanceMethod yX6_init) (by decide +kernel))⟩ ⟨bl_, fun U hU hW => ⟨rfl, by rw [hU], by rw [hU]; exact hPc, kk_mv hW hK, hDw⟩⟩ rfl rfl hl.1 rfl (lv_room (Nat.le_of_ble_eq_true rfl)) dX2_init_1 ⟨Nat.le_of_ble_eq_true rfl, Nat.le_of_ble_eq_true rfl⟩) hS (fun q _ h => hFc q h) hFc (fun u t H locs ht hvm hw hB hz1 hk1 hS => ?_)
  have hP := ro_keep hP hk1
  have hP : va_P D vwCl [] H := hP
  exact W.vret hx hb hr (fun t ht hW => ⟨⟨(), rfl, trivial, trivial⟩, hS.F ht⟩) hS.2.2 dX2_init_4

set_option maxHeartbeats 4000000 in
set_option maxRecDepth 100000 in
/-- CutAtlas$ShutKind() -/
theorem c_X8_init (l : Launch) (D : va_G) (cy : Nat → ClassId) (sz : Nat) (h0 : Nat) : Met l yX8_init wsX8_init ({ frames := 3, cells := 0, slots := 0, locals := 52 }) (va_Pc [.ref h0] (fun U => U.heap.size = sz ∧ va_P D vwCl [] U.heap ∧ kk_ D cy U ∧ va_D (fun _ => True) [])) (va_Qv (fun (_ : Unit) => True) (fun (_ : Unit) (_ : State) => True) (va_A [] sz)) 0 0 (va_A [] sz) := by
  refine Met.ofW (cc := cX8_init) (maxL := 1) (ret := none) (by decide) rfl ?_
  intro p e s m args below meth c s₁ B hml hv
  obtain ⟨rfl, hsz, hP, hK, hD0⟩ := hv
  have hx := B.exec
  have hb := B.bytes
  have hr := B.returns
  have hts := atoms_spec (ws := wsX8_init) B.pre
  have hown : s.vm.findClass RX8 = some m.cls := findClass_of_methodNamed B.named
  have hlocks := B.notSynchronized
  have hin : meth.name = "<init>" := (name_of_methodNamed B.named B.method).1
  subst hsz
  have hD : va_D (va_A [] s.heap.size) [] := dd_nil
  generalize hAe : va_A [] s.heap.size = A at hD ⊢
  have hA : ∀ q : Nat, s.heap.size ≤ q → A q := fun q h => by rw [← hAe]; exact Or.inr h
  have hS : va_S A s.heap s.heap [] := va_S.rf
  have hl := lv_entry ([.ref h0]) (n := 1) (Nat.le_of_ble_eq_true rfl)
  rw [lg_entry_eq]
  generalize (lg_sl ([.ref h0]) ++ List.replicate (1 - (lg_sl ([.ref h0])).length) Slot.unset).toArray = ls at hl ⊢
  have hl : lv_has ls 1 [(0, .ref h0)] := hl
  refine lv_aload_n hx hb dX8_init_0 rfl (lv_at hl 0 rfl) ?_
  have hPc := hP.sub (ws' := []) [] rfl
  have hDw : va_D (fun _ => True) [] := hD0.sub [] (by decide) rfl
  have hFc := va_free (wc := []) hD hS hA [] rfl
  refine va_callv (va_runIN (As := []) (rest := []) ⟨hx, hb, hml, hown, hts⟩ (c_X2_init l D cy s.heap.size h0) ⟨va_cnB 0 hts gX8_init_X2_init_n1 rfl rfl rfl (kk_nX8_1 hK) (hts (.initialized RX2) (by decide +kernel)) (by decide +kernel) ⟨Nat.le_of_ble_eq_true rfl, Nat.le_of_ble_eq_true rfl⟩, rfl, (hts (.instanceMethod yX2_init) (by decide +kernel))⟩ ⟨bl_, fun U hU hW => ⟨rfl, by rw [hU], by rw [hU]; exact hPc, kk_mv hW hK, hDw⟩⟩ rfl rfl hl.1 rfl (lv_room (Nat.le_of_ble_eq_true rfl)) dX8_init_1 ⟨Nat.le_of_ble_eq_true rfl, Nat.le_of_ble_eq_true rfl⟩) hS (fun q _ h => hFc q h) hFc (fun u t H locs ht hvm hw hB hz1 hk1 hS => ?_)
  have hP := ro_keep hP hk1
  have hP : va_P D vwCl [] H := hP
  exact W.vret hx hb hr (fun t ht hW => ⟨⟨(), rfl, trivial, trivial⟩, hS.F ht⟩) hS.2.2 dX8_init_4

set_option maxHeartbeats 4000000 in
set_option maxRecDepth 100000 in
/-- a new net -/
theorem c_X3_init (l : Launch) (D : va_G) (cy : Nat → ClassId) (sz : Nat) (h0 : Nat) : Met l yX3_init wsX3_init ({ frames := 1, cells := 5, slots := 200, locals := 12 }) (va_Pc [.ref h0] (fun U => U.heap.size = sz ∧ va_P D vwCl [(h0, .inr (3, [.int 0, .int 0, .null, .null, .null, .null, .null]))] U.heap ∧ kk_ D cy U ∧ va_D (fun _ => True) [(h0, .inr (3, [.int 0, .int 0, .null, .null, .null, .null, .null]))])) (va_Qv (fun (_ : Unit) => True) (fun (_ : Unit) (t : State) => ∃ (n1 : Nat), ∃ (n2 : Nat), ∃ (n3 : Nat), ∃ (n4 : Nat), ∃ (n5 : Nat), va_P D vwCl [(h0, .inr (3, [.int 0, .int 0, .ref n1, .ref n2, .ref n3, .ref n4, .ref n5])), (n1, .inl (cy 0, 40, .inl (fun _ => 0))), (n2, .inl (cy 0, 40, .inl (fun _ => 0))), (n3, .inl (cy 0, 40, .inl (fun _ => 0))), (n4, .inl (cy 0, 40, .inl (fun _ => 0))), (n5, .inl (cy 0, 40, .inl (fun _ => 0)))] t.heap ∧ va_D (va_A [(h0, .inr (3, [.int 0, .int 0, .null, .null, .null, .null, .null]))] sz) [(h0, .inr (3, [.int 0, .int 0, .ref n1, .ref n2, .ref n3, .ref n4, .ref n5])), (n1, .inl (cy 0, 40, .inl (fun _ => 0))), (n2, .inl (cy 0, 40, .inl (fun _ => 0))), (n3, .inl (cy 0, 40, .inl (fun _ => 0))), (n4, .inl (cy 0, 40, .inl (fun _ => 0))), (n5, .inl (cy 0, 40, .inl (fun _ => 0)))]) (va_A [(h0, .inr (3, [.int 0, .int 0, .null, .null, .null, .null, .null]))] sz)) 5 200 (va_A [(h0, .inr (3, [.int 0, .int 0, .null, .null, .null, .null, .null]))] sz) := by
  refine Met.ofW (cc := cX3_init) (maxL := 1) (ret := none) (by decide) rfl ?_
  intro p e s m args below meth c s₁ B hml hv
  obtain ⟨rfl, hsz, hP, hK, hD0⟩ := hv
  have hx := B.exec
  have hb := B.bytes
  have hr := B.returns
  have hts := atoms_spec (ws := wsX3_init) B.pre
  have hown : s.vm.findClass RX3 = some m.cls := findClass_of_methodNamed B.named
  have hlocks := B.notSynchronized
  have hin : meth.name = "<init>" := (name_of_methodNamed B.named B.method).1
  subst hsz
  have hD := hD0.self (sz := s.heap.size)
  generalize hAe : va_A [(h0, .inr (3, [.int 0, .int 0, .null, .null, .null, .null, .null]))] s.heap.size = A at hD ⊢
  have hA : ∀ q : Nat, s.heap.size ≤ q → A q := fun q h => by rw [← hAe]; exact Or.inr h
  have hS : va_S A s.heap s.heap [] := va_S.rf
  have hl := lv_entry ([.ref h0]) (n := 1) (Nat.le_of_ble_eq_true rfl)
  rw [lg_entry_eq]
  generalize (lg_sl ([.ref h0]) ++ List.replicate (1 - (lg_sl ([.ref h0])).length) Slot.unset).toArray = ls at hl ⊢
  have hl : lv_has ls 1 [(0, .ref h0)] := hl
  refine lv_aload_n hx hb dX3_init_0 rfl (lv_at hl 0 rfl) ?_
  refine W.objInit hx hb hown (hts (.methodLink RX3 3 objectInit) (by decide +kernel)) (hts (.instanceMethod objectInit) (by decide +kernel)) (hts (.code objectInit ⟨#[0xb1]⟩ 1 none) (by decide +kernel)) rfl (by rw [hml]; exact hl.1) rfl dX3_init_1 (Nat.le_of_ble_eq_true rfl) (Nat.le_of_ble_eq_true rfl) ?_
  refine W.eq (g2 := F0 m 4 ls []) rfl ?_
  refine lv_aload_n hx hb dX3_init_4 rfl (lv_at hl 0 rfl) ?_
  refine lv_iconst (v := 0) hx hb dX3_init_5 (by decide) ?_
  refine va_put (ci := 3) (v := .int 0) (ty := .int) (C := RX3) (T := TX3) (N := 7) hx hb hts (fun _ h => List.mem_cons_of_mem _ (List.mem_append_right _ h)) tyX3 tyX3_ok nmX3 hown hK.1 hP hD hS 0 rfl rfl 0 (by decide) (hts (.fieldLink RX3 9 "CutAtlas$Net" "places" "I") (by decide +kernel)) (fun _ h9 => h9) rfl (by decide +kernel) rfl rfl (Nat.le_of_ble_eq_true rfl) dX3_init_6 (fun H locs hP hD hS => ?_)
  have hP : va_P D vwCl [(h0, .inr (3, [.int 0, .int 0, .null, .null, .null, .null, .null]))] H := hP
  have hD : va_D A [(h0, .inr (3, [.int 0, .int 0, .null, .null, .null, .null, .null]))] := hD
  refine lv_aload_n hx hb dX3_init_9 rfl (lv_at hl 0 rfl) ?_
  refine lv_iconst (v := 0) hx hb dX3_init_10 (by decide) ?_
  refine va_put (ci := 3) (v := .int 0) (ty := .int) (C := RX3) (T := TX3) (N := 7) hx hb hts (fun _ h => List.mem_cons_of_mem _ (List.mem_append_right _ h)) tyX3 tyX3_ok nmX3 hown hK.1 hP hD hS 0 rfl rfl 1 (by decide) (hts (.fieldLink RX3 15 "CutAtlas$Net" "lines" "I") (by decide +kernel)) (fun _ h9 => h9) rfl (by decide +kernel) rfl rfl (Nat.le_of_ble_eq_true rfl) dX3_init_11 (fun H locs hP hD hS => ?_)
  have hP : va_P D vwCl [(h0, .inr (3, [.int 0, .int 0, .null, .null, .null, .null, .null]))] H := hP
  have hD : va_D A [(h0, .inr (3, [.int 0, .int 0, .null, .null, .null, .null, .null]))] := hD
  refine lv_aload_n hx hb dX3_init_14 rfl (lv_at hl 0 rfl) ?_
  refine lv_bipush (v := 40) hx hb dX3_init_15 (by decide) ?_
  refine nw_a (a0 := (40, .inl (fun _ => 0))) (ty := .int) hx hb (hts (.arrayClass .int) (by decide +kernel)) rfl hK.1 0 rfl (fun _ h => by cases h) hP hD hS hA (fun _ => rfl) (by decide) (by decide) (by decide) (Nat.le_of_ble_eq_true rfl) (Nat.le_of_ble_eq_true rfl) dX3_init_17 (fun q_1 H hP hD hS => ?_)
  have hP : va_P D vwCl [(h0, .inr (3, [.int 0, .int 0, .null, .null, .null, .null, .null])), (q_1, .inl (cy 0, 40, .inl (fun _ => 0)))] H := hP
  have hD : va_D A [(h0, .inr (3, [.int 0, .int 0, .null, .null, .null, .null, .null])), (q_1, .inl (cy 0, 40, .inl (fun _ => 0)))] := hD
  refine va_putF (ci := 3) (v := .ref q_1) (ty := (tyX3 2)) (C := RX3) (T := TX3) (N := 7) hx hb hts (fun _ h => List.mem_cons_of_mem _ (List.mem_append_right _ h)) tyX3 tyX3_ok nmX3 hown hK.1 hP hD hS 0 rfl rfl 2 (by decide) (hts (.fieldLink RX3 18 "CutAtlas$Net" "kinds" "[I") (by decide +kernel)) (fun _ h9 => h9) rfl hin rfl (by decide +kernel) rfl rfl (Nat.le_of_ble_eq_true rfl) dX3_init_19 (fun H locs hP hD hS => ?_)
  have hP : va_P D vwCl [(h0, .inr (3, [.int 0, .int 0, .ref q_1, .null, .null, .null, .null])), (q_1, .inl (cy 0, 40, .inl (fun _ => 0)))] H := hP
  have hD : va_D A [(h0, .inr (3, [.int 0, .int 0, .ref q_1, .null, .null, .null, .null])), (q_1, .inl (cy 0, 40, .inl (fun _ => 0)))] := hD
  refine lv_aload_n hx hb dX3_init_22 rfl (lv_at hl 0 rfl) ?_
  refine lv_bipush (v := 40) hx hb dX3_init_23 (by decide) ?_
  refine nw_a (a0 := (40, .inl (fun _ => 0))) (ty := .int) hx hb (hts (.arrayClass .int) (by decide +kernel)) rfl hK.1 0 rfl (fun _ h => by cases h) hP hD hS hA (fun _ => rfl) (by decide) (by decide) (by decide) (Nat.le_of_ble_eq_true rfl) (Nat.le_of_ble_eq_true rfl) dX3_init_25 (fun q_2 H hP hD hS => ?_)
  have hP : va_P D vwCl [(h0, .inr (3, [.int 0, .int 0, .ref q_1, .null, .null, .null, .null])), (q_1, .inl (cy 0, 40, .inl (fun _ => 0))), (q_2, .inl (cy 0, 40, .inl (fun _ => 0)))] H := hP
  have hD : va_D A [(h0, .inr (3, [.int 0, .int 0, .ref q_1, .null, .null, .null, .null])), (q_1, .inl (cy 0, 40, .inl (fun _ => 0))), (q_2, .inl (cy 0, 40, .inl (fun _ => 0)))] := hD
  refine va_putF (ci := 3) (v := .ref q_2) (ty := (tyX3 3)) (C := RX3) (T := TX3) (N := 7) hx hb hts (fun _ h => List.mem_cons_of_mem _ (List.mem_append_right _ h)) tyX3 tyX3_ok nmX3 hown hK.1 hP hD hS 0 rfl rfl 3 (by decide) (hts (.fieldLink RX3 22 "CutAtlas$Net" "starts" "[I") (by decide +kernel)) (fun _ h9 => h9) rfl hin rfl (by decide +kernel) rfl rfl (Nat.le_of_ble_eq_true rfl) dX3_init_27 (fun H locs hP hD hS => ?_)
  have hP : va_P D vwCl [(h0, .inr (3, [.int 0, .int 0, .ref q_1, .ref q_2, .null, .null, .null])), (q_1, .inl (cy 0, 40, .inl (fun _ => 0))), (q_2, .inl (cy 0, 40, .inl (fun _ => 0)))] H := hP
  have hD : va_D A [(h0, .inr (3, [.int 0, .int 0, .ref q_1, .ref q_2, .null, .null, .null])), (q_1, .inl (cy 0, 40, .inl (fun _ => 0))), (q_2, .inl (cy 0, 40, .inl (fun _ => 0)))] := hD
  refine lv_aload_n hx hb dX3_init_30 rfl (lv_at hl 0 rfl) ?_
  refine lv_bipush (v := 40) hx hb dX3_init_31 (by decide) ?_
  refine nw_a (a0 := (40, .inl (fun _ => 0))) (ty := .int) hx hb (hts (.arrayClass .int) (by decide +kernel)) rfl hK.1 0 rfl (fun _ h => by cases h) hP hD hS hA (fun _ => rfl) (by decide) (by decide) (by decide) (Nat.le_of_ble_eq_true rfl) (Nat.le_of_ble_eq_true rfl) dX3_init_33 (fun q_3 H hP hD hS => ?_)
  have hP : va_P D vwCl [(h0, .inr (3, [.int 0, .int 0, .ref q_1, .ref q_2, .null, .null, .null])), (q_1, .inl (cy 0, 40, .inl (fun _ => 0))), (q_2, .inl (cy 0, 40, .inl (fun _ => 0))), (q_3, .inl (cy 0, 40, .inl (fun _ => 0)))] H := hP
  have hD : va_D A [(h0, .inr (3, [.int 0, .int 0, .ref q_1, .ref q_2, .null, .null, .null])), (q_1, .inl (cy 0, 40, .inl (fun _ => 0))), (q_2, .inl (cy 0, 40, .inl (fun _ => 0))), (q_3, .inl (cy 0, 40, .inl (fun _ => 0)))] := hD
  refine va_putF (ci := 3) (v := .ref q_3) (ty := (tyX3 4)) (C := RX3) (T := TX3) (N := 7) hx hb hts (fun _ h => List.mem_cons_of_mem _ (List.mem_append_right _ h)) tyX3 tyX3_ok nmX3 hown hK.1 hP hD hS 0 rfl rfl 4 (by decide) (hts (.fieldLink RX3 25 "CutAtlas$Net" "ends" "[I") (by decide +kernel)) (fun _ h9 => h9) rfl hin rfl (by decide +kernel) rfl rfl (Nat.le_of_ble_eq_true rfl) dX3_init_35 (fun H locs hP hD hS => ?_)
  have hP : va_P D vwCl [(h0, .inr (3, [.int 0, .int 0, .ref q_1, .ref q_2, .ref q_3, .null, .null])), (q_1, .inl (cy 0, 40, .inl (fun _ => 0))), (q_2, .inl (cy 0, 40, .inl (fun _ => 0))), (q_3, .inl (cy 0, 40, .inl (fun _ => 0)))] H := hP
  have hD : va_D A [(h0, .inr (3, [.int 0, .int 0, .ref q_1, .ref q_2, .ref q_3, .null, .null])), (q_1, .inl (cy 0, 40, .inl (fun _ => 0))), (q_2, .inl (cy 0, 40, .inl (fun _ => 0))), (q_3, .inl (cy 0, 40, .inl (fun _ => 0)))] := hD
  refine lv_aload_n hx hb dX3_init_38 rfl (lv_at hl 0 rfl) ?_
  refine lv_bipush (v := 40) hx hb dX3_init_39 (by decide) ?_
  refine nw_a (a0 := (40, .inl (fun _ => 0))) (ty := .int) hx hb (hts (.arrayClass .int) (by decide +kernel)) rfl hK.1 0 rfl (fun _ h => by cases h) hP hD hS hA (fun _ => rfl) (by decide) (by decide) (by decide) (Nat.le_of_ble_eq_true rfl) (Nat.le_of_ble_eq_true rfl) dX3_init_41 (fun q_4 H hP hD hS => ?_)
  have hP : va_P D vwCl [(h0, .inr (3, [.int 0, .int 0, .ref q_1, .ref q_2, .ref q_3, .null, .null])), (q_1, .inl (cy 0, 40, .inl (fun _ => 0))), (q_2, .inl (cy 0, 40, .inl (fun _ => 0))), (q_3, .inl (cy 0, 40, .inl (fun _ => 0))), (q_4, .inl (cy 0, 40, .inl (fun _ => 0)))] H := hP
  have hD : va_D A [(h0, .inr (3, [.int 0, .int 0, .ref q_1, .ref q_2, .ref q_3, .null, .null])), (q_1, .inl (cy 0, 40, .inl (fun _ => 0))), (q_2, .inl (cy 0, 40, .inl (fun _ => 0))), (q_3, .inl (cy 0, 40, .inl (fun _ => 0))), (q_4, .inl (cy 0, 40, .inl (fun _ => 0)))] := hD
  refine va_putF (ci := 3) (v := .ref q_4) (ty := (tyX3 5)) (C := RX3) (T := TX3) (N := 7) hx hb hts (fun _ h => List.mem_cons_of_mem _ (List.mem_append_right _ h)) tyX3 tyX3_ok nmX3 hown hK.1 hP hD hS 0 rfl rfl 5 (by decide) (hts (.fieldLink RX3 28 "CutAtlas$Net" "widths" "[I") (by decide +kernel)) (fun _ h9 => h9) rfl hin rfl (by decide +kernel) rfl rfl (Nat.le_of_ble_eq_true rfl) dX3_init_43 (fun H locs hP hD hS => ?_)
  have hP : va_P D vwCl [(h0, .inr (3, [.int 0, .int 0, .ref q_1, .ref q_2, .ref q_3, .ref q_4, .null])), (q_1, .inl (cy 0, 40, .inl (fun _ => 0))), (q_2, .inl (cy 0, 40, .inl (fun _ => 0))), (q_3, .inl (cy 0, 40, .inl (fun _ => 0))), (q_4, .inl (cy 0, 40, .inl (fun _ => 0)))] H := hP
  have hD : va_D A [(h0, .inr (3, [.int 0, .int 0, .ref q_1, .ref q_2, .ref q_3, .ref q_4, .null])), (q_1, .inl (cy 0, 40, .inl (fun _ => 0))), (q_2, .inl (cy 0, 40, .inl (fun _ => 0))), (q_3, .inl (cy 0, 40, .inl (fun _ => 0))), (q_4, .inl (cy 0, 40, .inl (fun _ => 0)))] := hD
  refine lv_aload_n hx hb dX3_init_46 rfl (lv_at hl 0 rfl) ?_
  refine lv_bipush (v := 40) hx hb dX3_init_47 (by decide) ?_
  refine nw_a (a0 := (40, .inl (fun _ => 0))) (ty := .int) hx hb (hts (.arrayClass .int) (by decide +kernel)) rfl hK.1 0 rfl (fun _ h => by cases h) hP hD hS hA (fun _ => rfl) (by decide) (by decide) (by decide) (Nat.le_of_ble_eq_true rfl) (Nat.le_of_ble_eq_true rfl) dX3_init_49 (fun q_5 H hP hD hS => ?_)
  have hP : va_P D vwCl [(h0, .inr (3, [.int 0, .int 0, .ref q_1, .ref q_2, .ref q_3, .ref q_4, .null])), (q_1, .inl (cy 0, 40, .inl (fun _ => 0))), (q_2, .inl (cy 0, 40, .inl (fun _ => 0))), (q_3, .inl (cy 0, 40, .inl (fun _ => 0))), (q_4, .inl (cy 0, 40, .inl (fun _ => 0))), (q_5, .inl (cy 0, 40, .inl (fun _ => 0)))] H := hP
  have hD : va_D A [(h0, .inr (3, [.int 0, .int 0, .ref q_1, .ref q_2, .ref q_3, .ref q_4, .null])), (q_1, .inl (cy 0, 40, .inl (fun _ => 0))), (q_2, .inl (cy 0, 40, .inl (fun _ => 0))), (q_3, .inl (cy 0, 40, .inl (fun _ => 0))), (q_4, .inl (cy 0, 40, .inl (fun _ => 0))), (q_5, .inl (cy 0, 40, .inl (fun _ => 0)))] := hD
  refine va_putF (ci := 3) (v := .ref q_5) (ty := (tyX3 6)) (C := RX3) (T := TX3) (N := 7) hx hb hts (fun _ h => List.mem_cons_of_mem _ (List.mem_append_right _ h)) tyX3 tyX3_ok nmX3 hown hK.1 hP hD hS 0 rfl rfl 6 (by decide) (hts (.fieldLink RX3 31 "CutAtlas$Net" "prices" "[I") (by decide +kernel)) (fun _ h9 => h9) rfl hin rfl (by decide +kernel) rfl rfl (Nat.le_of_ble_eq_true rfl) dX3_init_51 (fun H locs hP hD hS => ?_)
  have hP : va_P D vwCl [(h0, .inr (3, [.int 0, .int 0, .ref q_1, .ref q_2, .ref q_3, .ref q_4, .ref q_5])), (q_1, .inl (cy 0, 40, .inl (fun _ => 0))), (q_2, .inl (cy 0, 40, .inl (fun _ => 0))), (q_3, .inl (cy 0, 40, .inl (fun _ => 0))), (q_4, .inl (cy 0, 40, .inl (fun _ => 0))), (q_5, .inl (cy 0, 40, .inl (fun _ => 0)))] H := hP
  have hD : va_D A [(h0, .inr (3, [.int 0, .int 0, .ref q_1, .ref q_2, .ref q_3, .ref q_4, .ref q_5])), (q_1, .inl (cy 0, 40, .inl (fun _ => 0))), (q_2, .inl (cy 0, 40, .inl (fun _ => 0))), (q_3, .inl (cy 0, 40, .inl (fun _ => 0))), (q_4, .inl (cy 0, 40, .inl (fun _ => 0))), (q_5, .inl (cy 0, 40, .inl (fun _ => 0)))] := hD
  have hP9 := hP.sub (ws' := [(h0, .inr (3, [.int 0, .int 0, .ref q_1, .ref q_2, .ref q_3, .ref q_4, .ref q_5])), (q_1, .inl (cy 0, 40, .inl (fun _ => 0))), (q_2, .inl (cy 0, 40, .inl (fun _ => 0))), (q_3, .inl (cy 0, 40, .inl (fun _ => 0))), (q_4, .inl (cy 0, 40, .inl (fun _ => 0))), (q_5, .inl (cy 0, 40, .inl (fun _ => 0)))]) [0, 1, 2, 3, 4, 5] rfl
  have hD9 := hD.sub (ws' := [(h0, .inr (3, [.int 0, .int 0, .ref q_1, .ref q_2, .ref q_3, .ref q_4, .ref q_5])), (q_1, .inl (cy 0, 40, .inl (fun _ => 0))), (q_2, .inl (cy 0, 40, .inl (fun _ => 0))), (q_3, .inl (cy 0, 40, .inl (fun _ => 0))), (q_4, .inl (cy 0, 40, .inl (fun _ => 0))), (q_5, .inl (cy 0, 40, .inl (fun _ => 0)))]) [0, 1, 2, 3, 4, 5] (by decide) rfl
  exact W.vret hx hb hr (fun t ht hW => ⟨⟨(), rfl, trivial, q_1, q_2, q_3, q_4, q_5, by rw [ht]; exact hP9, hD9⟩, hS.F ht⟩) hS.2.2 dX3_init_54

set_option maxHeartbeats 4000000 in
set_option maxRecDepth 100000 in
/-- Current(net, kinds) -/
theorem c_X0_init (l : Launch) (D : va_G) (cy : Nat → ClassId) (sz : Nat) (h0 : Nat) (x1 : Nat) (x2 : Nat) : Met l yX0_init wsX0_init ({ frames := 1, cells := 31, slots := 456, locals := 12 }) (va_Pc [.ref h0, .ref x1, .ref x2] (fun U => U.heap.size = sz ∧ va_P D vwCl [(h0, .inr (0, [.null, .null, .null, .null, .null, .null, .null, .null, .null]))] U.heap ∧ kk_ D cy U ∧ va_D (fun _ => True) [(h0, .inr (0, [.null, .null, .null, .null, .null, .null, .null, .null, .null]))])) (va_Qv (fun (_ : Unit) => True) (fun (_ : Unit) (_ : State) => True) (va_A [(h0, .inr (0, [.null, .null, .null, .null, .null, .null, .null, .null, .null]))] sz)) 31 456 (va_A [(h0, .inr (0, [.null, .null, .null, .null, .null, .null, .null, .null, .null]))] sz) := by
  refine Met.ofW (cc := cX0_init) (maxL := 3) (ret := none) (by decide) rfl ?_
  intro p e s m args below meth c s₁ B hml hv
  obtain ⟨rfl, hsz, hP, hK, hD0⟩ := hv
  have hx := B.exec
  have hb := B.bytes
  have hr := B.returns
  have hts := atoms_spec (ws := wsX0_init) B.pre
  have hown : s.vm.findClass RX0 = some m.cls := findClass_of_methodNamed B.named
  have hlocks := B.notSynchronized
  have hin : meth.name = "<init>" := (name_of_methodNamed B.named B.method).1
  subst hsz
  have hD := hD0.self (sz := s.heap.size)
  generalize hAe : va_A [(h0, .inr (0, [.null, .null, .null, .null, .null, .null, .null, .null, .null]))] s.heap.size = A at hD ⊢
  have hA : ∀ q : Nat, s.heap.size ≤ q → A q := fun q h => by rw [← hAe]; exact Or.inr h
  have hS : va_S A s.heap s.heap [] := va_S.rf
  have hl := lv_entry ([.ref h0, .ref x1, .ref x2]) (n := 3) (Nat.le_of_ble_eq_true rfl)
  rw [lg_entry_eq]
  generalize (lg_sl ([.ref h0, .ref x1, .ref x2]) ++ List.replicate (3 - (lg_sl ([.ref h0, .ref x1, .ref x2])).length) Slot.unset).toArray = ls at hl ⊢
  have hl : lv_has ls 3 [(0, .ref h0), (1, .ref x1), (2, .ref x2)] := hl
  refine lv_aload_n hx hb dX0_init_0 rfl (lv_at hl 0 rfl) ?_
  refine W.objInit hx hb hown (hts (.methodLink RX0 3 objectInit) (by decide +kernel)) (hts (.instanceMethod objectInit) (by decide +kernel)) (hts (.code objectInit ⟨#[0xb1]⟩ 1 none) (by decide +kernel)) rfl (by rw [hml]; exact hl.1) rfl dX0_init_1 (Nat.le_of_ble_eq_true rfl) (Nat.le_of_ble_eq_true rfl) ?_
  refine W.eq (g2 := F0 m 4 ls []) rfl ?_
  refine lv_aload_n hx hb dX0_init_4 rfl (lv_at hl 0 rfl) ?_
  refine lv_bipush (v := 12) hx hb dX0_init_5 (by decide) ?_
  refine lv_bipush (v := 12) hx hb dX0_init_7 (by decide) ?_
  refine mn_a hx hb hown (hts (.classLink RX0 9 "[[I") (by decide +kernel)) hK (hts (.arrayClass .int) (by decide +kernel)) hP hD hS hA (Nat.le_of_ble_eq_true rfl) (Nat.le_of_ble_eq_true rfl) dX0_init_9 (fun q_1 H hP hD hS => ?_)
  have hP : va_P D vwCl [(h0, .inr (0, [.null, .null, .null, .null, .null, .null, .null, .null, .null]))] H := hP
  have hD : va_D A [(h0, .inr (0, [.null, .null, .null, .null, .null, .null, .null, .null, .null]))] := hD
  refine va_putF (ci := 0) (v := .ref q_1) (ty := (tyX0 2)) (C := RX0) (T := TX0) (N := 9) hx hb hts (fun _ h => List.mem_cons_of_mem _ (List.mem_append_right _ h)) tyX0 tyX0_ok nmX0 hown hK.1 hP hD hS 0 rfl rfl 2 (by decide) (hts (.fieldLink RX0 11 "CutAtlas$Current" "lets" "[[I") (by decide +kernel)) (fun _ h9 => h9) rfl hin rfl (by decide +kernel) rfl rfl (Nat.le_of_ble_eq_true rfl) dX0_init_13 (fun H locs hP hD hS => ?_)
  have hP : va_P D vwCl [(h0, .inr (0, [.null, .null, .ref q_1, .null, .null, .null, .null, .null, .null]))] H := hP
  have hD : va_D A [(h0, .inr (0, [.null, .null, .ref q_1, .null, .null, .null, .null, .null, .null]))] := hD
  refine lv_aload_n hx hb dX0_init_16 rfl (lv_at hl 0 rfl) ?_
  refine lv_bipush (v := 12) hx hb dX0_init_17 (by decide) ?_
  refine lv_bipush (v := 12) hx hb dX0_init_19 (by decide) ?_
  refine mn_a hx hb hown (hts (.classLink RX0 9 "[[I") (by decide +kernel)) hK (hts (.arrayClass .int) (by decide +kernel)) hP hD hS hA (Nat.le_of_ble_eq_true rfl) (Nat.le_of_ble_eq_true rfl) dX0_init_21 (fun q_2 H hP hD hS => ?_)
  have hP : va_P D vwCl [(h0, .inr (0, [.null, .null, .ref q_1, .null, .null, .null, .null, .null, .null]))] H := hP
  have hD : va_D A [(h0, .inr (0, [.null, .null, .ref q_1, .null, .null, .null, .null, .null, .null]))] := hD
  refine va_putF (ci := 0) (v := .ref q_2) (ty := (tyX0 3)) (C := RX0) (T := TX0) (N := 9) hx hb hts (fun _ h => List.mem_cons_of_mem _ (List.mem_append_right _ h)) tyX0 tyX0_ok nmX0 hown hK.1 hP hD hS 0 rfl rfl 3 (by decide) (hts (.fieldLink RX0 16 "CutAtlas$Current" "room" "[[I") (by decide +kernel)) (fun _ h9 => h9) rfl hin rfl (by decide +kernel) rfl rfl (Nat.le_of_ble_eq_true rfl) dX0_init_25 (fun H locs hP hD hS => ?_)
  have hP : va_P D vwCl [(h0, .inr (0, [.null, .null, .ref q_1, .ref q_2, .null, .null, .null, .null, .null]))] H := hP
  have hD : va_D A [(h0, .inr (0, [.null, .null, .ref q_1, .ref q_2, .null, .null, .null, .null, .null]))] := hD
  refine lv_aload_n hx hb dX0_init_28 rfl (lv_at hl 0 rfl) ?_
  refine lv_bipush (v := 40) hx hb dX0_init_29 (by decide) ?_
  refine nw_a (a0 := (40, .inl (fun _ => 0))) (ty := .int) hx hb (hts (.arrayClass .int) (by decide +kernel)) rfl hK.1 0 rfl (fun _ h => by cases h) hP hD hS hA (fun _ => rfl) (by decide) (by decide) (by decide) (Nat.le_of_ble_eq_true rfl) (Nat.le_of_ble_eq_true rfl) dX0_init_31 (fun q_3 H hP hD hS => ?_)
  have hP : va_P D vwCl [(h0, .inr (0, [.null, .null, .ref q_1, .ref q_2, .null, .null, .null, .null, .null])), (q_3, .inl (cy 0, 40, .inl (fun _ => 0)))] H := hP
  have hD : va_D A [(h0, .inr (0, [.null, .null, .ref q_1, .ref q_2, .null, .null, .null, .null, .null])), (q_3, .inl (cy 0, 40, .inl (fun _ => 0)))] := hD
  refine va_putF (ci := 0) (v := .ref q_3) (ty := (tyX0 4)) (C := RX0) (T := TX0) (N := 9) hx hb hts (fun _ h => List.mem_cons_of_mem _ (List.mem_append_right _ h)) tyX0 tyX0_ok nmX0 hown hK.1 hP hD hS 0 rfl rfl 4 (by decide) (hts (.fieldLink RX0 19 "CutAtlas$Current" "flowing" "[I") (by decide +kernel)) (fun _ h9 => h9) rfl hin rfl (by decide +kernel) rfl rfl (Nat.le_of_ble_eq_true rfl) dX0_init_33 (fun H locs hP hD hS => ?_)
  have hP : va_P D vwCl [(h0, .inr (0, [.null, .null, .ref q_1, .ref q_2, .ref q_3, .null, .null, .null, .null])), (q_3, .inl (cy 0, 40, .inl (fun _ => 0)))] H := hP
  have hD : va_D A [(h0, .inr (0, [.null, .null, .ref q_1, .ref q_2, .ref q_3, .null, .null, .null, .null])), (q_3, .inl (cy 0, 40, .inl (fun _ => 0)))] := hD
  refine lv_aload_n hx hb dX0_init_36 rfl (lv_at hl 0 rfl) ?_
  refine lv_bipush (v := 40) hx hb dX0_init_37 (by decide) ?_
  refine nw_a (a0 := (40, .inl (fun _ => 0))) (ty := .int) hx hb (hts (.arrayClass .int) (by decide +kernel)) rfl hK.1 0 rfl (fun _ h => by cases h) hP hD hS hA (fun _ => rfl) (by decide) (by decide) (by decide) (Nat.le_of_ble_eq_true rfl) (Nat.le_of_ble_eq_true rfl) dX0_init_39 (fun q_4 H hP hD hS => ?_)
  have hP : va_P D vwCl [(h0, .inr (0, [.null, .null, .ref q_1, .ref q_2, .ref q_3, .null, .null, .null, .null])), (q_3, .inl (cy 0, 40, .inl (fun _ => 0))), (q_4, .inl (cy 0, 40, .inl (fun _ => 0)))] H := hP
  have hD : va_D A [(h0, .inr (0, [.null, .null, .ref q_1, .ref q_2, .ref q_3, .null, .null, .null, .null])), (q_3, .inl (cy 0, 40, .inl (fun _ => 0))), (q_4, .inl (cy 0, 40, .inl (fun _ => 0)))] := hD
  refine va_putF (ci := 0) (v := .ref q_4) (ty := (tyX0 5)) (C := RX0) (T := TX0) (N := 9) hx hb hts (fun _ h => List.mem_cons_of_mem _ (List.mem_append_right _ h)) tyX0 tyX0_ok nmX0 hown hK.1 hP hD hS 0 rfl rfl 5 (by decide) (hts (.fieldLink RX0 23 "CutAtlas$Current" "letsForth" "[I") (by decide +kernel)) (fun _ h9 => h9) rfl hin rfl (by decide +kernel) rfl rfl (Nat.le_of_ble_eq_true rfl) dX0_init_41 (fun H locs hP hD hS => ?_)
  have hP : va_P D vwCl [(h0, .inr (0, [.null, .null, .ref q_1, .ref q_2, .ref q_3, .ref q_4, .null, .null, .null])), (q_3, .inl (cy 0, 40, .inl (fun _ => 0))), (q_4, .inl (cy 0, 40, .inl (fun _ => 0)))] H := hP
  have hD : va_D A [(h0, .inr (0, [.null, .null, .ref q_1, .ref q_2, .ref q_3, .ref q_4, .null, .null, .null])), (q_3, .inl (cy 0, 40, .inl (fun _ => 0))), (q_4, .inl (cy 0, 40, .inl (fun _ => 0)))] := hD
  refine lv_aload_n hx hb dX0_init_44 rfl (lv_at hl 0 rfl) ?_
  refine lv_bipush (v := 40) hx hb dX0_init_45 (by decide) ?_
  refine nw_a (a0 := (40, .inl (fun _ => 0))) (ty := .int) hx hb (hts (.arrayClass .int) (by decide +kernel)) rfl hK.1 0 rfl (fun _ h => by cases h) hP hD hS hA (fun _ => rfl) (by decide) (by decide) (by decide) (Nat.le_of_ble_eq_true rfl) (Nat.le_of_ble_eq_true rfl) dX0_init_47 (fun q_5 H hP hD hS => ?_)
  have hP : va_P D vwCl [(h0, .inr (0, [.null, .null, .ref q_1, .ref q_2, .ref q_3, .ref q_4, .null, .null, .null])), (q_3, .inl (cy 0, 40, .inl (fun _ => 0))), (q_4, .inl (cy 0, 40, .inl (fun _ => 0))), (q_5, .inl (cy 0, 40, .inl (fun _ => 0)))] H := hP
  have hD : va_D A [(h0, .inr (0, [.null, .null, .ref q_1, .ref q_2, .ref q_3, .ref q_4, .null, .null, .null])), (q_3, .inl (cy 0, 40, .inl (fun _ => 0))), (q_4, .inl (cy 0, 40, .inl (fun _ => 0))), (q_5, .inl (cy 0, 40, .inl (fun _ => 0)))] := hD
  refine va_putF (ci := 0) (v := .ref q_5) (ty := (tyX0 6)) (C := RX0) (T := TX0) (N := 9) hx hb hts (fun _ h => List.mem_cons_of_mem _ (List.mem_append_right _ h)) tyX0 tyX0_ok nmX0 hown hK.1 hP hD hS 0 rfl rfl 6 (by decide) (hts (.fieldLink RX0 26 "CutAtlas$Current" "letsBack" "[I") (by decide +kernel)) (fun _ h9 => h9) rfl hin rfl (by decide +kernel) rfl rfl (Nat.le_of_ble_eq_true rfl) dX0_init_49 (fun H locs hP hD hS => ?_)
  have hP : va_P D vwCl [(h0, .inr (0, [.null, .null, .ref q_1, .ref q_2, .ref q_3, .ref q_4, .ref q_5, .null, .null])), (q_3, .inl (cy 0, 40, .inl (fun _ => 0))), (q_4, .inl (cy 0, 40, .inl (fun _ => 0))), (q_5, .inl (cy 0, 40, .inl (fun _ => 0)))] H := hP
  have hD : va_D A [(h0, .inr (0, [.null, .null, .ref q_1, .ref q_2, .ref q_3, .ref q_4, .ref q_5, .null, .null])), (q_3, .inl (cy 0, 40, .inl (fun _ => 0))), (q_4, .inl (cy 0, 40, .inl (fun _ => 0))), (q_5, .inl (cy 0, 40, .inl (fun _ => 0)))] := hD
  refine lv_aload_n hx hb dX0_init_52 rfl (lv_at hl 0 rfl) ?_
  refine lv_bipush (v := 12) hx hb dX0_init_53 (by decide) ?_
  refine nw_a (a0 := (12, .inl (fun _ => 0))) (ty := .int) hx hb (hts (.arrayClass .int) (by decide +kernel)) rfl hK.1 0 rfl (fun _ h => by cases h) hP hD hS hA (fun _ => rfl) (by decide) (by decide) (by decide) (Nat.le_of_ble_eq_true rfl) (Nat.le_of_ble_eq_true rfl) dX0_init_55 (fun q_6 H hP hD hS => ?_)
  have hP : va_P D vwCl [(h0, .inr (0, [.null, .null, .ref q_1, .ref q_2, .ref q_3, .ref q_4, .ref q_5, .null, .null])), (q_3, .inl (cy 0, 40, .inl (fun _ => 0))), (q_4, .inl (cy 0, 40, .inl (fun _ => 0))), (q_5, .inl (cy 0, 40, .inl (fun _ => 0))), (q_6, .inl (cy 0, 12, .inl (fun _ => 0)))] H := hP
  have hD : va_D A [(h0, .inr (0, [.null, .null, .ref q_1, .ref q_2, .ref q_3, .ref q_4, .ref q_5, .null, .null])), (q_3, .inl (cy 0, 40, .inl (fun _ => 0))), (q_4, .inl (cy 0, 40, .inl (fun _ => 0))), (q_5, .inl (cy 0, 40, .inl (fun _ => 0))), (q_6, .inl (cy 0, 12, .inl (fun _ => 0)))] := hD
  refine va_putF (ci := 0) (v := .ref q_6) (ty := (tyX0 7)) (C := RX0) (T := TX0) (N := 9) hx hb hts (fun _ h => List.mem_cons_of_mem _ (List.mem_append_right _ h)) tyX0 tyX0_ok nmX0 hown hK.1 hP hD hS 0 rfl rfl 7 (by decide) (hts (.fieldLink RX0 29 "CutAtlas$Current" "queue" "[I") (by decide +kernel)) (fun _ h9 => h9) rfl hin rfl (by decide +kernel) rfl rfl (Nat.le_of_ble_eq_true rfl) dX0_init_57 (fun H locs hP hD hS => ?_)
  have hP : va_P D vwCl [(h0, .inr (0, [.null, .null, .ref q_1, .ref q_2, .ref q_3, .ref q_4, .ref q_5, .ref q_6, .null])), (q_3, .inl (cy 0, 40, .inl (fun _ => 0))), (q_4, .inl (cy 0, 40, .inl (fun _ => 0))), (q_5, .inl (cy 0, 40, .inl (fun _ => 0))), (q_6, .inl (cy 0, 12, .inl (fun _ => 0)))] H := hP
  have hD : va_D A [(h0, .inr (0, [.null, .null, .ref q_1, .ref q_2, .ref q_3, .ref q_4, .ref q_5, .ref q_6, .null])), (q_3, .inl (cy 0, 40, .inl (fun _ => 0))), (q_4, .inl (cy 0, 40, .inl (fun _ => 0))), (q_5, .inl (cy 0, 40, .inl (fun _ => 0))), (q_6, .inl (cy 0, 12, .inl (fun _ => 0)))] := hD
  refine lv_aload_n hx hb dX0_init_60 rfl (lv_at hl 0 rfl) ?_
  refine lv_bipush (v := 12) hx hb dX0_init_61 (by decide) ?_
  refine nw_a (a0 := (12, .inl (fun _ => 0))) (ty := .int) hx hb (hts (.arrayClass .int) (by decide +kernel)) rfl hK.1 0 rfl (fun _ h => by cases h) hP hD hS hA (fun _ => rfl) (by decide) (by decide) (by decide) (Nat.le_of_ble_eq_true rfl) (Nat.le_of_ble_eq_true rfl) dX0_init_63 (fun q_7 H hP hD hS => ?_)
  have hP : va_P D vwCl [(h0, .inr (0, [.null, .null, .ref q_1, .ref q_2, .ref q_3, .ref q_4, .ref q_5, .ref q_6, .null])), (q_3, .inl (cy 0, 40, .inl (fun _ => 0))), (q_4, .inl (cy 0, 40, .inl (fun _ => 0))), (q_5, .inl (cy 0, 40, .inl (fun _ => 0))), (q_6, .inl (cy 0, 12, .inl (fun _ => 0))), (q_7, .inl (cy 0, 12, .inl (fun _ => 0)))] H := hP
  have hD : va_D A [(h0, .inr (0, [.null, .null, .ref q_1, .ref q_2, .ref q_3, .ref q_4, .ref q_5, .ref q_6, .null])), (q_3, .inl (cy 0, 40, .inl (fun _ => 0))), (q_4, .inl (cy 0, 40, .inl (fun _ => 0))), (q_5, .inl (cy 0, 40, .inl (fun _ => 0))), (q_6, .inl (cy 0, 12, .inl (fun _ => 0))), (q_7, .inl (cy 0, 12, .inl (fun _ => 0)))] := hD
  refine va_putF (ci := 0) (v := .ref q_7) (ty := (tyX0 8)) (C := RX0) (T := TX0) (N := 9) hx hb hts (fun _ h => List.mem_cons_of_mem _ (List.mem_append_right _ h)) tyX0 tyX0_ok nmX0 hown hK.1 hP hD hS 0 rfl rfl 8 (by decide) (hts (.fieldLink RX0 32 "CutAtlas$Current" "cameFrom" "[I") (by decide +kernel)) (fun _ h9 => h9) rfl hin rfl (by decide +kernel) rfl rfl (Nat.le_of_ble_eq_true rfl) dX0_init_65 (fun H locs hP hD hS => ?_)
  have hP : va_P D vwCl [(h0, .inr (0, [.null, .null, .ref q_1, .ref q_2, .ref q_3, .ref q_4, .ref q_5, .ref q_6, .ref q_7])), (q_3, .inl (cy 0, 40, .inl (fun _ => 0))), (q_4, .inl (cy 0, 40, .inl (fun _ => 0))), (q_5, .inl (cy 0, 40, .inl (fun _ => 0))), (q_6, .inl (cy 0, 12, .inl (fun _ => 0))), (q_7, .inl (cy 0, 12, .inl (fun _ => 0)))] H := hP
  have hD : va_D A [(h0, .inr (0, [.null, .null, .ref q_1, .ref q_2, .ref q_3, .ref q_4, .ref q_5, .ref q_6, .ref q_7])), (q_3, .inl (cy 0, 40, .inl (fun _ => 0))), (q_4, .inl (cy 0, 40, .inl (fun _ => 0))), (q_5, .inl (cy 0, 40, .inl (fun _ => 0))), (q_6, .inl (cy 0, 12, .inl (fun _ => 0))), (q_7, .inl (cy 0, 12, .inl (fun _ => 0)))] := hD
  refine lv_aload_n hx hb dX0_init_68 rfl (lv_at hl 0 rfl) ?_
  refine lv_aload_n hx hb dX0_init_69 rfl (lv_at hl 1 rfl) ?_
  refine va_putF (ci := 0) (v := .ref x1) (ty := (tyX0 0)) (C := RX0) (T := TX0) (N := 9) hx hb hts (fun _ h => List.mem_cons_of_mem _ (List.mem_append_right _ h)) tyX0 tyX0_ok nmX0 hown hK.1 hP hD hS 0 rfl rfl 0 (by decide) (hts (.fieldLink RX0 35 "CutAtlas$Current" "net" "LCutAtlas$Net;") (by decide +kernel)) (fun _ h9 => h9) rfl hin rfl (by decide +kernel) rfl rfl (Nat.le_of_ble_eq_true rfl) dX0_init_70 (fun H locs hP hD hS => ?_)
  have hP : va_P D vwCl [(h0, .inr (0, [.ref x1, .null, .ref q_1, .ref q_2, .ref q_3, .ref q_4, .ref q_5, .ref q_6, .ref q_7])), (q_3, .inl (cy 0, 40, .inl (fun _ => 0))), (q_4, .inl (cy 0, 40, .inl (fun _ => 0))), (q_5, .inl (cy 0, 40, .inl (fun _ => 0))), (q_6, .inl (cy 0, 12, .inl (fun _ => 0))), (q_7, .inl (cy 0, 12, .inl (fun _ => 0)))] H := hP
  have hD : va_D A [(h0, .inr (0, [.ref x1, .null, .ref q_1, .ref q_2, .ref q_3, .ref q_4, .ref q_5, .ref q_6, .ref q_7])), (q_3, .inl (cy 0, 40, .inl (fun _ => 0))), (q_4, .inl (cy 0, 40, .inl (fun _ => 0))), (q_5, .inl (cy 0, 40, .inl (fun _ => 0))), (q_6, .inl (cy 0, 12, .inl (fun _ => 0))), (q_7, .inl (cy 0, 12, .inl (fun _ => 0)))] := hD
  refine lv_aload_n hx hb dX0_init_73 rfl (lv_at hl 0 rfl) ?_
  refine lv_aload_n hx hb dX0_init_74 rfl (lv_at hl 2 rfl) ?_
  refine va_putF (ci := 0) (v := .ref x2) (ty := (tyX0 1)) (C := RX0) (T := TX0) (N := 9) hx hb hts (fun _ h => List.mem_cons_of_mem _ (List.mem_append_right _ h)) tyX0 tyX0_ok nmX0 hown hK.1 hP hD hS 0 rfl rfl 1 (by decide) (hts (.fieldLink RX0 39 "CutAtlas$Current" "kinds" "[LCutAtlas$PlainKind;") (by decide +kernel)) (fun _ h9 => h9) rfl hin rfl (by decide +kernel) rfl rfl (Nat.le_of_ble_eq_true rfl) dX0_init_75 (fun H locs hP hD hS => ?_)
  have hP : va_P D vwCl [(h0, .inr (0, [.ref x1, .ref x2, .ref q_1, .ref q_2, .ref q_3, .ref q_4, .ref q_5, .ref q_6, .ref q_7])), (q_3, .inl (cy 0, 40, .inl (fun _ => 0))), (q_4, .inl (cy 0, 40, .inl (fun _ => 0))), (q_5, .inl (cy 0, 40, .inl (fun _ => 0))), (q_6, .inl (cy 0, 12, .inl (fun _ => 0))), (q_7, .inl (cy 0, 12, .inl (fun _ => 0)))] H := hP
  have hD : va_D A [(h0, .inr (0, [.ref x1, .ref x2, .ref q_1, .ref q_2, .ref q_3, .ref q_4, .ref q_5, .ref q_6, .ref q_7])), (q_3, .inl (cy 0, 40, .inl (fun _ => 0))), (q_4, .inl (cy 0, 40, .inl (fun _ => 0))), (q_5, .inl (cy 0, 40, .inl (fun _ => 0))), (q_6, .inl (cy 0, 12, .inl (fun _ => 0))), (q_7, .inl (cy 0, 12, .inl (fun _ => 0)))] := hD
  exact W.vret hx hb hr (fun t ht hW => ⟨⟨(), rfl, trivial, trivial⟩, hS.F ht⟩) hS.2.2 dX0_init_78

set_option maxHeartbeats 4000000 in
set_option maxRecDepth 100000 in
/-- SetHunt(current) -/
theorem c_X7_init (l : Launch) (D : va_G) (cy : Nat → ClassId) (sz : Nat) (h0 : Nat) (x1 : Nat) : Met l yX7_init wsX7_init ({ frames := 1, cells := 0, slots := 0, locals := 12 }) (va_Pc [.ref h0, .ref x1] (fun U => U.heap.size = sz ∧ va_P D vwCl [(h0, .inr (7, [.null, .int 0, .int 0, .int 0, .int 0, .int 0, .int 0, .int 0, .int 0]))] U.heap ∧ kk_ D cy U ∧ va_D (fun _ => True) [(h0, .inr (7, [.null, .int 0, .int 0, .int 0, .int 0, .int 0, .int 0, .int 0, .int 0]))])) (va_Qv (fun (_ : Unit) => True) (fun (_ : Unit) (_ : State) => True) (va_A [(h0, .inr (7, [.null, .int 0, .int 0, .int 0, .int 0, .int 0, .int 0, .int 0, .int 0]))] sz)) 0 0 (va_A [(h0, .inr (7, [.null, .int 0, .int 0, .int 0, .int 0, .int 0, .int 0, .int 0, .int 0]))] sz) := by
  refine Met.ofW (cc := cX7_init) (maxL := 2) (ret := none) (by decide) rfl ?_
  intro p e s m args below meth c s₁ B hml hv
  obtain ⟨rfl, hsz, hP, hK, hD0⟩ := hv
  have hx := B.exec
  have hb := B.bytes
  have hr := B.returns
  have hts := atoms_spec (ws := wsX7_init) B.pre
  have hown : s.vm.findClass RX7 = some m.cls := findClass_of_methodNamed B.named
  have hlocks := B.notSynchronized
  have hin : meth.name = "<init>" := (name_of_methodNamed B.named B.method).1
  subst hsz
  have hD := hD0.self (sz := s.heap.size)
  generalize hAe : va_A [(h0, .inr (7, [.null, .int 0, .int 0, .int 0, .int 0, .int 0, .int 0, .int 0, .int 0]))] s.heap.size = A at hD ⊢
  have hA : ∀ q : Nat, s.heap.size ≤ q → A q := fun q h => by rw [← hAe]; exact Or.inr h
  have hS : va_S A s.heap s.heap [] := va_S.rf
  have hl := lv_entry ([.ref h0, .ref x1]) (n := 2) (Nat.le_of_ble_eq_true rfl)
  rw [lg_entry_eq]
  generalize (lg_sl ([.ref h0, .ref x1]) ++ List.replicate (2 - (lg_sl ([.ref h0, .ref x1])).length) Slot.unset).toArray = ls at hl ⊢
  have hl : lv_has ls 2 [(0, .ref h0), (1, .ref x1)] := hl
  refine lv_aload_n hx hb dX7_init_0 rfl (lv_at hl 0 rfl) ?_
  refine W.objInit hx hb hown (hts (.methodLink RX7 3 objectInit) (by decide +kernel)) (hts (.instanceMethod objectInit) (by decide +kernel)) (hts (.code objectInit ⟨#[0xb1]⟩ 1 none) (by decide +kernel)) rfl (by rw [hml]; exact hl.1) rfl dX7_init_1 (Nat.le_of_ble_eq_true rfl) (Nat.le_of_ble_eq_true rfl) ?_
  refine W.eq (g2 := F0 m 4 ls []) rfl ?_
  refine lv_aload_n hx hb dX7_init_4 rfl (lv_at hl 0 rfl) ?_
  refine lv_aload_n hx hb dX7_init_5 rfl (lv_at hl 1 rfl) ?_
  refine va_putF (ci := 7) (v := .ref x1) (ty := (tyX7 0)) (C := RX7) (T := TX7) (N := 9) hx hb hts (fun _ h => List.mem_cons_of_mem _ (List.mem_append_right _ h)) tyX7 tyX7_ok nmX7 hown hK.1 hP hD hS 0 rfl rfl 0 (by decide) (hts (.fieldLink RX7 9 "CutAtlas$SetHunt" "current" "LCutAtlas$Current;") (by decide +kernel)) (fun _ h9 => h9) rfl hin rfl (by decide +kernel) rfl rfl (Nat.le_of_ble_eq_true rfl) dX7_init_6 (fun H locs hP hD hS => ?_)
  have hP : va_P D vwCl [(h0, .inr (7, [.ref x1, .int 0, .int 0, .int 0, .int 0, .int 0, .int 0, .int 0, .int 0]))] H := hP
  have hD : va_D A [(h0, .inr (7, [.ref x1, .int 0, .int 0, .int 0, .int 0, .int 0, .int 0, .int 0, .int 0]))] := hD
  exact W.vret hx hb hr (fun t ht hW => ⟨⟨(), rfl, trivial, trivial⟩, hS.F ht⟩) hS.2.2 dX7_init_9

set_option maxHeartbeats 4000000 in
set_option maxRecDepth 100000 in
/-- CutTree(current) -/
theorem c_X1_init (l : Launch) (D : va_G) (cy : Nat → ClassId) (sz : Nat) (h0 : Nat) (x1 : Nat) : Met l yX1_init wsX1_init ({ frames := 1, cells := 2, slots := 24, locals := 12 }) (va_Pc [.ref h0, .ref x1] (fun U => U.heap.size = sz ∧ va_P D vwCl [(h0, .inr (1, [.null, .null, .null]))] U.heap ∧ kk_ D cy U ∧ va_D (fun _ => True) [(h0, .inr (1, [.null, .null, .null]))])) (va_Qv (fun (_ : Unit) => True) (fun (_ : Unit) (_ : State) => True) (va_A [(h0, .inr (1, [.null, .null, .null]))] sz)) 2 24 (va_A [(h0, .inr (1, [.null, .null, .null]))] sz) := by
  refine Met.ofW (cc := cX1_init) (maxL := 2) (ret := none) (by decide) rfl ?_
  intro p e s m args below meth c s₁ B hml hv
  obtain ⟨rfl, hsz, hP, hK, hD0⟩ := hv
  have hx := B.exec
  have hb := B.bytes
  have hr := B.returns
  have hts := atoms_spec (ws := wsX1_init) B.pre
  have hown : s.vm.findClass RX1 = some m.cls := findClass_of_methodNamed B.named
  have hlocks := B.notSynchronized
  have hin : meth.name = "<init>" := (name_of_methodNamed B.named B.method).1
  subst hsz
  have hD := hD0.self (sz := s.heap.size)
  generalize hAe : va_A [(h0, .inr (1, [.null, .null, .null]))] s.heap.size = A at hD ⊢
  have hA : ∀ q : Nat, s.heap.size ≤ q → A q := fun q h => by rw [← hAe]; exact Or.inr h
  have hS : va_S A s.heap s.heap [] := va_S.rf
  have hl := lv_entry ([.ref h0, .ref x1]) (n := 2) (Nat.le_of_ble_eq_true rfl)
  rw [lg_entry_eq]
  generalize (lg_sl ([.ref h0, .ref x1]) ++ List.replicate (2 - (lg_sl ([.ref h0, .ref x1])).length) Slot.unset).toArray = ls at hl ⊢
  have hl : lv_has ls 2 [(0, .ref h0), (1, .ref x1)] := hl
  refine lv_aload_n hx hb dX1_init_0 rfl (lv_at hl 0 rfl) ?_
  refine W.objInit hx hb hown (hts (.methodLink RX1 3 objectInit) (by decide +kernel)) (hts (.instanceMethod objectInit) (by decide +kernel)) (hts (.code objectInit ⟨#[0xb1]⟩ 1 none) (by decide +kernel)) rfl (by rw [hml]; exact hl.1) rfl dX1_init_1 (Nat.le_of_ble_eq_true rfl) (Nat.le_of_ble_eq_true rfl) ?_
  refine W.eq (g2 := F0 m 4 ls []) rfl ?_
  refine lv_aload_n hx hb dX1_init_4 rfl (lv_at hl 0 rfl) ?_
  refine lv_bipush (v := 12) hx hb dX1_init_5 (by decide) ?_
  refine nw_a (a0 := (12, .inl (fun _ => 0))) (ty := .int) hx hb (hts (.arrayClass .int) (by decide +kernel)) rfl hK.1 0 rfl (fun _ h => by cases h) hP hD hS hA (fun _ => rfl) (by decide) (by decide) (by decide) (Nat.le_of_ble_eq_true rfl) (Nat.le_of_ble_eq_true rfl) dX1_init_7 (fun q_1 H hP hD hS => ?_)
  have hP : va_P D vwCl [(h0, .inr (1, [.null, .null, .null])), (q_1, .inl (cy 0, 12, .inl (fun _ => 0)))] H := hP
  have hD : va_D A [(h0, .inr (1, [.null, .null, .null])), (q_1, .inl (cy 0, 12, .inl (fun _ => 0)))] := hD
  refine va_putF (ci := 1) (v := .ref q_1) (ty := (tyX1 1)) (C := RX1) (T := TX1) (N := 3) hx hb hts (fun _ h => List.mem_cons_of_mem _ (List.mem_append_right _ h)) tyX1 tyX1_ok nmX1 hown hK.1 hP hD hS 0 rfl rfl 1 (by decide) (hts (.fieldLink RX1 9 "CutAtlas$CutTree" "nexts" "[I") (by decide +kernel)) (fun _ h9 => h9) rfl hin rfl (by decide +kernel) rfl rfl (Nat.le_of_ble_eq_true rfl) dX1_init_9 (fun H locs hP hD hS => ?_)
  have hP : va_P D vwCl [(h0, .inr (1, [.null, .ref q_1, .null])), (q_1, .inl (cy 0, 12, .inl (fun _ => 0)))] H := hP
  have hD : va_D A [(h0, .inr (1, [.null, .ref q_1, .null])), (q_1, .inl (cy 0, 12, .inl (fun _ => 0)))] := hD
  refine lv_aload_n hx hb dX1_init_12 rfl (lv_at hl 0 rfl) ?_
  refine lv_bipush (v := 12) hx hb dX1_init_13 (by decide) ?_
  refine nw_a (a0 := (12, .inl (fun _ => 0))) (ty := .int) hx hb (hts (.arrayClass .int) (by decide +kernel)) rfl hK.1 0 rfl (fun _ h => by cases h) hP hD hS hA (fun _ => rfl) (by decide) (by decide) (by decide) (Nat.le_of_ble_eq_true rfl) (Nat.le_of_ble_eq_true rfl) dX1_init_15 (fun q_2 H hP hD hS => ?_)
  have hP : va_P D vwCl [(h0, .inr (1, [.null, .ref q_1, .null])), (q_1, .inl (cy 0, 12, .inl (fun _ => 0))), (q_2, .inl (cy 0, 12, .inl (fun _ => 0)))] H := hP
  have hD : va_D A [(h0, .inr (1, [.null, .ref q_1, .null])), (q_1, .inl (cy 0, 12, .inl (fun _ => 0))), (q_2, .inl (cy 0, 12, .inl (fun _ => 0)))] := hD
  refine va_putF (ci := 1) (v := .ref q_2) (ty := (tyX1 2)) (C := RX1) (T := TX1) (N := 3) hx hb hts (fun _ h => List.mem_cons_of_mem _ (List.mem_append_right _ h)) tyX1 tyX1_ok nmX1 hown hK.1 hP hD hS 0 rfl rfl 2 (by decide) (hts (.fieldLink RX1 15 "CutAtlas$CutTree" "numbers" "[I") (by decide +kernel)) (fun _ h9 => h9) rfl hin rfl (by decide +kernel) rfl rfl (Nat.le_of_ble_eq_true rfl) dX1_init_17 (fun H locs hP hD hS => ?_)
  have hP : va_P D vwCl [(h0, .inr (1, [.null, .ref q_1, .ref q_2])), (q_1, .inl (cy 0, 12, .inl (fun _ => 0))), (q_2, .inl (cy 0, 12, .inl (fun _ => 0)))] H := hP
  have hD : va_D A [(h0, .inr (1, [.null, .ref q_1, .ref q_2])), (q_1, .inl (cy 0, 12, .inl (fun _ => 0))), (q_2, .inl (cy 0, 12, .inl (fun _ => 0)))] := hD
  refine lv_aload_n hx hb dX1_init_20 rfl (lv_at hl 0 rfl) ?_
  refine lv_aload_n hx hb dX1_init_21 rfl (lv_at hl 1 rfl) ?_
  refine va_putF (ci := 1) (v := .ref x1) (ty := (tyX1 0)) (C := RX1) (T := TX1) (N := 3) hx hb hts (fun _ h => List.mem_cons_of_mem _ (List.mem_append_right _ h)) tyX1 tyX1_ok nmX1 hown hK.1 hP hD hS 0 rfl rfl 0 (by decide) (hts (.fieldLink RX1 18 "CutAtlas$CutTree" "current" "LCutAtlas$Current;") (by decide +kernel)) (fun _ h9 => h9) rfl hin rfl (by decide +kernel) rfl rfl (Nat.le_of_ble_eq_true rfl) dX1_init_22 (fun H locs hP hD hS => ?_)
  have hP : va_P D vwCl [(h0, .inr (1, [.ref x1, .ref q_1, .ref q_2])), (q_1, .inl (cy 0, 12, .inl (fun _ => 0))), (q_2, .inl (cy 0, 12, .inl (fun _ => 0)))] H := hP
  have hD : va_D A [(h0, .inr (1, [.ref x1, .ref q_1, .ref q_2])), (q_1, .inl (cy 0, 12, .inl (fun _ => 0))), (q_2, .inl (cy 0, 12, .inl (fun _ => 0)))] := hD
  exact W.vret hx hb hr (fun t ht hW => ⟨⟨(), rfl, trivial, trivial⟩, hS.F ht⟩) hS.2.2 dX1_init_25

set_option maxHeartbeats 4000000 in
set_option maxRecDepth 100000 in
/-- Widening(current, kinds) -/
theorem c_X10_init (l : Launch) (D : va_G) (cy : Nat → ClassId) (sz : Nat) (h0 : Nat) (x1 : Nat) (x2 : Nat) : Met l yX10_init wsX10_init ({ frames := 1, cells := 15, slots := 180, locals := 12 }) (va_Pc [.ref h0, .ref x1, .ref x2] (fun U => U.heap.size = sz ∧ va_P D vwCl [(h0, .inr (10, [.null, .null, .null, .null, .null]))] U.heap ∧ kk_ D cy U ∧ va_D (fun _ => True) [(h0, .inr (10, [.null, .null, .null, .null, .null]))])) (va_Qv (fun (_ : Unit) => True) (fun (_ : Unit) (_ : State) => True) (va_A [(h0, .inr (10, [.null, .null, .null, .null, .null]))] sz)) 15 180 (va_A [(h0, .inr (10, [.null, .null, .null, .null, .null]))] sz) := by
  refine Met.ofW (cc := cX10_init) (maxL := 3) (ret := none) (by decide) rfl ?_
  intro p e s m args below meth c s₁ B hml hv
  obtain ⟨rfl, hsz, hP, hK, hD0⟩ := hv
  have hx := B.exec
  have hb := B.bytes
  have hr := B.returns
  have hts := atoms_spec (ws := wsX10_init) B.pre
  have hown : s.vm.findClass RX10 = some m.cls := findClass_of_methodNamed B.named
  have hlocks := B.notSynchronized
  have hin : meth.name = "<init>" := (name_of_methodNamed B.named B.method).1
  subst hsz
  have hD := hD0.self (sz := s.heap.size)
  generalize hAe : va_A [(h0, .inr (10, [.null, .null, .null, .null, .null]))] s.heap.size = A at hD ⊢
  have hA : ∀ q : Nat, s.heap.size ≤ q → A q := fun q h => by rw [← hAe]; exact Or.inr h
  have hS : va_S A s.heap s.heap [] := va_S.rf
  have hl := lv_entry ([.ref h0, .ref x1, .ref x2]) (n := 3) (Nat.le_of_ble_eq_true rfl)
  rw [lg_entry_eq]
  generalize (lg_sl ([.ref h0, .ref x1, .ref x2]) ++ List.replicate (3 - (lg_sl ([.ref h0, .ref x1, .ref x2])).length) Slot.unset).toArray = ls at hl ⊢
  have hl : lv_has ls 3 [(0, .ref h0), (1, .ref x1), (2, .ref x2)] := hl
  refine lv_aload_n hx hb dX10_init_0 rfl (lv_at hl 0 rfl) ?_
  refine W.objInit hx hb hown (hts (.methodLink RX10 3 objectInit) (by decide +kernel)) (hts (.instanceMethod objectInit) (by decide +kernel)) (hts (.code objectInit ⟨#[0xb1]⟩ 1 none) (by decide +kernel)) rfl (by rw [hml]; exact hl.1) rfl dX10_init_1 (Nat.le_of_ble_eq_true rfl) (Nat.le_of_ble_eq_true rfl) ?_
  refine W.eq (g2 := F0 m 4 ls []) rfl ?_
  refine lv_aload_n hx hb dX10_init_4 rfl (lv_at hl 0 rfl) ?_
  refine lv_bipush (v := 12) hx hb dX10_init_5 (by decide) ?_
  refine lv_bipush (v := 12) hx hb dX10_init_7 (by decide) ?_
  refine mn_a hx hb hown (hts (.classLink RX10 9 "[[I") (by decide +kernel)) hK (hts (.arrayClass .int) (by decide +kernel)) hP hD hS hA (Nat.le_of_ble_eq_true rfl) (Nat.le_of_ble_eq_true rfl) dX10_init_9 (fun q_1 H hP hD hS => ?_)
  have hP : va_P D vwCl [(h0, .inr (10, [.null, .null, .null, .null, .null]))] H := hP
  have hD : va_D A [(h0, .inr (10, [.null, .null, .null, .null, .null]))] := hD
  refine va_putF (ci := 10) (v := .ref q_1) (ty := (tyX10 2)) (C := RX10) (T := TX10) (N := 5) hx hb hts (fun _ h => List.mem_cons_of_mem _ (List.mem_append_right _ h)) tyX10 tyX10_ok nmX10 hown hK.1 hP hD hS 0 rfl rfl 2 (by decide) (hts (.fieldLink RX10 11 "CutAtlas$Widening" "prices" "[[I") (by decide +kernel)) (fun _ h9 => h9) rfl hin rfl (by decide +kernel) rfl rfl (Nat.le_of_ble_eq_true rfl) dX10_init_13 (fun H locs hP hD hS => ?_)
  have hP : va_P D vwCl [(h0, .inr (10, [.null, .null, .ref q_1, .null, .null]))] H := hP
  have hD : va_D A [(h0, .inr (10, [.null, .null, .ref q_1, .null, .null]))] := hD
  refine lv_aload_n hx hb dX10_init_16 rfl (lv_at hl 0 rfl) ?_
  refine lv_bipush (v := 12) hx hb dX10_init_17 (by decide) ?_
  refine nw_a (a0 := (12, .inl (fun _ => 0))) (ty := .int) hx hb (hts (.arrayClass .int) (by decide +kernel)) rfl hK.1 0 rfl (fun _ h => by cases h) hP hD hS hA (fun _ => rfl) (by decide) (by decide) (by decide) (Nat.le_of_ble_eq_true rfl) (Nat.le_of_ble_eq_true rfl) dX10_init_19 (fun q_2 H hP hD hS => ?_)
  have hP : va_P D vwCl [(h0, .inr (10, [.null, .null, .ref q_1, .null, .null])), (q_2, .inl (cy 0, 12, .inl (fun _ => 0)))] H := hP
  have hD : va_D A [(h0, .inr (10, [.null, .null, .ref q_1, .null, .null])), (q_2, .inl (cy 0, 12, .inl (fun _ => 0)))] := hD
  refine va_putF (ci := 10) (v := .ref q_2) (ty := (tyX10 3)) (C := RX10) (T := TX10) (N := 5) hx hb hts (fun _ h => List.mem_cons_of_mem _ (List.mem_append_right _ h)) tyX10 tyX10_ok nmX10 hown hK.1 hP hD hS 0 rfl rfl 3 (by decide) (hts (.fieldLink RX10 16 "CutAtlas$Widening" "costs" "[I") (by decide +kernel)) (fun _ h9 => h9) rfl hin rfl (by decide +kernel) rfl rfl (Nat.le_of_ble_eq_true rfl) dX10_init_21 (fun H locs hP hD hS => ?_)
  have hP : va_P D vwCl [(h0, .inr (10, [.null, .null, .ref q_1, .ref q_2, .null])), (q_2, .inl (cy 0, 12, .inl (fun _ => 0)))] H := hP
  have hD : va_D A [(h0, .inr (10, [.null, .null, .ref q_1, .ref q_2, .null])), (q_2, .inl (cy 0, 12, .inl (fun _ => 0)))] := hD
  refine lv_aload_n hx hb dX10_init_24 rfl (lv_at hl 0 rfl) ?_
  refine lv_bipush (v := 12) hx hb dX10_init_25 (by decide) ?_
  refine nw_a (a0 := (12, .inl (fun _ => 0))) (ty := .int) hx hb (hts (.arrayClass .int) (by decide +kernel)) rfl hK.1 0 rfl (fun _ h => by cases h) hP hD hS hA (fun _ => rfl) (by decide) (by decide) (by decide) (Nat.le_of_ble_eq_true rfl) (Nat.le_of_ble_eq_true rfl) dX10_init_27 (fun q_3 H hP hD hS => ?_)
  have hP : va_P D vwCl [(h0, .inr (10, [.null, .null, .ref q_1, .ref q_2, .null])), (q_2, .inl (cy 0, 12, .inl (fun _ => 0))), (q_3, .inl (cy 0, 12, .inl (fun _ => 0)))] H := hP
  have hD : va_D A [(h0, .inr (10, [.null, .null, .ref q_1, .ref q_2, .null])), (q_2, .inl (cy 0, 12, .inl (fun _ => 0))), (q_3, .inl (cy 0, 12, .inl (fun _ => 0)))] := hD
  refine va_putF (ci := 10) (v := .ref q_3) (ty := (tyX10 4)) (C := RX10) (T := TX10) (N := 5) hx hb hts (fun _ h => List.mem_cons_of_mem _ (List.mem_append_right _ h)) tyX10 tyX10_ok nmX10 hown hK.1 hP hD hS 0 rfl rfl 4 (by decide) (hts (.fieldLink RX10 20 "CutAtlas$Widening" "cameFrom" "[I") (by decide +kernel)) (fun _ h9 => h9) rfl hin rfl (by decide +kernel) rfl rfl (Nat.le_of_ble_eq_true rfl) dX10_init_29 (fun H locs hP hD hS => ?_)
  have hP : va_P D vwCl [(h0, .inr (10, [.null, .null, .ref q_1, .ref q_2, .ref q_3])), (q_2, .inl (cy 0, 12, .inl (fun _ => 0))), (q_3, .inl (cy 0, 12, .inl (fun _ => 0)))] H := hP
  have hD : va_D A [(h0, .inr (10, [.null, .null, .ref q_1, .ref q_2, .ref q_3])), (q_2, .inl (cy 0, 12, .inl (fun _ => 0))), (q_3, .inl (cy 0, 12, .inl (fun _ => 0)))] := hD
  refine lv_aload_n hx hb dX10_init_32 rfl (lv_at hl 0 rfl) ?_
  refine lv_aload_n hx hb dX10_init_33 rfl (lv_at hl 1 rfl) ?_
  refine va_putF (ci := 10) (v := .ref x1) (ty := (tyX10 0)) (C := RX10) (T := TX10) (N := 5) hx hb hts (fun _ h => List.mem_cons_of_mem _ (List.mem_append_right _ h)) tyX10 tyX10_ok nmX10 hown hK.1 hP hD hS 0 rfl rfl 0 (by decide) (hts (.fieldLink RX10 23 "CutAtlas$Widening" "current" "LCutAtlas$Current;") (by decide +kernel)) (fun _ h9 => h9) rfl hin rfl (by decide +kernel) rfl rfl (Nat.le_of_ble_eq_true rfl) dX10_init_34 (fun H locs hP hD hS => ?_)
  have hP : va_P D vwCl [(h0, .inr (10, [.ref x1, .null, .ref q_1, .ref q_2, .ref q_3])), (q_2, .inl (cy 0, 12, .inl (fun _ => 0))), (q_3, .inl (cy 0, 12, .inl (fun _ => 0)))] H := hP
  have hD : va_D A [(h0, .inr (10, [.ref x1, .null, .ref q_1, .ref q_2, .ref q_3])), (q_2, .inl (cy 0, 12, .inl (fun _ => 0))), (q_3, .inl (cy 0, 12, .inl (fun _ => 0)))] := hD
  refine lv_aload_n hx hb dX10_init_37 rfl (lv_at hl 0 rfl) ?_
  refine lv_aload_n hx hb dX10_init_38 rfl (lv_at hl 2 rfl) ?_
  refine va_putF (ci := 10) (v := .ref x2) (ty := (tyX10 1)) (C := RX10) (T := TX10) (N := 5) hx hb hts (fun _ h => List.mem_cons_of_mem _ (List.mem_append_right _ h)) tyX10 tyX10_ok nmX10 hown hK.1 hP hD hS 0 rfl rfl 1 (by decide) (hts (.fieldLink RX10 27 "CutAtlas$Widening" "kinds" "[LCutAtlas$PlainKind;") (by decide +kernel)) (fun _ h9 => h9) rfl hin rfl (by decide +kernel) rfl rfl (Nat.le_of_ble_eq_true rfl) dX10_init_39 (fun H locs hP hD hS => ?_)
  have hP : va_P D vwCl [(h0, .inr (10, [.ref x1, .ref x2, .ref q_1, .ref q_2, .ref q_3])), (q_2, .inl (cy 0, 12, .inl (fun _ => 0))), (q_3, .inl (cy 0, 12, .inl (fun _ => 0)))] H := hP
  have hD : va_D A [(h0, .inr (10, [.ref x1, .ref x2, .ref q_1, .ref q_2, .ref q_3])), (q_2, .inl (cy 0, 12, .inl (fun _ => 0))), (q_3, .inl (cy 0, 12, .inl (fun _ => 0)))] := hD
  exact W.vret hx hb hr (fun t ht hW => ⟨⟨(), rfl, trivial, trivial⟩, hS.F ht⟩) hS.2.2 dX10_init_42

set_option maxHeartbeats 4000000 in
set_option maxRecDepth 100000 in
/-- NumberMap() -/
theorem c_X4_init (l : Launch) (D : va_G) (cy : Nat → ClassId) (sz : Nat) (h0 : Nat) : Met l yX4_init wsX4_init ({ frames := 1, cells := 2, slots := 36, locals := 12 }) (va_Pc [.ref h0] (fun U => U.heap.size = sz ∧ va_P D vwCl [(h0, .inr (4, [.int 0, .int 0, .null, .null]))] U.heap ∧ kk_ D cy U ∧ va_D (fun _ => True) [(h0, .inr (4, [.int 0, .int 0, .null, .null]))])) (va_Qv (fun (_ : Unit) => True) (fun (_ : Unit) (t : State) => ∃ (l1 : Nat), ∃ (l2 : Nat), va_P D vwCl [(h0, .inr (4, [.int 0, .int (-9), .ref l1, .ref l2])), (l1, .inl (cy 0, 6, .inl (fun _ => 0)))] t.heap ∧ va_D (va_A [(h0, .inr (4, [.int 0, .int 0, .null, .null]))] sz) [(h0, .inr (4, [.int 0, .int (-9), .ref l1, .ref l2])), (l1, .inl (cy 0, 6, .inl (fun _ => 0)))]) (va_A [(h0, .inr (4, [.int 0, .int 0, .null, .null]))] sz)) 2 36 (va_A [(h0, .inr (4, [.int 0, .int 0, .null, .null]))] sz) := by
  refine Met.ofW (cc := cX4_init) (maxL := 1) (ret := none) (by decide) rfl ?_
  intro p e s m args below meth c s₁ B hml hv
  obtain ⟨rfl, hsz, hP, hK, hD0⟩ := hv
  have hx := B.exec
  have hb := B.bytes
  have hr := B.returns
  have hts := atoms_spec (ws := wsX4_init) B.pre
  have hown : s.vm.findClass RX4 = some m.cls := findClass_of_methodNamed B.named
  have hlocks := B.notSynchronized
  have hin : meth.name = "<init>" := (name_of_methodNamed B.named B.method).1
  subst hsz
  have hD := hD0.self (sz := s.heap.size)
  generalize hAe : va_A [(h0, .inr (4, [.int 0, .int 0, .null, .null]))] s.heap.size = A at hD ⊢
  have hA : ∀ q : Nat, s.heap.size ≤ q → A q := fun q h => by rw [← hAe]; exact Or.inr h
  have hS : va_S A s.heap s.heap [] := va_S.rf
  have hl := lv_entry ([.ref h0]) (n := 1) (Nat.le_of_ble_eq_true rfl)
  rw [lg_entry_eq]
  generalize (lg_sl ([.ref h0]) ++ List.replicate (1 - (lg_sl ([.ref h0])).length) Slot.unset).toArray = ls at hl ⊢
  have hl : lv_has ls 1 [(0, .ref h0)] := hl
  refine lv_aload_n hx hb dX4_init_0 rfl (lv_at hl 0 rfl) ?_
  refine W.objInit hx hb hown (hts (.methodLink RX4 3 objectInit) (by decide +kernel)) (hts (.instanceMethod objectInit) (by decide +kernel)) (hts (.code objectInit ⟨#[0xb1]⟩ 1 none) (by decide +kernel)) rfl (by rw [hml]; exact hl.1) rfl dX4_init_1 (Nat.le_of_ble_eq_true rfl) (Nat.le_of_ble_eq_true rfl) ?_
  refine W.eq (g2 := F0 m 4 ls []) rfl ?_
  refine lv_aload_n hx hb dX4_init_4 rfl (lv_at hl 0 rfl) ?_
  refine lv_iconst (v := 0) hx hb dX4_init_5 (by decide) ?_
  refine va_put (ci := 4) (v := .int 0) (ty := .int) (C := RX4) (T := TX4) (N := 4) hx hb hts (fun _ h => List.mem_cons_of_mem _ (List.mem_append_right _ h)) tyX4 tyX4_ok nmX4 hown hK.1 hP hD hS 0 rfl rfl 0 (by decide) (hts (.fieldLink RX4 9 "CutAtlas$NumberMap" "kind" "I") (by decide +kernel)) (fun _ h9 => h9) rfl (by decide +kernel) rfl rfl (Nat.le_of_ble_eq_true rfl) dX4_init_6 (fun H locs hP hD hS => ?_)
  have hP : va_P D vwCl [(h0, .inr (4, [.int 0, .int 0, .null, .null]))] H := hP
  have hD : va_D A [(h0, .inr (4, [.int 0, .int 0, .null, .null]))] := hD
  refine lv_aload_n hx hb dX4_init_9 rfl (lv_at hl 0 rfl) ?_
  refine lv_bipush (v := (-9)) hx hb dX4_init_10 (by decide) ?_
  refine va_put (ci := 4) (v := .int (-9)) (ty := .int) (C := RX4) (T := TX4) (N := 4) hx hb hts (fun _ h => List.mem_cons_of_mem _ (List.mem_append_right _ h)) tyX4 tyX4_ok nmX4 hown hK.1 hP hD hS 0 rfl rfl 1 (by decide) (hts (.fieldLink RX4 15 "CutAtlas$NumberMap" "rows" "I") (by decide +kernel)) (fun _ h9 => h9) rfl (by decide +kernel) rfl rfl (Nat.le_of_ble_eq_true rfl) dX4_init_12 (fun H locs hP hD hS => ?_)
  have hP : va_P D vwCl [(h0, .inr (4, [.int 0, .int (-9), .null, .null]))] H := hP
  have hD : va_D A [(h0, .inr (4, [.int 0, .int (-9), .null, .null]))] := hD
  refine lv_aload_n hx hb dX4_init_15 rfl (lv_at hl 0 rfl) ?_
  refine lv_bipush (v := 6) hx hb dX4_init_16 (by decide) ?_
  refine nw_a (a0 := (6, .inl (fun _ => 0))) (ty := .int) hx hb (hts (.arrayClass .int) (by decide +kernel)) rfl hK.1 0 rfl (fun _ h => by cases h) hP hD hS hA (fun _ => rfl) (by decide) (by decide) (by decide) (Nat.le_of_ble_eq_true rfl) (Nat.le_of_ble_eq_true rfl) dX4_init_18 (fun q_1 H hP hD hS => ?_)
  have hP : va_P D vwCl [(h0, .inr (4, [.int 0, .int (-9), .null, .null])), (q_1, .inl (cy 0, 6, .inl (fun _ => 0)))] H := hP
  have hD : va_D A [(h0, .inr (4, [.int 0, .int (-9), .null, .null])), (q_1, .inl (cy 0, 6, .inl (fun _ => 0)))] := hD
  refine va_putF (ci := 4) (v := .ref q_1) (ty := (tyX4 2)) (C := RX4) (T := TX4) (N := 4) hx hb hts (fun _ h => List.mem_cons_of_mem _ (List.mem_append_right _ h)) tyX4 tyX4_ok nmX4 hown hK.1 hP hD hS 0 rfl rfl 2 (by decide) (hts (.fieldLink RX4 18 "CutAtlas$NumberMap" "lengths" "[I") (by decide +kernel)) (fun _ h9 => h9) rfl hin rfl (by decide +kernel) rfl rfl (Nat.le_of_ble_eq_true rfl) dX4_init_20 (fun H locs hP hD hS => ?_)
  have hP : va_P D vwCl [(h0, .inr (4, [.int 0, .int (-9), .ref q_1, .null])), (q_1, .inl (cy 0, 6, .inl (fun _ => 0)))] H := hP
  have hD : va_D A [(h0, .inr (4, [.int 0, .int (-9), .ref q_1, .null])), (q_1, .inl (cy 0, 6, .inl (fun _ => 0)))] := hD
  refine lv_aload_n hx hb dX4_init_23 rfl (lv_at hl 0 rfl) ?_
  refine lv_bipush (v := 30) hx hb dX4_init_24 (by decide) ?_
  refine nw_a (a0 := (30, .inr (.inl (fun _ => 0)))) (ty := .long) hx hb (hts (.arrayClass .long) (by decide +kernel)) rfl hK.1 1 rfl (fun _ h => by cases h) hP hD hS hA (fun _ => rfl) (by decide) (by decide) (by decide) (Nat.le_of_ble_eq_true rfl) (Nat.le_of_ble_eq_true rfl) dX4_init_26 (fun q_2 H hP hD hS => ?_)
  have hP : va_P D vwCl [(h0, .inr (4, [.int 0, .int (-9), .ref q_1, .null])), (q_1, .inl (cy 0, 6, .inl (fun _ => 0))), (q_2, .inl (cy 1, 30, .inr (.inl (fun _ => 0))))] H := hP
  have hD : va_D A [(h0, .inr (4, [.int 0, .int (-9), .ref q_1, .null])), (q_1, .inl (cy 0, 6, .inl (fun _ => 0))), (q_2, .inl (cy 1, 30, .inr (.inl (fun _ => 0))))] := hD
  refine va_putF (ci := 4) (v := .ref q_2) (ty := (tyX4 3)) (C := RX4) (T := TX4) (N := 4) hx hb hts (fun _ h => List.mem_cons_of_mem _ (List.mem_append_right _ h)) tyX4 tyX4_ok nmX4 hown hK.1 hP hD hS 0 rfl rfl 3 (by decide) (hts (.fieldLink RX4 22 "CutAtlas$NumberMap" "numbers" "[J") (by decide +kernel)) (fun _ h9 => h9) rfl hin rfl (by decide +kernel) rfl rfl (Nat.le_of_ble_eq_true rfl) dX4_init_28 (fun H locs hP hD hS => ?_)
  have hP : va_P D vwCl [(h0, .inr (4, [.int 0, .int (-9), .ref q_1, .ref q_2])), (q_1, .inl (cy 0, 6, .inl (fun _ => 0))), (q_2, .inl (cy 1, 30, .inr (.inl (fun _ => 0))))] H := hP
  have hD : va_D A [(h0, .inr (4, [.int 0, .int (-9), .ref q_1, .ref q_2])), (q_1, .inl (cy 0, 6, .inl (fun _ => 0))), (q_2, .inl (cy 1, 30, .inr (.inl (fun _ => 0))))] := hD
  have hP9 := hP.sub (ws' := [(h0, .inr (4, [.int 0, .int (-9), .ref q_1, .ref q_2])), (q_1, .inl (cy 0, 6, .inl (fun _ => 0)))]) [0, 1] rfl
  have hD9 := hD.sub (ws' := [(h0, .inr (4, [.int 0, .int (-9), .ref q_1, .ref q_2])), (q_1, .inl (cy 0, 6, .inl (fun _ => 0)))]) [0, 1] (by decide) rfl
  exact W.vret hx hb hr (fun t ht hW => ⟨⟨(), rfl, trivial, q_1, q_2, by rw [ht]; exact hP9, hD9⟩, hS.F ht⟩) hS.2.2 dX4_init_31
end
section
set_option maxHeartbeats 4000000 in
set_option maxRecDepth 100000 in
/-- CutAtlas() -/
theorem c_X11_init (l : Launch) (D : va_G) (cy : Nat → ClassId) (sz : Nat) (xo : Nat) : Met l yX11_init wsX11_init ({ frames := 4, cells := 78, slots := 1092, locals := 72 }) (va_Pc [.ref xo] (fun U => U.heap.size = sz ∧ va_P D vwCl [(xo, .inr (11, [.null, .null, .null, .null, .null, .null, .null, .null, .int 0, .int 0, .long 0, .int 0]))] U.heap ∧ kk_ D cy U ∧ va_D (fun _ => True) [(xo, .inr (11, [.null, .null, .null, .null, .null, .null, .null, .null, .int 0, .int 0, .long 0, .int 0]))])) (va_Qv (fun (_ : Unit) => True) (fun (_ : Unit) (t : State) => ∃ (xk : Nat), ∃ (xn : Nat), ∃ (xc : Nat), ∃ (xh : Nat), ∃ (xt : Nat), ∃ (xw : Nat), ∃ (xm : Nat), ∃ (xp : Nat), ∃ (n1 : Nat), ∃ (n2 : Nat), ∃ (n3 : Nat), ∃ (n4 : Nat), ∃ (n5 : Nat), ∃ (m0 : Nat), ∃ (m1 : Nat), ∃ (m2 : Nat), ∃ (m3 : Nat), ∃ (l0 : Nat), ∃ (l1 : Nat), ∃ (l2 : Nat), ∃ (l3 : Nat), ∃ (u0 : Nat), ∃ (u1 : Nat), ∃ (u2 : Nat), ∃ (u3 : Nat), va_P D vwCl [(xo, .inr (11, [.ref xk, .ref xn, .ref xc, .ref xh, .ref xt, .ref xw, .ref xm, .ref xp, .int 0, .int 0, .long 0, .int 0])), (xn, .inr (3, [.int 0, .int 0, .ref n1, .ref n2, .ref n3, .ref n4, .ref n5])), (n1, .inl (cy 0, 40, .inl (fun _ => 0))), (n2, .inl (cy 0, 40, .inl (fun _ => 0))), (n3, .inl (cy 0, 40, .inl (fun _ => 0))), (n4, .inl (cy 0, 40, .inl (fun _ => 0))), (n5, .inl (cy 0, 40, .inl (fun _ => 0))), (xm, .inl (cy 4, 4, .inr (.inr (.inr (.inr (mf_ m0 m1 m2 m3)))))), (m0, .inr (4, [.int 0, .int (-9), .ref l0, .ref u0])), (m1, .inr (4, [.int 0, .int (-9), .ref l1, .ref u1])), (m2, .inr (4, [.int 0, .int (-9), .ref l2, .ref u2])), (m3, .inr (4, [.int 0, .int (-9), .ref l3, .ref u3])), (l0, .inl (cy 0, 6, .inl (fun _ => 0))), (l1, .inl (cy 0, 6, .inl (fun _ => 0))), (l2, .inl (cy 0, 6, .inl (fun _ => 0))), (l3, .inl (cy 0, 6, .inl (fun _ => 0))), (xp, .inl (cy 5, 30, .inr (.inr (.inr (.inr (fun _ => none))))))] t.heap ∧ va_D (va_A [(xo, .inr (11, [.null, .null, .null, .null, .null, .null, .null, .null, .int 0, .int 0, .long 0, .int 0]))] sz) [(xo, .inr (11, [.ref xk, .ref xn, .ref xc, .ref xh, .ref xt, .ref xw, .ref xm, .ref xp, .int 0, .int 0, .long 0, .int 0])), (xn, .inr (3, [.int 0, .int 0, .ref n1, .ref n2, .ref n3, .ref n4, .ref n5])), (n1, .inl (cy 0, 40, .inl (fun _ => 0))), (n2, .inl (cy 0, 40, .inl (fun _ => 0))), (n3, .inl (cy 0, 40, .inl (fun _ => 0))), (n4, .inl (cy 0, 40, .inl (fun _ => 0))), (n5, .inl (cy 0, 40, .inl (fun _ => 0))), (xm, .inl (cy 4, 4, .inr (.inr (.inr (.inr (mf_ m0 m1 m2 m3)))))), (m0, .inr (4, [.int 0, .int (-9), .ref l0, .ref u0])), (m1, .inr (4, [.int 0, .int (-9), .ref l1, .ref u1])), (m2, .inr (4, [.int 0, .int (-9), .ref l2, .ref u2])), (m3, .inr (4, [.int 0, .int (-9), .ref l3, .ref u3])), (l0, .inl (cy 0, 6, .inl (fun _ => 0))), (l1, .inl (cy 0, 6, .inl (fun _ => 0))), (l2, .inl (cy 0, 6, .inl (fun _ => 0))), (l3, .inl (cy 0, 6, .inl (fun _ => 0))), (xp, .inl (cy 5, 30, .inr (.inr (.inr (.inr (fun _ => none))))))]) (va_A [(xo, .inr (11, [.null, .null, .null, .null, .null, .null, .null, .null, .int 0, .int 0, .long 0, .int 0]))] sz)) 78 1092 (va_A [(xo, .inr (11, [.null, .null, .null, .null, .null, .null, .null, .null, .int 0, .int 0, .long 0, .int 0]))] sz) := by
  refine Met.ofW (cc := cX11_init) (maxL := 1) (ret := none) (by decide) rfl ?_
  intro p e s m args below meth c s₁ B hml hv
  obtain ⟨rfl, hsz, hP, hK, hD0⟩ := hv
  have hx := B.exec
  have hb := B.bytes
  have hr := B.returns
  have hts := atoms_spec (ws := wsX11_init) B.pre
  have hown : s.vm.findClass RX11 = some m.cls := findClass_of_methodNamed B.named
  have hlocks := B.notSynchronized
  have hin : meth.name = "<init>" := (name_of_methodNamed B.named B.method).1
  subst hsz
  have hD := hD0.self (sz := s.heap.size)
  generalize hAe : va_A [(xo, .inr (11, [.null, .null, .null, .null, .null, .null, .null, .null, .int 0, .int 0, .long 0, .int 0]))] s.heap.size = A at hD ⊢
  have hA : ∀ q : Nat, s.heap.size ≤ q → A q := fun q h => by rw [← hAe]; exact Or.inr h
  have hS : va_S A s.heap s.heap [] := va_S.rf
  have hl := lv_entry ([.ref xo]) (n := 1) (Nat.le_of_ble_eq_true rfl)
  rw [lg_entry_eq]
  generalize (lg_sl ([.ref xo]) ++ List.replicate (1 - (lg_sl ([.ref xo])).length) Slot.unset).toArray = ls at hl ⊢
  have hl : lv_has ls 1 [(0, .ref xo)] := hl
  refine lv_aload_n hx hb dX11_init_0 rfl (lv_at hl 0 rfl) ?_
  refine W.objInit hx hb hown (hts (.methodLink RX11 1 objectInit) (by decide +kernel)) (hts (.instanceMethod objectInit) (by decide +kernel)) (hts (.code objectInit ⟨#[0xb1]⟩ 1 none) (by decide +kernel)) rfl (by rw [hml]; exact hl.1) rfl dX11_init_1 (Nat.le_of_ble_eq_true rfl) (Nat.le_of_ble_eq_true rfl) ?_
  refine W.eq (g2 := F0 m 4 ls []) rfl ?_
  refine lv_aload_n hx hb dX11_init_4 rfl (lv_at hl 0 rfl) ?_
  refine lv_iconst (v := 5) hx hb dX11_init_5 (by decide) ?_
  refine nw_q hx hb hown (hts (.classLink RX11 7 RX6) (by decide +kernel)) (kk_ao3 hK) hK.1 3 rfl hP hD hS hA (by decide) (by decide : _ = 5) (by decide) (Nat.le_of_ble_eq_true rfl) (Nat.le_of_ble_eq_true rfl) dX11_init_6 (fun q_1 H hP hD hS => ?_)
  have hP : va_P D vwCl [(xo, .inr (11, [.null, .null, .null, .null, .null, .null, .null, .null, .int 0, .int 0, .long 0, .int 0])), (q_1, .inl (cy 3, 5, .inr (.inr (.inr (.inr (fun _ => none))))))] H := hP
  have hD : va_D A [(xo, .inr (11, [.null, .null, .null, .null, .null, .null, .null, .null, .int 0, .int 0, .long 0, .int 0])), (q_1, .inl (cy 3, 5, .inr (.inr (.inr (.inr (fun _ => none))))))] := hD
  refine lv_dup hx hb dX11_init_9 rfl ?_
  refine lv_iconst (v := 0) hx hb dX11_init_10 (by decide) ?_
  refine va_new (ci := 6) (fs := []) (C := RX6) (T := TX6) (N := 0) hx hb hts (fun _ h => List.mem_cons_of_mem _ (List.mem_append_left _ (List.mem_append_left _ (List.mem_append_left _ (List.mem_append_left _ (List.mem_append_left _ (List.mem_append_left _ (List.mem_append_left _ (List.mem_append_left _ (List.mem_append_left _ (List.mem_append_left _ (List.mem_append_left _ (List.mem_append_right _ h))))))))))))) tyX6 tyX6_ok hown (hts (.classLink RX11 7 RX6) (by decide +kernel)) (hts (.instantiable RX6 0) (by decide +kernel)) (hts (.initialized RX6) (by decide +kernel)) hK.1 hP hD hS hA rfl (by decide +kernel) (Nat.le_of_ble_eq_true rfl) (Nat.le_of_ble_eq_true rfl) dX11_init_11 (fun q_2 H hP hD hS => ?_)
  have hP : va_P D vwCl [(xo, .inr (11, [.null, .null, .null, .null, .null, .null, .null, .null, .int 0, .int 0, .long 0, .int 0])), (q_1, .inl (cy 3, 5, .inr (.inr (.inr (.inr (fun _ => none)))))), (q_2, .inr (6, []))] H := hP
  have hD : va_D A [(xo, .inr (11, [.null, .null, .null, .null, .null, .null, .null, .null, .int 0, .int 0, .long 0, .int 0])), (q_1, .inl (cy 3, 5, .inr (.inr (.inr (.inr (fun _ => none)))))), (q_2, .inr (6, []))] := hD
  refine lv_dup hx hb dX11_init_14 rfl ?_
  have hPc := hP.sub (ws' := []) [] rfl
  have hDc := hD.sub (ws' := []) [] (by decide) rfl
  have hDw : va_D (fun _ => True) [] := hDc.weaken (fun _ _ _ _ => trivial)
  have hFc := va_free (wc := []) hD hS hA [] rfl
  refine va_callv (va_runIN (As := []) (rest := [.ref q_2, .int 0, .ref q_1, .ref q_1, .ref xo]) ⟨hx, hb, hml, hown, hts⟩ (c_X6_init l D cy H.size q_2) ⟨va_cnB 0 hts gX11_init_X6_init_n9 rfl rfl rfl (kk_nX11_9 hK) (hts (.initialized RX6) (by decide +kernel)) (by decide +kernel) ⟨Nat.le_of_ble_eq_true rfl, Nat.le_of_ble_eq_true rfl⟩, rfl, (hts (.instanceMethod yX6_init) (by decide +kernel))⟩ ⟨bl_, fun U hU hW => ⟨rfl, by rw [hU], by rw [hU]; exact hPc, kk_mv hW hK, hDw⟩⟩ rfl rfl hl.1 rfl (lv_room (Nat.le_of_ble_eq_true rfl)) dX11_init_15 ⟨Nat.le_of_ble_eq_true rfl, Nat.le_of_ble_eq_true rfl⟩) hS (fun q _ h => hFc q h) hFc (fun u t H locs ht hvm hw hB hz1 hk1 hS => ?_)
  have hP := ro_keep hP hk1
  have hP : va_P D vwCl [(xo, .inr (11, [.null, .null, .null, .null, .null, .null, .null, .null, .int 0, .int 0, .long 0, .int 0])), (q_1, .inl (cy 3, 5, .inr (.inr (.inr (.inr (fun _ => none)))))), (q_2, .inr (6, []))] H := hP
  refine va_astq hx hb hK.1 hP hD hS 1 3 2 6 rfl rfl rfl rfl (i := 0) (by unfold vp_in; decide) dX11_init_18 (fun H locs hP hD hS => ?_)
  have hP : va_P D vwCl [(xo, .inr (11, [.null, .null, .null, .null, .null, .null, .null, .null, .int 0, .int 0, .long 0, .int 0])), (q_1, .inl (cy 3, 5, .inr (.inr (.inr (.inr (va_up (fun _ => none) (0 : Int32).toNatClampNeg (some q_2))))))), (q_2, .inr (6, []))] H := hP
  have hD : va_D A [(xo, .inr (11, [.null, .null, .null, .null, .null, .null, .null, .null, .int 0, .int 0, .long 0, .int 0])), (q_1, .inl (cy 3, 5, .inr (.inr (.inr (.inr (va_up (fun _ => none) (0 : Int32).toNatClampNeg (some q_2))))))), (q_2, .inr (6, []))] := hD
  refine lv_dup hx hb dX11_init_19 rfl ?_
  refine lv_iconst (v := 1) hx hb dX11_init_20 (by decide) ?_
  refine va_new (ci := 5) (fs := []) (C := RX5) (T := TX5) (N := 0) hx hb hts (fun _ h => List.mem_cons_of_mem _ (List.mem_append_left _ (List.mem_append_left _ (List.mem_append_left _ (List.mem_append_left _ (List.mem_append_left _ (List.mem_append_left _ (List.mem_append_left _ (List.mem_append_left _ (List.mem_append_left _ (List.mem_append_left _ (List.mem_append_right _ h)))))))))))) tyX5 tyX5_ok hown (hts (.classLink RX11 10 RX5) (by decide +kernel)) (hts (.instantiable RX5 0) (by decide +kernel)) (hts (.initialized RX5) (by decide +kernel)) hK.1 hP hD hS hA rfl (by decide +kernel) (Nat.le_of_ble_eq_true rfl) (Nat.le_of_ble_eq_true rfl) dX11_init_21 (fun q_4 H hP hD hS => ?_)
  have hP : va_P D vwCl [(xo, .inr (11, [.null, .null, .null, .null, .null, .null, .null, .null, .int 0, .int 0, .long 0, .int 0])), (q_1, .inl (cy 3, 5, .inr (.inr (.inr (.inr (va_up (fun _ => none) (0 : Int32).toNatClampNeg (some q_2))))))), (q_2, .inr (6, [])), (q_4, .inr (5, []))] H := hP
  have hD : va_D A [(xo, .inr (11, [.null, .null, .null, .null, .null, .null, .null, .null, .int 0, .int 0, .long 0, .int 0])), (q_1, .inl (cy 3, 5, .inr (.inr (.inr (.inr (va_up (fun _ => none) (0 : Int32).toNatClampNeg (some q_2))))))), (q_2, .inr (6, [])), (q_4, .inr (5, []))] := hD
  refine lv_dup hx hb dX11_init_24 rfl ?_
  have hPc := hP.sub (ws' := []) [] rfl
  have hDc := hD.sub (ws' := []) [] (by decide) rfl
  have hDw : va_D (fun _ => True) [] := hDc.weaken (fun _ _ _ _ => trivial)
  have hFc := va_free (wc := []) hD hS hA [] rfl
  refine va_callv (va_runIN (As := []) (rest := [.ref q_4, .int 1, .ref q_1, .ref q_1, .ref xo]) ⟨hx, hb, hml, hown, hts⟩ (c_X5_init l D cy H.size q_4) ⟨va_cnB 0 hts gX11_init_X5_init_n12 rfl rfl rfl (kk_nX11_12 hK) (hts (.initialized RX5) (by decide +kernel)) (by decide +kernel) ⟨Nat.le_of_ble_eq_true rfl, Nat.le_of_ble_eq_true rfl⟩, rfl, (hts (.instanceMethod yX5_init) (by decide +kernel))⟩ ⟨bl_, fun U hU hW => ⟨rfl, by rw [hU], by rw [hU]; exact hPc, kk_mv hW hK, hDw⟩⟩ rfl rfl hl.1 rfl (lv_room (Nat.le_of_ble_eq_true rfl)) dX11_init_25 ⟨Nat.le_of_ble_eq_true rfl, Nat.le_of_ble_eq_true rfl⟩) hS (fun q _ h => hFc q h) hFc (fun u t H locs ht hvm hw hB hz1 hk1 hS => ?_)
  have hP := ro_keep hP hk1
  have hP : va_P D vwCl [(xo, .inr (11, [.null, .null, .null, .null, .null, .null, .null, .null, .int 0, .int 0, .long 0, .int 0])), (q_1, .inl (cy 3, 5, .inr (.inr (.inr (.inr (va_up (fun _ => none) (0 : Int32).toNatClampNeg (some q_2))))))), (q_2, .inr (6, [])), (q_4, .inr (5, []))] H := hP
  refine va_astqM hx hb hK.1 hP hD hS 1 3 rfl rfl (kk_any5 hK hP 3 rfl) (i := 1) (by unfold vp_in; decide) dX11_init_28 (fun H locs hP hD hS => ?_)
  have hP : va_P D vwCl [(xo, .inr (11, [.null, .null, .null, .null, .null, .null, .null, .null, .int 0, .int 0, .long 0, .int 0])), (q_1, .inl (cy 3, 5, .inr (.inr (.inr (.inr (va_up (va_up (fun _ => none) (0 : Int32).toNatClampNeg (some q_2)) (1 : Int32).toNatClampNeg (some q_4))))))), (q_2, .inr (6, [])), (q_4, .inr (5, []))] H := hP
  have hD : va_D A [(xo, .inr (11, [.null, .null, .null, .null, .null, .null, .null, .null, .int 0, .int 0, .long 0, .int 0])), (q_1, .inl (cy 3, 5, .inr (.inr (.inr (.inr (va_up (va_up (fun _ => none) (0 : Int32).toNatClampNeg (some q_2)) (1 : Int32).toNatClampNeg (some q_4))))))), (q_2, .inr (6, [])), (q_4, .inr (5, []))] := hD
  refine lv_dup hx hb dX11_init_29 rfl ?_
  refine lv_iconst (v := 2) hx hb dX11_init_30 (by decide) ?_
  refine va_new (ci := 9) (fs := []) (C := RX9) (T := TX9) (N := 0) hx hb hts (fun _ h => List.mem_cons_of_mem _ (List.mem_append_left _ (List.mem_append_left _ (List.mem_append_left _ (List.mem_append_left _ (List.mem_append_left _ (List.mem_append_left _ (List.mem_append_left _ (List.mem_append_left _ (List.mem_append_left _ (List.mem_append_right _ h))))))))))) tyX9 tyX9_ok hown (hts (.classLink RX11 13 RX9) (by decide +kernel)) (hts (.instantiable RX9 0) (by decide +kernel)) (hts (.initialized RX9) (by decide +kernel)) hK.1 hP hD hS hA rfl (by decide +kernel) (Nat.le_of_ble_eq_true rfl) (Nat.le_of_ble_eq_true rfl) dX11_init_31 (fun q_6 H hP hD hS => ?_)
  have hP : va_P D vwCl [(xo, .inr (11, [.null, .null, .null, .null, .null, .null, .null, .null, .int 0, .int 0, .long 0, .int 0])), (q_1, .inl (cy 3, 5, .inr (.inr (.inr (.inr (va_up (va_up (fun _ => none) (0 : Int32).toNatClampNeg (some q_2)) (1 : Int32).toNatClampNeg (some q_4))))))), (q_2, .inr (6, [])), (q_4, .inr (5, [])), (q_6, .inr (9, []))] H := hP
  have hD : va_D A [(xo, .inr (11, [.null, .null, .null, .null, .null, .null, .null, .null, .int 0, .int 0, .long 0, .int 0])), (q_1, .inl (cy 3, 5, .inr (.inr (.inr (.inr (va_up (va_up (fun _ => none) (0 : Int32).toNatClampNeg (some q_2)) (1 : Int32).toNatClampNeg (some q_4))))))), (q_2, .inr (6, [])), (q_4, .inr (5, [])), (q_6, .inr (9, []))] := hD
  refine lv_dup hx hb dX11_init_34 rfl ?_
  have hPc := hP.sub (ws' := []) [] rfl
  have hDc := hD.sub (ws' := []) [] (by decide) rfl
  have hDw : va_D (fun _ => True) [] := hDc.weaken (fun _ _ _ _ => trivial)
  have hFc := va_free (wc := []) hD hS hA [] rfl
  refine va_callv (va_runIN (As := []) (rest := [.ref q_6, .int 2, .ref q_1, .ref q_1, .ref xo]) ⟨hx, hb, hml, hown, hts⟩ (c_X9_init l D cy H.size q_6) ⟨va_cnB 0 hts gX11_init_X9_init_n15 rfl rfl rfl (kk_nX11_15 hK) (hts (.initialized RX9) (by decide +kernel)) (by decide +kernel) ⟨Nat.le_of_ble_eq_true rfl, Nat.le_of_ble_eq_true rfl⟩, rfl, (hts (.instanceMethod yX9_init) (by decide +kernel))⟩ ⟨bl_, fun U hU hW => ⟨rfl, by rw [hU], by rw [hU]; exact hPc, kk_mv hW hK, hDw⟩⟩ rfl rfl hl.1 rfl (lv_room (Nat.le_of_ble_eq_true rfl)) dX11_init_35 ⟨Nat.le_of_ble_eq_true rfl, Nat.le_of_ble_eq_true rfl⟩) hS (fun q _ h => hFc q h) hFc (fun u t H locs ht hvm hw hB hz1 hk1 hS => ?_)
  have hP := ro_keep hP hk1
  have hP : va_P D vwCl [(xo, .inr (11, [.null, .null, .null, .null, .null, .null, .null, .null, .int 0, .int 0, .long 0, .int 0])), (q_1, .inl (cy 3, 5, .inr (.inr (.inr (.inr (va_up (va_up (fun _ => none) (0 : Int32).toNatClampNeg (some q_2)) (1 : Int32).toNatClampNeg (some q_4))))))), (q_2, .inr (6, [])), (q_4, .inr (5, [])), (q_6, .inr (9, []))] H := hP
  refine va_astqM hx hb hK.1 hP hD hS 1 3 rfl rfl (kk_any9 hK hP 4 rfl) (i := 2) (by unfold vp_in; decide) dX11_init_38 (fun H locs hP hD hS => ?_)
  have hP : va_P D vwCl [(xo, .inr (11, [.null, .null, .null, .null, .null, .null, .null, .null, .int 0, .int 0, .long 0, .int 0])), (q_1, .inl (cy 3, 5, .inr (.inr (.inr (.inr (va_up (va_up (va_up (fun _ => none) (0 : Int32).toNatClampNeg (some q_2)) (1 : Int32).toNatClampNeg (some q_4)) (2 : Int32).toNatClampNeg (some q_6))))))), (q_2, .inr (6, [])), (q_4, .inr (5, [])), (q_6, .inr (9, []))] H := hP
  have hD : va_D A [(xo, .inr (11, [.null, .null, .null, .null, .null, .null, .null, .null, .int 0, .int 0, .long 0, .int 0])), (q_1, .inl (cy 3, 5, .inr (.inr (.inr (.inr (va_up (va_up (va_up (fun _ => none) (0 : Int32).toNatClampNeg (some q_2)) (1 : Int32).toNatClampNeg (some q_4)) (2 : Int32).toNatClampNeg (some q_6))))))), (q_2, .inr (6, [])), (q_4, .inr (5, [])), (q_6, .inr (9, []))] := hD
  refine lv_dup hx hb dX11_init_39 rfl ?_
  refine lv_iconst (v := 3) hx hb dX11_init_40 (by decide) ?_
  refine va_new (ci := 2) (fs := []) (C := RX2) (T := TX2) (N := 0) hx hb hts (fun _ h => List.mem_cons_of_mem _ (List.mem_append_left _ (List.mem_append_left _ (List.mem_append_left _ (List.mem_append_left _ (List.mem_append_left _ (List.mem_append_left _ (List.mem_append_left _ (List.mem_append_left _ (List.mem_append_right _ h)))))))))) tyX2 tyX2_ok hown (hts (.classLink RX11 16 RX2) (by decide +kernel)) (hts (.instantiable RX2 0) (by decide +kernel)) (hts (.initialized RX2) (by decide +kernel)) hK.1 hP hD hS hA rfl (by decide +kernel) (Nat.le_of_ble_eq_true rfl) (Nat.le_of_ble_eq_true rfl) dX11_init_41 (fun q_8 H hP hD hS => ?_)
  have hP : va_P D vwCl [(xo, .inr (11, [.null, .null, .null, .null, .null, .null, .null, .null, .int 0, .int 0, .long 0, .int 0])), (q_1, .inl (cy 3, 5, .inr (.inr (.inr (.inr (va_up (va_up (va_up (fun _ => none) (0 : Int32).toNatClampNeg (some q_2)) (1 : Int32).toNatClampNeg (some q_4)) (2 : Int32).toNatClampNeg (some q_6))))))), (q_2, .inr (6, [])), (q_4, .inr (5, [])), (q_6, .inr (9, [])), (q_8, .inr (2, []))] H := hP
  have hD : va_D A [(xo, .inr (11, [.null, .null, .null, .null, .null, .null, .null, .null, .int 0, .int 0, .long 0, .int 0])), (q_1, .inl (cy 3, 5, .inr (.inr (.inr (.inr (va_up (va_up (va_up (fun _ => none) (0 : Int32).toNatClampNeg (some q_2)) (1 : Int32).toNatClampNeg (some q_4)) (2 : Int32).toNatClampNeg (some q_6))))))), (q_2, .inr (6, [])), (q_4, .inr (5, [])), (q_6, .inr (9, [])), (q_8, .inr (2, []))] := hD
  refine lv_dup hx hb dX11_init_44 rfl ?_
  have hPc := hP.sub (ws' := []) [] rfl
  have hDc := hD.sub (ws' := []) [] (by decide) rfl
  have hDw : va_D (fun _ => True) [] := hDc.weaken (fun _ _ _ _ => trivial)
  have hFc := va_free (wc := []) hD hS hA [] rfl
  refine va_callv (va_runIN (As := []) (rest := [.ref q_8, .int 3, .ref q_1, .ref q_1, .ref xo]) ⟨hx, hb, hml, hown, hts⟩ (c_X2_init l D cy H.size q_8) ⟨va_cnB 0 hts gX11_init_X2_init_n18 rfl rfl rfl (kk_nX11_18 hK) (hts (.initialized RX2) (by decide +kernel)) (by decide +kernel) ⟨Nat.le_of_ble_eq_true rfl, Nat.le_of_ble_eq_true rfl⟩, rfl, (hts (.instanceMethod yX2_init) (by decide +kernel))⟩ ⟨bl_, fun U hU hW => ⟨rfl, by rw [hU], by rw [hU]; exact hPc, kk_mv hW hK, hDw⟩⟩ rfl rfl hl.1 rfl (lv_room (Nat.le_of_ble_eq_true rfl)) dX11_init_45 ⟨Nat.le_of_ble_eq_true rfl, Nat.le_of_ble_eq_true rfl⟩) hS (fun q _ h => hFc q h) hFc (fun u t H locs ht hvm hw hB hz1 hk1 hS => ?_)
  have hP := ro_keep hP hk1
  have hP : va_P D vwCl [(xo, .inr (11, [.null, .null, .null, .null, .null, .null, .null, .null, .int 0, .int 0, .long 0, .int 0])), (q_1, .inl (cy 3, 5, .inr (.inr (.inr (.inr (va_up (va_up (va_up (fun _ => none) (0 : Int32).toNatClampNeg (some q_2)) (1 : Int32).toNatClampNeg (some q_4)) (2 : Int32).toNatClampNeg (some q_6))))))), (q_2, .inr (6, [])), (q_4, .inr (5, [])), (q_6, .inr (9, [])), (q_8, .inr (2, []))] H := hP
  refine va_astqM hx hb hK.1 hP hD hS 1 3 rfl rfl (kk_any2 hK hP 5 rfl) (i := 3) (by unfold vp_in; decide) dX11_init_48 (fun H locs hP hD hS => ?_)
  have hP : va_P D vwCl [(xo, .inr (11, [.null, .null, .null, .null, .null, .null, .null, .null, .int 0, .int 0, .long 0, .int 0])), (q_1, .inl (cy 3, 5, .inr (.inr (.inr (.inr (va_up (va_up (va_up (va_up (fun _ => none) (0 : Int32).toNatClampNeg (some q_2)) (1 : Int32).toNatClampNeg (some q_4)) (2 : Int32).toNatClampNeg (some q_6)) (3 : Int32).toNatClampNeg (some q_8))))))), (q_2, .inr (6, [])), (q_4, .inr (5, [])), (q_6, .inr (9, [])), (q_8, .inr (2, []))] H := hP
  have hD : va_D A [(xo, .inr (11, [.null, .null, .null, .null, .null, .null, .null, .null, .int 0, .int 0, .long 0, .int 0])), (q_1, .inl (cy 3, 5, .inr (.inr (.inr (.inr (va_up (va_up (va_up (va_up (fun _ => none) (0 : Int32).toNatClampNeg (some q_2)) (1 : Int32).toNatClampNeg (some q_4)) (2 : Int32).toNatClampNeg (some q_6)) (3 : Int32).toNatClampNeg (some q_8))))))), (q_2, .inr (6, [])), (q_4, .inr (5, [])), (q_6, .inr (9, [])), (q_8, .inr (2, []))] := hD
  refine lv_dup hx hb dX11_init_49 rfl ?_
  refine lv_iconst (v := 4) hx hb dX11_init_50 (by decide) ?_
  refine va_new (ci := 8) (fs := []) (C := RX8) (T := TX8) (N := 0) hx hb hts (fun _ h => List.mem_cons_of_mem _ (List.mem_append_left _ (List.mem_append_left _ (List.mem_append_left _ (List.mem_append_left _ (List.mem_append_left _ (List.mem_append_left _ (List.mem_append_left _ (List.mem_append_right _ h))))))))) tyX8 tyX8_ok hown (hts (.classLink RX11 19 RX8) (by decide +kernel)) (hts (.instantiable RX8 0) (by decide +kernel)) (hts (.initialized RX8) (by decide +kernel)) hK.1 hP hD hS hA rfl (by decide +kernel) (Nat.le_of_ble_eq_true rfl) (Nat.le_of_ble_eq_true rfl) dX11_init_51 (fun q_10 H hP hD hS => ?_)
  have hP : va_P D vwCl [(xo, .inr (11, [.null, .null, .null, .null, .null, .null, .null, .null, .int 0, .int 0, .long 0, .int 0])), (q_1, .inl (cy 3, 5, .inr (.inr (.inr (.inr (va_up (va_up (va_up (va_up (fun _ => none) (0 : Int32).toNatClampNeg (some q_2)) (1 : Int32).toNatClampNeg (some q_4)) (2 : Int32).toNatClampNeg (some q_6)) (3 : Int32).toNatClampNeg (some q_8))))))), (q_2, .inr (6, [])), (q_4, .inr (5, [])), (q_6, .inr (9, [])), (q_8, .inr (2, [])), (q_10, .inr (8, []))] H := hP
  have hD : va_D A [(xo, .inr (11, [.null, .null, .null, .null, .null, .null, .null, .null, .int 0, .int 0, .long 0, .int 0])), (q_1, .inl (cy 3, 5, .inr (.inr (.inr (.inr (va_up (va_up (va_up (va_up (fun _ => none) (0 : Int32).toNatClampNeg (some q_2)) (1 : Int32).toNatClampNeg (some q_4)) (2 : Int32).toNatClampNeg (some q_6)) (3 : Int32).toNatClampNeg (some q_8))))))), (q_2, .inr (6, [])), (q_4, .inr (5, [])), (q_6, .inr (9, [])), (q_8, .inr (2, [])), (q_10, .inr (8, []))] := hD
  refine lv_dup hx hb dX11_init_54 rfl ?_
  have hPc := hP.sub (ws' := []) [] rfl
  have hDc := hD.sub (ws' := []) [] (by decide) rfl
  have hDw : va_D (fun _ => True) [] := hDc.weaken (fun _ _ _ _ => trivial)
  have hFc := va_free (wc := []) hD hS hA [] rfl
  refine va_callv (va_runIN (As := []) (rest := [.ref q_10, .int 4, .ref q_1, .ref q_1, .ref xo]) ⟨hx, hb, hml, hown, hts⟩ (c_X8_init l D cy H.size q_10) ⟨va_cnB 0 hts gX11_init_X8_init_n21 rfl rfl rfl (kk_nX11_21 hK) (hts (.initialized RX8) (by decide +kernel)) (by decide +kernel) ⟨Nat.le_of_ble_eq_true rfl, Nat.le_of_ble_eq_true rfl⟩, rfl, (hts (.instanceMethod yX8_init) (by decide +kernel))⟩ ⟨bl_, fun U hU hW => ⟨rfl, by rw [hU], by rw [hU]; exact hPc, kk_mv hW hK, hDw⟩⟩ rfl rfl hl.1 rfl (lv_room (Nat.le_of_ble_eq_true rfl)) dX11_init_55 ⟨Nat.le_of_ble_eq_true rfl, Nat.le_of_ble_eq_true rfl⟩) hS (fun q _ h => hFc q h) hFc (fun u t H locs ht hvm hw hB hz1 hk1 hS => ?_)
  have hP := ro_keep hP hk1
  have hP : va_P D vwCl [(xo, .inr (11, [.null, .null, .null, .null, .null, .null, .null, .null, .int 0, .int 0, .long 0, .int 0])), (q_1, .inl (cy 3, 5, .inr (.inr (.inr (.inr (va_up (va_up (va_up (va_up (fun _ => none) (0 : Int32).toNatClampNeg (some q_2)) (1 : Int32).toNatClampNeg (some q_4)) (2 : Int32).toNatClampNeg (some q_6)) (3 : Int32).toNatClampNeg (some q_8))))))), (q_2, .inr (6, [])), (q_4, .inr (5, [])), (q_6, .inr (9, [])), (q_8, .inr (2, [])), (q_10, .inr (8, []))] H := hP
  refine va_astqM hx hb hK.1 hP hD hS 1 3 rfl rfl (kk_any8 hK hP 6 rfl) (i := 4) (by unfold vp_in; decide) dX11_init_58 (fun H locs hP hD hS => ?_)
  have hP : va_P D vwCl [(xo, .inr (11, [.null, .null, .null, .null, .null, .null, .null, .null, .int 0, .int 0, .long 0, .int 0])), (q_1, .inl (cy 3, 5, .inr (.inr (.inr (.inr (va_up (va_up (va_up (va_up (va_up (fun _ => none) (0 : Int32).toNatClampNeg (some q_2)) (1 : Int32).toNatClampNeg (some q_4)) (2 : Int32).toNatClampNeg (some q_6)) (3 : Int32).toNatClampNeg (some q_8)) (4 : Int32).toNatClampNeg (some q_10))))))), (q_2, .inr (6, [])), (q_4, .inr (5, [])), (q_6, .inr (9, [])), (q_8, .inr (2, [])), (q_10, .inr (8, []))] H := hP
  have hD : va_D A [(xo, .inr (11, [.null, .null, .null, .null, .null, .null, .null, .null, .int 0, .int 0, .long 0, .int 0])), (q_1, .inl (cy 3, 5, .inr (.inr (.inr (.inr (va_up (va_up (va_up (va_up (va_up (fun _ => none) (0 : Int32).toNatClampNeg (some q_2)) (1 : Int32).toNatClampNeg (some q_4)) (2 : Int32).toNatClampNeg (some q_6)) (3 : Int32).toNatClampNeg (some q_8)) (4 : Int32).toNatClampNeg (some q_10))))))), (q_2, .inr (6, [])), (q_4, .inr (5, [])), (q_6, .inr (9, [])), (q_8, .inr (2, [])), (q_10, .inr (8, []))] := hD
  refine va_putF (ci := 11) (v := .ref q_1) (ty := (tyX11 0)) (C := RX11) (T := TX11) (N := 12) hx hb hts (fun _ h => List.mem_cons_of_mem _ (List.mem_append_left _ (List.mem_append_left _ (List.mem_append_left _ (List.mem_append_left _ (List.mem_append_left _ (List.mem_append_left _ (List.mem_append_right _ h)))))))) tyX11 tyX11_ok nmX11 hown hK.1 hP hD hS 0 rfl rfl 0 (by decide) (hts (.fieldLink RX11 22 "CutAtlas" "kinds" "[LCutAtlas$PlainKind;") (by decide +kernel)) (fun _ h9 => h9) rfl hin rfl (by decide +kernel) rfl rfl (Nat.le_of_ble_eq_true rfl) dX11_init_59 (fun H locs hP hD hS => ?_)
  have hP : va_P D vwCl [(xo, .inr (11, [.ref q_1, .null, .null, .null, .null, .null, .null, .null, .int 0, .int 0, .long 0, .int 0])), (q_1, .inl (cy 3, 5, .inr (.inr (.inr (.inr (va_up (va_up (va_up (va_up (va_up (fun _ => none) (0 : Int32).toNatClampNeg (some q_2)) (1 : Int32).toNatClampNeg (some q_4)) (2 : Int32).toNatClampNeg (some q_6)) (3 : Int32).toNatClampNeg (some q_8)) (4 : Int32).toNatClampNeg (some q_10))))))), (q_2, .inr (6, [])), (q_4, .inr (5, [])), (q_6, .inr (9, [])), (q_8, .inr (2, [])), (q_10, .inr (8, []))] H := hP
  have hD : va_D A [(xo, .inr (11, [.ref q_1, .null, .null, .null, .null, .null, .null, .null, .int 0, .int 0, .long 0, .int 0])), (q_1, .inl (cy 3, 5, .inr (.inr (.inr (.inr (va_up (va_up (va_up (va_up (va_up (fun _ => none) (0 : Int32).toNatClampNeg (some q_2)) (1 : Int32).toNatClampNeg (some q_4)) (2 : Int32).toNatClampNeg (some q_6)) (3 : Int32).toNatClampNeg (some q_8)) (4 : Int32).toNatClampNeg (some q_10))))))), (q_2, .inr (6, [])), (q_4, .inr (5, [])), (q_6, .inr (9, [])), (q_8, .inr (2, [])), (q_10, .inr (8, []))] := hD
  refine lv_aload_n hx hb dX11_init_62 rfl (lv_at hl 0 rfl) ?_
  refine va_new (ci := 3) (fs := [.int 0, .int 0, .null, .null, .null, .null, .null]) (C := RX3) (T := TX3) (N := 7) hx hb hts (fun _ h => List.mem_cons_of_mem _ (List.mem_append_left _ (List.mem_append_left _ (List.mem_append_left _ (List.mem_append_left _ (List.mem_append_left _ (List.mem_append_right _ h))))))) tyX3 tyX3_ok hown (hts (.classLink RX11 28 RX3) (by decide +kernel)) (hts (.instantiable RX3 7) (by decide +kernel)) (hts (.initialized RX3) (by decide +kernel)) hK.1 hP hD hS hA rfl (by decide +kernel) (Nat.le_of_ble_eq_true rfl) (Nat.le_of_ble_eq_true rfl) dX11_init_63 (fun q_12 H hP hD hS => ?_)
  have hP : va_P D vwCl [(xo, .inr (11, [.ref q_1, .null, .null, .null, .null, .null, .null, .null, .int 0, .int 0, .long 0, .int 0])), (q_1, .inl (cy 3, 5, .inr (.inr (.inr (.inr (va_up (va_up (va_up (va_up (va_up (fun _ => none) (0 : Int32).toNatClampNeg (some q_2)) (1 : Int32).toNatClampNeg (some q_4)) (2 : Int32).toNatClampNeg (some q_6)) (3 : Int32).toNatClampNeg (some q_8)) (4 : Int32).toNatClampNeg (some q_10))))))), (q_2, .inr (6, [])), (q_4, .inr (5, [])), (q_6, .inr (9, [])), (q_8, .inr (2, [])), (q_10, .inr (8, [])), (q_12, .inr (3, [.int 0, .int 0, .null, .null, .null, .null, .null]))] H := hP
  have hD : va_D A [(xo, .inr (11, [.ref q_1, .null, .null, .null, .null, .null, .null, .null, .int 0, .int 0, .long 0, .int 0])), (q_1, .inl (cy 3, 5, .inr (.inr (.inr (.inr (va_up (va_up (va_up (va_up (va_up (fun _ => none) (0 : Int32).toNatClampNeg (some q_2)) (1 : Int32).toNatClampNeg (some q_4)) (2 : Int32).toNatClampNeg (some q_6)) (3 : Int32).toNatClampNeg (some q_8)) (4 : Int32).toNatClampNeg (some q_10))))))), (q_2, .inr (6, [])), (q_4, .inr (5, [])), (q_6, .inr (9, [])), (q_8, .inr (2, [])), (q_10, .inr (8, [])), (q_12, .inr (3, [.int 0, .int 0, .null, .null, .null, .null, .null]))] := hD
  refine lv_dup hx hb dX11_init_66 rfl ?_
  have hPc := hP.sub (ws' := [(q_12, .inr (3, [.int 0, .int 0, .null, .null, .null, .null, .null]))]) [7] rfl
  have hDc := hD.sub (ws' := [(q_12, .inr (3, [.int 0, .int 0, .null, .null, .null, .null, .null]))]) [7] (by decide) rfl
  have hDw : va_D (fun _ => True) [(q_12, .inr (3, [.int 0, .int 0, .null, .null, .null, .null, .null]))] := hDc.weaken (fun _ _ _ _ => trivial)
  have hFc := va_free (wc := [(q_12, .inr (3, [.int 0, .int 0, .null, .null, .null, .null, .null]))]) hD hS hA [7] rfl
  refine va_callv (va_runIN (As := []) (rest := [.ref q_12, .ref xo]) ⟨hx, hb, hml, hown, hts⟩ (c_X3_init l D cy H.size q_12) ⟨va_cnB 0 hts gX11_init_X3_init_n30 rfl rfl rfl (kk_nX11_30 hK) (hts (.initialized RX3) (by decide +kernel)) (by decide +kernel) ⟨Nat.le_of_ble_eq_true rfl, Nat.le_of_ble_eq_true rfl⟩, rfl, (hts (.instanceMethod yX3_init) (by decide +kernel))⟩ ⟨bl_, fun U hU hW => ⟨rfl, by rw [hU], by rw [hU]; exact hPc, kk_mv hW hK, hDw⟩⟩ rfl rfl hl.1 rfl (lv_room (Nat.le_of_ble_eq_true rfl)) dX11_init_67 ⟨Nat.le_of_ble_eq_true rfl, Nat.le_of_ble_eq_true rfl⟩) hS (fun q _ h => hFc q h) hFc (fun u t H locs ht hvm hw hB hz1 hk1 hS => ?_)
  obtain ⟨n1_14, n2_15, n3_16, n4_17, n5_18, hP1, hD1⟩ := hB
  rw [ht] at hP1
  obtain ⟨hP, hD⟩ := va_join (wr := [(xo, .inr (11, [.ref q_1, .null, .null, .null, .null, .null, .null, .null, .int 0, .int 0, .long 0, .int 0])), (q_1, .inl (cy 3, 5, .inr (.inr (.inr (.inr (va_up (va_up (va_up (va_up (va_up (fun _ => none) (0 : Int32).toNatClampNeg (some q_2)) (1 : Int32).toNatClampNeg (some q_4)) (2 : Int32).toNatClampNeg (some q_6)) (3 : Int32).toNatClampNeg (some q_8)) (4 : Int32).toNatClampNeg (some q_10))))))), (q_2, .inr (6, [])), (q_4, .inr (5, [])), (q_6, .inr (9, [])), (q_8, .inr (2, [])), (q_10, .inr (8, []))]) (w1 := [(q_12, .inr (3, [.int 0, .int 0, .ref n1_14, .ref n2_15, .ref n3_16, .ref n4_17, .ref n5_18])), (n1_14, .inl (cy 0, 40, .inl (fun _ => 0))), (n2_15, .inl (cy 0, 40, .inl (fun _ => 0))), (n3_16, .inl (cy 0, 40, .inl (fun _ => 0))), (n4_17, .inl (cy 0, 40, .inl (fun _ => 0))), (n5_18, .inl (cy 0, 40, .inl (fun _ => 0)))]) hP hD [7] [0, 1, 2, 3, 4, 5, 6] rfl rfl (by decide) (by decide) hk1 hFc hP1 hD1
  have hP : va_P D vwCl [(xo, .inr (11, [.ref q_1, .null, .null, .null, .null, .null, .null, .null, .int 0, .int 0, .long 0, .int 0])), (q_1, .inl (cy 3, 5, .inr (.inr (.inr (.inr (va_up (va_up (va_up (va_up (va_up (fun _ => none) (0 : Int32).toNatClampNeg (some q_2)) (1 : Int32).toNatClampNeg (some q_4)) (2 : Int32).toNatClampNeg (some q_6)) (3 : Int32).toNatClampNeg (some q_8)) (4 : Int32).toNatClampNeg (some q_10))))))), (q_2, .inr (6, [])), (q_4, .inr (5, [])), (q_6, .inr (9, [])), (q_8, .inr (2, [])), (q_10, .inr (8, [])), (q_12, .inr (3, [.int 0, .int 0, .ref n1_14, .ref n2_15, .ref n3_16, .ref n4_17, .ref n5_18])), (n1_14, .inl (cy 0, 40, .inl (fun _ => 0))), (n2_15, .inl (cy 0, 40, .inl (fun _ => 0))), (n3_16, .inl (cy 0, 40, .inl (fun _ => 0))), (n4_17, .inl (cy 0, 40, .inl (fun _ => 0))), (n5_18, .inl (cy 0, 40, .inl (fun _ => 0)))] H := hP
  have hD : va_D A [(xo, .inr (11, [.ref q_1, .null, .null, .null, .null, .null, .null, .null, .int 0, .int 0, .long 0, .int 0])), (q_1, .inl (cy 3, 5, .inr (.inr (.inr (.inr (va_up (va_up (va_up (va_up (va_up (fun _ => none) (0 : Int32).toNatClampNeg (some q_2)) (1 : Int32).toNatClampNeg (some q_4)) (2 : Int32).toNatClampNeg (some q_6)) (3 : Int32).toNatClampNeg (some q_8)) (4 : Int32).toNatClampNeg (some q_10))))))), (q_2, .inr (6, [])), (q_4, .inr (5, [])), (q_6, .inr (9, [])), (q_8, .inr (2, [])), (q_10, .inr (8, [])), (q_12, .inr (3, [.int 0, .int 0, .ref n1_14, .ref n2_15, .ref n3_16, .ref n4_17, .ref n5_18])), (n1_14, .inl (cy 0, 40, .inl (fun _ => 0))), (n2_15, .inl (cy 0, 40, .inl (fun _ => 0))), (n3_16, .inl (cy 0, 40, .inl (fun _ => 0))), (n4_17, .inl (cy 0, 40, .inl (fun _ => 0))), (n5_18, .inl (cy 0, 40, .inl (fun _ => 0)))] := hD
  refine va_putF (ci := 11) (v := .ref q_12) (ty := (tyX11 1)) (C := RX11) (T := TX11) (N := 12) hx hb hts (fun _ h => List.mem_cons_of_mem _ (List.mem_append_left _ (List.mem_append_left _ (List.mem_append_left _ (List.mem_append_left _ (List.mem_append_left _ (List.mem_append_left _ (List.mem_append_right _ h)))))))) tyX11 tyX11_ok nmX11 hown hK.1 hP hD hS 0 rfl rfl 1 (by decide) (hts (.fieldLink RX11 31 "CutAtlas" "net" "LCutAtlas$Net;") (by decide +kernel)) (fun _ h9 => h9) rfl hin rfl (by decide +kernel) rfl rfl (Nat.le_of_ble_eq_true rfl) dX11_init_70 (fun H locs hP hD hS => ?_)
  have hP : va_P D vwCl [(xo, .inr (11, [.ref q_1, .ref q_12, .null, .null, .null, .null, .null, .null, .int 0, .int 0, .long 0, .int 0])), (q_1, .inl (cy 3, 5, .inr (.inr (.inr (.inr (va_up (va_up (va_up (va_up (va_up (fun _ => none) (0 : Int32).toNatClampNeg (some q_2)) (1 : Int32).toNatClampNeg (some q_4)) (2 : Int32).toNatClampNeg (some q_6)) (3 : Int32).toNatClampNeg (some q_8)) (4 : Int32).toNatClampNeg (some q_10))))))), (q_2, .inr (6, [])), (q_4, .inr (5, [])), (q_6, .inr (9, [])), (q_8, .inr (2, [])), (q_10, .inr (8, [])), (q_12, .inr (3, [.int 0, .int 0, .ref n1_14, .ref n2_15, .ref n3_16, .ref n4_17, .ref n5_18])), (n1_14, .inl (cy 0, 40, .inl (fun _ => 0))), (n2_15, .inl (cy 0, 40, .inl (fun _ => 0))), (n3_16, .inl (cy 0, 40, .inl (fun _ => 0))), (n4_17, .inl (cy 0, 40, .inl (fun _ => 0))), (n5_18, .inl (cy 0, 40, .inl (fun _ => 0)))] H := hP
  have hD : va_D A [(xo, .inr (11, [.ref q_1, .ref q_12, .null, .null, .null, .null, .null, .null, .int 0, .int 0, .long 0, .int 0])), (q_1, .inl (cy 3, 5, .inr (.inr (.inr (.inr (va_up (va_up (va_up (va_up (va_up (fun _ => none) (0 : Int32).toNatClampNeg (some q_2)) (1 : Int32).toNatClampNeg (some q_4)) (2 : Int32).toNatClampNeg (some q_6)) (3 : Int32).toNatClampNeg (some q_8)) (4 : Int32).toNatClampNeg (some q_10))))))), (q_2, .inr (6, [])), (q_4, .inr (5, [])), (q_6, .inr (9, [])), (q_8, .inr (2, [])), (q_10, .inr (8, [])), (q_12, .inr (3, [.int 0, .int 0, .ref n1_14, .ref n2_15, .ref n3_16, .ref n4_17, .ref n5_18])), (n1_14, .inl (cy 0, 40, .inl (fun _ => 0))), (n2_15, .inl (cy 0, 40, .inl (fun _ => 0))), (n3_16, .inl (cy 0, 40, .inl (fun _ => 0))), (n4_17, .inl (cy 0, 40, .inl (fun _ => 0))), (n5_18, .inl (cy 0, 40, .inl (fun _ => 0)))] := hD
  refine lv_aload_n hx hb dX11_init_73 rfl (lv_at hl 0 rfl) ?_
  refine va_new (ci := 0) (fs := [.null, .null, .null, .null, .null, .null, .null, .null, .null]) (C := RX0) (T := TX0) (N := 9) hx hb hts (fun _ h => List.mem_cons_of_mem _ (List.mem_append_left _ (List.mem_append_left _ (List.mem_append_left _ (List.mem_append_left _ (List.mem_append_right _ h)))))) tyX0 tyX0_ok hown (hts (.classLink RX11 35 RX0) (by decide +kernel)) (hts (.instantiable RX0 9) (by decide +kernel)) (hts (.initialized RX0) (by decide +kernel)) hK.1 hP hD hS hA rfl (by decide +kernel) (Nat.le_of_ble_eq_true rfl) (Nat.le_of_ble_eq_true rfl) dX11_init_74 (fun q_19 H hP hD hS => ?_)
  have hP : va_P D vwCl [(xo, .inr (11, [.ref q_1, .ref q_12, .null, .null, .null, .null, .null, .null, .int 0, .int 0, .long 0, .int 0])), (q_1, .inl (cy 3, 5, .inr (.inr (.inr (.inr (va_up (va_up (va_up (va_up (va_up (fun _ => none) (0 : Int32).toNatClampNeg (some q_2)) (1 : Int32).toNatClampNeg (some q_4)) (2 : Int32).toNatClampNeg (some q_6)) (3 : Int32).toNatClampNeg (some q_8)) (4 : Int32).toNatClampNeg (some q_10))))))), (q_2, .inr (6, [])), (q_4, .inr (5, [])), (q_6, .inr (9, [])), (q_8, .inr (2, [])), (q_10, .inr (8, [])), (q_12, .inr (3, [.int 0, .int 0, .ref n1_14, .ref n2_15, .ref n3_16, .ref n4_17, .ref n5_18])), (n1_14, .inl (cy 0, 40, .inl (fun _ => 0))), (n2_15, .inl (cy 0, 40, .inl (fun _ => 0))), (n3_16, .inl (cy 0, 40, .inl (fun _ => 0))), (n4_17, .inl (cy 0, 40, .inl (fun _ => 0))), (n5_18, .inl (cy 0, 40, .inl (fun _ => 0))), (q_19, .inr (0, [.null, .null, .null, .null, .null, .null, .null, .null, .null]))] H := hP
  have hD : va_D A [(xo, .inr (11, [.ref q_1, .ref q_12, .null, .null, .null, .null, .null, .null, .int 0, .int 0, .long 0, .int 0])), (q_1, .inl (cy 3, 5, .inr (.inr (.inr (.inr (va_up (va_up (va_up (va_up (va_up (fun _ => none) (0 : Int32).toNatClampNeg (some q_2)) (1 : Int32).toNatClampNeg (some q_4)) (2 : Int32).toNatClampNeg (some q_6)) (3 : Int32).toNatClampNeg (some q_8)) (4 : Int32).toNatClampNeg (some q_10))))))), (q_2, .inr (6, [])), (q_4, .inr (5, [])), (q_6, .inr (9, [])), (q_8, .inr (2, [])), (q_10, .inr (8, [])), (q_12, .inr (3, [.int 0, .int 0, .ref n1_14, .ref n2_15, .ref n3_16, .ref n4_17, .ref n5_18])), (n1_14, .inl (cy 0, 40, .inl (fun _ => 0))), (n2_15, .inl (cy 0, 40, .inl (fun _ => 0))), (n3_16, .inl (cy 0, 40, .inl (fun _ => 0))), (n4_17, .inl (cy 0, 40, .inl (fun _ => 0))), (n5_18, .inl (cy 0, 40, .inl (fun _ => 0))), (q_19, .inr (0, [.null, .null, .null, .null, .null, .null, .null, .null, .null]))] := hD
  refine lv_dup hx hb dX11_init_77 rfl ?_
  refine lv_aload_n hx hb dX11_init_78 rfl (lv_at hl 0 rfl) ?_
  refine va_get (ci := 11) (v := .ref q_12) (C := RX11) (T := TX11) (N := 12) hx hb hts (fun _ h => List.mem_cons_of_mem _ (List.mem_append_left _ (List.mem_append_left _ (List.mem_append_left _ (List.mem_append_left _ (List.mem_append_left _ (List.mem_append_left _ (List.mem_append_right _ h)))))))) hown hK.1 hP 0 rfl rfl 1 (by decide) (hts (.fieldLink RX11 31 "CutAtlas" "net" "LCutAtlas$Net;") (by decide +kernel)) (fun _ h9 => h9) rfl dX11_init_79 ?_
  refine lv_aload_n hx hb dX11_init_82 rfl (lv_at hl 0 rfl) ?_
  refine va_get (ci := 11) (v := .ref q_1) (C := RX11) (T := TX11) (N := 12) hx hb hts (fun _ h => List.mem_cons_of_mem _ (List.mem_append_left _ (List.mem_append_left _ (List.mem_append_left _ (List.mem_append_left _ (List.mem_append_left _ (List.mem_append_left _ (List.mem_append_right _ h)))))))) hown hK.1 hP 0 rfl rfl 0 (by decide) (hts (.fieldLink RX11 22 "CutAtlas" "kinds" "[LCutAtlas$PlainKind;") (by decide +kernel)) (fun _ h9 => h9) rfl dX11_init_83 ?_
  have hPc := hP.sub (ws' := [(q_19, .inr (0, [.null, .null, .null, .null, .null, .null, .null, .null, .null]))]) [13] rfl
  have hDc := hD.sub (ws' := [(q_19, .inr (0, [.null, .null, .null, .null, .null, .null, .null, .null, .null]))]) [13] (by decide) rfl
  have hDw : va_D (fun _ => True) [(q_19, .inr (0, [.null, .null, .null, .null, .null, .null, .null, .null, .null]))] := hDc.weaken (fun _ _ _ _ => trivial)
  have hFc := va_free (wc := [(q_19, .inr (0, [.null, .null, .null, .null, .null, .null, .null, .null, .null]))]) hD hS hA [13] rfl
  refine va_callv (va_runI (As := [.ref q_12, .ref q_1]) (rest := [.ref q_19, .ref xo]) ⟨hx, hb, hml, hown, hts⟩ (c_X0_init l D cy H.size q_19 q_12 q_1) (cwI 2 hts gX11_init_X0_init rfl rfl rfl (hts (.initialized RX0) (by decide +kernel)) (hts (.methodLink RX11 37 yX0_init) (by decide +kernel)) (hts (.instanceMethod yX0_init) (by decide +kernel)) rfl (by decide +kernel) ⟨Nat.le_of_ble_eq_true rfl, Nat.le_of_ble_eq_true rfl⟩) ⟨bl_, fun U hU hW => ⟨rfl, by rw [hU], by rw [hU]; exact hPc, kk_mv hW hK, hDw⟩⟩ rfl rfl hl.1 rfl (lv_room (Nat.le_of_ble_eq_true rfl)) dX11_init_86 ⟨Nat.le_of_ble_eq_true rfl, Nat.le_of_ble_eq_true rfl⟩) hS (fun q _ h => hFc q h) hFc (fun u t H locs ht hvm hw hB hz1 hk1 hS => ?_)
  obtain ⟨hP, hD⟩ := va_join (wr := [(xo, .inr (11, [.ref q_1, .ref q_12, .null, .null, .null, .null, .null, .null, .int 0, .int 0, .long 0, .int 0])), (q_1, .inl (cy 3, 5, .inr (.inr (.inr (.inr (va_up (va_up (va_up (va_up (va_up (fun _ => none) (0 : Int32).toNatClampNeg (some q_2)) (1 : Int32).toNatClampNeg (some q_4)) (2 : Int32).toNatClampNeg (some q_6)) (3 : Int32).toNatClampNeg (some q_8)) (4 : Int32).toNatClampNeg (some q_10))))))), (q_2, .inr (6, [])), (q_4, .inr (5, [])), (q_6, .inr (9, [])), (q_8, .inr (2, [])), (q_10, .inr (8, [])), (q_12, .inr (3, [.int 0, .int 0, .ref n1_14, .ref n2_15, .ref n3_16, .ref n4_17, .ref n5_18])), (n1_14, .inl (cy 0, 40, .inl (fun _ => 0))), (n2_15, .inl (cy 0, 40, .inl (fun _ => 0))), (n3_16, .inl (cy 0, 40, .inl (fun _ => 0))), (n4_17, .inl (cy 0, 40, .inl (fun _ => 0))), (n5_18, .inl (cy 0, 40, .inl (fun _ => 0)))]) (w1 := []) hP hD [13] [0, 1, 2, 3, 4, 5, 6, 7, 8, 9, 10, 11, 12] rfl rfl (by decide) (by decide) hk1 hFc pp_nil dd_nil
  have hP : va_P D vwCl [(xo, .inr (11, [.ref q_1, .ref q_12, .null, .null, .null, .null, .null, .null, .int 0, .int 0, .long 0, .int 0])), (q_1, .inl (cy 3, 5, .inr (.inr (.inr (.inr (va_up (va_up (va_up (va_up (va_up (fun _ => none) (0 : Int32).toNatClampNeg (some q_2)) (1 : Int32).toNatClampNeg (some q_4)) (2 : Int32).toNatClampNeg (some q_6)) (3 : Int32).toNatClampNeg (some q_8)) (4 : Int32).toNatClampNeg (some q_10))))))), (q_2, .inr (6, [])), (q_4, .inr (5, [])), (q_6, .inr (9, [])), (q_8, .inr (2, [])), (q_10, .inr (8, [])), (q_12, .inr (3, [.int 0, .int 0, .ref n1_14, .ref n2_15, .ref n3_16, .ref n4_17, .ref n5_18])), (n1_14, .inl (cy 0, 40, .inl (fun _ => 0))), (n2_15, .inl (cy 0, 40, .inl (fun _ => 0))), (n3_16, .inl (cy 0, 40, .inl (fun _ => 0))), (n4_17, .inl (cy 0, 40, .inl (fun _ => 0))), (n5_18, .inl (cy 0, 40, .inl (fun _ => 0)))] H := hP
  have hD : va_D A [(xo, .inr (11, [.ref q_1, .ref q_12, .null, .null, .null, .null, .null, .null, .int 0, .int 0, .long 0, .int 0])), (q_1, .inl (cy 3, 5, .inr (.inr (.inr (.inr (va_up (va_up (va_up (va_up (va_up (fun _ => none) (0 : Int32).toNatClampNeg (some q_2)) (1 : Int32).toNatClampNeg (some q_4)) (2 : Int32).toNatClampNeg (some q_6)) (3 : Int32).toNatClampNeg (some q_8)) (4 : Int32).toNatClampNeg (some q_10))))))), (q_2, .inr (6, [])), (q_4, .inr (5, [])), (q_6, .inr (9, [])), (q_8, .inr (2, [])), (q_10, .inr (8, [])), (q_12, .inr (3, [.int 0, .int 0, .ref n1_14, .ref n2_15, .ref n3_16, .ref n4_17, .ref n5_18])), (n1_14, .inl (cy 0, 40, .inl (fun _ => 0))), (n2_15, .inl (cy 0, 40, .inl (fun _ => 0))), (n3_16, .inl (cy 0, 40, .inl (fun _ => 0))), (n4_17, .inl (cy 0, 40, .inl (fun _ => 0))), (n5_18, .inl (cy 0, 40, .inl (fun _ => 0)))] := hD
  refine va_putF (ci := 11) (v := .ref q_19) (ty := (tyX11 2)) (C := RX11) (T := TX11) (N := 12) hx hb hts (fun _ h => List.mem_cons_of_mem _ (List.mem_append_left _ (List.mem_append_left _ (List.mem_append_left _ (List.mem_append_left _ (List.mem_append_left _ (List.mem_append_left _ (List.mem_append_right _ h)))))))) tyX11 tyX11_ok nmX11 hown hK.1 hP hD hS 0 rfl rfl 2 (by decide) (hts (.fieldLink RX11 40 "CutAtlas" "current" "LCutAtlas$Current;") (by decide +kernel)) (fun _ h9 => h9) rfl hin rfl (by decide +kernel) rfl rfl (Nat.le_of_ble_eq_true rfl) dX11_init_89 (fun H locs hP hD hS => ?_)
  have hP : va_P D vwCl [(xo, .inr (11, [.ref q_1, .ref q_12, .ref q_19, .null, .null, .null, .null, .null, .int 0, .int 0, .long 0, .int 0])), (q_1, .inl (cy 3, 5, .inr (.inr (.inr (.inr (va_up (va_up (va_up (va_up (va_up (fun _ => none) (0 : Int32).toNatClampNeg (some q_2)) (1 : Int32).toNatClampNeg (some q_4)) (2 : Int32).toNatClampNeg (some q_6)) (3 : Int32).toNatClampNeg (some q_8)) (4 : Int32).toNatClampNeg (some q_10))))))), (q_2, .inr (6, [])), (q_4, .inr (5, [])), (q_6, .inr (9, [])), (q_8, .inr (2, [])), (q_10, .inr (8, [])), (q_12, .inr (3, [.int 0, .int 0, .ref n1_14, .ref n2_15, .ref n3_16, .ref n4_17, .ref n5_18])), (n1_14, .inl (cy 0, 40, .inl (fun _ => 0))), (n2_15, .inl (cy 0, 40, .inl (fun _ => 0))), (n3_16, .inl (cy 0, 40, .inl (fun _ => 0))), (n4_17, .inl (cy 0, 40, .inl (fun _ => 0))), (n5_18, .inl (cy 0, 40, .inl (fun _ => 0)))] H := hP
  have hD : va_D A [(xo, .inr (11, [.ref q_1, .ref q_12, .ref q_19, .null, .null, .null, .null, .null, .int 0, .int 0, .long 0, .int 0])), (q_1, .inl (cy 3, 5, .inr (.inr (.inr (.inr (va_up (va_up (va_up (va_up (va_up (fun _ => none) (0 : Int32).toNatClampNeg (some q_2)) (1 : Int32).toNatClampNeg (some q_4)) (2 : Int32).toNatClampNeg (some q_6)) (3 : Int32).toNatClampNeg (some q_8)) (4 : Int32).toNatClampNeg (some q_10))))))), (q_2, .inr (6, [])), (q_4, .inr (5, [])), (q_6, .inr (9, [])), (q_8, .inr (2, [])), (q_10, .inr (8, [])), (q_12, .inr (3, [.int 0, .int 0, .ref n1_14, .ref n2_15, .ref n3_16, .ref n4_17, .ref n5_18])), (n1_14, .inl (cy 0, 40, .inl (fun _ => 0))), (n2_15, .inl (cy 0, 40, .inl (fun _ => 0))), (n3_16, .inl (cy 0, 40, .inl (fun _ => 0))), (n4_17, .inl (cy 0, 40, .inl (fun _ => 0))), (n5_18, .inl (cy 0, 40, .inl (fun _ => 0)))] := hD
  refine lv_aload_n hx hb dX11_init_92 rfl (lv_at hl 0 rfl) ?_
  refine va_new (ci := 7) (fs := [.null, .int 0, .int 0, .int 0, .int 0, .int 0, .int 0, .int 0, .int 0]) (C := RX7) (T := TX7) (N := 9) hx hb hts (fun _ h => List.mem_cons_of_mem _ (List.mem_append_left _ (List.mem_append_left _ (List.mem_append_left _ (List.mem_append_right _ h))))) tyX7 tyX7_ok hown (hts (.classLink RX11 44 RX7) (by decide +kernel)) (hts (.instantiable RX7 9) (by decide +kernel)) (hts (.initialized RX7) (by decide +kernel)) hK.1 hP hD hS hA rfl (by decide +kernel) (Nat.le_of_ble_eq_true rfl) (Nat.le_of_ble_eq_true rfl) dX11_init_93 (fun q_21 H hP hD hS => ?_)
  have hP : va_P D vwCl [(xo, .inr (11, [.ref q_1, .ref q_12, .ref q_19, .null, .null, .null, .null, .null, .int 0, .int 0, .long 0, .int 0])), (q_1, .inl (cy 3, 5, .inr (.inr (.inr (.inr (va_up (va_up (va_up (va_up (va_up (fun _ => none) (0 : Int32).toNatClampNeg (some q_2)) (1 : Int32).toNatClampNeg (some q_4)) (2 : Int32).toNatClampNeg (some q_6)) (3 : Int32).toNatClampNeg (some q_8)) (4 : Int32).toNatClampNeg (some q_10))))))), (q_2, .inr (6, [])), (q_4, .inr (5, [])), (q_6, .inr (9, [])), (q_8, .inr (2, [])), (q_10, .inr (8, [])), (q_12, .inr (3, [.int 0, .int 0, .ref n1_14, .ref n2_15, .ref n3_16, .ref n4_17, .ref n5_18])), (n1_14, .inl (cy 0, 40, .inl (fun _ => 0))), (n2_15, .inl (cy 0, 40, .inl (fun _ => 0))), (n3_16, .inl (cy 0, 40, .inl (fun _ => 0))), (n4_17, .inl (cy 0, 40, .inl (fun _ => 0))), (n5_18, .inl (cy 0, 40, .inl (fun _ => 0))), (q_21, .inr (7, [.null, .int 0, .int 0, .int 0, .int 0, .int 0, .int 0, .int 0, .int 0]))] H := hP
  have hD : va_D A [(xo, .inr (11, [.ref q_1, .ref q_12, .ref q_19, .null, .null, .null, .null, .null, .int 0, .int 0, .long 0, .int 0])), (q_1, .inl (cy 3, 5, .inr (.inr (.inr (.inr (va_up (va_up (va_up (va_up (va_up (fun _ => none) (0 : Int32).toNatClampNeg (some q_2)) (1 : Int32).toNatClampNeg (some q_4)) (2 : Int32).toNatClampNeg (some q_6)) (3 : Int32).toNatClampNeg (some q_8)) (4 : Int32).toNatClampNeg (some q_10))))))), (q_2, .inr (6, [])), (q_4, .inr (5, [])), (q_6, .inr (9, [])), (q_8, .inr (2, [])), (q_10, .inr (8, [])), (q_12, .inr (3, [.int 0, .int 0, .ref n1_14, .ref n2_15, .ref n3_16, .ref n4_17, .ref n5_18])), (n1_14, .inl (cy 0, 40, .inl (fun _ => 0))), (n2_15, .inl (cy 0, 40, .inl (fun _ => 0))), (n3_16, .inl (cy 0, 40, .inl (fun _ => 0))), (n4_17, .inl (cy 0, 40, .inl (fun _ => 0))), (n5_18, .inl (cy 0, 40, .inl (fun _ => 0))), (q_21, .inr (7, [.null, .int 0, .int 0, .int 0, .int 0, .int 0, .int 0, .int 0, .int 0]))] := hD
  refine lv_dup hx hb dX11_init_96 rfl ?_
  refine lv_aload_n hx hb dX11_init_97 rfl (lv_at hl 0 rfl) ?_
  refine va_get (ci := 11) (v := .ref q_19) (C := RX11) (T := TX11) (N := 12) hx hb hts (fun _ h => List.mem_cons_of_mem _ (List.mem_append_left _ (List.mem_append_left _ (List.mem_append_left _ (List.mem_append_left _ (List.mem_append_left _ (List.mem_append_left _ (List.mem_append_right _ h)))))))) hown hK.1 hP 0 rfl rfl 2 (by decide) (hts (.fieldLink RX11 40 "CutAtlas" "current" "LCutAtlas$Current;") (by decide +kernel)) (fun _ h9 => h9) rfl dX11_init_98 ?_
  have hPc := hP.sub (ws' := [(q_21, .inr (7, [.null, .int 0, .int 0, .int 0, .int 0, .int 0, .int 0, .int 0, .int 0]))]) [13] rfl
  have hDc := hD.sub (ws' := [(q_21, .inr (7, [.null, .int 0, .int 0, .int 0, .int 0, .int 0, .int 0, .int 0, .int 0]))]) [13] (by decide) rfl
  have hDw : va_D (fun _ => True) [(q_21, .inr (7, [.null, .int 0, .int 0, .int 0, .int 0, .int 0, .int 0, .int 0, .int 0]))] := hDc.weaken (fun _ _ _ _ => trivial)
  have hFc := va_free (wc := [(q_21, .inr (7, [.null, .int 0, .int 0, .int 0, .int 0, .int 0, .int 0, .int 0, .int 0]))]) hD hS hA [13] rfl
  refine va_callv (va_runI (As := [.ref q_19]) (rest := [.ref q_21, .ref xo]) ⟨hx, hb, hml, hown, hts⟩ (c_X7_init l D cy H.size q_21 q_19) (cwI 1 hts gX11_init_X7_init rfl rfl rfl (hts (.initialized RX7) (by decide +kernel)) (hts (.methodLink RX11 46 yX7_init) (by decide +kernel)) (hts (.instanceMethod yX7_init) (by decide +kernel)) rfl (by decide +kernel) ⟨Nat.le_of_ble_eq_true rfl, Nat.le_of_ble_eq_true rfl⟩) ⟨bl_, fun U hU hW => ⟨rfl, by rw [hU], by rw [hU]; exact hPc, kk_mv hW hK, hDw⟩⟩ rfl rfl hl.1 rfl (lv_room (Nat.le_of_ble_eq_true rfl)) dX11_init_101 ⟨Nat.le_of_ble_eq_true rfl, Nat.le_of_ble_eq_true rfl⟩) hS (fun q _ h => hFc q h) hFc (fun u t H locs ht hvm hw hB hz1 hk1 hS => ?_)
  obtain ⟨hP, hD⟩ := va_join (wr := [(xo, .inr (11, [.ref q_1, .ref q_12, .ref q_19, .null, .null, .null, .null, .null, .int 0, .int 0, .long 0, .int 0])), (q_1, .inl (cy 3, 5, .inr (.inr (.inr (.inr (va_up (va_up (va_up (va_up (va_up (fun _ => none) (0 : Int32).toNatClampNeg (some q_2)) (1 : Int32).toNatClampNeg (some q_4)) (2 : Int32).toNatClampNeg (some q_6)) (3 : Int32).toNatClampNeg (some q_8)) (4 : Int32).toNatClampNeg (some q_10))))))), (q_2, .inr (6, [])), (q_4, .inr (5, [])), (q_6, .inr (9, [])), (q_8, .inr (2, [])), (q_10, .inr (8, [])), (q_12, .inr (3, [.int 0, .int 0, .ref n1_14, .ref n2_15, .ref n3_16, .ref n4_17, .ref n5_18])), (n1_14, .inl (cy 0, 40, .inl (fun _ => 0))), (n2_15, .inl (cy 0, 40, .inl (fun _ => 0))), (n3_16, .inl (cy 0, 40, .inl (fun _ => 0))), (n4_17, .inl (cy 0, 40, .inl (fun _ => 0))), (n5_18, .inl (cy 0, 40, .inl (fun _ => 0)))]) (w1 := []) hP hD [13] [0, 1, 2, 3, 4, 5, 6, 7, 8, 9, 10, 11, 12] rfl rfl (by decide) (by decide) hk1 hFc pp_nil dd_nil
  have hP : va_P D vwCl [(xo, .inr (11, [.ref q_1, .ref q_12, .ref q_19, .null, .null, .null, .null, .null, .int 0, .int 0, .long 0, .int 0])), (q_1, .inl (cy 3, 5, .inr (.inr (.inr (.inr (va_up (va_up (va_up (va_up (va_up (fun _ => none) (0 : Int32).toNatClampNeg (some q_2)) (1 : Int32).toNatClampNeg (some q_4)) (2 : Int32).toNatClampNeg (some q_6)) (3 : Int32).toNatClampNeg (some q_8)) (4 : Int32).toNatClampNeg (some q_10))))))), (q_2, .inr (6, [])), (q_4, .inr (5, [])), (q_6, .inr (9, [])), (q_8, .inr (2, [])), (q_10, .inr (8, [])), (q_12, .inr (3, [.int 0, .int 0, .ref n1_14, .ref n2_15, .ref n3_16, .ref n4_17, .ref n5_18])), (n1_14, .inl (cy 0, 40, .inl (fun _ => 0))), (n2_15, .inl (cy 0, 40, .inl (fun _ => 0))), (n3_16, .inl (cy 0, 40, .inl (fun _ => 0))), (n4_17, .inl (cy 0, 40, .inl (fun _ => 0))), (n5_18, .inl (cy 0, 40, .inl (fun _ => 0)))] H := hP
  have hD : va_D A [(xo, .inr (11, [.ref q_1, .ref q_12, .ref q_19, .null, .null, .null, .null, .null, .int 0, .int 0, .long 0, .int 0])), (q_1, .inl (cy 3, 5, .inr (.inr (.inr (.inr (va_up (va_up (va_up (va_up (va_up (fun _ => none) (0 : Int32).toNatClampNeg (some q_2)) (1 : Int32).toNatClampNeg (some q_4)) (2 : Int32).toNatClampNeg (some q_6)) (3 : Int32).toNatClampNeg (some q_8)) (4 : Int32).toNatClampNeg (some q_10))))))), (q_2, .inr (6, [])), (q_4, .inr (5, [])), (q_6, .inr (9, [])), (q_8, .inr (2, [])), (q_10, .inr (8, [])), (q_12, .inr (3, [.int 0, .int 0, .ref n1_14, .ref n2_15, .ref n3_16, .ref n4_17, .ref n5_18])), (n1_14, .inl (cy 0, 40, .inl (fun _ => 0))), (n2_15, .inl (cy 0, 40, .inl (fun _ => 0))), (n3_16, .inl (cy 0, 40, .inl (fun _ => 0))), (n4_17, .inl (cy 0, 40, .inl (fun _ => 0))), (n5_18, .inl (cy 0, 40, .inl (fun _ => 0)))] := hD
  refine va_putF (ci := 11) (v := .ref q_21) (ty := (tyX11 3)) (C := RX11) (T := TX11) (N := 12) hx hb hts (fun _ h => List.mem_cons_of_mem _ (List.mem_append_left _ (List.mem_append_left _ (List.mem_append_left _ (List.mem_append_left _ (List.mem_append_left _ (List.mem_append_left _ (List.mem_append_right _ h)))))))) tyX11 tyX11_ok nmX11 hown hK.1 hP hD hS 0 rfl rfl 3 (by decide) (hts (.fieldLink RX11 49 "CutAtlas" "hunt" "LCutAtlas$SetHunt;") (by decide +kernel)) (fun _ h9 => h9) rfl hin rfl (by decide +kernel) rfl rfl (Nat.le_of_ble_eq_true rfl) dX11_init_104 (fun H locs hP hD hS => ?_)
  have hP : va_P D vwCl [(xo, .inr (11, [.ref q_1, .ref q_12, .ref q_19, .ref q_21, .null, .null, .null, .null, .int 0, .int 0, .long 0, .int 0])), (q_1, .inl (cy 3, 5, .inr (.inr (.inr (.inr (va_up (va_up (va_up (va_up (va_up (fun _ => none) (0 : Int32).toNatClampNeg (some q_2)) (1 : Int32).toNatClampNeg (some q_4)) (2 : Int32).toNatClampNeg (some q_6)) (3 : Int32).toNatClampNeg (some q_8)) (4 : Int32).toNatClampNeg (some q_10))))))), (q_2, .inr (6, [])), (q_4, .inr (5, [])), (q_6, .inr (9, [])), (q_8, .inr (2, [])), (q_10, .inr (8, [])), (q_12, .inr (3, [.int 0, .int 0, .ref n1_14, .ref n2_15, .ref n3_16, .ref n4_17, .ref n5_18])), (n1_14, .inl (cy 0, 40, .inl (fun _ => 0))), (n2_15, .inl (cy 0, 40, .inl (fun _ => 0))), (n3_16, .inl (cy 0, 40, .inl (fun _ => 0))), (n4_17, .inl (cy 0, 40, .inl (fun _ => 0))), (n5_18, .inl (cy 0, 40, .inl (fun _ => 0)))] H := hP
  have hD : va_D A [(xo, .inr (11, [.ref q_1, .ref q_12, .ref q_19, .ref q_21, .null, .null, .null, .null, .int 0, .int 0, .long 0, .int 0])), (q_1, .inl (cy 3, 5, .inr (.inr (.inr (.inr (va_up (va_up (va_up (va_up (va_up (fun _ => none) (0 : Int32).toNatClampNeg (some q_2)) (1 : Int32).toNatClampNeg (some q_4)) (2 : Int32).toNatClampNeg (some q_6)) (3 : Int32).toNatClampNeg (some q_8)) (4 : Int32).toNatClampNeg (some q_10))))))), (q_2, .inr (6, [])), (q_4, .inr (5, [])), (q_6, .inr (9, [])), (q_8, .inr (2, [])), (q_10, .inr (8, [])), (q_12, .inr (3, [.int 0, .int 0, .ref n1_14, .ref n2_15, .ref n3_16, .ref n4_17, .ref n5_18])), (n1_14, .inl (cy 0, 40, .inl (fun _ => 0))), (n2_15, .inl (cy 0, 40, .inl (fun _ => 0))), (n3_16, .inl (cy 0, 40, .inl (fun _ => 0))), (n4_17, .inl (cy 0, 40, .inl (fun _ => 0))), (n5_18, .inl (cy 0, 40, .inl (fun _ => 0)))] := hD
  refine lv_aload_n hx hb dX11_init_107 rfl (lv_at hl 0 rfl) ?_
  refine va_new (ci := 1) (fs := [.null, .null, .null]) (C := RX1) (T := TX1) (N := 3) hx hb hts (fun _ h => List.mem_cons_of_mem _ (List.mem_append_left _ (List.mem_append_left _ (List.mem_append_right _ h)))) tyX1 tyX1_ok hown (hts (.classLink RX11 53 RX1) (by decide +kernel)) (hts (.instantiable RX1 3) (by decide +kernel)) (hts (.initialized RX1) (by decide +kernel)) hK.1 hP hD hS hA rfl (by decide +kernel) (Nat.le_of_ble_eq_true rfl) (Nat.le_of_ble_eq_true rfl) dX11_init_108 (fun q_23 H hP hD hS => ?_)
  have hP : va_P D vwCl [(xo, .inr (11, [.ref q_1, .ref q_12, .ref q_19, .ref q_21, .null, .null, .null, .null, .int 0, .int 0, .long 0, .int 0])), (q_1, .inl (cy 3, 5, .inr (.inr (.inr (.inr (va_up (va_up (va_up (va_up (va_up (fun _ => none) (0 : Int32).toNatClampNeg (some q_2)) (1 : Int32).toNatClampNeg (some q_4)) (2 : Int32).toNatClampNeg (some q_6)) (3 : Int32).toNatClampNeg (some q_8)) (4 : Int32).toNatClampNeg (some q_10))))))), (q_2, .inr (6, [])), (q_4, .inr (5, [])), (q_6, .inr (9, [])), (q_8, .inr (2, [])), (q_10, .inr (8, [])), (q_12, .inr (3, [.int 0, .int 0, .ref n1_14, .ref n2_15, .ref n3_16, .ref n4_17, .ref n5_18])), (n1_14, .inl (cy 0, 40, .inl (fun _ => 0))), (n2_15, .inl (cy 0, 40, .inl (fun _ => 0))), (n3_16, .inl (cy 0, 40, .inl (fun _ => 0))), (n4_17, .inl (cy 0, 40, .inl (fun _ => 0))), (n5_18, .inl (cy 0, 40, .inl (fun _ => 0))), (q_23, .inr (1, [.null, .null, .null]))] H := hP
  have hD : va_D A [(xo, .inr (11, [.ref q_1, .ref q_12, .ref q_19, .ref q_21, .null, .null, .null, .null, .int 0, .int 0, .long 0, .int 0])), (q_1, .inl (cy 3, 5, .inr (.inr (.inr (.inr (va_up (va_up (va_up (va_up (va_up (fun _ => none) (0 : Int32).toNatClampNeg (some q_2)) (1 : Int32).toNatClampNeg (some q_4)) (2 : Int32).toNatClampNeg (some q_6)) (3 : Int32).toNatClampNeg (some q_8)) (4 : Int32).toNatClampNeg (some q_10))))))), (q_2, .inr (6, [])), (q_4, .inr (5, [])), (q_6, .inr (9, [])), (q_8, .inr (2, [])), (q_10, .inr (8, [])), (q_12, .inr (3, [.int 0, .int 0, .ref n1_14, .ref n2_15, .ref n3_16, .ref n4_17, .ref n5_18])), (n1_14, .inl (cy 0, 40, .inl (fun _ => 0))), (n2_15, .inl (cy 0, 40, .inl (fun _ => 0))), (n3_16, .inl (cy 0, 40, .inl (fun _ => 0))), (n4_17, .inl (cy 0, 40, .inl (fun _ => 0))), (n5_18, .inl (cy 0, 40, .inl (fun _ => 0))), (q_23, .inr (1, [.null, .null, .null]))] := hD
  refine lv_dup hx hb dX11_init_111 rfl ?_
  refine lv_aload_n hx hb dX11_init_112 rfl (lv_at hl 0 rfl) ?_
  refine va_get (ci := 11) (v := .ref q_19) (C := RX11) (T := TX11) (N := 12) hx hb hts (fun _ h => List.mem_cons_of_mem _ (List.mem_append_left _ (List.mem_append_left _ (List.mem_append_left _ (List.mem_append_left _ (List.mem_append_left _ (List.mem_append_left _ (List.mem_append_right _ h)))))))) hown hK.1 hP 0 rfl rfl 2 (by decide) (hts (.fieldLink RX11 40 "CutAtlas" "current" "LCutAtlas$Current;") (by decide +kernel)) (fun _ h9 => h9) rfl dX11_init_113 ?_
  have hPc := hP.sub (ws' := [(q_23, .inr (1, [.null, .null, .null]))]) [13] rfl
  have hDc := hD.sub (ws' := [(q_23, .inr (1, [.null, .null, .null]))]) [13] (by decide) rfl
  have hDw : va_D (fun _ => True) [(q_23, .inr (1, [.null, .null, .null]))] := hDc.weaken (fun _ _ _ _ => trivial)
  have hFc := va_free (wc := [(q_23, .inr (1, [.null, .null, .null]))]) hD hS hA [13] rfl
  refine va_callv (va_runI (As := [.ref q_19]) (rest := [.ref q_23, .ref xo]) ⟨hx, hb, hml, hown, hts⟩ (c_X1_init l D cy H.size q_23 q_19) (cwI 1 hts gX11_init_X1_init rfl rfl rfl (hts (.initialized RX1) (by decide +kernel)) (hts (.methodLink RX11 55 yX1_init) (by decide +kernel)) (hts (.instanceMethod yX1_init) (by decide +kernel)) rfl (by decide +kernel) ⟨Nat.le_of_ble_eq_true rfl, Nat.le_of_ble_eq_true rfl⟩) ⟨bl_, fun U hU hW => ⟨rfl, by rw [hU], by rw [hU]; exact hPc, kk_mv hW hK, hDw⟩⟩ rfl rfl hl.1 rfl (lv_room (Nat.le_of_ble_eq_true rfl)) dX11_init_116 ⟨Nat.le_of_ble_eq_true rfl, Nat.le_of_ble_eq_true rfl⟩) hS (fun q _ h => hFc q h) hFc (fun u t H locs ht hvm hw hB hz1 hk1 hS => ?_)
  obtain ⟨hP, hD⟩ := va_join (wr := [(xo, .inr (11, [.ref q_1, .ref q_12, .ref q_19, .ref q_21, .null, .null, .null, .null, .int 0, .int 0, .long 0, .int 0])), (q_1, .inl (cy 3, 5, .inr (.inr (.inr (.inr (va_up (va_up (va_up (va_up (va_up (fun _ => none) (0 : Int32).toNatClampNeg (some q_2)) (1 : Int32).toNatClampNeg (some q_4)) (2 : Int32).toNatClampNeg (some q_6)) (3 : Int32).toNatClampNeg (some q_8)) (4 : Int32).toNatClampNeg (some q_10))))))), (q_2, .inr (6, [])), (q_4, .inr (5, [])), (q_6, .inr (9, [])), (q_8, .inr (2, [])), (q_10, .inr (8, [])), (q_12, .inr (3, [.int 0, .int 0, .ref n1_14, .ref n2_15, .ref n3_16, .ref n4_17, .ref n5_18])), (n1_14, .inl (cy 0, 40, .inl (fun _ => 0))), (n2_15, .inl (cy 0, 40, .inl (fun _ => 0))), (n3_16, .inl (cy 0, 40, .inl (fun _ => 0))), (n4_17, .inl (cy 0, 40, .inl (fun _ => 0))), (n5_18, .inl (cy 0, 40, .inl (fun _ => 0)))]) (w1 := []) hP hD [13] [0, 1, 2, 3, 4, 5, 6, 7, 8, 9, 10, 11, 12] rfl rfl (by decide) (by decide) hk1 hFc pp_nil dd_nil
  have hP : va_P D vwCl [(xo, .inr (11, [.ref q_1, .ref q_12, .ref q_19, .ref q_21, .null, .null, .null, .null, .int 0, .int 0, .long 0, .int 0])), (q_1, .inl (cy 3, 5, .inr (.inr (.inr (.inr (va_up (va_up (va_up (va_up (va_up (fun _ => none) (0 : Int32).toNatClampNeg (some q_2)) (1 : Int32).toNatClampNeg (some q_4)) (2 : Int32).toNatClampNeg (some q_6)) (3 : Int32).toNatClampNeg (some q_8)) (4 : Int32).toNatClampNeg (some q_10))))))), (q_2, .inr (6, [])), (q_4, .inr (5, [])), (q_6, .inr (9, [])), (q_8, .inr (2, [])), (q_10, .inr (8, [])), (q_12, .inr (3, [.int 0, .int 0, .ref n1_14, .ref n2_15, .ref n3_16, .ref n4_17, .ref n5_18])), (n1_14, .inl (cy 0, 40, .inl (fun _ => 0))), (n2_15, .inl (cy 0, 40, .inl (fun _ => 0))), (n3_16, .inl (cy 0, 40, .inl (fun _ => 0))), (n4_17, .inl (cy 0, 40, .inl (fun _ => 0))), (n5_18, .inl (cy 0, 40, .inl (fun _ => 0)))] H := hP
  have hD : va_D A [(xo, .inr (11, [.ref q_1, .ref q_12, .ref q_19, .ref q_21, .null, .null, .null, .null, .int 0, .int 0, .long 0, .int 0])), (q_1, .inl (cy 3, 5, .inr (.inr (.inr (.inr (va_up (va_up (va_up (va_up (va_up (fun _ => none) (0 : Int32).toNatClampNeg (some q_2)) (1 : Int32).toNatClampNeg (some q_4)) (2 : Int32).toNatClampNeg (some q_6)) (3 : Int32).toNatClampNeg (some q_8)) (4 : Int32).toNatClampNeg (some q_10))))))), (q_2, .inr (6, [])), (q_4, .inr (5, [])), (q_6, .inr (9, [])), (q_8, .inr (2, [])), (q_10, .inr (8, [])), (q_12, .inr (3, [.int 0, .int 0, .ref n1_14, .ref n2_15, .ref n3_16, .ref n4_17, .ref n5_18])), (n1_14, .inl (cy 0, 40, .inl (fun _ => 0))), (n2_15, .inl (cy 0, 40, .inl (fun _ => 0))), (n3_16, .inl (cy 0, 40, .inl (fun _ => 0))), (n4_17, .inl (cy 0, 40, .inl (fun _ => 0))), (n5_18, .inl (cy 0, 40, .inl (fun _ => 0)))] := hD
  refine va_putF (ci := 11) (v := .ref q_23) (ty := (tyX11 4)) (C := RX11) (T := TX11) (N := 12) hx hb hts (fun _ h => List.mem_cons_of_mem _ (List.mem_append_left _ (List.mem_append_left _ (List.mem_append_left _ (List.mem_append_left _ (List.mem_append_left _ (List.mem_append_left _ (List.mem_append_right _ h)))))))) tyX11 tyX11_ok nmX11 hown hK.1 hP hD hS 0 rfl rfl 4 (by decide) (hts (.fieldLink RX11 56 "CutAtlas" "cutTree" "LCutAtlas$CutTree;") (by decide +kernel)) (fun _ h9 => h9) rfl hin rfl (by decide +kernel) rfl rfl (Nat.le_of_ble_eq_true rfl) dX11_init_119 (fun H locs hP hD hS => ?_)
  have hP : va_P D vwCl [(xo, .inr (11, [.ref q_1, .ref q_12, .ref q_19, .ref q_21, .ref q_23, .null, .null, .null, .int 0, .int 0, .long 0, .int 0])), (q_1, .inl (cy 3, 5, .inr (.inr (.inr (.inr (va_up (va_up (va_up (va_up (va_up (fun _ => none) (0 : Int32).toNatClampNeg (some q_2)) (1 : Int32).toNatClampNeg (some q_4)) (2 : Int32).toNatClampNeg (some q_6)) (3 : Int32).toNatClampNeg (some q_8)) (4 : Int32).toNatClampNeg (some q_10))))))), (q_2, .inr (6, [])), (q_4, .inr (5, [])), (q_6, .inr (9, [])), (q_8, .inr (2, [])), (q_10, .inr (8, [])), (q_12, .inr (3, [.int 0, .int 0, .ref n1_14, .ref n2_15, .ref n3_16, .ref n4_17, .ref n5_18])), (n1_14, .inl (cy 0, 40, .inl (fun _ => 0))), (n2_15, .inl (cy 0, 40, .inl (fun _ => 0))), (n3_16, .inl (cy 0, 40, .inl (fun _ => 0))), (n4_17, .inl (cy 0, 40, .inl (fun _ => 0))), (n5_18, .inl (cy 0, 40, .inl (fun _ => 0)))] H := hP
  have hD : va_D A [(xo, .inr (11, [.ref q_1, .ref q_12, .ref q_19, .ref q_21, .ref q_23, .null, .null, .null, .int 0, .int 0, .long 0, .int 0])), (q_1, .inl (cy 3, 5, .inr (.inr (.inr (.inr (va_up (va_up (va_up (va_up (va_up (fun _ => none) (0 : Int32).toNatClampNeg (some q_2)) (1 : Int32).toNatClampNeg (some q_4)) (2 : Int32).toNatClampNeg (some q_6)) (3 : Int32).toNatClampNeg (some q_8)) (4 : Int32).toNatClampNeg (some q_10))))))), (q_2, .inr (6, [])), (q_4, .inr (5, [])), (q_6, .inr (9, [])), (q_8, .inr (2, [])), (q_10, .inr (8, [])), (q_12, .inr (3, [.int 0, .int 0, .ref n1_14, .ref n2_15, .ref n3_16, .ref n4_17, .ref n5_18])), (n1_14, .inl (cy 0, 40, .inl (fun _ => 0))), (n2_15, .inl (cy 0, 40, .inl (fun _ => 0))), (n3_16, .inl (cy 0, 40, .inl (fun _ => 0))), (n4_17, .inl (cy 0, 40, .inl (fun _ => 0))), (n5_18, .inl (cy 0, 40, .inl (fun _ => 0)))] := hD
  refine lv_aload_n hx hb dX11_init_122 rfl (lv_at hl 0 rfl) ?_
  refine va_new (ci := 10) (fs := [.null, .null, .null, .null, .null]) (C := RX10) (T := TX10) (N := 5) hx hb hts (fun _ h => List.mem_cons_of_mem _ (List.mem_append_left _ (List.mem_append_right _ h))) tyX10 tyX10_ok hown (hts (.classLink RX11 60 RX10) (by decide +kernel)) (hts (.instantiable RX10 5) (by decide +kernel)) (hts (.initialized RX10) (by decide +kernel)) hK.1 hP hD hS hA rfl (by decide +kernel) (Nat.le_of_ble_eq_true rfl) (Nat.le_of_ble_eq_true rfl) dX11_init_123 (fun q_25 H hP hD hS => ?_)
  have hP : va_P D vwCl [(xo, .inr (11, [.ref q_1, .ref q_12, .ref q_19, .ref q_21, .ref q_23, .null, .null, .null, .int 0, .int 0, .long 0, .int 0])), (q_1, .inl (cy 3, 5, .inr (.inr (.inr (.inr (va_up (va_up (va_up (va_up (va_up (fun _ => none) (0 : Int32).toNatClampNeg (some q_2)) (1 : Int32).toNatClampNeg (some q_4)) (2 : Int32).toNatClampNeg (some q_6)) (3 : Int32).toNatClampNeg (some q_8)) (4 : Int32).toNatClampNeg (some q_10))))))), (q_2, .inr (6, [])), (q_4, .inr (5, [])), (q_6, .inr (9, [])), (q_8, .inr (2, [])), (q_10, .inr (8, [])), (q_12, .inr (3, [.int 0, .int 0, .ref n1_14, .ref n2_15, .ref n3_16, .ref n4_17, .ref n5_18])), (n1_14, .inl (cy 0, 40, .inl (fun _ => 0))), (n2_15, .inl (cy 0, 40, .inl (fun _ => 0))), (n3_16, .inl (cy 0, 40, .inl (fun _ => 0))), (n4_17, .inl (cy 0, 40, .inl (fun _ => 0))), (n5_18, .inl (cy 0, 40, .inl (fun _ => 0))), (q_25, .inr (10, [.null, .null, .null, .null, .null]))] H := hP
  have hD : va_D A [(xo, .inr (11, [.ref q_1, .ref q_12, .ref q_19, .ref q_21, .ref q_23, .null, .null, .null, .int 0, .int 0, .long 0, .int 0])), (q_1, .inl (cy 3, 5, .inr (.inr (.inr (.inr (va_up (va_up (va_up (va_up (va_up (fun _ => none) (0 : Int32).toNatClampNeg (some q_2)) (1 : Int32).toNatClampNeg (some q_4)) (2 : Int32).toNatClampNeg (some q_6)) (3 : Int32).toNatClampNeg (some q_8)) (4 : Int32).toNatClampNeg (some q_10))))))), (q_2, .inr (6, [])), (q_4, .inr (5, [])), (q_6, .inr (9, [])), (q_8, .inr (2, [])), (q_10, .inr (8, [])), (q_12, .inr (3, [.int 0, .int 0, .ref n1_14, .ref n2_15, .ref n3_16, .ref n4_17, .ref n5_18])), (n1_14, .inl (cy 0, 40, .inl (fun _ => 0))), (n2_15, .inl (cy 0, 40, .inl (fun _ => 0))), (n3_16, .inl (cy 0, 40, .inl (fun _ => 0))), (n4_17, .inl (cy 0, 40, .inl (fun _ => 0))), (n5_18, .inl (cy 0, 40, .inl (fun _ => 0))), (q_25, .inr (10, [.null, .null, .null, .null, .null]))] := hD
  refine lv_dup hx hb dX11_init_126 rfl ?_
  refine lv_aload_n hx hb dX11_init_127 rfl (lv_at hl 0 rfl) ?_
  refine va_get (ci := 11) (v := .ref q_19) (C := RX11) (T := TX11) (N := 12) hx hb hts (fun _ h => List.mem_cons_of_mem _ (List.mem_append_left _ (List.mem_append_left _ (List.mem_append_left _ (List.mem_append_left _ (List.mem_append_left _ (List.mem_append_left _ (List.mem_append_right _ h)))))))) hown hK.1 hP 0 rfl rfl 2 (by decide) (hts (.fieldLink RX11 40 "CutAtlas" "current" "LCutAtlas$Current;") (by decide +kernel)) (fun _ h9 => h9) rfl dX11_init_128 ?_
  refine lv_aload_n hx hb dX11_init_131 rfl (lv_at hl 0 rfl) ?_
  refine va_get (ci := 11) (v := .ref q_1) (C := RX11) (T := TX11) (N := 12) hx hb hts (fun _ h => List.mem_cons_of_mem _ (List.mem_append_left _ (List.mem_append_left _ (List.mem_append_left _ (List.mem_append_left _ (List.mem_append_left _ (List.mem_append_left _ (List.mem_append_right _ h)))))))) hown hK.1 hP 0 rfl rfl 0 (by decide) (hts (.fieldLink RX11 22 "CutAtlas" "kinds" "[LCutAtlas$PlainKind;") (by decide +kernel)) (fun _ h9 => h9) rfl dX11_init_132 ?_
  have hPc := hP.sub (ws' := [(q_25, .inr (10, [.null, .null, .null, .null, .null]))]) [13] rfl
  have hDc := hD.sub (ws' := [(q_25, .inr (10, [.null, .null, .null, .null, .null]))]) [13] (by decide) rfl
  have hDw : va_D (fun _ => True) [(q_25, .inr (10, [.null, .null, .null, .null, .null]))] := hDc.weaken (fun _ _ _ _ => trivial)
  have hFc := va_free (wc := [(q_25, .inr (10, [.null, .null, .null, .null, .null]))]) hD hS hA [13] rfl
  refine va_callv (va_runI (As := [.ref q_19, .ref q_1]) (rest := [.ref q_25, .ref xo]) ⟨hx, hb, hml, hown, hts⟩ (c_X10_init l D cy H.size q_25 q_19 q_1) (cwI 2 hts gX11_init_X10_init rfl rfl rfl (hts (.initialized RX10) (by decide +kernel)) (hts (.methodLink RX11 62 yX10_init) (by decide +kernel)) (hts (.instanceMethod yX10_init) (by decide +kernel)) rfl (by decide +kernel) ⟨Nat.le_of_ble_eq_true rfl, Nat.le_of_ble_eq_true rfl⟩) ⟨bl_, fun U hU hW => ⟨rfl, by rw [hU], by rw [hU]; exact hPc, kk_mv hW hK, hDw⟩⟩ rfl rfl hl.1 rfl (lv_room (Nat.le_of_ble_eq_true rfl)) dX11_init_135 ⟨Nat.le_of_ble_eq_true rfl, Nat.le_of_ble_eq_true rfl⟩) hS (fun q _ h => hFc q h) hFc (fun u t H locs ht hvm hw hB hz1 hk1 hS => ?_)
  obtain ⟨hP, hD⟩ := va_join (wr := [(xo, .inr (11, [.ref q_1, .ref q_12, .ref q_19, .ref q_21, .ref q_23, .null, .null, .null, .int 0, .int 0, .long 0, .int 0])), (q_1, .inl (cy 3, 5, .inr (.inr (.inr (.inr (va_up (va_up (va_up (va_up (va_up (fun _ => none) (0 : Int32).toNatClampNeg (some q_2)) (1 : Int32).toNatClampNeg (some q_4)) (2 : Int32).toNatClampNeg (some q_6)) (3 : Int32).toNatClampNeg (some q_8)) (4 : Int32).toNatClampNeg (some q_10))))))), (q_2, .inr (6, [])), (q_4, .inr (5, [])), (q_6, .inr (9, [])), (q_8, .inr (2, [])), (q_10, .inr (8, [])), (q_12, .inr (3, [.int 0, .int 0, .ref n1_14, .ref n2_15, .ref n3_16, .ref n4_17, .ref n5_18])), (n1_14, .inl (cy 0, 40, .inl (fun _ => 0))), (n2_15, .inl (cy 0, 40, .inl (fun _ => 0))), (n3_16, .inl (cy 0, 40, .inl (fun _ => 0))), (n4_17, .inl (cy 0, 40, .inl (fun _ => 0))), (n5_18, .inl (cy 0, 40, .inl (fun _ => 0)))]) (w1 := []) hP hD [13] [0, 1, 2, 3, 4, 5, 6, 7, 8, 9, 10, 11, 12] rfl rfl (by decide) (by decide) hk1 hFc pp_nil dd_nil
  have hP : va_P D vwCl [(xo, .inr (11, [.ref q_1, .ref q_12, .ref q_19, .ref q_21, .ref q_23, .null, .null, .null, .int 0, .int 0, .long 0, .int 0])), (q_1, .inl (cy 3, 5, .inr (.inr (.inr (.inr (va_up (va_up (va_up (va_up (va_up (fun _ => none) (0 : Int32).toNatClampNeg (some q_2)) (1 : Int32).toNatClampNeg (some q_4)) (2 : Int32).toNatClampNeg (some q_6)) (3 : Int32).toNatClampNeg (some q_8)) (4 : Int32).toNatClampNeg (some q_10))))))), (q_2, .inr (6, [])), (q_4, .inr (5, [])), (q_6, .inr (9, [])), (q_8, .inr (2, [])), (q_10, .inr (8, [])), (q_12, .inr (3, [.int 0, .int 0, .ref n1_14, .ref n2_15, .ref n3_16, .ref n4_17, .ref n5_18])), (n1_14, .inl (cy 0, 40, .inl (fun _ => 0))), (n2_15, .inl (cy 0, 40, .inl (fun _ => 0))), (n3_16, .inl (cy 0, 40, .inl (fun _ => 0))), (n4_17, .inl (cy 0, 40, .inl (fun _ => 0))), (n5_18, .inl (cy 0, 40, .inl (fun _ => 0)))] H := hP
  have hD : va_D A [(xo, .inr (11, [.ref q_1, .ref q_12, .ref q_19, .ref q_21, .ref q_23, .null, .null, .null, .int 0, .int 0, .long 0, .int 0])), (q_1, .inl (cy 3, 5, .inr (.inr (.inr (.inr (va_up (va_up (va_up (va_up (va_up (fun _ => none) (0 : Int32).toNatClampNeg (some q_2)) (1 : Int32).toNatClampNeg (some q_4)) (2 : Int32).toNatClampNeg (some q_6)) (3 : Int32).toNatClampNeg (some q_8)) (4 : Int32).toNatClampNeg (some q_10))))))), (q_2, .inr (6, [])), (q_4, .inr (5, [])), (q_6, .inr (9, [])), (q_8, .inr (2, [])), (q_10, .inr (8, [])), (q_12, .inr (3, [.int 0, .int 0, .ref n1_14, .ref n2_15, .ref n3_16, .ref n4_17, .ref n5_18])), (n1_14, .inl (cy 0, 40, .inl (fun _ => 0))), (n2_15, .inl (cy 0, 40, .inl (fun _ => 0))), (n3_16, .inl (cy 0, 40, .inl (fun _ => 0))), (n4_17, .inl (cy 0, 40, .inl (fun _ => 0))), (n5_18, .inl (cy 0, 40, .inl (fun _ => 0)))] := hD
  refine va_putF (ci := 11) (v := .ref q_25) (ty := (tyX11 5)) (C := RX11) (T := TX11) (N := 12) hx hb hts (fun _ h => List.mem_cons_of_mem _ (List.mem_append_left _ (List.mem_append_left _ (List.mem_append_left _ (List.mem_append_left _ (List.mem_append_left _ (List.mem_append_left _ (List.mem_append_right _ h)))))))) tyX11 tyX11_ok nmX11 hown hK.1 hP hD hS 0 rfl rfl 5 (by decide) (hts (.fieldLink RX11 65 "CutAtlas" "widening" "LCutAtlas$Widening;") (by decide +kernel)) (fun _ h9 => h9) rfl hin rfl (by decide +kernel) rfl rfl (Nat.le_of_ble_eq_true rfl) dX11_init_138 (fun H locs hP hD hS => ?_)
  have hP : va_P D vwCl [(xo, .inr (11, [.ref q_1, .ref q_12, .ref q_19, .ref q_21, .ref q_23, .ref q_25, .null, .null, .int 0, .int 0, .long 0, .int 0])), (q_1, .inl (cy 3, 5, .inr (.inr (.inr (.inr (va_up (va_up (va_up (va_up (va_up (fun _ => none) (0 : Int32).toNatClampNeg (some q_2)) (1 : Int32).toNatClampNeg (some q_4)) (2 : Int32).toNatClampNeg (some q_6)) (3 : Int32).toNatClampNeg (some q_8)) (4 : Int32).toNatClampNeg (some q_10))))))), (q_2, .inr (6, [])), (q_4, .inr (5, [])), (q_6, .inr (9, [])), (q_8, .inr (2, [])), (q_10, .inr (8, [])), (q_12, .inr (3, [.int 0, .int 0, .ref n1_14, .ref n2_15, .ref n3_16, .ref n4_17, .ref n5_18])), (n1_14, .inl (cy 0, 40, .inl (fun _ => 0))), (n2_15, .inl (cy 0, 40, .inl (fun _ => 0))), (n3_16, .inl (cy 0, 40, .inl (fun _ => 0))), (n4_17, .inl (cy 0, 40, .inl (fun _ => 0))), (n5_18, .inl (cy 0, 40, .inl (fun _ => 0)))] H := hP
  have hD : va_D A [(xo, .inr (11, [.ref q_1, .ref q_12, .ref q_19, .ref q_21, .ref q_23, .ref q_25, .null, .null, .int 0, .int 0, .long 0, .int 0])), (q_1, .inl (cy 3, 5, .inr (.inr (.inr (.inr (va_up (va_up (va_up (va_up (va_up (fun _ => none) (0 : Int32).toNatClampNeg (some q_2)) (1 : Int32).toNatClampNeg (some q_4)) (2 : Int32).toNatClampNeg (some q_6)) (3 : Int32).toNatClampNeg (some q_8)) (4 : Int32).toNatClampNeg (some q_10))))))), (q_2, .inr (6, [])), (q_4, .inr (5, [])), (q_6, .inr (9, [])), (q_8, .inr (2, [])), (q_10, .inr (8, [])), (q_12, .inr (3, [.int 0, .int 0, .ref n1_14, .ref n2_15, .ref n3_16, .ref n4_17, .ref n5_18])), (n1_14, .inl (cy 0, 40, .inl (fun _ => 0))), (n2_15, .inl (cy 0, 40, .inl (fun _ => 0))), (n3_16, .inl (cy 0, 40, .inl (fun _ => 0))), (n4_17, .inl (cy 0, 40, .inl (fun _ => 0))), (n5_18, .inl (cy 0, 40, .inl (fun _ => 0)))] := hD
  refine lv_aload_n hx hb dX11_init_141 rfl (lv_at hl 0 rfl) ?_
  refine lv_iconst (v := 4) hx hb dX11_init_142 (by decide) ?_
  refine nw_q hx hb hown (hts (.classLink RX11 69 RX4) (by decide +kernel)) (kk_ao4 hK) hK.1 4 rfl hP hD hS hA (by decide) (by decide : _ = 4) (by decide) (Nat.le_of_ble_eq_true rfl) (Nat.le_of_ble_eq_true rfl) dX11_init_143 (fun q_27 H hP hD hS => ?_)
  have hP : va_P D vwCl [(xo, .inr (11, [.ref q_1, .ref q_12, .ref q_19, .ref q_21, .ref q_23, .ref q_25, .null, .null, .int 0, .int 0, .long 0, .int 0])), (q_1, .inl (cy 3, 5, .inr (.inr (.inr (.inr (va_up (va_up (va_up (va_up (va_up (fun _ => none) (0 : Int32).toNatClampNeg (some q_2)) (1 : Int32).toNatClampNeg (some q_4)) (2 : Int32).toNatClampNeg (some q_6)) (3 : Int32).toNatClampNeg (some q_8)) (4 : Int32).toNatClampNeg (some q_10))))))), (q_2, .inr (6, [])), (q_4, .inr (5, [])), (q_6, .inr (9, [])), (q_8, .inr (2, [])), (q_10, .inr (8, [])), (q_12, .inr (3, [.int 0, .int 0, .ref n1_14, .ref n2_15, .ref n3_16, .ref n4_17, .ref n5_18])), (n1_14, .inl (cy 0, 40, .inl (fun _ => 0))), (n2_15, .inl (cy 0, 40, .inl (fun _ => 0))), (n3_16, .inl (cy 0, 40, .inl (fun _ => 0))), (n4_17, .inl (cy 0, 40, .inl (fun _ => 0))), (n5_18, .inl (cy 0, 40, .inl (fun _ => 0))), (q_27, .inl (cy 4, 4, .inr (.inr (.inr (.inr (fun _ => none))))))] H := hP
  have hD : va_D A [(xo, .inr (11, [.ref q_1, .ref q_12, .ref q_19, .ref q_21, .ref q_23, .ref q_25, .null, .null, .int 0, .int 0, .long 0, .int 0])), (q_1, .inl (cy 3, 5, .inr (.inr (.inr (.inr (va_up (va_up (va_up (va_up (va_up (fun _ => none) (0 : Int32).toNatClampNeg (some q_2)) (1 : Int32).toNatClampNeg (some q_4)) (2 : Int32).toNatClampNeg (some q_6)) (3 : Int32).toNatClampNeg (some q_8)) (4 : Int32).toNatClampNeg (some q_10))))))), (q_2, .inr (6, [])), (q_4, .inr (5, [])), (q_6, .inr (9, [])), (q_8, .inr (2, [])), (q_10, .inr (8, [])), (q_12, .inr (3, [.int 0, .int 0, .ref n1_14, .ref n2_15, .ref n3_16, .ref n4_17, .ref n5_18])), (n1_14, .inl (cy 0, 40, .inl (fun _ => 0))), (n2_15, .inl (cy 0, 40, .inl (fun _ => 0))), (n3_16, .inl (cy 0, 40, .inl (fun _ => 0))), (n4_17, .inl (cy 0, 40, .inl (fun _ => 0))), (n5_18, .inl (cy 0, 40, .inl (fun _ => 0))), (q_27, .inl (cy 4, 4, .inr (.inr (.inr (.inr (fun _ => none))))))] := hD
  refine lv_dup hx hb dX11_init_146 rfl ?_
  refine lv_iconst (v := 0) hx hb dX11_init_147 (by decide) ?_
  refine va_new (ci := 4) (fs := [.int 0, .int 0, .null, .null]) (C := RX4) (T := TX4) (N := 4) hx hb hts (fun _ h => List.mem_cons_of_mem _ (List.mem_append_right _ h)) tyX4 tyX4_ok hown (hts (.classLink RX11 69 RX4) (by decide +kernel)) (hts (.instantiable RX4 4) (by decide +kernel)) (hts (.initialized RX4) (by decide +kernel)) hK.1 hP hD hS hA rfl (by decide +kernel) (Nat.le_of_ble_eq_true rfl) (Nat.le_of_ble_eq_true rfl) dX11_init_148 (fun q_28 H hP hD hS => ?_)
  have hP : va_P D vwCl [(xo, .inr (11, [.ref q_1, .ref q_12, .ref q_19, .ref q_21, .ref q_23, .ref q_25, .null, .null, .int 0, .int 0, .long 0, .int 0])), (q_1, .inl (cy 3, 5, .inr (.inr (.inr (.inr (va_up (va_up (va_up (va_up (va_up (fun _ => none) (0 : Int32).toNatClampNeg (some q_2)) (1 : Int32).toNatClampNeg (some q_4)) (2 : Int32).toNatClampNeg (some q_6)) (3 : Int32).toNatClampNeg (some q_8)) (4 : Int32).toNatClampNeg (some q_10))))))), (q_2, .inr (6, [])), (q_4, .inr (5, [])), (q_6, .inr (9, [])), (q_8, .inr (2, [])), (q_10, .inr (8, [])), (q_12, .inr (3, [.int 0, .int 0, .ref n1_14, .ref n2_15, .ref n3_16, .ref n4_17, .ref n5_18])), (n1_14, .inl (cy 0, 40, .inl (fun _ => 0))), (n2_15, .inl (cy 0, 40, .inl (fun _ => 0))), (n3_16, .inl (cy 0, 40, .inl (fun _ => 0))), (n4_17, .inl (cy 0, 40, .inl (fun _ => 0))), (n5_18, .inl (cy 0, 40, .inl (fun _ => 0))), (q_27, .inl (cy 4, 4, .inr (.inr (.inr (.inr (fun _ => none)))))), (q_28, .inr (4, [.int 0, .int 0, .null, .null]))] H := hP
  have hD : va_D A [(xo, .inr (11, [.ref q_1, .ref q_12, .ref q_19, .ref q_21, .ref q_23, .ref q_25, .null, .null, .int 0, .int 0, .long 0, .int 0])), (q_1, .inl (cy 3, 5, .inr (.inr (.inr (.inr (va_up (va_up (va_up (va_up (va_up (fun _ => none) (0 : Int32).toNatClampNeg (some q_2)) (1 : Int32).toNatClampNeg (some q_4)) (2 : Int32).toNatClampNeg (some q_6)) (3 : Int32).toNatClampNeg (some q_8)) (4 : Int32).toNatClampNeg (some q_10))))))), (q_2, .inr (6, [])), (q_4, .inr (5, [])), (q_6, .inr (9, [])), (q_8, .inr (2, [])), (q_10, .inr (8, [])), (q_12, .inr (3, [.int 0, .int 0, .ref n1_14, .ref n2_15, .ref n3_16, .ref n4_17, .ref n5_18])), (n1_14, .inl (cy 0, 40, .inl (fun _ => 0))), (n2_15, .inl (cy 0, 40, .inl (fun _ => 0))), (n3_16, .inl (cy 0, 40, .inl (fun _ => 0))), (n4_17, .inl (cy 0, 40, .inl (fun _ => 0))), (n5_18, .inl (cy 0, 40, .inl (fun _ => 0))), (q_27, .inl (cy 4, 4, .inr (.inr (.inr (.inr (fun _ => none)))))), (q_28, .inr (4, [.int 0, .int 0, .null, .null]))] := hD
  refine lv_dup hx hb dX11_init_151 rfl ?_
  have hPc := hP.sub (ws' := [(q_28, .inr (4, [.int 0, .int 0, .null, .null]))]) [14] rfl
  have hDc := hD.sub (ws' := [(q_28, .inr (4, [.int 0, .int 0, .null, .null]))]) [14] (by decide) rfl
  have hDw : va_D (fun _ => True) [(q_28, .inr (4, [.int 0, .int 0, .null, .null]))] := hDc.weaken (fun _ _ _ _ => trivial)
  have hFc := va_free (wc := [(q_28, .inr (4, [.int 0, .int 0, .null, .null]))]) hD hS hA [14] rfl
  refine va_callv (va_runIN (As := []) (rest := [.ref q_28, .int 0, .ref q_27, .ref q_27, .ref xo]) ⟨hx, hb, hml, hown, hts⟩ (c_X4_init l D cy H.size q_28) ⟨va_cnB 0 hts gX11_init_X4_init_n71 rfl rfl rfl (kk_nX11_71 hK) (hts (.initialized RX4) (by decide +kernel)) (by decide +kernel) ⟨Nat.le_of_ble_eq_true rfl, Nat.le_of_ble_eq_true rfl⟩, rfl, (hts (.instanceMethod yX4_init) (by decide +kernel))⟩ ⟨bl_, fun U hU hW => ⟨rfl, by rw [hU], by rw [hU]; exact hPc, kk_mv hW hK, hDw⟩⟩ rfl rfl hl.1 rfl (lv_room (Nat.le_of_ble_eq_true rfl)) dX11_init_152 ⟨Nat.le_of_ble_eq_true rfl, Nat.le_of_ble_eq_true rfl⟩) hS (fun q _ h => hFc q h) hFc (fun u t H locs ht hvm hw hB hz1 hk1 hS => ?_)
  obtain ⟨l1_30, l2_31, hP1, hD1⟩ := hB
  rw [ht] at hP1
  obtain ⟨hP, hD⟩ := va_join (wr := [(xo, .inr (11, [.ref q_1, .ref q_12, .ref q_19, .ref q_21, .ref q_23, .ref q_25, .null, .null, .int 0, .int 0, .long 0, .int 0])), (q_1, .inl (cy 3, 5, .inr (.inr (.inr (.inr (va_up (va_up (va_up (va_up (va_up (fun _ => none) (0 : Int32).toNatClampNeg (some q_2)) (1 : Int32).toNatClampNeg (some q_4)) (2 : Int32).toNatClampNeg (some q_6)) (3 : Int32).toNatClampNeg (some q_8)) (4 : Int32).toNatClampNeg (some q_10))))))), (q_2, .inr (6, [])), (q_4, .inr (5, [])), (q_6, .inr (9, [])), (q_8, .inr (2, [])), (q_10, .inr (8, [])), (q_12, .inr (3, [.int 0, .int 0, .ref n1_14, .ref n2_15, .ref n3_16, .ref n4_17, .ref n5_18])), (n1_14, .inl (cy 0, 40, .inl (fun _ => 0))), (n2_15, .inl (cy 0, 40, .inl (fun _ => 0))), (n3_16, .inl (cy 0, 40, .inl (fun _ => 0))), (n4_17, .inl (cy 0, 40, .inl (fun _ => 0))), (n5_18, .inl (cy 0, 40, .inl (fun _ => 0))), (q_27, .inl (cy 4, 4, .inr (.inr (.inr (.inr (fun _ => none))))))]) (w1 := [(q_28, .inr (4, [.int 0, .int (-9), .ref l1_30, .ref l2_31])), (l1_30, .inl (cy 0, 6, .inl (fun _ => 0)))]) hP hD [14] [0, 1, 2, 3, 4, 5, 6, 7, 8, 9, 10, 11, 12, 13] rfl rfl (by decide) (by decide) hk1 hFc hP1 hD1
  have hP : va_P D vwCl [(xo, .inr (11, [.ref q_1, .ref q_12, .ref q_19, .ref q_21, .ref q_23, .ref q_25, .null, .null, .int 0, .int 0, .long 0, .int 0])), (q_1, .inl (cy 3, 5, .inr (.inr (.inr (.inr (va_up (va_up (va_up (va_up (va_up (fun _ => none) (0 : Int32).toNatClampNeg (some q_2)) (1 : Int32).toNatClampNeg (some q_4)) (2 : Int32).toNatClampNeg (some q_6)) (3 : Int32).toNatClampNeg (some q_8)) (4 : Int32).toNatClampNeg (some q_10))))))), (q_2, .inr (6, [])), (q_4, .inr (5, [])), (q_6, .inr (9, [])), (q_8, .inr (2, [])), (q_10, .inr (8, [])), (q_12, .inr (3, [.int 0, .int 0, .ref n1_14, .ref n2_15, .ref n3_16, .ref n4_17, .ref n5_18])), (n1_14, .inl (cy 0, 40, .inl (fun _ => 0))), (n2_15, .inl (cy 0, 40, .inl (fun _ => 0))), (n3_16, .inl (cy 0, 40, .inl (fun _ => 0))), (n4_17, .inl (cy 0, 40, .inl (fun _ => 0))), (n5_18, .inl (cy 0, 40, .inl (fun _ => 0))), (q_27, .inl (cy 4, 4, .inr (.inr (.inr (.inr (fun _ => none)))))), (q_28, .inr (4, [.int 0, .int (-9), .ref l1_30, .ref l2_31])), (l1_30, .inl (cy 0, 6, .inl (fun _ => 0)))] H := hP
  have hD : va_D A [(xo, .inr (11, [.ref q_1, .ref q_12, .ref q_19, .ref q_21, .ref q_23, .ref q_25, .null, .null, .int 0, .int 0, .long 0, .int 0])), (q_1, .inl (cy 3, 5, .inr (.inr (.inr (.inr (va_up (va_up (va_up (va_up (va_up (fun _ => none) (0 : Int32).toNatClampNeg (some q_2)) (1 : Int32).toNatClampNeg (some q_4)) (2 : Int32).toNatClampNeg (some q_6)) (3 : Int32).toNatClampNeg (some q_8)) (4 : Int32).toNatClampNeg (some q_10))))))), (q_2, .inr (6, [])), (q_4, .inr (5, [])), (q_6, .inr (9, [])), (q_8, .inr (2, [])), (q_10, .inr (8, [])), (q_12, .inr (3, [.int 0, .int 0, .ref n1_14, .ref n2_15, .ref n3_16, .ref n4_17, .ref n5_18])), (n1_14, .inl (cy 0, 40, .inl (fun _ => 0))), (n2_15, .inl (cy 0, 40, .inl (fun _ => 0))), (n3_16, .inl (cy 0, 40, .inl (fun _ => 0))), (n4_17, .inl (cy 0, 40, .inl (fun _ => 0))), (n5_18, .inl (cy 0, 40, .inl (fun _ => 0))), (q_27, .inl (cy 4, 4, .inr (.inr (.inr (.inr (fun _ => none)))))), (q_28, .inr (4, [.int 0, .int (-9), .ref l1_30, .ref l2_31])), (l1_30, .inl (cy 0, 6, .inl (fun _ => 0)))] := hD
  refine va_astq hx hb hK.1 hP hD hS 13 4 14 4 rfl rfl rfl rfl (i := 0) (by unfold vp_in; decide) dX11_init_155 (fun H locs hP hD hS => ?_)
  have hP : va_P D vwCl [(xo, .inr (11, [.ref q_1, .ref q_12, .ref q_19, .ref q_21, .ref q_23, .ref q_25, .null, .null, .int 0, .int 0, .long 0, .int 0])), (q_1, .inl (cy 3, 5, .inr (.inr (.inr (.inr (va_up (va_up (va_up (va_up (va_up (fun _ => none) (0 : Int32).toNatClampNeg (some q_2)) (1 : Int32).toNatClampNeg (some q_4)) (2 : Int32).toNatClampNeg (some q_6)) (3 : Int32).toNatClampNeg (some q_8)) (4 : Int32).toNatClampNeg (some q_10))))))), (q_2, .inr (6, [])), (q_4, .inr (5, [])), (q_6, .inr (9, [])), (q_8, .inr (2, [])), (q_10, .inr (8, [])), (q_12, .inr (3, [.int 0, .int 0, .ref n1_14, .ref n2_15, .ref n3_16, .ref n4_17, .ref n5_18])), (n1_14, .inl (cy 0, 40, .inl (fun _ => 0))), (n2_15, .inl (cy 0, 40, .inl (fun _ => 0))), (n3_16, .inl (cy 0, 40, .inl (fun _ => 0))), (n4_17, .inl (cy 0, 40, .inl (fun _ => 0))), (n5_18, .inl (cy 0, 40, .inl (fun _ => 0))), (q_27, .inl (cy 4, 4, .inr (.inr (.inr (.inr (va_up (fun _ => none) (0 : Int32).toNatClampNeg (some q_28))))))), (q_28, .inr (4, [.int 0, .int (-9), .ref l1_30, .ref l2_31])), (l1_30, .inl (cy 0, 6, .inl (fun _ => 0)))] H := hP
  have hD : va_D A [(xo, .inr (11, [.ref q_1, .ref q_12, .ref q_19, .ref q_21, .ref q_23, .ref q_25, .null, .null, .int 0, .int 0, .long 0, .int 0])), (q_1, .inl (cy 3, 5, .inr (.inr (.inr (.inr (va_up (va_up (va_up (va_up (va_up (fun _ => none) (0 : Int32).toNatClampNeg (some q_2)) (1 : Int32).toNatClampNeg (some q_4)) (2 : Int32).toNatClampNeg (some q_6)) (3 : Int32).toNatClampNeg (some q_8)) (4 : Int32).toNatClampNeg (some q_10))))))), (q_2, .inr (6, [])), (q_4, .inr (5, [])), (q_6, .inr (9, [])), (q_8, .inr (2, [])), (q_10, .inr (8, [])), (q_12, .inr (3, [.int 0, .int 0, .ref n1_14, .ref n2_15, .ref n3_16, .ref n4_17, .ref n5_18])), (n1_14, .inl (cy 0, 40, .inl (fun _ => 0))), (n2_15, .inl (cy 0, 40, .inl (fun _ => 0))), (n3_16, .inl (cy 0, 40, .inl (fun _ => 0))), (n4_17, .inl (cy 0, 40, .inl (fun _ => 0))), (n5_18, .inl (cy 0, 40, .inl (fun _ => 0))), (q_27, .inl (cy 4, 4, .inr (.inr (.inr (.inr (va_up (fun _ => none) (0 : Int32).toNatClampNeg (some q_28))))))), (q_28, .inr (4, [.int 0, .int (-9), .ref l1_30, .ref l2_31])), (l1_30, .inl (cy 0, 6, .inl (fun _ => 0)))] := hD
  refine lv_dup hx hb dX11_init_156 rfl ?_
  refine lv_iconst (v := 1) hx hb dX11_init_157 (by decide) ?_
  refine va_new (ci := 4) (fs := [.int 0, .int 0, .null, .null]) (C := RX4) (T := TX4) (N := 4) hx hb hts (fun _ h => List.mem_cons_of_mem _ (List.mem_append_right _ h)) tyX4 tyX4_ok hown (hts (.classLink RX11 69 RX4) (by decide +kernel)) (hts (.instantiable RX4 4) (by decide +kernel)) (hts (.initialized RX4) (by decide +kernel)) hK.1 hP hD hS hA rfl (by decide +kernel) (Nat.le_of_ble_eq_true rfl) (Nat.le_of_ble_eq_true rfl) dX11_init_158 (fun q_32 H hP hD hS => ?_)
  have hP : va_P D vwCl [(xo, .inr (11, [.ref q_1, .ref q_12, .ref q_19, .ref q_21, .ref q_23, .ref q_25, .null, .null, .int 0, .int 0, .long 0, .int 0])), (q_1, .inl (cy 3, 5, .inr (.inr (.inr (.inr (va_up (va_up (va_up (va_up (va_up (fun _ => none) (0 : Int32).toNatClampNeg (some q_2)) (1 : Int32).toNatClampNeg (some q_4)) (2 : Int32).toNatClampNeg (some q_6)) (3 : Int32).toNatClampNeg (some q_8)) (4 : Int32).toNatClampNeg (some q_10))))))), (q_2, .inr (6, [])), (q_4, .inr (5, [])), (q_6, .inr (9, [])), (q_8, .inr (2, [])), (q_10, .inr (8, [])), (q_12, .inr (3, [.int 0, .int 0, .ref n1_14, .ref n2_15, .ref n3_16, .ref n4_17, .ref n5_18])), (n1_14, .inl (cy 0, 40, .inl (fun _ => 0))), (n2_15, .inl (cy 0, 40, .inl (fun _ => 0))), (n3_16, .inl (cy 0, 40, .inl (fun _ => 0))), (n4_17, .inl (cy 0, 40, .inl (fun _ => 0))), (n5_18, .inl (cy 0, 40, .inl (fun _ => 0))), (q_27, .inl (cy 4, 4, .inr (.inr (.inr (.inr (va_up (fun _ => none) (0 : Int32).toNatClampNeg (some q_28))))))), (q_28, .inr (4, [.int 0, .int (-9), .ref l1_30, .ref l2_31])), (l1_30, .inl (cy 0, 6, .inl (fun _ => 0))), (q_32, .inr (4, [.int 0, .int 0, .null, .null]))] H := hP
  have hD : va_D A [(xo, .inr (11, [.ref q_1, .ref q_12, .ref q_19, .ref q_21, .ref q_23, .ref q_25, .null, .null, .int 0, .int 0, .long 0, .int 0])), (q_1, .inl (cy 3, 5, .inr (.inr (.inr (.inr (va_up (va_up (va_up (va_up (va_up (fun _ => none) (0 : Int32).toNatClampNeg (some q_2)) (1 : Int32).toNatClampNeg (some q_4)) (2 : Int32).toNatClampNeg (some q_6)) (3 : Int32).toNatClampNeg (some q_8)) (4 : Int32).toNatClampNeg (some q_10))))))), (q_2, .inr (6, [])), (q_4, .inr (5, [])), (q_6, .inr (9, [])), (q_8, .inr (2, [])), (q_10, .inr (8, [])), (q_12, .inr (3, [.int 0, .int 0, .ref n1_14, .ref n2_15, .ref n3_16, .ref n4_17, .ref n5_18])), (n1_14, .inl (cy 0, 40, .inl (fun _ => 0))), (n2_15, .inl (cy 0, 40, .inl (fun _ => 0))), (n3_16, .inl (cy 0, 40, .inl (fun _ => 0))), (n4_17, .inl (cy 0, 40, .inl (fun _ => 0))), (n5_18, .inl (cy 0, 40, .inl (fun _ => 0))), (q_27, .inl (cy 4, 4, .inr (.inr (.inr (.inr (va_up (fun _ => none) (0 : Int32).toNatClampNeg (some q_28))))))), (q_28, .inr (4, [.int 0, .int (-9), .ref l1_30, .ref l2_31])), (l1_30, .inl (cy 0, 6, .inl (fun _ => 0))), (q_32, .inr (4, [.int 0, .int 0, .null, .null]))] := hD
  refine lv_dup hx hb dX11_init_161 rfl ?_
  have hPc := hP.sub (ws' := [(q_32, .inr (4, [.int 0, .int 0, .null, .null]))]) [16] rfl
  have hDc := hD.sub (ws' := [(q_32, .inr (4, [.int 0, .int 0, .null, .null]))]) [16] (by decide) rfl
  have hDw : va_D (fun _ => True) [(q_32, .inr (4, [.int 0, .int 0, .null, .null]))] := hDc.weaken (fun _ _ _ _ => trivial)
  have hFc := va_free (wc := [(q_32, .inr (4, [.int 0, .int 0, .null, .null]))]) hD hS hA [16] rfl
  refine va_callv (va_runIN (As := []) (rest := [.ref q_32, .int 1, .ref q_27, .ref q_27, .ref xo]) ⟨hx, hb, hml, hown, hts⟩ (c_X4_init l D cy H.size q_32) ⟨va_cnB 0 hts gX11_init_X4_init_n71 rfl rfl rfl (kk_nX11_71 hK) (hts (.initialized RX4) (by decide +kernel)) (by decide +kernel) ⟨Nat.le_of_ble_eq_true rfl, Nat.le_of_ble_eq_true rfl⟩, rfl, (hts (.instanceMethod yX4_init) (by decide +kernel))⟩ ⟨bl_, fun U hU hW => ⟨rfl, by rw [hU], by rw [hU]; exact hPc, kk_mv hW hK, hDw⟩⟩ rfl rfl hl.1 rfl (lv_room (Nat.le_of_ble_eq_true rfl)) dX11_init_162 ⟨Nat.le_of_ble_eq_true rfl, Nat.le_of_ble_eq_true rfl⟩) hS (fun q _ h => hFc q h) hFc (fun u t H locs ht hvm hw hB hz1 hk1 hS => ?_)
  obtain ⟨l1_34, l2_35, hP1, hD1⟩ := hB
  rw [ht] at hP1
  obtain ⟨hP, hD⟩ := va_join (wr := [(xo, .inr (11, [.ref q_1, .ref q_12, .ref q_19, .ref q_21, .ref q_23, .ref q_25, .null, .null, .int 0, .int 0, .long 0, .int 0])), (q_1, .inl (cy 3, 5, .inr (.inr (.inr (.inr (va_up (va_up (va_up (va_up (va_up (fun _ => none) (0 : Int32).toNatClampNeg (some q_2)) (1 : Int32).toNatClampNeg (some q_4)) (2 : Int32).toNatClampNeg (some q_6)) (3 : Int32).toNatClampNeg (some q_8)) (4 : Int32).toNatClampNeg (some q_10))))))), (q_2, .inr (6, [])), (q_4, .inr (5, [])), (q_6, .inr (9, [])), (q_8, .inr (2, [])), (q_10, .inr (8, [])), (q_12, .inr (3, [.int 0, .int 0, .ref n1_14, .ref n2_15, .ref n3_16, .ref n4_17, .ref n5_18])), (n1_14, .inl (cy 0, 40, .inl (fun _ => 0))), (n2_15, .inl (cy 0, 40, .inl (fun _ => 0))), (n3_16, .inl (cy 0, 40, .inl (fun _ => 0))), (n4_17, .inl (cy 0, 40, .inl (fun _ => 0))), (n5_18, .inl (cy 0, 40, .inl (fun _ => 0))), (q_27, .inl (cy 4, 4, .inr (.inr (.inr (.inr (va_up (fun _ => none) (0 : Int32).toNatClampNeg (some q_28))))))), (q_28, .inr (4, [.int 0, .int (-9), .ref l1_30, .ref l2_31])), (l1_30, .inl (cy 0, 6, .inl (fun _ => 0)))]) (w1 := [(q_32, .inr (4, [.int 0, .int (-9), .ref l1_34, .ref l2_35])), (l1_34, .inl (cy 0, 6, .inl (fun _ => 0)))]) hP hD [16] [0, 1, 2, 3, 4, 5, 6, 7, 8, 9, 10, 11, 12, 13, 14, 15] rfl rfl (by decide) (by decide) hk1 hFc hP1 hD1
  have hP : va_P D vwCl [(xo, .inr (11, [.ref q_1, .ref q_12, .ref q_19, .ref q_21, .ref q_23, .ref q_25, .null, .null, .int 0, .int 0, .long 0, .int 0])), (q_1, .inl (cy 3, 5, .inr (.inr (.inr (.inr (va_up (va_up (va_up (va_up (va_up (fun _ => none) (0 : Int32).toNatClampNeg (some q_2)) (1 : Int32).toNatClampNeg (some q_4)) (2 : Int32).toNatClampNeg (some q_6)) (3 : Int32).toNatClampNeg (some q_8)) (4 : Int32).toNatClampNeg (some q_10))))))), (q_2, .inr (6, [])), (q_4, .inr (5, [])), (q_6, .inr (9, [])), (q_8, .inr (2, [])), (q_10, .inr (8, [])), (q_12, .inr (3, [.int 0, .int 0, .ref n1_14, .ref n2_15, .ref n3_16, .ref n4_17, .ref n5_18])), (n1_14, .inl (cy 0, 40, .inl (fun _ => 0))), (n2_15, .inl (cy 0, 40, .inl (fun _ => 0))), (n3_16, .inl (cy 0, 40, .inl (fun _ => 0))), (n4_17, .inl (cy 0, 40, .inl (fun _ => 0))), (n5_18, .inl (cy 0, 40, .inl (fun _ => 0))), (q_27, .inl (cy 4, 4, .inr (.inr (.inr (.inr (va_up (fun _ => none) (0 : Int32).toNatClampNeg (some q_28))))))), (q_28, .inr (4, [.int 0, .int (-9), .ref l1_30, .ref l2_31])), (l1_30, .inl (cy 0, 6, .inl (fun _ => 0))), (q_32, .inr (4, [.int 0, .int (-9), .ref l1_34, .ref l2_35])), (l1_34, .inl (cy 0, 6, .inl (fun _ => 0)))] H := hP
  have hD : va_D A [(xo, .inr (11, [.ref q_1, .ref q_12, .ref q_19, .ref q_21, .ref q_23, .ref q_25, .null, .null, .int 0, .int 0, .long 0, .int 0])), (q_1, .inl (cy 3, 5, .inr (.inr (.inr (.inr (va_up (va_up (va_up (va_up (va_up (fun _ => none) (0 : Int32).toNatClampNeg (some q_2)) (1 : Int32).toNatClampNeg (some q_4)) (2 : Int32).toNatClampNeg (some q_6)) (3 : Int32).toNatClampNeg (some q_8)) (4 : Int32).toNatClampNeg (some q_10))))))), (q_2, .inr (6, [])), (q_4, .inr (5, [])), (q_6, .inr (9, [])), (q_8, .inr (2, [])), (q_10, .inr (8, [])), (q_12, .inr (3, [.int 0, .int 0, .ref n1_14, .ref n2_15, .ref n3_16, .ref n4_17, .ref n5_18])), (n1_14, .inl (cy 0, 40, .inl (fun _ => 0))), (n2_15, .inl (cy 0, 40, .inl (fun _ => 0))), (n3_16, .inl (cy 0, 40, .inl (fun _ => 0))), (n4_17, .inl (cy 0, 40, .inl (fun _ => 0))), (n5_18, .inl (cy 0, 40, .inl (fun _ => 0))), (q_27, .inl (cy 4, 4, .inr (.inr (.inr (.inr (va_up (fun _ => none) (0 : Int32).toNatClampNeg (some q_28))))))), (q_28, .inr (4, [.int 0, .int (-9), .ref l1_30, .ref l2_31])), (l1_30, .inl (cy 0, 6, .inl (fun _ => 0))), (q_32, .inr (4, [.int 0, .int (-9), .ref l1_34, .ref l2_35])), (l1_34, .inl (cy 0, 6, .inl (fun _ => 0)))] := hD
  refine va_astq hx hb hK.1 hP hD hS 13 4 16 4 rfl rfl rfl rfl (i := 1) (by unfold vp_in; decide) dX11_init_165 (fun H locs hP hD hS => ?_)
  have hP : va_P D vwCl [(xo, .inr (11, [.ref q_1, .ref q_12, .ref q_19, .ref q_21, .ref q_23, .ref q_25, .null, .null, .int 0, .int 0, .long 0, .int 0])), (q_1, .inl (cy 3, 5, .inr (.inr (.inr (.inr (va_up (va_up (va_up (va_up (va_up (fun _ => none) (0 : Int32).toNatClampNeg (some q_2)) (1 : Int32).toNatClampNeg (some q_4)) (2 : Int32).toNatClampNeg (some q_6)) (3 : Int32).toNatClampNeg (some q_8)) (4 : Int32).toNatClampNeg (some q_10))))))), (q_2, .inr (6, [])), (q_4, .inr (5, [])), (q_6, .inr (9, [])), (q_8, .inr (2, [])), (q_10, .inr (8, [])), (q_12, .inr (3, [.int 0, .int 0, .ref n1_14, .ref n2_15, .ref n3_16, .ref n4_17, .ref n5_18])), (n1_14, .inl (cy 0, 40, .inl (fun _ => 0))), (n2_15, .inl (cy 0, 40, .inl (fun _ => 0))), (n3_16, .inl (cy 0, 40, .inl (fun _ => 0))), (n4_17, .inl (cy 0, 40, .inl (fun _ => 0))), (n5_18, .inl (cy 0, 40, .inl (fun _ => 0))), (q_27, .inl (cy 4, 4, .inr (.inr (.inr (.inr (va_up (va_up (fun _ => none) (0 : Int32).toNatClampNeg (some q_28)) (1 : Int32).toNatClampNeg (some q_32))))))), (q_28, .inr (4, [.int 0, .int (-9), .ref l1_30, .ref l2_31])), (l1_30, .inl (cy 0, 6, .inl (fun _ => 0))), (q_32, .inr (4, [.int 0, .int (-9), .ref l1_34, .ref l2_35])), (l1_34, .inl (cy 0, 6, .inl (fun _ => 0)))] H := hP
  have hD : va_D A [(xo, .inr (11, [.ref q_1, .ref q_12, .ref q_19, .ref q_21, .ref q_23, .ref q_25, .null, .null, .int 0, .int 0, .long 0, .int 0])), (q_1, .inl (cy 3, 5, .inr (.inr (.inr (.inr (va_up (va_up (va_up (va_up (va_up (fun _ => none) (0 : Int32).toNatClampNeg (some q_2)) (1 : Int32).toNatClampNeg (some q_4)) (2 : Int32).toNatClampNeg (some q_6)) (3 : Int32).toNatClampNeg (some q_8)) (4 : Int32).toNatClampNeg (some q_10))))))), (q_2, .inr (6, [])), (q_4, .inr (5, [])), (q_6, .inr (9, [])), (q_8, .inr (2, [])), (q_10, .inr (8, [])), (q_12, .inr (3, [.int 0, .int 0, .ref n1_14, .ref n2_15, .ref n3_16, .ref n4_17, .ref n5_18])), (n1_14, .inl (cy 0, 40, .inl (fun _ => 0))), (n2_15, .inl (cy 0, 40, .inl (fun _ => 0))), (n3_16, .inl (cy 0, 40, .inl (fun _ => 0))), (n4_17, .inl (cy 0, 40, .inl (fun _ => 0))), (n5_18, .inl (cy 0, 40, .inl (fun _ => 0))), (q_27, .inl (cy 4, 4, .inr (.inr (.inr (.inr (va_up (va_up (fun _ => none) (0 : Int32).toNatClampNeg (some q_28)) (1 : Int32).toNatClampNeg (some q_32))))))), (q_28, .inr (4, [.int 0, .int (-9), .ref l1_30, .ref l2_31])), (l1_30, .inl (cy 0, 6, .inl (fun _ => 0))), (q_32, .inr (4, [.int 0, .int (-9), .ref l1_34, .ref l2_35])), (l1_34, .inl (cy 0, 6, .inl (fun _ => 0)))] := hD
  refine lv_dup hx hb dX11_init_166 rfl ?_
  refine lv_iconst (v := 2) hx hb dX11_init_167 (by decide) ?_
  refine va_new (ci := 4) (fs := [.int 0, .int 0, .null, .null]) (C := RX4) (T := TX4) (N := 4) hx hb hts (fun _ h => List.mem_cons_of_mem _ (List.mem_append_right _ h)) tyX4 tyX4_ok hown (hts (.classLink RX11 69 RX4) (by decide +kernel)) (hts (.instantiable RX4 4) (by decide +kernel)) (hts (.initialized RX4) (by decide +kernel)) hK.1 hP hD hS hA rfl (by decide +kernel) (Nat.le_of_ble_eq_true rfl) (Nat.le_of_ble_eq_true rfl) dX11_init_168 (fun q_36 H hP hD hS => ?_)
  have hP : va_P D vwCl [(xo, .inr (11, [.ref q_1, .ref q_12, .ref q_19, .ref q_21, .ref q_23, .ref q_25, .null, .null, .int 0, .int 0, .long 0, .int 0])), (q_1, .inl (cy 3, 5, .inr (.inr (.inr (.inr (va_up (va_up (va_up (va_up (va_up (fun _ => none) (0 : Int32).toNatClampNeg (some q_2)) (1 : Int32).toNatClampNeg (some q_4)) (2 : Int32).toNatClampNeg (some q_6)) (3 : Int32).toNatClampNeg (some q_8)) (4 : Int32).toNatClampNeg (some q_10))))))), (q_2, .inr (6, [])), (q_4, .inr (5, [])), (q_6, .inr (9, [])), (q_8, .inr (2, [])), (q_10, .inr (8, [])), (q_12, .inr (3, [.int 0, .int 0, .ref n1_14, .ref n2_15, .ref n3_16, .ref n4_17, .ref n5_18])), (n1_14, .inl (cy 0, 40, .inl (fun _ => 0))), (n2_15, .inl (cy 0, 40, .inl (fun _ => 0))), (n3_16, .inl (cy 0, 40, .inl (fun _ => 0))), (n4_17, .inl (cy 0, 40, .inl (fun _ => 0))), (n5_18, .inl (cy 0, 40, .inl (fun _ => 0))), (q_27, .inl (cy 4, 4, .inr (.inr (.inr (.inr (va_up (va_up (fun _ => none) (0 : Int32).toNatClampNeg (some q_28)) (1 : Int32).toNatClampNeg (some q_32))))))), (q_28, .inr (4, [.int 0, .int (-9), .ref l1_30, .ref l2_31])), (l1_30, .inl (cy 0, 6, .inl (fun _ => 0))), (q_32, .inr (4, [.int 0, .int (-9), .ref l1_34, .ref l2_35])), (l1_34, .inl (cy 0, 6, .inl (fun _ => 0))), (q_36, .inr (4, [.int 0, .int 0, .null, .null]))] H := hP
  have hD : va_D A [(xo, .inr (11, [.ref q_1, .ref q_12, .ref q_19, .ref q_21, .ref q_23, .ref q_25, .null, .null, .int 0, .int 0, .long 0, .int 0])), (q_1, .inl (cy 3, 5, .inr (.inr (.inr (.inr (va_up (va_up (va_up (va_up (va_up (fun _ => none) (0 : Int32).toNatClampNeg (some q_2)) (1 : Int32).toNatClampNeg (some q_4)) (2 : Int32).toNatClampNeg (some q_6)) (3 : Int32).toNatClampNeg (some q_8)) (4 : Int32).toNatClampNeg (some q_10))))))), (q_2, .inr (6, [])), (q_4, .inr (5, [])), (q_6, .inr (9, [])), (q_8, .inr (2, [])), (q_10, .inr (8, [])), (q_12, .inr (3, [.int 0, .int 0, .ref n1_14, .ref n2_15, .ref n3_16, .ref n4_17, .ref n5_18])), (n1_14, .inl (cy 0, 40, .inl (fun _ => 0))), (n2_15, .inl (cy 0, 40, .inl (fun _ => 0))), (n3_16, .inl (cy 0, 40, .inl (fun _ => 0))), (n4_17, .inl (cy 0, 40, .inl (fun _ => 0))), (n5_18, .inl (cy 0, 40, .inl (fun _ => 0))), (q_27, .inl (cy 4, 4, .inr (.inr (.inr (.inr (va_up (va_up (fun _ => none) (0 : Int32).toNatClampNeg (some q_28)) (1 : Int32).toNatClampNeg (some q_32))))))), (q_28, .inr (4, [.int 0, .int (-9), .ref l1_30, .ref l2_31])), (l1_30, .inl (cy 0, 6, .inl (fun _ => 0))), (q_32, .inr (4, [.int 0, .int (-9), .ref l1_34, .ref l2_35])), (l1_34, .inl (cy 0, 6, .inl (fun _ => 0))), (q_36, .inr (4, [.int 0, .int 0, .null, .null]))] := hD
  refine lv_dup hx hb dX11_init_171 rfl ?_
  have hPc := hP.sub (ws' := [(q_36, .inr (4, [.int 0, .int 0, .null, .null]))]) [18] rfl
  have hDc := hD.sub (ws' := [(q_36, .inr (4, [.int 0, .int 0, .null, .null]))]) [18] (by decide) rfl
  have hDw : va_D (fun _ => True) [(q_36, .inr (4, [.int 0, .int 0, .null, .null]))] := hDc.weaken (fun _ _ _ _ => trivial)
  have hFc := va_free (wc := [(q_36, .inr (4, [.int 0, .int 0, .null, .null]))]) hD hS hA [18] rfl
  refine va_callv (va_runIN (As := []) (rest := [.ref q_36, .int 2, .ref q_27, .ref q_27, .ref xo]) ⟨hx, hb, hml, hown, hts⟩ (c_X4_init l D cy H.size q_36) ⟨va_cnB 0 hts gX11_init_X4_init_n71 rfl rfl rfl (kk_nX11_71 hK) (hts (.initialized RX4) (by decide +kernel)) (by decide +kernel) ⟨Nat.le_of_ble_eq_true rfl, Nat.le_of_ble_eq_true rfl⟩, rfl, (hts (.instanceMethod yX4_init) (by decide +kernel))⟩ ⟨bl_, fun U hU hW => ⟨rfl, by rw [hU], by rw [hU]; exact hPc, kk_mv hW hK, hDw⟩⟩ rfl rfl hl.1 rfl (lv_room (Nat.le_of_ble_eq_true rfl)) dX11_init_172 ⟨Nat.le_of_ble_eq_true rfl, Nat.le_of_ble_eq_true rfl⟩) hS (fun q _ h => hFc q h) hFc (fun u t H locs ht hvm hw hB hz1 hk1 hS => ?_)
  obtain ⟨l1_38, l2_39, hP1, hD1⟩ := hB
  rw [ht] at hP1
  obtain ⟨hP, hD⟩ := va_join (wr := [(xo, .inr (11, [.ref q_1, .ref q_12, .ref q_19, .ref q_21, .ref q_23, .ref q_25, .null, .null, .int 0, .int 0, .long 0, .int 0])), (q_1, .inl (cy 3, 5, .inr (.inr (.inr (.inr (va_up (va_up (va_up (va_up (va_up (fun _ => none) (0 : Int32).toNatClampNeg (some q_2)) (1 : Int32).toNatClampNeg (some q_4)) (2 : Int32).toNatClampNeg (some q_6)) (3 : Int32).toNatClampNeg (some q_8)) (4 : Int32).toNatClampNeg (some q_10))))))), (q_2, .inr (6, [])), (q_4, .inr (5, [])), (q_6, .inr (9, [])), (q_8, .inr (2, [])), (q_10, .inr (8, [])), (q_12, .inr (3, [.int 0, .int 0, .ref n1_14, .ref n2_15, .ref n3_16, .ref n4_17, .ref n5_18])), (n1_14, .inl (cy 0, 40, .inl (fun _ => 0))), (n2_15, .inl (cy 0, 40, .inl (fun _ => 0))), (n3_16, .inl (cy 0, 40, .inl (fun _ => 0))), (n4_17, .inl (cy 0, 40, .inl (fun _ => 0))), (n5_18, .inl (cy 0, 40, .inl (fun _ => 0))), (q_27, .inl (cy 4, 4, .inr (.inr (.inr (.inr (va_up (va_up (fun _ => none) (0 : Int32).toNatClampNeg (some q_28)) (1 : Int32).toNatClampNeg (some q_32))))))), (q_28, .inr (4, [.int 0, .int (-9), .ref l1_30, .ref l2_31])), (l1_30, .inl (cy 0, 6, .inl (fun _ => 0))), (q_32, .inr (4, [.int 0, .int (-9), .ref l1_34, .ref l2_35])), (l1_34, .inl (cy 0, 6, .inl (fun _ => 0)))]) (w1 := [(q_36, .inr (4, [.int 0, .int (-9), .ref l1_38, .ref l2_39])), (l1_38, .inl (cy 0, 6, .inl (fun _ => 0)))]) hP hD [18] [0, 1, 2, 3, 4, 5, 6, 7, 8, 9, 10, 11, 12, 13, 14, 15, 16, 17] rfl rfl (by decide) (by decide) hk1 hFc hP1 hD1
  have hP : va_P D vwCl [(xo, .inr (11, [.ref q_1, .ref q_12, .ref q_19, .ref q_21, .ref q_23, .ref q_25, .null, .null, .int 0, .int 0, .long 0, .int 0])), (q_1, .inl (cy 3, 5, .inr (.inr (.inr (.inr (va_up (va_up (va_up (va_up (va_up (fun _ => none) (0 : Int32).toNatClampNeg (some q_2)) (1 : Int32).toNatClampNeg (some q_4)) (2 : Int32).toNatClampNeg (some q_6)) (3 : Int32).toNatClampNeg (some q_8)) (4 : Int32).toNatClampNeg (some q_10))))))), (q_2, .inr (6, [])), (q_4, .inr (5, [])), (q_6, .inr (9, [])), (q_8, .inr (2, [])), (q_10, .inr (8, [])), (q_12, .inr (3, [.int 0, .int 0, .ref n1_14, .ref n2_15, .ref n3_16, .ref n4_17, .ref n5_18])), (n1_14, .inl (cy 0, 40, .inl (fun _ => 0))), (n2_15, .inl (cy 0, 40, .inl (fun _ => 0))), (n3_16, .inl (cy 0, 40, .inl (fun _ => 0))), (n4_17, .inl (cy 0, 40, .inl (fun _ => 0))), (n5_18, .inl (cy 0, 40, .inl (fun _ => 0))), (q_27, .inl (cy 4, 4, .inr (.inr (.inr (.inr (va_up (va_up (fun _ => none) (0 : Int32).toNatClampNeg (some q_28)) (1 : Int32).toNatClampNeg (some q_32))))))), (q_28, .inr (4, [.int 0, .int (-9), .ref l1_30, .ref l2_31])), (l1_30, .inl (cy 0, 6, .inl (fun _ => 0))), (q_32, .inr (4, [.int 0, .int (-9), .ref l1_34, .ref l2_35])), (l1_34, .inl (cy 0, 6, .inl (fun _ => 0))), (q_36, .inr (4, [.int 0, .int (-9), .ref l1_38, .ref l2_39])), (l1_38, .inl (cy 0, 6, .inl (fun _ => 0)))] H := hP
  have hD : va_D A [(xo, .inr (11, [.ref q_1, .ref q_12, .ref q_19, .ref q_21, .ref q_23, .ref q_25, .null, .null, .int 0, .int 0, .long 0, .int 0])), (q_1, .inl (cy 3, 5, .inr (.inr (.inr (.inr (va_up (va_up (va_up (va_up (va_up (fun _ => none) (0 : Int32).toNatClampNeg (some q_2)) (1 : Int32).toNatClampNeg (some q_4)) (2 : Int32).toNatClampNeg (some q_6)) (3 : Int32).toNatClampNeg (some q_8)) (4 : Int32).toNatClampNeg (some q_10))))))), (q_2, .inr (6, [])), (q_4, .inr (5, [])), (q_6, .inr (9, [])), (q_8, .inr (2, [])), (q_10, .inr (8, [])), (q_12, .inr (3, [.int 0, .int 0, .ref n1_14, .ref n2_15, .ref n3_16, .ref n4_17, .ref n5_18])), (n1_14, .inl (cy 0, 40, .inl (fun _ => 0))), (n2_15, .inl (cy 0, 40, .inl (fun _ => 0))), (n3_16, .inl (cy 0, 40, .inl (fun _ => 0))), (n4_17, .inl (cy 0, 40, .inl (fun _ => 0))), (n5_18, .inl (cy 0, 40, .inl (fun _ => 0))), (q_27, .inl (cy 4, 4, .inr (.inr (.inr (.inr (va_up (va_up (fun _ => none) (0 : Int32).toNatClampNeg (some q_28)) (1 : Int32).toNatClampNeg (some q_32))))))), (q_28, .inr (4, [.int 0, .int (-9), .ref l1_30, .ref l2_31])), (l1_30, .inl (cy 0, 6, .inl (fun _ => 0))), (q_32, .inr (4, [.int 0, .int (-9), .ref l1_34, .ref l2_35])), (l1_34, .inl (cy 0, 6, .inl (fun _ => 0))), (q_36, .inr (4, [.int 0, .int (-9), .ref l1_38, .ref l2_39])), (l1_38, .inl (cy 0, 6, .inl (fun _ => 0)))] := hD
  refine va_astq hx hb hK.1 hP hD hS 13 4 18 4 rfl rfl rfl rfl (i := 2) (by unfold vp_in; decide) dX11_init_175 (fun H locs hP hD hS => ?_)
  have hP : va_P D vwCl [(xo, .inr (11, [.ref q_1, .ref q_12, .ref q_19, .ref q_21, .ref q_23, .ref q_25, .null, .null, .int 0, .int 0, .long 0, .int 0])), (q_1, .inl (cy 3, 5, .inr (.inr (.inr (.inr (va_up (va_up (va_up (va_up (va_up (fun _ => none) (0 : Int32).toNatClampNeg (some q_2)) (1 : Int32).toNatClampNeg (some q_4)) (2 : Int32).toNatClampNeg (some q_6)) (3 : Int32).toNatClampNeg (some q_8)) (4 : Int32).toNatClampNeg (some q_10))))))), (q_2, .inr (6, [])), (q_4, .inr (5, [])), (q_6, .inr (9, [])), (q_8, .inr (2, [])), (q_10, .inr (8, [])), (q_12, .inr (3, [.int 0, .int 0, .ref n1_14, .ref n2_15, .ref n3_16, .ref n4_17, .ref n5_18])), (n1_14, .inl (cy 0, 40, .inl (fun _ => 0))), (n2_15, .inl (cy 0, 40, .inl (fun _ => 0))), (n3_16, .inl (cy 0, 40, .inl (fun _ => 0))), (n4_17, .inl (cy 0, 40, .inl (fun _ => 0))), (n5_18, .inl (cy 0, 40, .inl (fun _ => 0))), (q_27, .inl (cy 4, 4, .inr (.inr (.inr (.inr (va_up (va_up (va_up (fun _ => none) (0 : Int32).toNatClampNeg (some q_28)) (1 : Int32).toNatClampNeg (some q_32)) (2 : Int32).toNatClampNeg (some q_36))))))), (q_28, .inr (4, [.int 0, .int (-9), .ref l1_30, .ref l2_31])), (l1_30, .inl (cy 0, 6, .inl (fun _ => 0))), (q_32, .inr (4, [.int 0, .int (-9), .ref l1_34, .ref l2_35])), (l1_34, .inl (cy 0, 6, .inl (fun _ => 0))), (q_36, .inr (4, [.int 0, .int (-9), .ref l1_38, .ref l2_39])), (l1_38, .inl (cy 0, 6, .inl (fun _ => 0)))] H := hP
  have hD : va_D A [(xo, .inr (11, [.ref q_1, .ref q_12, .ref q_19, .ref q_21, .ref q_23, .ref q_25, .null, .null, .int 0, .int 0, .long 0, .int 0])), (q_1, .inl (cy 3, 5, .inr (.inr (.inr (.inr (va_up (va_up (va_up (va_up (va_up (fun _ => none) (0 : Int32).toNatClampNeg (some q_2)) (1 : Int32).toNatClampNeg (some q_4)) (2 : Int32).toNatClampNeg (some q_6)) (3 : Int32).toNatClampNeg (some q_8)) (4 : Int32).toNatClampNeg (some q_10))))))), (q_2, .inr (6, [])), (q_4, .inr (5, [])), (q_6, .inr (9, [])), (q_8, .inr (2, [])), (q_10, .inr (8, [])), (q_12, .inr (3, [.int 0, .int 0, .ref n1_14, .ref n2_15, .ref n3_16, .ref n4_17, .ref n5_18])), (n1_14, .inl (cy 0, 40, .inl (fun _ => 0))), (n2_15, .inl (cy 0, 40, .inl (fun _ => 0))), (n3_16, .inl (cy 0, 40, .inl (fun _ => 0))), (n4_17, .inl (cy 0, 40, .inl (fun _ => 0))), (n5_18, .inl (cy 0, 40, .inl (fun _ => 0))), (q_27, .inl (cy 4, 4, .inr (.inr (.inr (.inr (va_up (va_up (va_up (fun _ => none) (0 : Int32).toNatClampNeg (some q_28)) (1 : Int32).toNatClampNeg (some q_32)) (2 : Int32).toNatClampNeg (some q_36))))))), (q_28, .inr (4, [.int 0, .int (-9), .ref l1_30, .ref l2_31])), (l1_30, .inl (cy 0, 6, .inl (fun _ => 0))), (q_32, .inr (4, [.int 0, .int (-9), .ref l1_34, .ref l2_35])), (l1_34, .inl (cy 0, 6, .inl (fun _ => 0))), (q_36, .inr (4, [.int 0, .int (-9), .ref l1_38, .ref l2_39])), (l1_38, .inl (cy 0, 6, .inl (fun _ => 0)))] := hD
  refine lv_dup hx hb dX11_init_176 rfl ?_
  refine lv_iconst (v := 3) hx hb dX11_init_177 (by decide) ?_
  refine va_new (ci := 4) (fs := [.int 0, .int 0, .null, .null]) (C := RX4) (T := TX4) (N := 4) hx hb hts (fun _ h => List.mem_cons_of_mem _ (List.mem_append_right _ h)) tyX4 tyX4_ok hown (hts (.classLink RX11 69 RX4) (by decide +kernel)) (hts (.instantiable RX4 4) (by decide +kernel)) (hts (.initialized RX4) (by decide +kernel)) hK.1 hP hD hS hA rfl (by decide +kernel) (Nat.le_of_ble_eq_true rfl) (Nat.le_of_ble_eq_true rfl) dX11_init_178 (fun q_40 H hP hD hS => ?_)
  have hP : va_P D vwCl [(xo, .inr (11, [.ref q_1, .ref q_12, .ref q_19, .ref q_21, .ref q_23, .ref q_25, .null, .null, .int 0, .int 0, .long 0, .int 0])), (q_1, .inl (cy 3, 5, .inr (.inr (.inr (.inr (va_up (va_up (va_up (va_up (va_up (fun _ => none) (0 : Int32).toNatClampNeg (some q_2)) (1 : Int32).toNatClampNeg (some q_4)) (2 : Int32).toNatClampNeg (some q_6)) (3 : Int32).toNatClampNeg (some q_8)) (4 : Int32).toNatClampNeg (some q_10))))))), (q_2, .inr (6, [])), (q_4, .inr (5, [])), (q_6, .inr (9, [])), (q_8, .inr (2, [])), (q_10, .inr (8, [])), (q_12, .inr (3, [.int 0, .int 0, .ref n1_14, .ref n2_15, .ref n3_16, .ref n4_17, .ref n5_18])), (n1_14, .inl (cy 0, 40, .inl (fun _ => 0))), (n2_15, .inl (cy 0, 40, .inl (fun _ => 0))), (n3_16, .inl (cy 0, 40, .inl (fun _ => 0))), (n4_17, .inl (cy 0, 40, .inl (fun _ => 0))), (n5_18, .inl (cy 0, 40, .inl (fun _ => 0))), (q_27, .inl (cy 4, 4, .inr (.inr (.inr (.inr (va_up (va_up (va_up (fun _ => none) (0 : Int32).toNatClampNeg (some q_28)) (1 : Int32).toNatClampNeg (some q_32)) (2 : Int32).toNatClampNeg (some q_36))))))), (q_28, .inr (4, [.int 0, .int (-9), .ref l1_30, .ref l2_31])), (l1_30, .inl (cy 0, 6, .inl (fun _ => 0))), (q_32, .inr (4, [.int 0, .int (-9), .ref l1_34, .ref l2_35])), (l1_34, .inl (cy 0, 6, .inl (fun _ => 0))), (q_36, .inr (4, [.int 0, .int (-9), .ref l1_38, .ref l2_39])), (l1_38, .inl (cy 0, 6, .inl (fun _ => 0))), (q_40, .inr (4, [.int 0, .int 0, .null, .null]))] H := hP
  have hD : va_D A [(xo, .inr (11, [.ref q_1, .ref q_12, .ref q_19, .ref q_21, .ref q_23, .ref q_25, .null, .null, .int 0, .int 0, .long 0, .int 0])), (q_1, .inl (cy 3, 5, .inr (.inr (.inr (.inr (va_up (va_up (va_up (va_up (va_up (fun _ => none) (0 : Int32).toNatClampNeg (some q_2)) (1 : Int32).toNatClampNeg (some q_4)) (2 : Int32).toNatClampNeg (some q_6)) (3 : Int32).toNatClampNeg (some q_8)) (4 : Int32).toNatClampNeg (some q_10))))))), (q_2, .inr (6, [])), (q_4, .inr (5, [])), (q_6, .inr (9, [])), (q_8, .inr (2, [])), (q_10, .inr (8, [])), (q_12, .inr (3, [.int 0, .int 0, .ref n1_14, .ref n2_15, .ref n3_16, .ref n4_17, .ref n5_18])), (n1_14, .inl (cy 0, 40, .inl (fun _ => 0))), (n2_15, .inl (cy 0, 40, .inl (fun _ => 0))), (n3_16, .inl (cy 0, 40, .inl (fun _ => 0))), (n4_17, .inl (cy 0, 40, .inl (fun _ => 0))), (n5_18, .inl (cy 0, 40, .inl (fun _ => 0))), (q_27, .inl (cy 4, 4, .inr (.inr (.inr (.inr (va_up (va_up (va_up (fun _ => none) (0 : Int32).toNatClampNeg (some q_28)) (1 : Int32).toNatClampNeg (some q_32)) (2 : Int32).toNatClampNeg (some q_36))))))), (q_28, .inr (4, [.int 0, .int (-9), .ref l1_30, .ref l2_31])), (l1_30, .inl (cy 0, 6, .inl (fun _ => 0))), (q_32, .inr (4, [.int 0, .int (-9), .ref l1_34, .ref l2_35])), (l1_34, .inl (cy 0, 6, .inl (fun _ => 0))), (q_36, .inr (4, [.int 0, .int (-9), .ref l1_38, .ref l2_39])), (l1_38, .inl (cy 0, 6, .inl (fun _ => 0))), (q_40, .inr (4, [.int 0, .int 0, .null, .null]))] := hD
  refine lv_dup hx hb dX11_init_181 rfl ?_
  have hPc := hP.sub (ws' := [(q_40, .inr (4, [.int 0, .int 0, .null, .null]))]) [20] rfl
  have hDc := hD.sub (ws' := [(q_40, .inr (4, [.int 0, .int 0, .null, .null]))]) [20] (by decide) rfl
  have hDw : va_D (fun _ => True) [(q_40, .inr (4, [.int 0, .int 0, .null, .null]))] := hDc.weaken (fun _ _ _ _ => trivial)
  have hFc := va_free (wc := [(q_40, .inr (4, [.int 0, .int 0, .null, .null]))]) hD hS hA [20] rfl
  refine va_callv (va_runIN (As := []) (rest := [.ref q_40, .int 3, .ref q_27, .ref q_27, .ref xo]) ⟨hx, hb, hml, hown, hts⟩ (c_X4_init l D cy H.size q_40) ⟨va_cnB 0 hts gX11_init_X4_init_n71 rfl rfl rfl (kk_nX11_71 hK) (hts (.initialized RX4) (by decide +kernel)) (by decide +kernel) ⟨Nat.le_of_ble_eq_true rfl, Nat.le_of_ble_eq_true rfl⟩, rfl, (hts (.instanceMethod yX4_init) (by decide +kernel))⟩ ⟨bl_, fun U hU hW => ⟨rfl, by rw [hU], by rw [hU]; exact hPc, kk_mv hW hK, hDw⟩⟩ rfl rfl hl.1 rfl (lv_room (Nat.le_of_ble_eq_true rfl)) dX11_init_182 ⟨Nat.le_of_ble_eq_true rfl, Nat.le_of_ble_eq_true rfl⟩) hS (fun q _ h => hFc q h) hFc (fun u t H locs ht hvm hw hB hz1 hk1 hS => ?_)
  obtain ⟨l1_42, l2_43, hP1, hD1⟩ := hB
  rw [ht] at hP1
  obtain ⟨hP, hD⟩ := va_join (wr := [(xo, .inr (11, [.ref q_1, .ref q_12, .ref q_19, .ref q_21, .ref q_23, .ref q_25, .null, .null, .int 0, .int 0, .long 0, .int 0])), (q_1, .inl (cy 3, 5, .inr (.inr (.inr (.inr (va_up (va_up (va_up (va_up (va_up (fun _ => none) (0 : Int32).toNatClampNeg (some q_2)) (1 : Int32).toNatClampNeg (some q_4)) (2 : Int32).toNatClampNeg (some q_6)) (3 : Int32).toNatClampNeg (some q_8)) (4 : Int32).toNatClampNeg (some q_10))))))), (q_2, .inr (6, [])), (q_4, .inr (5, [])), (q_6, .inr (9, [])), (q_8, .inr (2, [])), (q_10, .inr (8, [])), (q_12, .inr (3, [.int 0, .int 0, .ref n1_14, .ref n2_15, .ref n3_16, .ref n4_17, .ref n5_18])), (n1_14, .inl (cy 0, 40, .inl (fun _ => 0))), (n2_15, .inl (cy 0, 40, .inl (fun _ => 0))), (n3_16, .inl (cy 0, 40, .inl (fun _ => 0))), (n4_17, .inl (cy 0, 40, .inl (fun _ => 0))), (n5_18, .inl (cy 0, 40, .inl (fun _ => 0))), (q_27, .inl (cy 4, 4, .inr (.inr (.inr (.inr (va_up (va_up (va_up (fun _ => none) (0 : Int32).toNatClampNeg (some q_28)) (1 : Int32).toNatClampNeg (some q_32)) (2 : Int32).toNatClampNeg (some q_36))))))), (q_28, .inr (4, [.int 0, .int (-9), .ref l1_30, .ref l2_31])), (l1_30, .inl (cy 0, 6, .inl (fun _ => 0))), (q_32, .inr (4, [.int 0, .int (-9), .ref l1_34, .ref l2_35])), (l1_34, .inl (cy 0, 6, .inl (fun _ => 0))), (q_36, .inr (4, [.int 0, .int (-9), .ref l1_38, .ref l2_39])), (l1_38, .inl (cy 0, 6, .inl (fun _ => 0)))]) (w1 := [(q_40, .inr (4, [.int 0, .int (-9), .ref l1_42, .ref l2_43])), (l1_42, .inl (cy 0, 6, .inl (fun _ => 0)))]) hP hD [20] [0, 1, 2, 3, 4, 5, 6, 7, 8, 9, 10, 11, 12, 13, 14, 15, 16, 17, 18, 19] rfl rfl (by decide) (by decide) hk1 hFc hP1 hD1
  have hP : va_P D vwCl [(xo, .inr (11, [.ref q_1, .ref q_12, .ref q_19, .ref q_21, .ref q_23, .ref q_25, .null, .null, .int 0, .int 0, .long 0, .int 0])), (q_1, .inl (cy 3, 5, .inr (.inr (.inr (.inr (va_up (va_up (va_up (va_up (va_up (fun _ => none) (0 : Int32).toNatClampNeg (some q_2)) (1 : Int32).toNatClampNeg (some q_4)) (2 : Int32).toNatClampNeg (some q_6)) (3 : Int32).toNatClampNeg (some q_8)) (4 : Int32).toNatClampNeg (some q_10))))))), (q_2, .inr (6, [])), (q_4, .inr (5, [])), (q_6, .inr (9, [])), (q_8, .inr (2, [])), (q_10, .inr (8, [])), (q_12, .inr (3, [.int 0, .int 0, .ref n1_14, .ref n2_15, .ref n3_16, .ref n4_17, .ref n5_18])), (n1_14, .inl (cy 0, 40, .inl (fun _ => 0))), (n2_15, .inl (cy 0, 40, .inl (fun _ => 0))), (n3_16, .inl (cy 0, 40, .inl (fun _ => 0))), (n4_17, .inl (cy 0, 40, .inl (fun _ => 0))), (n5_18, .inl (cy 0, 40, .inl (fun _ => 0))), (q_27, .inl (cy 4, 4, .inr (.inr (.inr (.inr (va_up (va_up (va_up (fun _ => none) (0 : Int32).toNatClampNeg (some q_28)) (1 : Int32).toNatClampNeg (some q_32)) (2 : Int32).toNatClampNeg (some q_36))))))), (q_28, .inr (4, [.int 0, .int (-9), .ref l1_30, .ref l2_31])), (l1_30, .inl (cy 0, 6, .inl (fun _ => 0))), (q_32, .inr (4, [.int 0, .int (-9), .ref l1_34, .ref l2_35])), (l1_34, .inl (cy 0, 6, .inl (fun _ => 0))), (q_36, .inr (4, [.int 0, .int (-9), .ref l1_38, .ref l2_39])), (l1_38, .inl (cy 0, 6, .inl (fun _ => 0))), (q_40, .inr (4, [.int 0, .int (-9), .ref l1_42, .ref l2_43])), (l1_42, .inl (cy 0, 6, .inl (fun _ => 0)))] H := hP
  have hD : va_D A [(xo, .inr (11, [.ref q_1, .ref q_12, .ref q_19, .ref q_21, .ref q_23, .ref q_25, .null, .null, .int 0, .int 0, .long 0, .int 0])), (q_1, .inl (cy 3, 5, .inr (.inr (.inr (.inr (va_up (va_up (va_up (va_up (va_up (fun _ => none) (0 : Int32).toNatClampNeg (some q_2)) (1 : Int32).toNatClampNeg (some q_4)) (2 : Int32).toNatClampNeg (some q_6)) (3 : Int32).toNatClampNeg (some q_8)) (4 : Int32).toNatClampNeg (some q_10))))))), (q_2, .inr (6, [])), (q_4, .inr (5, [])), (q_6, .inr (9, [])), (q_8, .inr (2, [])), (q_10, .inr (8, [])), (q_12, .inr (3, [.int 0, .int 0, .ref n1_14, .ref n2_15, .ref n3_16, .ref n4_17, .ref n5_18])), (n1_14, .inl (cy 0, 40, .inl (fun _ => 0))), (n2_15, .inl (cy 0, 40, .inl (fun _ => 0))), (n3_16, .inl (cy 0, 40, .inl (fun _ => 0))), (n4_17, .inl (cy 0, 40, .inl (fun _ => 0))), (n5_18, .inl (cy 0, 40, .inl (fun _ => 0))), (q_27, .inl (cy 4, 4, .inr (.inr (.inr (.inr (va_up (va_up (va_up (fun _ => none) (0 : Int32).toNatClampNeg (some q_28)) (1 : Int32).toNatClampNeg (some q_32)) (2 : Int32).toNatClampNeg (some q_36))))))), (q_28, .inr (4, [.int 0, .int (-9), .ref l1_30, .ref l2_31])), (l1_30, .inl (cy 0, 6, .inl (fun _ => 0))), (q_32, .inr (4, [.int 0, .int (-9), .ref l1_34, .ref l2_35])), (l1_34, .inl (cy 0, 6, .inl (fun _ => 0))), (q_36, .inr (4, [.int 0, .int (-9), .ref l1_38, .ref l2_39])), (l1_38, .inl (cy 0, 6, .inl (fun _ => 0))), (q_40, .inr (4, [.int 0, .int (-9), .ref l1_42, .ref l2_43])), (l1_42, .inl (cy 0, 6, .inl (fun _ => 0)))] := hD
  refine va_astq hx hb hK.1 hP hD hS 13 4 20 4 rfl rfl rfl rfl (i := 3) (by unfold vp_in; decide) dX11_init_185 (fun H locs hP hD hS => ?_)
  have hP : va_P D vwCl [(xo, .inr (11, [.ref q_1, .ref q_12, .ref q_19, .ref q_21, .ref q_23, .ref q_25, .null, .null, .int 0, .int 0, .long 0, .int 0])), (q_1, .inl (cy 3, 5, .inr (.inr (.inr (.inr (va_up (va_up (va_up (va_up (va_up (fun _ => none) (0 : Int32).toNatClampNeg (some q_2)) (1 : Int32).toNatClampNeg (some q_4)) (2 : Int32).toNatClampNeg (some q_6)) (3 : Int32).toNatClampNeg (some q_8)) (4 : Int32).toNatClampNeg (some q_10))))))), (q_2, .inr (6, [])), (q_4, .inr (5, [])), (q_6, .inr (9, [])), (q_8, .inr (2, [])), (q_10, .inr (8, [])), (q_12, .inr (3, [.int 0, .int 0, .ref n1_14, .ref n2_15, .ref n3_16, .ref n4_17, .ref n5_18])), (n1_14, .inl (cy 0, 40, .inl (fun _ => 0))), (n2_15, .inl (cy 0, 40, .inl (fun _ => 0))), (n3_16, .inl (cy 0, 40, .inl (fun _ => 0))), (n4_17, .inl (cy 0, 40, .inl (fun _ => 0))), (n5_18, .inl (cy 0, 40, .inl (fun _ => 0))), (q_27, .inl (cy 4, 4, .inr (.inr (.inr (.inr (va_up (va_up (va_up (va_up (fun _ => none) (0 : Int32).toNatClampNeg (some q_28)) (1 : Int32).toNatClampNeg (some q_32)) (2 : Int32).toNatClampNeg (some q_36)) (3 : Int32).toNatClampNeg (some q_40))))))), (q_28, .inr (4, [.int 0, .int (-9), .ref l1_30, .ref l2_31])), (l1_30, .inl (cy 0, 6, .inl (fun _ => 0))), (q_32, .inr (4, [.int 0, .int (-9), .ref l1_34, .ref l2_35])), (l1_34, .inl (cy 0, 6, .inl (fun _ => 0))), (q_36, .inr (4, [.int 0, .int (-9), .ref l1_38, .ref l2_39])), (l1_38, .inl (cy 0, 6, .inl (fun _ => 0))), (q_40, .inr (4, [.int 0, .int (-9), .ref l1_42, .ref l2_43])), (l1_42, .inl (cy 0, 6, .inl (fun _ => 0)))] H := hP
  have hD : va_D A [(xo, .inr (11, [.ref q_1, .ref q_12, .ref q_19, .ref q_21, .ref q_23, .ref q_25, .null, .null, .int 0, .int 0, .long 0, .int 0])), (q_1, .inl (cy 3, 5, .inr (.inr (.inr (.inr (va_up (va_up (va_up (va_up (va_up (fun _ => none) (0 : Int32).toNatClampNeg (some q_2)) (1 : Int32).toNatClampNeg (some q_4)) (2 : Int32).toNatClampNeg (some q_6)) (3 : Int32).toNatClampNeg (some q_8)) (4 : Int32).toNatClampNeg (some q_10))))))), (q_2, .inr (6, [])), (q_4, .inr (5, [])), (q_6, .inr (9, [])), (q_8, .inr (2, [])), (q_10, .inr (8, [])), (q_12, .inr (3, [.int 0, .int 0, .ref n1_14, .ref n2_15, .ref n3_16, .ref n4_17, .ref n5_18])), (n1_14, .inl (cy 0, 40, .inl (fun _ => 0))), (n2_15, .inl (cy 0, 40, .inl (fun _ => 0))), (n3_16, .inl (cy 0, 40, .inl (fun _ => 0))), (n4_17, .inl (cy 0, 40, .inl (fun _ => 0))), (n5_18, .inl (cy 0, 40, .inl (fun _ => 0))), (q_27, .inl (cy 4, 4, .inr (.inr (.inr (.inr (va_up (va_up (va_up (va_up (fun _ => none) (0 : Int32).toNatClampNeg (some q_28)) (1 : Int32).toNatClampNeg (some q_32)) (2 : Int32).toNatClampNeg (some q_36)) (3 : Int32).toNatClampNeg (some q_40))))))), (q_28, .inr (4, [.int 0, .int (-9), .ref l1_30, .ref l2_31])), (l1_30, .inl (cy 0, 6, .inl (fun _ => 0))), (q_32, .inr (4, [.int 0, .int (-9), .ref l1_34, .ref l2_35])), (l1_34, .inl (cy 0, 6, .inl (fun _ => 0))), (q_36, .inr (4, [.int 0, .int (-9), .ref l1_38, .ref l2_39])), (l1_38, .inl (cy 0, 6, .inl (fun _ => 0))), (q_40, .inr (4, [.int 0, .int (-9), .ref l1_42, .ref l2_43])), (l1_42, .inl (cy 0, 6, .inl (fun _ => 0)))] := hD
  have ef_ : (va_up (va_up (va_up (va_up (fun _ => none) (0 : Int32).toNatClampNeg (some q_28)) (1 : Int32).toNatClampNeg (some q_32)) (2 : Int32).toNatClampNeg (some q_36)) (3 : Int32).toNatClampNeg (some q_40)) = (mf_ q_28 q_32 q_36 q_40) := by funext i; simp only [va_up, mf_, cl_0, cl_1, cl_2, cl_3]; (repeat' split) <;> first | rfl | omega
  rw [ef_] at hP hD
  clear ef_
  refine va_putF (ci := 11) (v := .ref q_27) (ty := (tyX11 6)) (C := RX11) (T := TX11) (N := 12) hx hb hts (fun _ h => List.mem_cons_of_mem _ (List.mem_append_left _ (List.mem_append_left _ (List.mem_append_left _ (List.mem_append_left _ (List.mem_append_left _ (List.mem_append_left _ (List.mem_append_right _ h)))))))) tyX11 tyX11_ok nmX11 hown hK.1 hP hD hS 0 rfl rfl 6 (by decide) (hts (.fieldLink RX11 72 "CutAtlas" "maps" "[LCutAtlas$NumberMap;") (by decide +kernel)) (fun _ h9 => h9) rfl hin rfl (by decide +kernel) rfl rfl (Nat.le_of_ble_eq_true rfl) dX11_init_186 (fun H locs hP hD hS => ?_)
  have hP : va_P D vwCl [(xo, .inr (11, [.ref q_1, .ref q_12, .ref q_19, .ref q_21, .ref q_23, .ref q_25, .ref q_27, .null, .int 0, .int 0, .long 0, .int 0])), (q_1, .inl (cy 3, 5, .inr (.inr (.inr (.inr (va_up (va_up (va_up (va_up (va_up (fun _ => none) (0 : Int32).toNatClampNeg (some q_2)) (1 : Int32).toNatClampNeg (some q_4)) (2 : Int32).toNatClampNeg (some q_6)) (3 : Int32).toNatClampNeg (some q_8)) (4 : Int32).toNatClampNeg (some q_10))))))), (q_2, .inr (6, [])), (q_4, .inr (5, [])), (q_6, .inr (9, [])), (q_8, .inr (2, [])), (q_10, .inr (8, [])), (q_12, .inr (3, [.int 0, .int 0, .ref n1_14, .ref n2_15, .ref n3_16, .ref n4_17, .ref n5_18])), (n1_14, .inl (cy 0, 40, .inl (fun _ => 0))), (n2_15, .inl (cy 0, 40, .inl (fun _ => 0))), (n3_16, .inl (cy 0, 40, .inl (fun _ => 0))), (n4_17, .inl (cy 0, 40, .inl (fun _ => 0))), (n5_18, .inl (cy 0, 40, .inl (fun _ => 0))), (q_27, .inl (cy 4, 4, .inr (.inr (.inr (.inr (mf_ q_28 q_32 q_36 q_40)))))), (q_28, .inr (4, [.int 0, .int (-9), .ref l1_30, .ref l2_31])), (l1_30, .inl (cy 0, 6, .inl (fun _ => 0))), (q_32, .inr (4, [.int 0, .int (-9), .ref l1_34, .ref l2_35])), (l1_34, .inl (cy 0, 6, .inl (fun _ => 0))), (q_36, .inr (4, [.int 0, .int (-9), .ref l1_38, .ref l2_39])), (l1_38, .inl (cy 0, 6, .inl (fun _ => 0))), (q_40, .inr (4, [.int 0, .int (-9), .ref l1_42, .ref l2_43])), (l1_42, .inl (cy 0, 6, .inl (fun _ => 0)))] H := hP
  have hD : va_D A [(xo, .inr (11, [.ref q_1, .ref q_12, .ref q_19, .ref q_21, .ref q_23, .ref q_25, .ref q_27, .null, .int 0, .int 0, .long 0, .int 0])), (q_1, .inl (cy 3, 5, .inr (.inr (.inr (.inr (va_up (va_up (va_up (va_up (va_up (fun _ => none) (0 : Int32).toNatClampNeg (some q_2)) (1 : Int32).toNatClampNeg (some q_4)) (2 : Int32).toNatClampNeg (some q_6)) (3 : Int32).toNatClampNeg (some q_8)) (4 : Int32).toNatClampNeg (some q_10))))))), (q_2, .inr (6, [])), (q_4, .inr (5, [])), (q_6, .inr (9, [])), (q_8, .inr (2, [])), (q_10, .inr (8, [])), (q_12, .inr (3, [.int 0, .int 0, .ref n1_14, .ref n2_15, .ref n3_16, .ref n4_17, .ref n5_18])), (n1_14, .inl (cy 0, 40, .inl (fun _ => 0))), (n2_15, .inl (cy 0, 40, .inl (fun _ => 0))), (n3_16, .inl (cy 0, 40, .inl (fun _ => 0))), (n4_17, .inl (cy 0, 40, .inl (fun _ => 0))), (n5_18, .inl (cy 0, 40, .inl (fun _ => 0))), (q_27, .inl (cy 4, 4, .inr (.inr (.inr (.inr (mf_ q_28 q_32 q_36 q_40)))))), (q_28, .inr (4, [.int 0, .int (-9), .ref l1_30, .ref l2_31])), (l1_30, .inl (cy 0, 6, .inl (fun _ => 0))), (q_32, .inr (4, [.int 0, .int (-9), .ref l1_34, .ref l2_35])), (l1_34, .inl (cy 0, 6, .inl (fun _ => 0))), (q_36, .inr (4, [.int 0, .int (-9), .ref l1_38, .ref l2_39])), (l1_38, .inl (cy 0, 6, .inl (fun _ => 0))), (q_40, .inr (4, [.int 0, .int (-9), .ref l1_42, .ref l2_43])), (l1_42, .inl (cy 0, 6, .inl (fun _ => 0)))] := hD
  refine lv_aload_n hx hb dX11_init_189 rfl (lv_at hl 0 rfl) ?_
  refine lv_bipush (v := 30) hx hb dX11_init_190 (by decide) ?_
  refine nw_q hx hb hown (hts (.classLink RX11 28 RX3) (by decide +kernel)) (kk_ao5 hK) hK.1 5 rfl hP hD hS hA (by decide) (by decide : _ = 30) (by decide) (Nat.le_of_ble_eq_true rfl) (Nat.le_of_ble_eq_true rfl) dX11_init_192 (fun q_44 H hP hD hS => ?_)
  have hP : va_P D vwCl [(xo, .inr (11, [.ref q_1, .ref q_12, .ref q_19, .ref q_21, .ref q_23, .ref q_25, .ref q_27, .null, .int 0, .int 0, .long 0, .int 0])), (q_1, .inl (cy 3, 5, .inr (.inr (.inr (.inr (va_up (va_up (va_up (va_up (va_up (fun _ => none) (0 : Int32).toNatClampNeg (some q_2)) (1 : Int32).toNatClampNeg (some q_4)) (2 : Int32).toNatClampNeg (some q_6)) (3 : Int32).toNatClampNeg (some q_8)) (4 : Int32).toNatClampNeg (some q_10))))))), (q_2, .inr (6, [])), (q_4, .inr (5, [])), (q_6, .inr (9, [])), (q_8, .inr (2, [])), (q_10, .inr (8, [])), (q_12, .inr (3, [.int 0, .int 0, .ref n1_14, .ref n2_15, .ref n3_16, .ref n4_17, .ref n5_18])), (n1_14, .inl (cy 0, 40, .inl (fun _ => 0))), (n2_15, .inl (cy 0, 40, .inl (fun _ => 0))), (n3_16, .inl (cy 0, 40, .inl (fun _ => 0))), (n4_17, .inl (cy 0, 40, .inl (fun _ => 0))), (n5_18, .inl (cy 0, 40, .inl (fun _ => 0))), (q_27, .inl (cy 4, 4, .inr (.inr (.inr (.inr (mf_ q_28 q_32 q_36 q_40)))))), (q_28, .inr (4, [.int 0, .int (-9), .ref l1_30, .ref l2_31])), (l1_30, .inl (cy 0, 6, .inl (fun _ => 0))), (q_32, .inr (4, [.int 0, .int (-9), .ref l1_34, .ref l2_35])), (l1_34, .inl (cy 0, 6, .inl (fun _ => 0))), (q_36, .inr (4, [.int 0, .int (-9), .ref l1_38, .ref l2_39])), (l1_38, .inl (cy 0, 6, .inl (fun _ => 0))), (q_40, .inr (4, [.int 0, .int (-9), .ref l1_42, .ref l2_43])), (l1_42, .inl (cy 0, 6, .inl (fun _ => 0))), (q_44, .inl (cy 5, 30, .inr (.inr (.inr (.inr (fun _ => none))))))] H := hP
  have hD : va_D A [(xo, .inr (11, [.ref q_1, .ref q_12, .ref q_19, .ref q_21, .ref q_23, .ref q_25, .ref q_27, .null, .int 0, .int 0, .long 0, .int 0])), (q_1, .inl (cy 3, 5, .inr (.inr (.inr (.inr (va_up (va_up (va_up (va_up (va_up (fun _ => none) (0 : Int32).toNatClampNeg (some q_2)) (1 : Int32).toNatClampNeg (some q_4)) (2 : Int32).toNatClampNeg (some q_6)) (3 : Int32).toNatClampNeg (some q_8)) (4 : Int32).toNatClampNeg (some q_10))))))), (q_2, .inr (6, [])), (q_4, .inr (5, [])), (q_6, .inr (9, [])), (q_8, .inr (2, [])), (q_10, .inr (8, [])), (q_12, .inr (3, [.int 0, .int 0, .ref n1_14, .ref n2_15, .ref n3_16, .ref n4_17, .ref n5_18])), (n1_14, .inl (cy 0, 40, .inl (fun _ => 0))), (n2_15, .inl (cy 0, 40, .inl (fun _ => 0))), (n3_16, .inl (cy 0, 40, .inl (fun _ => 0))), (n4_17, .inl (cy 0, 40, .inl (fun _ => 0))), (n5_18, .inl (cy 0, 40, .inl (fun _ => 0))), (q_27, .inl (cy 4, 4, .inr (.inr (.inr (.inr (mf_ q_28 q_32 q_36 q_40)))))), (q_28, .inr (4, [.int 0, .int (-9), .ref l1_30, .ref l2_31])), (l1_30, .inl (cy 0, 6, .inl (fun _ => 0))), (q_32, .inr (4, [.int 0, .int (-9), .ref l1_34, .ref l2_35])), (l1_34, .inl (cy 0, 6, .inl (fun _ => 0))), (q_36, .inr (4, [.int 0, .int (-9), .ref l1_38, .ref l2_39])), (l1_38, .inl (cy 0, 6, .inl (fun _ => 0))), (q_40, .inr (4, [.int 0, .int (-9), .ref l1_42, .ref l2_43])), (l1_42, .inl (cy 0, 6, .inl (fun _ => 0))), (q_44, .inl (cy 5, 30, .inr (.inr (.inr (.inr (fun _ => none))))))] := hD
  refine va_putF (ci := 11) (v := .ref q_44) (ty := (tyX11 7)) (C := RX11) (T := TX11) (N := 12) hx hb hts (fun _ h => List.mem_cons_of_mem _ (List.mem_append_left _ (List.mem_append_left _ (List.mem_append_left _ (List.mem_append_left _ (List.mem_append_left _ (List.mem_append_left _ (List.mem_append_right _ h)))))))) tyX11 tyX11_ok nmX11 hown hK.1 hP hD hS 0 rfl rfl 7 (by decide) (hts (.fieldLink RX11 76 "CutAtlas" "past" "[LCutAtlas$Net;") (by decide +kernel)) (fun _ h9 => h9) rfl hin rfl (by decide +kernel) rfl rfl (Nat.le_of_ble_eq_true rfl) dX11_init_195 (fun H locs hP hD hS => ?_)
  have hP : va_P D vwCl [(xo, .inr (11, [.ref q_1, .ref q_12, .ref q_19, .ref q_21, .ref q_23, .ref q_25, .ref q_27, .ref q_44, .int 0, .int 0, .long 0, .int 0])), (q_1, .inl (cy 3, 5, .inr (.inr (.inr (.inr (va_up (va_up (va_up (va_up (va_up (fun _ => none) (0 : Int32).toNatClampNeg (some q_2)) (1 : Int32).toNatClampNeg (some q_4)) (2 : Int32).toNatClampNeg (some q_6)) (3 : Int32).toNatClampNeg (some q_8)) (4 : Int32).toNatClampNeg (some q_10))))))), (q_2, .inr (6, [])), (q_4, .inr (5, [])), (q_6, .inr (9, [])), (q_8, .inr (2, [])), (q_10, .inr (8, [])), (q_12, .inr (3, [.int 0, .int 0, .ref n1_14, .ref n2_15, .ref n3_16, .ref n4_17, .ref n5_18])), (n1_14, .inl (cy 0, 40, .inl (fun _ => 0))), (n2_15, .inl (cy 0, 40, .inl (fun _ => 0))), (n3_16, .inl (cy 0, 40, .inl (fun _ => 0))), (n4_17, .inl (cy 0, 40, .inl (fun _ => 0))), (n5_18, .inl (cy 0, 40, .inl (fun _ => 0))), (q_27, .inl (cy 4, 4, .inr (.inr (.inr (.inr (mf_ q_28 q_32 q_36 q_40)))))), (q_28, .inr (4, [.int 0, .int (-9), .ref l1_30, .ref l2_31])), (l1_30, .inl (cy 0, 6, .inl (fun _ => 0))), (q_32, .inr (4, [.int 0, .int (-9), .ref l1_34, .ref l2_35])), (l1_34, .inl (cy 0, 6, .inl (fun _ => 0))), (q_36, .inr (4, [.int 0, .int (-9), .ref l1_38, .ref l2_39])), (l1_38, .inl (cy 0, 6, .inl (fun _ => 0))), (q_40, .inr (4, [.int 0, .int (-9), .ref l1_42, .ref l2_43])), (l1_42, .inl (cy 0, 6, .inl (fun _ => 0))), (q_44, .inl (cy 5, 30, .inr (.inr (.inr (.inr (fun _ => none))))))] H := hP
  have hD : va_D A [(xo, .inr (11, [.ref q_1, .ref q_12, .ref q_19, .ref q_21, .ref q_23, .ref q_25, .ref q_27, .ref q_44, .int 0, .int 0, .long 0, .int 0])), (q_1, .inl (cy 3, 5, .inr (.inr (.inr (.inr (va_up (va_up (va_up (va_up (va_up (fun _ => none) (0 : Int32).toNatClampNeg (some q_2)) (1 : Int32).toNatClampNeg (some q_4)) (2 : Int32).toNatClampNeg (some q_6)) (3 : Int32).toNatClampNeg (some q_8)) (4 : Int32).toNatClampNeg (some q_10))))))), (q_2, .inr (6, [])), (q_4, .inr (5, [])), (q_6, .inr (9, [])), (q_8, .inr (2, [])), (q_10, .inr (8, [])), (q_12, .inr (3, [.int 0, .int 0, .ref n1_14, .ref n2_15, .ref n3_16, .ref n4_17, .ref n5_18])), (n1_14, .inl (cy 0, 40, .inl (fun _ => 0))), (n2_15, .inl (cy 0, 40, .inl (fun _ => 0))), (n3_16, .inl (cy 0, 40, .inl (fun _ => 0))), (n4_17, .inl (cy 0, 40, .inl (fun _ => 0))), (n5_18, .inl (cy 0, 40, .inl (fun _ => 0))), (q_27, .inl (cy 4, 4, .inr (.inr (.inr (.inr (mf_ q_28 q_32 q_36 q_40)))))), (q_28, .inr (4, [.int 0, .int (-9), .ref l1_30, .ref l2_31])), (l1_30, .inl (cy 0, 6, .inl (fun _ => 0))), (q_32, .inr (4, [.int 0, .int (-9), .ref l1_34, .ref l2_35])), (l1_34, .inl (cy 0, 6, .inl (fun _ => 0))), (q_36, .inr (4, [.int 0, .int (-9), .ref l1_38, .ref l2_39])), (l1_38, .inl (cy 0, 6, .inl (fun _ => 0))), (q_40, .inr (4, [.int 0, .int (-9), .ref l1_42, .ref l2_43])), (l1_42, .inl (cy 0, 6, .inl (fun _ => 0))), (q_44, .inl (cy 5, 30, .inr (.inr (.inr (.inr (fun _ => none))))))] := hD
  refine lv_aload_n hx hb dX11_init_198 rfl (lv_at hl 0 rfl) ?_
  refine lv_iconst (v := 0) hx hb dX11_init_199 (by decide) ?_
  refine va_put (ci := 11) (v := .int 0) (ty := .int) (C := RX11) (T := TX11) (N := 12) hx hb hts (fun _ h => List.mem_cons_of_mem _ (List.mem_append_left _ (List.mem_append_left _ (List.mem_append_left _ (List.mem_append_left _ (List.mem_append_left _ (List.mem_append_left _ (List.mem_append_right _ h)))))))) tyX11 tyX11_ok nmX11 hown hK.1 hP hD hS 0 rfl rfl 8 (by decide) (hts (.fieldLink RX11 80 "CutAtlas" "pastFirst" "I") (by decide +kernel)) (fun _ h9 => h9) rfl (by decide +kernel) rfl rfl (Nat.le_of_ble_eq_true rfl) dX11_init_200 (fun H locs hP hD hS => ?_)
  have hP : va_P D vwCl [(xo, .inr (11, [.ref q_1, .ref q_12, .ref q_19, .ref q_21, .ref q_23, .ref q_25, .ref q_27, .ref q_44, .int 0, .int 0, .long 0, .int 0])), (q_1, .inl (cy 3, 5, .inr (.inr (.inr (.inr (va_up (va_up (va_up (va_up (va_up (fun _ => none) (0 : Int32).toNatClampNeg (some q_2)) (1 : Int32).toNatClampNeg (some q_4)) (2 : Int32).toNatClampNeg (some q_6)) (3 : Int32).toNatClampNeg (some q_8)) (4 : Int32).toNatClampNeg (some q_10))))))), (q_2, .inr (6, [])), (q_4, .inr (5, [])), (q_6, .inr (9, [])), (q_8, .inr (2, [])), (q_10, .inr (8, [])), (q_12, .inr (3, [.int 0, .int 0, .ref n1_14, .ref n2_15, .ref n3_16, .ref n4_17, .ref n5_18])), (n1_14, .inl (cy 0, 40, .inl (fun _ => 0))), (n2_15, .inl (cy 0, 40, .inl (fun _ => 0))), (n3_16, .inl (cy 0, 40, .inl (fun _ => 0))), (n4_17, .inl (cy 0, 40, .inl (fun _ => 0))), (n5_18, .inl (cy 0, 40, .inl (fun _ => 0))), (q_27, .inl (cy 4, 4, .inr (.inr (.inr (.inr (mf_ q_28 q_32 q_36 q_40)))))), (q_28, .inr (4, [.int 0, .int (-9), .ref l1_30, .ref l2_31])), (l1_30, .inl (cy 0, 6, .inl (fun _ => 0))), (q_32, .inr (4, [.int 0, .int (-9), .ref l1_34, .ref l2_35])), (l1_34, .inl (cy 0, 6, .inl (fun _ => 0))), (q_36, .inr (4, [.int 0, .int (-9), .ref l1_38, .ref l2_39])), (l1_38, .inl (cy 0, 6, .inl (fun _ => 0))), (q_40, .inr (4, [.int 0, .int (-9), .ref l1_42, .ref l2_43])), (l1_42, .inl (cy 0, 6, .inl (fun _ => 0))), (q_44, .inl (cy 5, 30, .inr (.inr (.inr (.inr (fun _ => none))))))] H := hP
  have hD : va_D A [(xo, .inr (11, [.ref q_1, .ref q_12, .ref q_19, .ref q_21, .ref q_23, .ref q_25, .ref q_27, .ref q_44, .int 0, .int 0, .long 0, .int 0])), (q_1, .inl (cy 3, 5, .inr (.inr (.inr (.inr (va_up (va_up (va_up (va_up (va_up (fun _ => none) (0 : Int32).toNatClampNeg (some q_2)) (1 : Int32).toNatClampNeg (some q_4)) (2 : Int32).toNatClampNeg (some q_6)) (3 : Int32).toNatClampNeg (some q_8)) (4 : Int32).toNatClampNeg (some q_10))))))), (q_2, .inr (6, [])), (q_4, .inr (5, [])), (q_6, .inr (9, [])), (q_8, .inr (2, [])), (q_10, .inr (8, [])), (q_12, .inr (3, [.int 0, .int 0, .ref n1_14, .ref n2_15, .ref n3_16, .ref n4_17, .ref n5_18])), (n1_14, .inl (cy 0, 40, .inl (fun _ => 0))), (n2_15, .inl (cy 0, 40, .inl (fun _ => 0))), (n3_16, .inl (cy 0, 40, .inl (fun _ => 0))), (n4_17, .inl (cy 0, 40, .inl (fun _ => 0))), (n5_18, .inl (cy 0, 40, .inl (fun _ => 0))), (q_27, .inl (cy 4, 4, .inr (.inr (.inr (.inr (mf_ q_28 q_32 q_36 q_40)))))), (q_28, .inr (4, [.int 0, .int (-9), .ref l1_30, .ref l2_31])), (l1_30, .inl (cy 0, 6, .inl (fun _ => 0))), (q_32, .inr (4, [.int 0, .int (-9), .ref l1_34, .ref l2_35])), (l1_34, .inl (cy 0, 6, .inl (fun _ => 0))), (q_36, .inr (4, [.int 0, .int (-9), .ref l1_38, .ref l2_39])), (l1_38, .inl (cy 0, 6, .inl (fun _ => 0))), (q_40, .inr (4, [.int 0, .int (-9), .ref l1_42, .ref l2_43])), (l1_42, .inl (cy 0, 6, .inl (fun _ => 0))), (q_44, .inl (cy 5, 30, .inr (.inr (.inr (.inr (fun _ => none))))))] := hD
  refine lv_aload_n hx hb dX11_init_203 rfl (lv_at hl 0 rfl) ?_
  refine lv_iconst (v := 0) hx hb dX11_init_204 (by decide) ?_
  refine va_put (ci := 11) (v := .int 0) (ty := .int) (C := RX11) (T := TX11) (N := 12) hx hb hts (fun _ h => List.mem_cons_of_mem _ (List.mem_append_left _ (List.mem_append_left _ (List.mem_append_left _ (List.mem_append_left _ (List.mem_append_left _ (List.mem_append_left _ (List.mem_append_right _ h)))))))) tyX11 tyX11_ok nmX11 hown hK.1 hP hD hS 0 rfl rfl 9 (by decide) (hts (.fieldLink RX11 84 "CutAtlas" "pastHeld" "I") (by decide +kernel)) (fun _ h9 => h9) rfl (by decide +kernel) rfl rfl (Nat.le_of_ble_eq_true rfl) dX11_init_205 (fun H locs hP hD hS => ?_)
  have hP : va_P D vwCl [(xo, .inr (11, [.ref q_1, .ref q_12, .ref q_19, .ref q_21, .ref q_23, .ref q_25, .ref q_27, .ref q_44, .int 0, .int 0, .long 0, .int 0])), (q_1, .inl (cy 3, 5, .inr (.inr (.inr (.inr (va_up (va_up (va_up (va_up (va_up (fun _ => none) (0 : Int32).toNatClampNeg (some q_2)) (1 : Int32).toNatClampNeg (some q_4)) (2 : Int32).toNatClampNeg (some q_6)) (3 : Int32).toNatClampNeg (some q_8)) (4 : Int32).toNatClampNeg (some q_10))))))), (q_2, .inr (6, [])), (q_4, .inr (5, [])), (q_6, .inr (9, [])), (q_8, .inr (2, [])), (q_10, .inr (8, [])), (q_12, .inr (3, [.int 0, .int 0, .ref n1_14, .ref n2_15, .ref n3_16, .ref n4_17, .ref n5_18])), (n1_14, .inl (cy 0, 40, .inl (fun _ => 0))), (n2_15, .inl (cy 0, 40, .inl (fun _ => 0))), (n3_16, .inl (cy 0, 40, .inl (fun _ => 0))), (n4_17, .inl (cy 0, 40, .inl (fun _ => 0))), (n5_18, .inl (cy 0, 40, .inl (fun _ => 0))), (q_27, .inl (cy 4, 4, .inr (.inr (.inr (.inr (mf_ q_28 q_32 q_36 q_40)))))), (q_28, .inr (4, [.int 0, .int (-9), .ref l1_30, .ref l2_31])), (l1_30, .inl (cy 0, 6, .inl (fun _ => 0))), (q_32, .inr (4, [.int 0, .int (-9), .ref l1_34, .ref l2_35])), (l1_34, .inl (cy 0, 6, .inl (fun _ => 0))), (q_36, .inr (4, [.int 0, .int (-9), .ref l1_38, .ref l2_39])), (l1_38, .inl (cy 0, 6, .inl (fun _ => 0))), (q_40, .inr (4, [.int 0, .int (-9), .ref l1_42, .ref l2_43])), (l1_42, .inl (cy 0, 6, .inl (fun _ => 0))), (q_44, .inl (cy 5, 30, .inr (.inr (.inr (.inr (fun _ => none))))))] H := hP
  have hD : va_D A [(xo, .inr (11, [.ref q_1, .ref q_12, .ref q_19, .ref q_21, .ref q_23, .ref q_25, .ref q_27, .ref q_44, .int 0, .int 0, .long 0, .int 0])), (q_1, .inl (cy 3, 5, .inr (.inr (.inr (.inr (va_up (va_up (va_up (va_up (va_up (fun _ => none) (0 : Int32).toNatClampNeg (some q_2)) (1 : Int32).toNatClampNeg (some q_4)) (2 : Int32).toNatClampNeg (some q_6)) (3 : Int32).toNatClampNeg (some q_8)) (4 : Int32).toNatClampNeg (some q_10))))))), (q_2, .inr (6, [])), (q_4, .inr (5, [])), (q_6, .inr (9, [])), (q_8, .inr (2, [])), (q_10, .inr (8, [])), (q_12, .inr (3, [.int 0, .int 0, .ref n1_14, .ref n2_15, .ref n3_16, .ref n4_17, .ref n5_18])), (n1_14, .inl (cy 0, 40, .inl (fun _ => 0))), (n2_15, .inl (cy 0, 40, .inl (fun _ => 0))), (n3_16, .inl (cy 0, 40, .inl (fun _ => 0))), (n4_17, .inl (cy 0, 40, .inl (fun _ => 0))), (n5_18, .inl (cy 0, 40, .inl (fun _ => 0))), (q_27, .inl (cy 4, 4, .inr (.inr (.inr (.inr (mf_ q_28 q_32 q_36 q_40)))))), (q_28, .inr (4, [.int 0, .int (-9), .ref l1_30, .ref l2_31])), (l1_30, .inl (cy 0, 6, .inl (fun _ => 0))), (q_32, .inr (4, [.int 0, .int (-9), .ref l1_34, .ref l2_35])), (l1_34, .inl (cy 0, 6, .inl (fun _ => 0))), (q_36, .inr (4, [.int 0, .int (-9), .ref l1_38, .ref l2_39])), (l1_38, .inl (cy 0, 6, .inl (fun _ => 0))), (q_40, .inr (4, [.int 0, .int (-9), .ref l1_42, .ref l2_43])), (l1_42, .inl (cy 0, 6, .inl (fun _ => 0))), (q_44, .inl (cy 5, 30, .inr (.inr (.inr (.inr (fun _ => none))))))] := hD
  refine lv_aload_n hx hb dX11_init_208 rfl (lv_at hl 0 rfl) ?_
  refine lv_lconst (v := 0) hx hb dX11_init_209 (by decide) ?_
  refine va_put (ci := 11) (v := .long 0) (ty := .long) (C := RX11) (T := TX11) (N := 12) hx hb hts (fun _ h => List.mem_cons_of_mem _ (List.mem_append_left _ (List.mem_append_left _ (List.mem_append_left _ (List.mem_append_left _ (List.mem_append_left _ (List.mem_append_left _ (List.mem_append_right _ h)))))))) tyX11 tyX11_ok nmX11 hown hK.1 hP hD hS 0 rfl rfl 10 (by decide) (hts (.fieldLink RX11 87 "CutAtlas" "traced" "J") (by decide +kernel)) (fun _ h9 => h9) rfl (by decide +kernel) rfl rfl (Nat.le_of_ble_eq_true rfl) dX11_init_210 (fun H locs hP hD hS => ?_)
  have hP : va_P D vwCl [(xo, .inr (11, [.ref q_1, .ref q_12, .ref q_19, .ref q_21, .ref q_23, .ref q_25, .ref q_27, .ref q_44, .int 0, .int 0, .long 0, .int 0])), (q_1, .inl (cy 3, 5, .inr (.inr (.inr (.inr (va_up (va_up (va_up (va_up (va_up (fun _ => none) (0 : Int32).toNatClampNeg (some q_2)) (1 : Int32).toNatClampNeg (some q_4)) (2 : Int32).toNatClampNeg (some q_6)) (3 : Int32).toNatClampNeg (some q_8)) (4 : Int32).toNatClampNeg (some q_10))))))), (q_2, .inr (6, [])), (q_4, .inr (5, [])), (q_6, .inr (9, [])), (q_8, .inr (2, [])), (q_10, .inr (8, [])), (q_12, .inr (3, [.int 0, .int 0, .ref n1_14, .ref n2_15, .ref n3_16, .ref n4_17, .ref n5_18])), (n1_14, .inl (cy 0, 40, .inl (fun _ => 0))), (n2_15, .inl (cy 0, 40, .inl (fun _ => 0))), (n3_16, .inl (cy 0, 40, .inl (fun _ => 0))), (n4_17, .inl (cy 0, 40, .inl (fun _ => 0))), (n5_18, .inl (cy 0, 40, .inl (fun _ => 0))), (q_27, .inl (cy 4, 4, .inr (.inr (.inr (.inr (mf_ q_28 q_32 q_36 q_40)))))), (q_28, .inr (4, [.int 0, .int (-9), .ref l1_30, .ref l2_31])), (l1_30, .inl (cy 0, 6, .inl (fun _ => 0))), (q_32, .inr (4, [.int 0, .int (-9), .ref l1_34, .ref l2_35])), (l1_34, .inl (cy 0, 6, .inl (fun _ => 0))), (q_36, .inr (4, [.int 0, .int (-9), .ref l1_38, .ref l2_39])), (l1_38, .inl (cy 0, 6, .inl (fun _ => 0))), (q_40, .inr (4, [.int 0, .int (-9), .ref l1_42, .ref l2_43])), (l1_42, .inl (cy 0, 6, .inl (fun _ => 0))), (q_44, .inl (cy 5, 30, .inr (.inr (.inr (.inr (fun _ => none))))))] H := hP
  have hD : va_D A [(xo, .inr (11, [.ref q_1, .ref q_12, .ref q_19, .ref q_21, .ref q_23, .ref q_25, .ref q_27, .ref q_44, .int 0, .int 0, .long 0, .int 0])), (q_1, .inl (cy 3, 5, .inr (.inr (.inr (.inr (va_up (va_up (va_up (va_up (va_up (fun _ => none) (0 : Int32).toNatClampNeg (some q_2)) (1 : Int32).toNatClampNeg (some q_4)) (2 : Int32).toNatClampNeg (some q_6)) (3 : Int32).toNatClampNeg (some q_8)) (4 : Int32).toNatClampNeg (some q_10))))))), (q_2, .inr (6, [])), (q_4, .inr (5, [])), (q_6, .inr (9, [])), (q_8, .inr (2, [])), (q_10, .inr (8, [])), (q_12, .inr (3, [.int 0, .int 0, .ref n1_14, .ref n2_15, .ref n3_16, .ref n4_17, .ref n5_18])), (n1_14, .inl (cy 0, 40, .inl (fun _ => 0))), (n2_15, .inl (cy 0, 40, .inl (fun _ => 0))), (n3_16, .inl (cy 0, 40, .inl (fun _ => 0))), (n4_17, .inl (cy 0, 40, .inl (fun _ => 0))), (n5_18, .inl (cy 0, 40, .inl (fun _ => 0))), (q_27, .inl (cy 4, 4, .inr (.inr (.inr (.inr (mf_ q_28 q_32 q_36 q_40)))))), (q_28, .inr (4, [.int 0, .int (-9), .ref l1_30, .ref l2_31])), (l1_30, .inl (cy 0, 6, .inl (fun _ => 0))), (q_32, .inr (4, [.int 0, .int (-9), .ref l1_34, .ref l2_35])), (l1_34, .inl (cy 0, 6, .inl (fun _ => 0))), (q_36, .inr (4, [.int 0, .int (-9), .ref l1_38, .ref l2_39])), (l1_38, .inl (cy 0, 6, .inl (fun _ => 0))), (q_40, .inr (4, [.int 0, .int (-9), .ref l1_42, .ref l2_43])), (l1_42, .inl (cy 0, 6, .inl (fun _ => 0))), (q_44, .inl (cy 5, 30, .inr (.inr (.inr (.inr (fun _ => none))))))] := hD
  refine lv_aload_n hx hb dX11_init_213 rfl (lv_at hl 0 rfl) ?_
  refine lv_iconst (v := 0) hx hb dX11_init_214 (by decide) ?_
  refine va_put (ci := 11) (v := .int 0) (ty := .int) (C := RX11) (T := TX11) (N := 12) hx hb hts (fun _ h => List.mem_cons_of_mem _ (List.mem_append_left _ (List.mem_append_left _ (List.mem_append_left _ (List.mem_append_left _ (List.mem_append_left _ (List.mem_append_left _ (List.mem_append_right _ h)))))))) tyX11 tyX11_ok nmX11 hown hK.1 hP hD hS 0 rfl rfl 11 (by decide) (hts (.fieldLink RX11 91 "CutAtlas" "finding" "I") (by decide +kernel)) (fun _ h9 => h9) rfl (by decide +kernel) rfl rfl (Nat.le_of_ble_eq_true rfl) dX11_init_215 (fun H locs hP hD hS => ?_)
  have hP : va_P D vwCl [(xo, .inr (11, [.ref q_1, .ref q_12, .ref q_19, .ref q_21, .ref q_23, .ref q_25, .ref q_27, .ref q_44, .int 0, .int 0, .long 0, .int 0])), (q_1, .inl (cy 3, 5, .inr (.inr (.inr (.inr (va_up (va_up (va_up (va_up (va_up (fun _ => none) (0 : Int32).toNatClampNeg (some q_2)) (1 : Int32).toNatClampNeg (some q_4)) (2 : Int32).toNatClampNeg (some q_6)) (3 : Int32).toNatClampNeg (some q_8)) (4 : Int32).toNatClampNeg (some q_10))))))), (q_2, .inr (6, [])), (q_4, .inr (5, [])), (q_6, .inr (9, [])), (q_8, .inr (2, [])), (q_10, .inr (8, [])), (q_12, .inr (3, [.int 0, .int 0, .ref n1_14, .ref n2_15, .ref n3_16, .ref n4_17, .ref n5_18])), (n1_14, .inl (cy 0, 40, .inl (fun _ => 0))), (n2_15, .inl (cy 0, 40, .inl (fun _ => 0))), (n3_16, .inl (cy 0, 40, .inl (fun _ => 0))), (n4_17, .inl (cy 0, 40, .inl (fun _ => 0))), (n5_18, .inl (cy 0, 40, .inl (fun _ => 0))), (q_27, .inl (cy 4, 4, .inr (.inr (.inr (.inr (mf_ q_28 q_32 q_36 q_40)))))), (q_28, .inr (4, [.int 0, .int (-9), .ref l1_30, .ref l2_31])), (l1_30, .inl (cy 0, 6, .inl (fun _ => 0))), (q_32, .inr (4, [.int 0, .int (-9), .ref l1_34, .ref l2_35])), (l1_34, .inl (cy 0, 6, .inl (fun _ => 0))), (q_36, .inr (4, [.int 0, .int (-9), .ref l1_38, .ref l2_39])), (l1_38, .inl (cy 0, 6, .inl (fun _ => 0))), (q_40, .inr (4, [.int 0, .int (-9), .ref l1_42, .ref l2_43])), (l1_42, .inl (cy 0, 6, .inl (fun _ => 0))), (q_44, .inl (cy 5, 30, .inr (.inr (.inr (.inr (fun _ => none))))))] H := hP
  have hD : va_D A [(xo, .inr (11, [.ref q_1, .ref q_12, .ref q_19, .ref q_21, .ref q_23, .ref q_25, .ref q_27, .ref q_44, .int 0, .int 0, .long 0, .int 0])), (q_1, .inl (cy 3, 5, .inr (.inr (.inr (.inr (va_up (va_up (va_up (va_up (va_up (fun _ => none) (0 : Int32).toNatClampNeg (some q_2)) (1 : Int32).toNatClampNeg (some q_4)) (2 : Int32).toNatClampNeg (some q_6)) (3 : Int32).toNatClampNeg (some q_8)) (4 : Int32).toNatClampNeg (some q_10))))))), (q_2, .inr (6, [])), (q_4, .inr (5, [])), (q_6, .inr (9, [])), (q_8, .inr (2, [])), (q_10, .inr (8, [])), (q_12, .inr (3, [.int 0, .int 0, .ref n1_14, .ref n2_15, .ref n3_16, .ref n4_17, .ref n5_18])), (n1_14, .inl (cy 0, 40, .inl (fun _ => 0))), (n2_15, .inl (cy 0, 40, .inl (fun _ => 0))), (n3_16, .inl (cy 0, 40, .inl (fun _ => 0))), (n4_17, .inl (cy 0, 40, .inl (fun _ => 0))), (n5_18, .inl (cy 0, 40, .inl (fun _ => 0))), (q_27, .inl (cy 4, 4, .inr (.inr (.inr (.inr (mf_ q_28 q_32 q_36 q_40)))))), (q_28, .inr (4, [.int 0, .int (-9), .ref l1_30, .ref l2_31])), (l1_30, .inl (cy 0, 6, .inl (fun _ => 0))), (q_32, .inr (4, [.int 0, .int (-9), .ref l1_34, .ref l2_35])), (l1_34, .inl (cy 0, 6, .inl (fun _ => 0))), (q_36, .inr (4, [.int 0, .int (-9), .ref l1_38, .ref l2_39])), (l1_38, .inl (cy 0, 6, .inl (fun _ => 0))), (q_40, .inr (4, [.int 0, .int (-9), .ref l1_42, .ref l2_43])), (l1_42, .inl (cy 0, 6, .inl (fun _ => 0))), (q_44, .inl (cy 5, 30, .inr (.inr (.inr (.inr (fun _ => none))))))] := hD
  have hP9 := hP.sub (ws' := [(xo, .inr (11, [.ref q_1, .ref q_12, .ref q_19, .ref q_21, .ref q_23, .ref q_25, .ref q_27, .ref q_44, .int 0, .int 0, .long 0, .int 0])), (q_12, .inr (3, [.int 0, .int 0, .ref n1_14, .ref n2_15, .ref n3_16, .ref n4_17, .ref n5_18])), (n1_14, .inl (cy 0, 40, .inl (fun _ => 0))), (n2_15, .inl (cy 0, 40, .inl (fun _ => 0))), (n3_16, .inl (cy 0, 40, .inl (fun _ => 0))), (n4_17, .inl (cy 0, 40, .inl (fun _ => 0))), (n5_18, .inl (cy 0, 40, .inl (fun _ => 0))), (q_27, .inl (cy 4, 4, .inr (.inr (.inr (.inr (mf_ q_28 q_32 q_36 q_40)))))), (q_28, .inr (4, [.int 0, .int (-9), .ref l1_30, .ref l2_31])), (q_32, .inr (4, [.int 0, .int (-9), .ref l1_34, .ref l2_35])), (q_36, .inr (4, [.int 0, .int (-9), .ref l1_38, .ref l2_39])), (q_40, .inr (4, [.int 0, .int (-9), .ref l1_42, .ref l2_43])), (l1_30, .inl (cy 0, 6, .inl (fun _ => 0))), (l1_34, .inl (cy 0, 6, .inl (fun _ => 0))), (l1_38, .inl (cy 0, 6, .inl (fun _ => 0))), (l1_42, .inl (cy 0, 6, .inl (fun _ => 0))), (q_44, .inl (cy 5, 30, .inr (.inr (.inr (.inr (fun _ => none))))))]) [0, 7, 8, 9, 10, 11, 12, 13, 14, 16, 18, 20, 15, 17, 19, 21, 22] rfl
  have hD9 := hD.sub (ws' := [(xo, .inr (11, [.ref q_1, .ref q_12, .ref q_19, .ref q_21, .ref q_23, .ref q_25, .ref q_27, .ref q_44, .int 0, .int 0, .long 0, .int 0])), (q_12, .inr (3, [.int 0, .int 0, .ref n1_14, .ref n2_15, .ref n3_16, .ref n4_17, .ref n5_18])), (n1_14, .inl (cy 0, 40, .inl (fun _ => 0))), (n2_15, .inl (cy 0, 40, .inl (fun _ => 0))), (n3_16, .inl (cy 0, 40, .inl (fun _ => 0))), (n4_17, .inl (cy 0, 40, .inl (fun _ => 0))), (n5_18, .inl (cy 0, 40, .inl (fun _ => 0))), (q_27, .inl (cy 4, 4, .inr (.inr (.inr (.inr (mf_ q_28 q_32 q_36 q_40)))))), (q_28, .inr (4, [.int 0, .int (-9), .ref l1_30, .ref l2_31])), (q_32, .inr (4, [.int 0, .int (-9), .ref l1_34, .ref l2_35])), (q_36, .inr (4, [.int 0, .int (-9), .ref l1_38, .ref l2_39])), (q_40, .inr (4, [.int 0, .int (-9), .ref l1_42, .ref l2_43])), (l1_30, .inl (cy 0, 6, .inl (fun _ => 0))), (l1_34, .inl (cy 0, 6, .inl (fun _ => 0))), (l1_38, .inl (cy 0, 6, .inl (fun _ => 0))), (l1_42, .inl (cy 0, 6, .inl (fun _ => 0))), (q_44, .inl (cy 5, 30, .inr (.inr (.inr (.inr (fun _ => none))))))]) [0, 7, 8, 9, 10, 11, 12, 13, 14, 16, 18, 20, 15, 17, 19, 21, 22] (by decide) rfl
  exact W.vret hx hb hr (fun t ht hW => ⟨⟨(), rfl, trivial, q_1, q_12, q_19, q_21, q_23, q_25, q_27, q_44, n1_14, n2_15, n3_16, n4_17, n5_18, q_28, q_32, q_36, q_40, l1_30, l1_34, l1_38, l1_42, l2_31, l2_35, l2_39, l2_43, by rw [ht]; exact hP9, hD9⟩, hS.F ht⟩) hS.2.2 dX11_init_218
end
section
set_option maxHeartbeats 4000000 in
set_option maxRecDepth 100000 in
/-- hasPlace in an empty net -/
theorem c_X3_hasPlace (l : Launch) (D : va_G) (cy : Nat → ClassId) (sz : Nat) (xn : Nat) (n1 : Nat) (n2 : Nat) (n3 : Nat) (n4 : Nat) (n5 : Nat) (a1 : Int64) : Met l yX3_hasPlace wsX3_hasPlace ({ frames := 0, cells := 0, slots := 0, locals := 0 }) (va_Pc [.ref xn, .long a1] (fun U => U.heap.size = sz ∧ va_P D vwCl [(xn, .inr (3, [.int 0, .int 0, .ref n1, .ref n2, .ref n3, .ref n4, .ref n5]))] U.heap ∧ kk_ D cy U ∧ va_D (fun _ => True) [(xn, .inr (3, [.int 0, .int 0, .ref n1, .ref n2, .ref n3, .ref n4, .ref n5]))])) (va_Qi (fun (r : Int32) (_ : Unit) => r = 0) (fun (_ : Unit) (_ : State) => True) (va_A [] sz)) 0 0 (va_A [] sz) := by
  refine Met.ofW (cc := cX3_hasPlace) (maxL := 3) (ret := (some .boolean)) (by decide) rfl ?_
  intro p e s m args below meth c s₁ B hml hv
  obtain ⟨rfl, hsz, hP, hK, hD0⟩ := hv
  have hx := B.exec
  have hb := B.bytes
  have hr := B.returns
  have hts := atoms_spec (ws := wsX3_hasPlace) B.pre
  have hown : s.vm.findClass RX3 = some m.cls := findClass_of_methodNamed B.named
  have hlocks := B.notSynchronized
  subst hsz
  have hD : va_D (va_A [] s.heap.size) [] := dd_nil
  generalize hAe : va_A [] s.heap.size = A at hD ⊢
  have hA : ∀ q : Nat, s.heap.size ≤ q → A q := fun q h => by rw [← hAe]; exact Or.inr h
  have hS : va_S A s.heap s.heap [] := va_S.rf
  have hl := lv_entry ([.ref xn, .long a1]) (n := 3) (Nat.le_of_ble_eq_true rfl)
  rw [lg_entry_eq]
  generalize (lg_sl ([.ref xn, .long a1]) ++ List.replicate (3 - (lg_sl ([.ref xn, .long a1])).length) Slot.unset).toArray = ls at hl ⊢
  have hl : lv_has ls 3 [(0, .ref xn), (1, .long a1)] := hl
  have z0 : (0 : Int32).toInt = 0 := by decide
  have zl0 : (0 : Int64).toInt = 0 := by decide
  refine lv_lload_n hx hb dX3_hasPlace_0 rfl (lv_at hl 1 rfl) ?_
  refine lv_lconst (v := 0) hx hb dX3_hasPlace_1 (by decide) ?_
  refine W.lcmp hx hb dX3_hasPlace_2 ?_
  refine lv_if_lt (tgt := 20) hx hb dX3_hasPlace_3 (by decide) (fun c_1 => ?_) (fun c_1 => ?_)
  · have t_1 : a1.toInt < (0 : Int64).toInt := Int64.lt_iff_toInt_lt.mp ((lg_cmp_lt a1 0).mp c_1)
    refine lv_iconst (v := 0) hx hb dX3_hasPlace_20 (by decide) ?_
    exact W.zret (ty := .boolean) (v := 0) hx hb hr (by decide) (fun t ht hW => ⟨⟨0, (), rfl, rfl, trivial⟩, hS.F ht⟩) hS.2.2 dX3_hasPlace_21
  · have t_1 : ¬ a1.toInt < (0 : Int64).toInt := fun h => c_1 ((lg_cmp_lt a1 0).mpr (Int64.lt_iff_toInt_lt.mpr h))
    refine lv_lload_n hx hb dX3_hasPlace_6 rfl (lv_at hl 1 rfl) ?_
    refine lv_aload_n hx hb dX3_hasPlace_7 rfl (lv_at hl 0 rfl) ?_
    refine va_get (ci := 3) (v := .int 0) (C := RX3) (T := TX3) (N := 7) hx hb hts (fun _ h => List.mem_cons_of_mem _ (List.mem_append_right _ h)) hown hK.1 hP 0 rfl rfl 0 (by decide) (hts (.fieldLink RX3 9 "CutAtlas$Net" "places" "I") (by decide +kernel)) (fun _ h9 => h9) rfl dX3_hasPlace_8 ?_
    refine lv_i2l (v := 0) hx hb dX3_hasPlace_11 (by decide) ?_
    refine W.lcmp hx hb dX3_hasPlace_12 ?_
    refine lv_if_ge (tgt := 20) hx hb dX3_hasPlace_13 (by decide) (fun c_2 => ?_) (fun c_2 => ?_)
    · have t_2 : (0 : Int64).toInt ≤ a1.toInt := Int64.le_iff_toInt_le.mp ((lg_cmp_ge a1 0).mp c_2)
      refine lv_iconst (v := 0) hx hb dX3_hasPlace_20 (by decide) ?_
      exact W.zret (ty := .boolean) (v := 0) hx hb hr (by decide) (fun t ht hW => ⟨⟨0, (), rfl, rfl, trivial⟩, hS.F ht⟩) hS.2.2 dX3_hasPlace_21
    · have t_2 : ¬ (0 : Int64).toInt ≤ a1.toInt := fun h => c_2 ((lg_cmp_ge a1 0).mpr (Int64.le_iff_toInt_le.mpr h))
      exfalso; omega

set_option maxHeartbeats 4000000 in
set_option maxRecDepth 100000 in
theorem c_X3_hasPair (l : Launch) (D : va_G) (cy : Nat → ClassId) (sz : Nat) (xn : Nat) (n1 : Nat) (n2 : Nat) (n3 : Nat) (n4 : Nat) (n5 : Nat) (a1 : Int64) (a2 : Int64) : Met l yX3_hasPair wsX3_hasPair ({ frames := 1, cells := 0, slots := 0, locals := 22 }) (va_Pc [.ref xn, .long a1, .long a2] (fun U => U.heap.size = sz ∧ va_P D vwCl [(xn, .inr (3, [.int 0, .int 0, .ref n1, .ref n2, .ref n3, .ref n4, .ref n5]))] U.heap ∧ kk_ D cy U ∧ va_D (fun _ => True) [(xn, .inr (3, [.int 0, .int 0, .ref n1, .ref n2, .ref n3, .ref n4, .ref n5]))])) (va_Qi (fun (r : Int32) (_ : Unit) => r = 0) (fun (_ : Unit) (_ : State) => True) (va_A [] sz)) 0 0 (va_A [] sz) := by
  refine Met.ofW (cc := cX3_hasPair) (maxL := 5) (ret := (some .boolean)) (by decide) rfl ?_
  intro p e s m args below meth c s₁ B hml hv
  obtain ⟨rfl, hsz, hP, hK, hD0⟩ := hv
  have hx := B.exec
  have hb := B.bytes
  have hr := B.returns
  have hts := atoms_spec (ws := wsX3_hasPair) B.pre
  have hown : s.vm.findClass RX3 = some m.cls := findClass_of_methodNamed B.named
  have hlocks := B.notSynchronized
  subst hsz
  have hD : va_D (va_A [] s.heap.size) [] := dd_nil
  generalize hAe : va_A [] s.heap.size = A at hD ⊢
  have hA : ∀ q : Nat, s.heap.size ≤ q → A q := fun q h => by rw [← hAe]; exact Or.inr h
  have hS : va_S A s.heap s.heap [] := va_S.rf
  have hl := lv_entry ([.ref xn, .long a1, .long a2]) (n := 5) (Nat.le_of_ble_eq_true rfl)
  rw [lg_entry_eq]
  generalize (lg_sl ([.ref xn, .long a1, .long a2]) ++ List.replicate (5 - (lg_sl ([.ref xn, .long a1, .long a2])).length) Slot.unset).toArray = ls at hl ⊢
  have hl : lv_has ls 5 [(0, .ref xn), (1, .long a1), (3, .long a2)] := hl
  refine lv_aload_n hx hb dX3_hasPair_0 rfl (lv_at hl 0 rfl) ?_
  refine lv_lload_n hx hb dX3_hasPair_1 rfl (lv_at hl 1 rfl) ?_
  have hPc := hP.sub (ws' := [(xn, .inr (3, [.int 0, .int 0, .ref n1, .ref n2, .ref n3, .ref n4, .ref n5]))]) [0] rfl
  have hDw : va_D (fun _ => True) [(xn, .inr (3, [.int 0, .int 0, .ref n1, .ref n2, .ref n3, .ref n4, .ref n5]))] := hD0.sub [0] (by decide) rfl
  have hFc := va_free (wc := []) hD hS hA [] rfl
  refine va_calli (va_runV (As := [.long a1]) (rest := []) ⟨hx, hb, hml, hown, hts⟩ (c_X3_hasPlace l D cy s.heap.size xn n1 n2 n3 n4 n5 a1) (cwV 1 hts gX3_hasPair_X3_hasPlace rfl rfl rfl (by decide +kernel) ⟨Nat.le_of_ble_eq_true rfl, Nat.le_of_ble_eq_true rfl⟩) ⟨bl_, va_recv hK.1 hPc (ci := 3) (q0 := 0) rfl rfl, fun U hU hW => ⟨rfl, by rw [hU], by rw [hU]; exact hPc, kk_mv hW hK, hDw⟩⟩ rfl rfl hl.1 rfl (lv_room (Nat.le_of_ble_eq_true rfl)) dX3_hasPair_2 ⟨Nat.le_of_ble_eq_true rfl, Nat.le_of_ble_eq_true rfl⟩) hS (fun q _ h => hFc q h) hFc (fun r_1 u t H locs ht hvm hw hB hz1 hk1 hS => ?_)
  have hP := ro_keep hP hk1
  have hP : va_P D vwCl [(xn, .inr (3, [.int 0, .int 0, .ref n1, .ref n2, .ref n3, .ref n4, .ref n5]))] H := hP
  have e_ := hw.symm
  subst e_
  refine lv_if_eq (tgt := 26) hx hb dX3_hasPair_5 (by decide) (fun c_2 => ?_) (fun c_2 => ?_)
  · have _ := c_2
    refine lv_iconst (v := 0) hx hb dX3_hasPair_26 (by decide) ?_
    exact W.zret (ty := .boolean) (v := 0) hx hb hr (by decide) (fun t ht hW => ⟨⟨0, (), rfl, rfl, trivial⟩, hS.F ht⟩) hS.2.2 dX3_hasPair_27
  · exact absurd c_2 (by decide)

set_option maxHeartbeats 4000000 in
set_option maxRecDepth 100000 in
theorem c_X3_hasLine (l : Launch) (D : va_G) (cy : Nat → ClassId) (sz : Nat) (xn : Nat) (n1 : Nat) (n2 : Nat) (n3 : Nat) (n4 : Nat) (n5 : Nat) (a1 : Int32) : Met l yX3_hasLine wsX3_hasLine ({ frames := 0, cells := 0, slots := 0, locals := 0 }) (va_Pc [.ref xn, .int a1] (fun U => U.heap.size = sz ∧ va_P D vwCl [(xn, .inr (3, [.int 0, .int 0, .ref n1, .ref n2, .ref n3, .ref n4, .ref n5]))] U.heap ∧ kk_ D cy U ∧ va_D (fun _ => True) [(xn, .inr (3, [.int 0, .int 0, .ref n1, .ref n2, .ref n3, .ref n4, .ref n5]))])) (va_Qi (fun (r : Int32) (_ : Unit) => r = 0) (fun (_ : Unit) (_ : State) => True) (va_A [] sz)) 0 0 (va_A [] sz) := by
  refine Met.ofW (cc := cX3_hasLine) (maxL := 2) (ret := (some .boolean)) (by decide) rfl ?_
  intro p e s m args below meth c s₁ B hml hv
  obtain ⟨rfl, hsz, hP, hK, hD0⟩ := hv
  have hx := B.exec
  have hb := B.bytes
  have hr := B.returns
  have hts := atoms_spec (ws := wsX3_hasLine) B.pre
  have hown : s.vm.findClass RX3 = some m.cls := findClass_of_methodNamed B.named
  have hlocks := B.notSynchronized
  subst hsz
  have hD : va_D (va_A [] s.heap.size) [] := dd_nil
  generalize hAe : va_A [] s.heap.size = A at hD ⊢
  have hA : ∀ q : Nat, s.heap.size ≤ q → A q := fun q h => by rw [← hAe]; exact Or.inr h
  have hS : va_S A s.heap s.heap [] := va_S.rf
  have hl := lv_entry ([.ref xn, .int a1]) (n := 2) (Nat.le_of_ble_eq_true rfl)
  rw [lg_entry_eq]
  generalize (lg_sl ([.ref xn, .int a1]) ++ List.replicate (2 - (lg_sl ([.ref xn, .int a1])).length) Slot.unset).toArray = ls at hl ⊢
  have hl : lv_has ls 2 [(0, .ref xn), (1, .int a1)] := hl
  have z0 : (0 : Int32).toInt = 0 := by decide
  refine lv_iload_n hx hb dX3_hasLine_0 rfl (lv_at hl 1 rfl) ?_
  refine lv_if_lt (tgt := 16) hx hb dX3_hasLine_1 (by decide) (fun c_1 => ?_) (fun c_1 => ?_)
  · have t_1 : a1.toInt < (0 : Int32).toInt := Int32.lt_iff_toInt_lt.mp c_1
    refine lv_iconst (v := 0) hx hb dX3_hasLine_16 (by decide) ?_
    exact W.zret (ty := .boolean) (v := 0) hx hb hr (by decide) (fun t ht hW => ⟨⟨0, (), rfl, rfl, trivial⟩, hS.F ht⟩) hS.2.2 dX3_hasLine_17
  · have t_1 : ¬ a1.toInt < (0 : Int32).toInt := fun h => c_1 (Int32.lt_iff_toInt_lt.mpr h)
    refine lv_iload_n hx hb dX3_hasLine_4 rfl (lv_at hl 1 rfl) ?_
    refine lv_aload_n hx hb dX3_hasLine_5 rfl (lv_at hl 0 rfl) ?_
    refine va_get (ci := 3) (v := .int 0) (C := RX3) (T := TX3) (N := 7) hx hb hts (fun _ h => List.mem_cons_of_mem _ (List.mem_append_right _ h)) hown hK.1 hP 0 rfl rfl 1 (by decide) (hts (.fieldLink RX3 15 "CutAtlas$Net" "lines" "I") (by decide +kernel)) (fun _ h9 => h9) rfl dX3_hasLine_6 ?_
    refine lv_icmp_ge (tgt := 16) hx hb dX3_hasLine_9 (by decide) (fun c_2 => ?_) (fun c_2 => ?_)
    · have t_2 : (0 : Int32).toInt ≤ a1.toInt := Int32.le_iff_toInt_le.mp c_2
      refine lv_iconst (v := 0) hx hb dX3_hasLine_16 (by decide) ?_
      exact W.zret (ty := .boolean) (v := 0) hx hb hr (by decide) (fun t ht hW => ⟨⟨0, (), rfl, rfl, trivial⟩, hS.F ht⟩) hS.2.2 dX3_hasLine_17
    · have t_2 : ¬ (0 : Int32).toInt ≤ a1.toInt := fun h => c_2 (Int32.le_iff_toInt_le.mpr h)
      exfalso; omega

set_option maxHeartbeats 4000000 in
set_option maxRecDepth 100000 in
theorem c_X3_isWhole (l : Launch) (D : va_G) (cy : Nat → ClassId) (sz : Nat) (xn : Nat) (n1 : Nat) (n2 : Nat) (n3 : Nat) (n4 : Nat) (n5 : Nat) : Met l yX3_isWhole wsX3_isWhole ({ frames := 0, cells := 0, slots := 0, locals := 0 }) (va_Pc [.ref xn] (fun U => U.heap.size = sz ∧ va_P D vwCl [(xn, .inr (3, [.int 0, .int 0, .ref n1, .ref n2, .ref n3, .ref n4, .ref n5]))] U.heap ∧ kk_ D cy U ∧ va_D (fun _ => True) [(xn, .inr (3, [.int 0, .int 0, .ref n1, .ref n2, .ref n3, .ref n4, .ref n5]))])) (va_Qi (fun (r : Int32) (_ : Unit) => r = 0) (fun (_ : Unit) (_ : State) => True) (va_A [] sz)) 0 0 (va_A [] sz) := by
  refine Met.ofW (cc := cX3_isWhole) (maxL := 3) (ret := (some .boolean)) (by decide) rfl ?_
  intro p e s m args below meth c s₁ B hml hv
  obtain ⟨rfl, hsz, hP, hK, hD0⟩ := hv
  have hx := B.exec
  have hb := B.bytes
  have hr := B.returns
  have hts := atoms_spec (ws := wsX3_isWhole) B.pre
  have hown : s.vm.findClass RX3 = some m.cls := findClass_of_methodNamed B.named
  have hlocks := B.notSynchronized
  subst hsz
  have hD : va_D (va_A [] s.heap.size) [] := dd_nil
  generalize hAe : va_A [] s.heap.size = A at hD ⊢
  have hA : ∀ q : Nat, s.heap.size ≤ q → A q := fun q h => by rw [← hAe]; exact Or.inr h
  have hS : va_S A s.heap s.heap [] := va_S.rf
  have hl := lv_entry ([.ref xn]) (n := 3) (Nat.le_of_ble_eq_true rfl)
  rw [lg_entry_eq]
  generalize (lg_sl ([.ref xn]) ++ List.replicate (3 - (lg_sl ([.ref xn])).length) Slot.unset).toArray = ls at hl ⊢
  have hl : lv_has ls 3 [(0, .ref xn)] := hl
  refine lv_iconst (v := 0) hx hb dX3_isWhole_0 (by decide) ?_
  refine lv_istore_n (lv' := [(1, .int 0), (0, .ref xn)]) hx hb dX3_isWhole_1 rfl hl (by decide) rfl (fun ls hl => ?_)
  refine lv_iload_n hx hb dX3_isWhole_2 rfl (lv_at hl 0 rfl) ?_
  refine lv_aload_n hx hb dX3_isWhole_3 rfl (lv_at hl 1 rfl) ?_
  refine va_get (ci := 3) (v := .int 0) (C := RX3) (T := TX3) (N := 7) hx hb hts (fun _ h => List.mem_cons_of_mem _ (List.mem_append_right _ h)) hown hK.1 hP 0 rfl rfl 1 (by decide) (hts (.fieldLink RX3 15 "CutAtlas$Net" "lines" "I") (by decide +kernel)) (fun _ h9 => h9) rfl dX3_isWhole_4 ?_
  refine lv_icmp_ge (tgt := 56) hx hb dX3_isWhole_7 (by decide) (fun c_1 => ?_) (fun c_1 => ?_)
  · have _ := c_1
    refine lv_aload_n hx hb dX3_isWhole_56 rfl (lv_at hl 1 rfl) ?_
    refine va_get (ci := 3) (v := .int 0) (C := RX3) (T := TX3) (N := 7) hx hb hts (fun _ h => List.mem_cons_of_mem _ (List.mem_append_right _ h)) hown hK.1 hP 0 rfl rfl 0 (by decide) (hts (.fieldLink RX3 9 "CutAtlas$Net" "places" "I") (by decide +kernel)) (fun _ h9 => h9) rfl dX3_isWhole_57 ?_
    refine lv_iconst (v := 2) hx hb dX3_isWhole_60 (by decide) ?_
    refine lv_icmp_lt (tgt := 68) hx hb dX3_isWhole_61 (by decide) (fun c_2 => ?_) (fun c_2 => ?_)
    · have _ := c_2
      refine lv_iconst (v := 0) hx hb dX3_isWhole_68 (by decide) ?_
      exact W.zret (ty := .boolean) (v := 0) hx hb hr (by decide) (fun t ht hW => ⟨⟨0, (), rfl, rfl, trivial⟩, hS.F ht⟩) hS.2.2 dX3_isWhole_69
    · exact absurd c_2 (by decide)
  · exact absurd c_1 (by decide)

set_option maxHeartbeats 4000000 in
set_option maxRecDepth 100000 in
theorem c_X3_missingLines (l : Launch) (D : va_G) (cy : Nat → ClassId) (sz : Nat) (xn : Nat) (n1 : Nat) (n2 : Nat) (n3 : Nat) (n4 : Nat) (n5 : Nat) : Met l yX3_missingLines wsX3_missingLines ({ frames := 0, cells := 0, slots := 0, locals := 0 }) (va_Pc [.ref xn] (fun U => U.heap.size = sz ∧ va_P D vwCl [(xn, .inr (3, [.int 0, .int 0, .ref n1, .ref n2, .ref n3, .ref n4, .ref n5]))] U.heap ∧ kk_ D cy U ∧ va_D (fun _ => True) [(xn, .inr (3, [.int 0, .int 0, .ref n1, .ref n2, .ref n3, .ref n4, .ref n5]))])) (va_Qi (fun (r : Int32) (_ : Unit) => r = 0) (fun (_ : Unit) (_ : State) => True) (va_A [] sz)) 0 0 (va_A [] sz) := by
  refine Met.ofW (cc := cX3_missingLines) (maxL := 3) (ret := (some .int)) (by decide) rfl ?_
  intro p e s m args below meth c s₁ B hml hv
  obtain ⟨rfl, hsz, hP, hK, hD0⟩ := hv
  have hx := B.exec
  have hb := B.bytes
  have hr := B.returns
  have hts := atoms_spec (ws := wsX3_missingLines) B.pre
  have hown : s.vm.findClass RX3 = some m.cls := findClass_of_methodNamed B.named
  have hlocks := B.notSynchronized
  subst hsz
  have hD : va_D (va_A [] s.heap.size) [] := dd_nil
  generalize hAe : va_A [] s.heap.size = A at hD ⊢
  have hA : ∀ q : Nat, s.heap.size ≤ q → A q := fun q h => by rw [← hAe]; exact Or.inr h
  have hS : va_S A s.heap s.heap [] := va_S.rf
  have hl := lv_entry ([.ref xn]) (n := 3) (Nat.le_of_ble_eq_true rfl)
  rw [lg_entry_eq]
  generalize (lg_sl ([.ref xn]) ++ List.replicate (3 - (lg_sl ([.ref xn])).length) Slot.unset).toArray = ls at hl ⊢
  have hl : lv_has ls 3 [(0, .ref xn)] := hl
  refine lv_iconst (v := 0) hx hb dX3_missingLines_0 (by decide) ?_
  refine lv_istore_n (lv' := [(1, .int 0), (0, .ref xn)]) hx hb dX3_missingLines_1 rfl hl (by decide) rfl (fun ls hl => ?_)
  refine lv_iconst (v := 0) hx hb dX3_missingLines_2 (by decide) ?_
  refine lv_istore_n (lv' := [(2, .int 0), (1, .int 0), (0, .ref xn)]) hx hb dX3_missingLines_3 rfl hl (by decide) rfl (fun ls hl => ?_)
  refine lv_iload_n hx hb dX3_missingLines_4 rfl (lv_at hl 0 rfl) ?_
  refine lv_aload_n hx hb dX3_missingLines_5 rfl (lv_at hl 2 rfl) ?_
  refine va_get (ci := 3) (v := .int 0) (C := RX3) (T := TX3) (N := 7) hx hb hts (fun _ h => List.mem_cons_of_mem _ (List.mem_append_right _ h)) hown hK.1 hP 0 rfl rfl 1 (by decide) (hts (.fieldLink RX3 15 "CutAtlas$Net" "lines" "I") (by decide +kernel)) (fun _ h9 => h9) rfl dX3_missingLines_6 ?_
  refine lv_icmp_ge (tgt := 34) hx hb dX3_missingLines_9 (by decide) (fun c_1 => ?_) (fun c_1 => ?_)
  · have _ := c_1
    refine lv_iload_n hx hb dX3_missingLines_34 rfl (lv_at hl 1 rfl) ?_
    exact W.iret (v := 0) hx hb hr (fun t ht hW => ⟨⟨0, (), rfl, rfl, trivial⟩, hS.F ht⟩) hS.2.2 dX3_missingLines_35
  · exact absurd c_1 (by decide)

set_option maxHeartbeats 4000000 in
set_option maxRecDepth 100000 in
theorem c_X11_lineRefusal (l : Launch) (D : va_G) (cy : Nat → ClassId) (sz : Nat) (xo : Nat) (xk : Nat) (xn : Nat) (xc : Nat) (xh : Nat) (xt : Nat) (xw : Nat) (xm : Nat) (xp : Nat) (n1 : Nat) (n2 : Nat) (n3 : Nat) (n4 : Nat) (n5 : Nat) (a1 : Int64) (a2 : Int64) (a3 : Int64) (a4 : Int64) (a5 : Int64) : Met l yX11_lineRefusal wsX11_lineRefusal ({ frames := 2, cells := 0, slots := 0, locals := 46 }) (va_Pc [.ref xo, .long a1, .long a2, .long a3, .long a4, .long a5] (fun U => U.heap.size = sz ∧ va_P D vwCl [(xo, .inr (11, [.ref xk, .ref xn, .ref xc, .ref xh, .ref xt, .ref xw, .ref xm, .ref xp, .int 0, .int 0, .long 0, .int 0])), (xn, .inr (3, [.int 0, .int 0, .ref n1, .ref n2, .ref n3, .ref n4, .ref n5]))] U.heap ∧ kk_ D cy U ∧ va_D (fun _ => True) [(xo, .inr (11, [.ref xk, .ref xn, .ref xc, .ref xh, .ref xt, .ref xw, .ref xm, .ref xp, .int 0, .int 0, .long 0, .int 0])), (xn, .inr (3, [.int 0, .int 0, .ref n1, .ref n2, .ref n3, .ref n4, .ref n5]))])) (va_Qi (fun (r : Int32) (_ : Unit) => r = (-1)) (fun (_ : Unit) (_ : State) => True) (va_A [] sz)) 0 0 (va_A [] sz) := by
  refine Met.ofW (cc := cX11_lineRefusal) (maxL := 11) (ret := (some .int)) (by decide) rfl ?_
  intro p e s m args below meth c s₁ B hml hv
  obtain ⟨rfl, hsz, hP, hK, hD0⟩ := hv
  have hx := B.exec
  have hb := B.bytes
  have hr := B.returns
  have hts := atoms_spec (ws := wsX11_lineRefusal) B.pre
  have hown : s.vm.findClass RX11 = some m.cls := findClass_of_methodNamed B.named
  have hlocks := B.notSynchronized
  subst hsz
  have hD : va_D (va_A [] s.heap.size) [] := dd_nil
  generalize hAe : va_A [] s.heap.size = A at hD ⊢
  have hA : ∀ q : Nat, s.heap.size ≤ q → A q := fun q h => by rw [← hAe]; exact Or.inr h
  have hS : va_S A s.heap s.heap [] := va_S.rf
  have hl := lv_entry ([.ref xo, .long a1, .long a2, .long a3, .long a4, .long a5]) (n := 11) (Nat.le_of_ble_eq_true rfl)
  rw [lg_entry_eq]
  generalize (lg_sl ([.ref xo, .long a1, .long a2, .long a3, .long a4, .long a5]) ++ List.replicate (11 - (lg_sl ([.ref xo, .long a1, .long a2, .long a3, .long a4, .long a5])).length) Slot.unset).toArray = ls at hl ⊢
  have hl : lv_has ls 11 [(0, .ref xo), (1, .long a1), (3, .long a2), (5, .long a3), (7, .long a4), (9, .long a5)] := hl
  have z0 : (0 : Int32).toInt = 0 := by decide
  have zl0 : (0 : Int64).toInt = 0 := by decide
  have zl5 : (5 : Int64).toInt = 5 := by decide
  refine lv_lload_n hx hb dX11_lineRefusal_0 rfl (lv_at hl 1 rfl) ?_
  refine lv_lconst (v := 0) hx hb dX11_lineRefusal_1 (by decide) ?_
  refine W.lcmp hx hb dX11_lineRefusal_2 ?_
  refine lv_if_lt (tgt := 27) hx hb dX11_lineRefusal_3 (by decide) (fun c_1 => ?_) (fun c_1 => ?_)
  · have t_1 : a1.toInt < (0 : Int64).toInt := Int64.lt_iff_toInt_lt.mp ((lg_cmp_lt a1 0).mp c_1)
    refine lv_iconst (v := (-1)) hx hb dX11_lineRefusal_27 (by decide) ?_
    exact W.iret (v := (-1)) hx hb hr (fun t ht hW => ⟨⟨(-1), (), rfl, rfl, trivial⟩, hS.F ht⟩) hS.2.2 dX11_lineRefusal_28
  · have t_1 : ¬ a1.toInt < (0 : Int64).toInt := fun h => c_1 ((lg_cmp_lt a1 0).mpr (Int64.lt_iff_toInt_lt.mpr h))
    refine lv_lload_n hx hb dX11_lineRefusal_6 rfl (lv_at hl 1 rfl) ?_
    refine lv_ldc2 (v := 5) hx hb hown (hts (.constantLong RX11 300 (5)) (by decide +kernel)) dX11_lineRefusal_7 ?_
    refine W.lcmp hx hb dX11_lineRefusal_10 ?_
    refine lv_if_ge (tgt := 27) hx hb dX11_lineRefusal_11 (by decide) (fun c_2 => ?_) (fun c_2 => ?_)
    · have t_2 : (5 : Int64).toInt ≤ a1.toInt := Int64.le_iff_toInt_le.mp ((lg_cmp_ge a1 5).mp c_2)
      refine lv_iconst (v := (-1)) hx hb dX11_lineRefusal_27 (by decide) ?_
      exact W.iret (v := (-1)) hx hb hr (fun t ht hW => ⟨⟨(-1), (), rfl, rfl, trivial⟩, hS.F ht⟩) hS.2.2 dX11_lineRefusal_28
    · have t_2 : ¬ (5 : Int64).toInt ≤ a1.toInt := fun h => c_2 ((lg_cmp_ge a1 5).mpr (Int64.le_iff_toInt_le.mpr h))
      refine lv_aload_n hx hb dX11_lineRefusal_14 rfl (lv_at hl 0 rfl) ?_
      refine va_get (ci := 11) (v := .ref xn) (C := RX11) (T := TX11) (N := 12) hx hb hts (fun _ h => List.mem_cons_of_mem _ (List.mem_append_left _ (List.mem_append_right _ h))) hown hK.1 hP 0 rfl rfl 1 (by decide) (hts (.fieldLink RX11 31 "CutAtlas" "net" "LCutAtlas$Net;") (by decide +kernel)) (fun _ h9 => h9) rfl dX11_lineRefusal_15 ?_
      refine lv_lload_n hx hb dX11_lineRefusal_18 rfl (lv_at hl 2 rfl) ?_
      refine lv_lload hx hb dX11_lineRefusal_19 (lv_at hl 3 rfl) ?_
      have hPc := hP.sub (ws' := [(xn, .inr (3, [.int 0, .int 0, .ref n1, .ref n2, .ref n3, .ref n4, .ref n5]))]) [1] rfl
      have hDw : va_D (fun _ => True) [(xn, .inr (3, [.int 0, .int 0, .ref n1, .ref n2, .ref n3, .ref n4, .ref n5]))] := hD0.sub [1] (by decide) rfl
      have hFc := va_free (wc := []) hD hS hA [] rfl
      refine va_calli (va_runV (As := [.long a2, .long a3]) (rest := []) ⟨hx, hb, hml, hown, hts⟩ (c_X3_hasPair l D cy s.heap.size xn n1 n2 n3 n4 n5 a2 a3) (cwV 2 hts gX11_lineRefusal_X3_hasPair rfl rfl rfl (by decide +kernel) ⟨Nat.le_of_ble_eq_true rfl, Nat.le_of_ble_eq_true rfl⟩) ⟨bl_, va_recv hK.1 hPc (ci := 3) (q0 := 0) rfl rfl, fun U hU hW => ⟨rfl, by rw [hU], by rw [hU]; exact hPc, kk_mv hW hK, hDw⟩⟩ rfl rfl hl.1 rfl (lv_room (Nat.le_of_ble_eq_true rfl)) dX11_lineRefusal_21 ⟨Nat.le_of_ble_eq_true rfl, Nat.le_of_ble_eq_true rfl⟩) hS (fun q _ h => hFc q h) hFc (fun r_3 u t H locs ht hvm hw hB hz1 hk1 hS => ?_)
      have hP := ro_keep hP hk1
      have hP : va_P D vwCl [(xo, .inr (11, [.ref xk, .ref xn, .ref xc, .ref xh, .ref xt, .ref xw, .ref xm, .ref xp, .int 0, .int 0, .long 0, .int 0])), (xn, .inr (3, [.int 0, .int 0, .ref n1, .ref n2, .ref n3, .ref n4, .ref n5]))] H := hP
      have e_ := hw.symm
      subst e_
      refine lv_if_ne (tgt := 29) hx hb dX11_lineRefusal_24 (by decide) (fun c_4 => ?_) (fun c_4 => ?_)
      · exact absurd c_4 (by decide)
      · have _ := c_4
        refine lv_iconst (v := (-1)) hx hb dX11_lineRefusal_27 (by decide) ?_
        exact W.iret (v := (-1)) hx hb hr (fun t ht hW => ⟨⟨(-1), (), rfl, rfl, trivial⟩, hS.F ht⟩) hS.2.2 dX11_lineRefusal_28

set_option maxHeartbeats 4000000 in
set_option maxRecDepth 100000 in
theorem c_X11_line (l : Launch) (D : va_G) (cy : Nat → ClassId) (sz : Nat) (xo : Nat) (xk : Nat) (xn : Nat) (xc : Nat) (xh : Nat) (xt : Nat) (xw : Nat) (xm : Nat) (xp : Nat) (n1 : Nat) (n2 : Nat) (n3 : Nat) (n4 : Nat) (n5 : Nat) (a1 : Int32) (a2 : Int32) (a3 : Int32) (a4 : Int32) (a5 : Int32) : Met l yX11_line wsX11_line ({ frames := 3, cells := 0, slots := 0, locals := 76 }) (va_Pc [.ref xo, .int a1, .int a2, .int a3, .int a4, .int a5] (fun U => U.heap.size = sz ∧ va_P D vwCl [(xo, .inr (11, [.ref xk, .ref xn, .ref xc, .ref xh, .ref xt, .ref xw, .ref xm, .ref xp, .int 0, .int 0, .long 0, .int 0])), (xn, .inr (3, [.int 0, .int 0, .ref n1, .ref n2, .ref n3, .ref n4, .ref n5]))] U.heap ∧ kk_ D cy U ∧ va_D (fun _ => True) [(xo, .inr (11, [.ref xk, .ref xn, .ref xc, .ref xh, .ref xt, .ref xw, .ref xm, .ref xp, .int 0, .int 0, .long 0, .int 0])), (xn, .inr (3, [.int 0, .int 0, .ref n1, .ref n2, .ref n3, .ref n4, .ref n5]))])) (va_Qi (fun (r : Int32) (_ : Unit) => r = (-1)) (fun (_ : Unit) (_ : State) => True) (va_A [] sz)) 0 0 (va_A [] sz) := by
  refine Met.ofW (cc := cX11_line) (maxL := 7) (ret := (some .int)) (by decide) rfl ?_
  intro p e s m args below meth c s₁ B hml hv
  obtain ⟨rfl, hsz, hP, hK, hD0⟩ := hv
  have hx := B.exec
  have hb := B.bytes
  have hr := B.returns
  have hts := atoms_spec (ws := wsX11_line) B.pre
  have hown : s.vm.findClass RX11 = some m.cls := findClass_of_methodNamed B.named
  have hlocks := B.notSynchronized
  subst hsz
  have hD : va_D (va_A [] s.heap.size) [] := dd_nil
  generalize hAe : va_A [] s.heap.size = A at hD ⊢
  have hA : ∀ q : Nat, s.heap.size ≤ q → A q := fun q h => by rw [← hAe]; exact Or.inr h
  have hS : va_S A s.heap s.heap [] := va_S.rf
  have hl := lv_entry ([.ref xo, .int a1, .int a2, .int a3, .int a4, .int a5]) (n := 7) (Nat.le_of_ble_eq_true rfl)
  rw [lg_entry_eq]
  generalize (lg_sl ([.ref xo, .int a1, .int a2, .int a3, .int a4, .int a5]) ++ List.replicate (7 - (lg_sl ([.ref xo, .int a1, .int a2, .int a3, .int a4, .int a5])).length) Slot.unset).toArray = ls at hl ⊢
  have hl : lv_has ls 7 [(0, .ref xo), (1, .int a1), (2, .int a2), (3, .int a3), (4, .int a4), (5, .int a5)] := hl
  refine lv_aload_n hx hb dX11_line_0 rfl (lv_at hl 0 rfl) ?_
  refine lv_iload_n hx hb dX11_line_1 rfl (lv_at hl 1 rfl) ?_
  refine lv_i2l (v := a1.toInt64) hx hb dX11_line_2 rfl ?_
  have q_2 : (a1.toInt64).toInt = a1.toInt := Int32.toInt_toInt64 a1
  refine lv_iload_n hx hb dX11_line_3 rfl (lv_at hl 2 rfl) ?_
  refine lv_i2l (v := a2.toInt64) hx hb dX11_line_4 rfl ?_
  have q_4 : (a2.toInt64).toInt = a2.toInt := Int32.toInt_toInt64 a2
  refine lv_iload_n hx hb dX11_line_5 rfl (lv_at hl 3 rfl) ?_
  refine lv_i2l (v := a3.toInt64) hx hb dX11_line_6 rfl ?_
  have q_6 : (a3.toInt64).toInt = a3.toInt := Int32.toInt_toInt64 a3
  refine lv_iload hx hb dX11_line_7 (lv_at hl 4 rfl) ?_
  refine lv_i2l (v := a4.toInt64) hx hb dX11_line_9 rfl ?_
  have q_9 : (a4.toInt64).toInt = a4.toInt := Int32.toInt_toInt64 a4
  refine lv_iload hx hb dX11_line_10 (lv_at hl 5 rfl) ?_
  refine lv_i2l (v := a5.toInt64) hx hb dX11_line_12 rfl ?_
  have q_12 : (a5.toInt64).toInt = a5.toInt := Int32.toInt_toInt64 a5
  have hPc := hP.sub (ws' := [(xo, .inr (11, [.ref xk, .ref xn, .ref xc, .ref xh, .ref xt, .ref xw, .ref xm, .ref xp, .int 0, .int 0, .long 0, .int 0])), (xn, .inr (3, [.int 0, .int 0, .ref n1, .ref n2, .ref n3, .ref n4, .ref n5]))]) [0, 1] rfl
  have hDw : va_D (fun _ => True) [(xo, .inr (11, [.ref xk, .ref xn, .ref xc, .ref xh, .ref xt, .ref xw, .ref xm, .ref xp, .int 0, .int 0, .long 0, .int 0])), (xn, .inr (3, [.int 0, .int 0, .ref n1, .ref n2, .ref n3, .ref n4, .ref n5]))] := hD0.sub [0, 1] (by decide) rfl
  have hFc := va_free (wc := []) hD hS hA [] rfl
  refine va_calli (va_runV (As := [.long a1.toInt64, .long a2.toInt64, .long a3.toInt64, .long a4.toInt64, .long a5.toInt64]) (rest := []) ⟨hx, hb, hml, hown, hts⟩ (c_X11_lineRefusal l D cy s.heap.size xo xk xn xc xh xt xw xm xp n1 n2 n3 n4 n5 a1.toInt64 a2.toInt64 a3.toInt64 a4.toInt64 a5.toInt64) (cwV 5 hts gX11_line_X11_lineRefusal rfl rfl rfl (by decide +kernel) ⟨Nat.le_of_ble_eq_true rfl, Nat.le_of_ble_eq_true rfl⟩) ⟨bl_, va_recv hK.1 hPc (ci := 11) (q0 := 0) rfl rfl, fun U hU hW => ⟨rfl, by rw [hU], by rw [hU]; exact hPc, kk_mv hW hK, hDw⟩⟩ rfl rfl hl.1 rfl (lv_room (Nat.le_of_ble_eq_true rfl)) dX11_line_13 ⟨Nat.le_of_ble_eq_true rfl, Nat.le_of_ble_eq_true rfl⟩) hS (fun q _ h => hFc q h) hFc (fun r_1 u t H locs ht hvm hw hB hz1 hk1 hS => ?_)
  have hP := ro_keep hP hk1
  have hP : va_P D vwCl [(xo, .inr (11, [.ref xk, .ref xn, .ref xc, .ref xh, .ref xt, .ref xw, .ref xm, .ref xp, .int 0, .int 0, .long 0, .int 0])), (xn, .inr (3, [.int 0, .int 0, .ref n1, .ref n2, .ref n3, .ref n4, .ref n5]))] H := hP
  have e_ := hw.symm
  subst e_
  refine lv_istore (lv' := [(6, .int (-1)), (0, .ref xo), (1, .int a1), (2, .int a2), (3, .int a3), (4, .int a4), (5, .int a5)]) hx hb dX11_line_16 hl (by decide) rfl (fun ls hl => ?_)
  refine lv_iload hx hb dX11_line_18 (lv_at hl 0 rfl) ?_
  refine lv_if_eq (tgt := 26) hx hb dX11_line_20 (by decide) (fun c_2 => ?_) (fun c_2 => ?_)
  · exact absurd c_2 (by decide)
  · have _ := c_2
    refine lv_iload hx hb dX11_line_23 (lv_at hl 0 rfl) ?_
    exact W.iret (v := (-1)) hx hb hr (fun t ht hW => ⟨⟨(-1), (), rfl, rfl, trivial⟩, hS.F ht⟩) hS.2.2 dX11_line_25

set_option maxHeartbeats 4000000 in
set_option maxRecDepth 100000 in
theorem c_X11_widen (l : Launch) (D : va_G) (cy : Nat → ClassId) (sz : Nat) (xo : Nat) (xk : Nat) (xn : Nat) (xc : Nat) (xh : Nat) (xt : Nat) (xw : Nat) (xm : Nat) (xp : Nat) (n1 : Nat) (n2 : Nat) (n3 : Nat) (n4 : Nat) (n5 : Nat) (a1 : Int32) (a2 : Int32) : Met l yX11_widen wsX11_widen ({ frames := 1, cells := 0, slots := 0, locals := 21 }) (va_Pc [.ref xo, .int a1, .int a2] (fun U => U.heap.size = sz ∧ va_P D vwCl [(xo, .inr (11, [.ref xk, .ref xn, .ref xc, .ref xh, .ref xt, .ref xw, .ref xm, .ref xp, .int 0, .int 0, .long 0, .int 0])), (xn, .inr (3, [.int 0, .int 0, .ref n1, .ref n2, .ref n3, .ref n4, .ref n5]))] U.heap ∧ kk_ D cy U ∧ va_D (fun _ => True) [(xo, .inr (11, [.ref xk, .ref xn, .ref xc, .ref xh, .ref xt, .ref xw, .ref xm, .ref xp, .int 0, .int 0, .long 0, .int 0])), (xn, .inr (3, [.int 0, .int 0, .ref n1, .ref n2, .ref n3, .ref n4, .ref n5]))])) (va_Qi (fun (r : Int32) (_ : Unit) => r = (-1)) (fun (_ : Unit) (_ : State) => True) (va_A [] sz)) 0 0 (va_A [] sz) := by
  refine Met.ofW (cc := cX11_widen) (maxL := 5) (ret := (some .int)) (by decide) rfl ?_
  intro p e s m args below meth c s₁ B hml hv
  obtain ⟨rfl, hsz, hP, hK, hD0⟩ := hv
  have hx := B.exec
  have hb := B.bytes
  have hr := B.returns
  have hts := atoms_spec (ws := wsX11_widen) B.pre
  have hown : s.vm.findClass RX11 = some m.cls := findClass_of_methodNamed B.named
  have hlocks := B.notSynchronized
  subst hsz
  have hD : va_D (va_A [] s.heap.size) [] := dd_nil
  generalize hAe : va_A [] s.heap.size = A at hD ⊢
  have hA : ∀ q : Nat, s.heap.size ≤ q → A q := fun q h => by rw [← hAe]; exact Or.inr h
  have hS : va_S A s.heap s.heap [] := va_S.rf
  have hl := lv_entry ([.ref xo, .int a1, .int a2]) (n := 5) (Nat.le_of_ble_eq_true rfl)
  rw [lg_entry_eq]
  generalize (lg_sl ([.ref xo, .int a1, .int a2]) ++ List.replicate (5 - (lg_sl ([.ref xo, .int a1, .int a2])).length) Slot.unset).toArray = ls at hl ⊢
  have hl : lv_has ls 5 [(0, .ref xo), (1, .int a1), (2, .int a2)] := hl
  refine lv_aload_n hx hb dX11_widen_0 rfl (lv_at hl 0 rfl) ?_
  refine va_get (ci := 11) (v := .ref xn) (C := RX11) (T := TX11) (N := 12) hx hb hts (fun _ h => List.mem_cons_of_mem _ (List.mem_append_left _ (List.mem_append_right _ h))) hown hK.1 hP 0 rfl rfl 1 (by decide) (hts (.fieldLink RX11 31 "CutAtlas" "net" "LCutAtlas$Net;") (by decide +kernel)) (fun _ h9 => h9) rfl dX11_widen_1 ?_
  refine lv_iload_n hx hb dX11_widen_4 rfl (lv_at hl 1 rfl) ?_
  have hPc := hP.sub (ws' := [(xn, .inr (3, [.int 0, .int 0, .ref n1, .ref n2, .ref n3, .ref n4, .ref n5]))]) [1] rfl
  have hDw : va_D (fun _ => True) [(xn, .inr (3, [.int 0, .int 0, .ref n1, .ref n2, .ref n3, .ref n4, .ref n5]))] := hD0.sub [1] (by decide) rfl
  have hFc := va_free (wc := []) hD hS hA [] rfl
  refine va_calli (va_runV (As := [.int a1]) (rest := []) ⟨hx, hb, hml, hown, hts⟩ (c_X3_hasLine l D cy s.heap.size xn n1 n2 n3 n4 n5 a1) (cwV 1 hts gX11_widen_X3_hasLine rfl rfl rfl (by decide +kernel) ⟨Nat.le_of_ble_eq_true rfl, Nat.le_of_ble_eq_true rfl⟩) ⟨bl_, va_recv hK.1 hPc (ci := 3) (q0 := 0) rfl rfl, fun U hU hW => ⟨rfl, by rw [hU], by rw [hU]; exact hPc, kk_mv hW hK, hDw⟩⟩ rfl rfl hl.1 rfl (lv_room (Nat.le_of_ble_eq_true rfl)) dX11_widen_5 ⟨Nat.le_of_ble_eq_true rfl, Nat.le_of_ble_eq_true rfl⟩) hS (fun q _ h => hFc q h) hFc (fun r_1 u t H locs ht hvm hw hB hz1 hk1 hS => ?_)
  have hP := ro_keep hP hk1
  have hP : va_P D vwCl [(xo, .inr (11, [.ref xk, .ref xn, .ref xc, .ref xh, .ref xt, .ref xw, .ref xm, .ref xp, .int 0, .int 0, .long 0, .int 0])), (xn, .inr (3, [.int 0, .int 0, .ref n1, .ref n2, .ref n3, .ref n4, .ref n5]))] H := hP
  have e_ := hw.symm
  subst e_
  refine lv_if_eq (tgt := 22) hx hb dX11_widen_8 (by decide) (fun c_2 => ?_) (fun c_2 => ?_)
  · have _ := c_2
    refine lv_iconst (v := (-1)) hx hb dX11_widen_22 (by decide) ?_
    exact W.iret (v := (-1)) hx hb hr (fun t ht hW => ⟨⟨(-1), (), rfl, rfl, trivial⟩, hS.F ht⟩) hS.2.2 dX11_widen_23
  · exact absurd c_2 (by decide)

set_option maxHeartbeats 4000000 in
set_option maxRecDepth 100000 in
theorem c_X11_width (l : Launch) (D : va_G) (cy : Nat → ClassId) (sz : Nat) (xo : Nat) (xk : Nat) (xn : Nat) (xc : Nat) (xh : Nat) (xt : Nat) (xw : Nat) (xm : Nat) (xp : Nat) (n1 : Nat) (n2 : Nat) (n3 : Nat) (n4 : Nat) (n5 : Nat) (a1 : Int32) (a2 : Int32) : Met l yX11_width wsX11_width ({ frames := 1, cells := 0, slots := 0, locals := 21 }) (va_Pc [.ref xo, .int a1, .int a2] (fun U => U.heap.size = sz ∧ va_P D vwCl [(xo, .inr (11, [.ref xk, .ref xn, .ref xc, .ref xh, .ref xt, .ref xw, .ref xm, .ref xp, .int 0, .int 0, .long 0, .int 0])), (xn, .inr (3, [.int 0, .int 0, .ref n1, .ref n2, .ref n3, .ref n4, .ref n5]))] U.heap ∧ kk_ D cy U ∧ va_D (fun _ => True) [(xo, .inr (11, [.ref xk, .ref xn, .ref xc, .ref xh, .ref xt, .ref xw, .ref xm, .ref xp, .int 0, .int 0, .long 0, .int 0])), (xn, .inr (3, [.int 0, .int 0, .ref n1, .ref n2, .ref n3, .ref n4, .ref n5]))])) (va_Qi (fun (r : Int32) (_ : Unit) => r = (-1)) (fun (_ : Unit) (_ : State) => True) (va_A [] sz)) 0 0 (va_A [] sz) := by
  refine Met.ofW (cc := cX11_width) (maxL := 4) (ret := (some .int)) (by decide) rfl ?_
  intro p e s m args below meth c s₁ B hml hv
  obtain ⟨rfl, hsz, hP, hK, hD0⟩ := hv
  have hx := B.exec
  have hb := B.bytes
  have hr := B.returns
  have hts := atoms_spec (ws := wsX11_width) B.pre
  have hown : s.vm.findClass RX11 = some m.cls := findClass_of_methodNamed B.named
  have hlocks := B.notSynchronized
  subst hsz
  have hD : va_D (va_A [] s.heap.size) [] := dd_nil
  generalize hAe : va_A [] s.heap.size = A at hD ⊢
  have hA : ∀ q : Nat, s.heap.size ≤ q → A q := fun q h => by rw [← hAe]; exact Or.inr h
  have hS : va_S A s.heap s.heap [] := va_S.rf
  have hl := lv_entry ([.ref xo, .int a1, .int a2]) (n := 4) (Nat.le_of_ble_eq_true rfl)
  rw [lg_entry_eq]
  generalize (lg_sl ([.ref xo, .int a1, .int a2]) ++ List.replicate (4 - (lg_sl ([.ref xo, .int a1, .int a2])).length) Slot.unset).toArray = ls at hl ⊢
  have hl : lv_has ls 4 [(0, .ref xo), (1, .int a1), (2, .int a2)] := hl
  refine lv_aload_n hx hb dX11_width_0 rfl (lv_at hl 0 rfl) ?_
  refine va_get (ci := 11) (v := .ref xn) (C := RX11) (T := TX11) (N := 12) hx hb hts (fun _ h => List.mem_cons_of_mem _ (List.mem_append_left _ (List.mem_append_right _ h))) hown hK.1 hP 0 rfl rfl 1 (by decide) (hts (.fieldLink RX11 31 "CutAtlas" "net" "LCutAtlas$Net;") (by decide +kernel)) (fun _ h9 => h9) rfl dX11_width_1 ?_
  refine lv_iload_n hx hb dX11_width_4 rfl (lv_at hl 1 rfl) ?_
  have hPc := hP.sub (ws' := [(xn, .inr (3, [.int 0, .int 0, .ref n1, .ref n2, .ref n3, .ref n4, .ref n5]))]) [1] rfl
  have hDw : va_D (fun _ => True) [(xn, .inr (3, [.int 0, .int 0, .ref n1, .ref n2, .ref n3, .ref n4, .ref n5]))] := hD0.sub [1] (by decide) rfl
  have hFc := va_free (wc := []) hD hS hA [] rfl
  refine va_calli (va_runV (As := [.int a1]) (rest := []) ⟨hx, hb, hml, hown, hts⟩ (c_X3_hasLine l D cy s.heap.size xn n1 n2 n3 n4 n5 a1) (cwV 1 hts gX11_width_X3_hasLine rfl rfl rfl (by decide +kernel) ⟨Nat.le_of_ble_eq_true rfl, Nat.le_of_ble_eq_true rfl⟩) ⟨bl_, va_recv hK.1 hPc (ci := 3) (q0 := 0) rfl rfl, fun U hU hW => ⟨rfl, by rw [hU], by rw [hU]; exact hPc, kk_mv hW hK, hDw⟩⟩ rfl rfl hl.1 rfl (lv_room (Nat.le_of_ble_eq_true rfl)) dX11_width_5 ⟨Nat.le_of_ble_eq_true rfl, Nat.le_of_ble_eq_true rfl⟩) hS (fun q _ h => hFc q h) hFc (fun r_1 u t H locs ht hvm hw hB hz1 hk1 hS => ?_)
  have hP := ro_keep hP hk1
  have hP : va_P D vwCl [(xo, .inr (11, [.ref xk, .ref xn, .ref xc, .ref xh, .ref xt, .ref xw, .ref xm, .ref xp, .int 0, .int 0, .long 0, .int 0])), (xn, .inr (3, [.int 0, .int 0, .ref n1, .ref n2, .ref n3, .ref n4, .ref n5]))] H := hP
  have e_ := hw.symm
  subst e_
  refine lv_if_eq (tgt := 22) hx hb dX11_width_8 (by decide) (fun c_2 => ?_) (fun c_2 => ?_)
  · have _ := c_2
    refine lv_iconst (v := (-1)) hx hb dX11_width_22 (by decide) ?_
    exact W.iret (v := (-1)) hx hb hr (fun t ht hW => ⟨⟨(-1), (), rfl, rfl, trivial⟩, hS.F ht⟩) hS.2.2 dX11_width_23
  · exact absurd c_2 (by decide)

set_option maxHeartbeats 4000000 in
set_option maxRecDepth 100000 in
theorem c_X11_merge (l : Launch) (D : va_G) (cy : Nat → ClassId) (sz : Nat) (xo : Nat) (xk : Nat) (xn : Nat) (xc : Nat) (xh : Nat) (xt : Nat) (xw : Nat) (xm : Nat) (xp : Nat) (n1 : Nat) (n2 : Nat) (n3 : Nat) (n4 : Nat) (n5 : Nat) (a1 : Int32) (a2 : Int32) : Met l yX11_merge wsX11_merge ({ frames := 2, cells := 0, slots := 0, locals := 46 }) (va_Pc [.ref xo, .int a1, .int a2] (fun U => U.heap.size = sz ∧ va_P D vwCl [(xo, .inr (11, [.ref xk, .ref xn, .ref xc, .ref xh, .ref xt, .ref xw, .ref xm, .ref xp, .int 0, .int 0, .long 0, .int 0])), (xn, .inr (3, [.int 0, .int 0, .ref n1, .ref n2, .ref n3, .ref n4, .ref n5]))] U.heap ∧ kk_ D cy U ∧ va_D (fun _ => True) [(xo, .inr (11, [.ref xk, .ref xn, .ref xc, .ref xh, .ref xt, .ref xw, .ref xm, .ref xp, .int 0, .int 0, .long 0, .int 0])), (xn, .inr (3, [.int 0, .int 0, .ref n1, .ref n2, .ref n3, .ref n4, .ref n5]))])) (va_Qi (fun (r : Int32) (_ : Unit) => r = (-1)) (fun (_ : Unit) (_ : State) => True) (va_A [] sz)) 0 0 (va_A [] sz) := by
  refine Met.ofW (cc := cX11_merge) (maxL := 3) (ret := (some .int)) (by decide) rfl ?_
  intro p e s m args below meth c s₁ B hml hv
  obtain ⟨rfl, hsz, hP, hK, hD0⟩ := hv
  have hx := B.exec
  have hb := B.bytes
  have hr := B.returns
  have hts := atoms_spec (ws := wsX11_merge) B.pre
  have hown : s.vm.findClass RX11 = some m.cls := findClass_of_methodNamed B.named
  have hlocks := B.notSynchronized
  subst hsz
  have hD : va_D (va_A [] s.heap.size) [] := dd_nil
  generalize hAe : va_A [] s.heap.size = A at hD ⊢
  have hA : ∀ q : Nat, s.heap.size ≤ q → A q := fun q h => by rw [← hAe]; exact Or.inr h
  have hS : va_S A s.heap s.heap [] := va_S.rf
  have hl := lv_entry ([.ref xo, .int a1, .int a2]) (n := 3) (Nat.le_of_ble_eq_true rfl)
  rw [lg_entry_eq]
  generalize (lg_sl ([.ref xo, .int a1, .int a2]) ++ List.replicate (3 - (lg_sl ([.ref xo, .int a1, .int a2])).length) Slot.unset).toArray = ls at hl ⊢
  have hl : lv_has ls 3 [(0, .ref xo), (1, .int a1), (2, .int a2)] := hl
  refine lv_aload_n hx hb dX11_merge_0 rfl (lv_at hl 0 rfl) ?_
  refine va_get (ci := 11) (v := .ref xn) (C := RX11) (T := TX11) (N := 12) hx hb hts (fun _ h => List.mem_cons_of_mem _ (List.mem_append_left _ (List.mem_append_right _ h))) hown hK.1 hP 0 rfl rfl 1 (by decide) (hts (.fieldLink RX11 31 "CutAtlas" "net" "LCutAtlas$Net;") (by decide +kernel)) (fun _ h9 => h9) rfl dX11_merge_1 ?_
  refine lv_iload_n hx hb dX11_merge_4 rfl (lv_at hl 1 rfl) ?_
  refine lv_i2l (v := a1.toInt64) hx hb dX11_merge_5 rfl ?_
  have q_5 : (a1.toInt64).toInt = a1.toInt := Int32.toInt_toInt64 a1
  refine lv_iload_n hx hb dX11_merge_6 rfl (lv_at hl 2 rfl) ?_
  refine lv_i2l (v := a2.toInt64) hx hb dX11_merge_7 rfl ?_
  have q_7 : (a2.toInt64).toInt = a2.toInt := Int32.toInt_toInt64 a2
  have hPc := hP.sub (ws' := [(xn, .inr (3, [.int 0, .int 0, .ref n1, .ref n2, .ref n3, .ref n4, .ref n5]))]) [1] rfl
  have hDw : va_D (fun _ => True) [(xn, .inr (3, [.int 0, .int 0, .ref n1, .ref n2, .ref n3, .ref n4, .ref n5]))] := hD0.sub [1] (by decide) rfl
  have hFc := va_free (wc := []) hD hS hA [] rfl
  refine va_calli (va_runV (As := [.long a1.toInt64, .long a2.toInt64]) (rest := []) ⟨hx, hb, hml, hown, hts⟩ (c_X3_hasPair l D cy s.heap.size xn n1 n2 n3 n4 n5 a1.toInt64 a2.toInt64) (cwV 2 hts gX11_merge_X3_hasPair rfl rfl rfl (by decide +kernel) ⟨Nat.le_of_ble_eq_true rfl, Nat.le_of_ble_eq_true rfl⟩) ⟨bl_, va_recv hK.1 hPc (ci := 3) (q0 := 0) rfl rfl, fun U hU hW => ⟨rfl, by rw [hU], by rw [hU]; exact hPc, kk_mv hW hK, hDw⟩⟩ rfl rfl hl.1 rfl (lv_room (Nat.le_of_ble_eq_true rfl)) dX11_merge_8 ⟨Nat.le_of_ble_eq_true rfl, Nat.le_of_ble_eq_true rfl⟩) hS (fun q _ h => hFc q h) hFc (fun r_1 u t H locs ht hvm hw hB hz1 hk1 hS => ?_)
  have hP := ro_keep hP hk1
  have hP : va_P D vwCl [(xo, .inr (11, [.ref xk, .ref xn, .ref xc, .ref xh, .ref xt, .ref xw, .ref xm, .ref xp, .int 0, .int 0, .long 0, .int 0])), (xn, .inr (3, [.int 0, .int 0, .ref n1, .ref n2, .ref n3, .ref n4, .ref n5]))] H := hP
  have e_ := hw.symm
  subst e_
  refine lv_if_ne (tgt := 16) hx hb dX11_merge_11 (by decide) (fun c_2 => ?_) (fun c_2 => ?_)
  · exact absurd c_2 (by decide)
  · have _ := c_2
    refine lv_iconst (v := (-1)) hx hb dX11_merge_14 (by decide) ?_
    exact W.iret (v := (-1)) hx hb hr (fun t ht hW => ⟨⟨(-1), (), rfl, rfl, trivial⟩, hS.F ht⟩) hS.2.2 dX11_merge_15

set_option maxHeartbeats 4000000 in
set_option maxRecDepth 100000 in
theorem c_X11_told (l : Launch) (D : va_G) (cy : Nat → ClassId) (sz : Nat) (xo : Nat) (xk : Nat) (xn : Nat) (xc : Nat) (xh : Nat) (xt : Nat) (xw : Nat) (xm : Nat) (xp : Nat) (n1 : Nat) (n2 : Nat) (n3 : Nat) (n4 : Nat) (n5 : Nat) (a1 : Int32) (a2 : Int32) : Met l yX11_told wsX11_told ({ frames := 1, cells := 0, slots := 0, locals := 21 }) (va_Pc [.ref xo, .int a1, .int a2] (fun U => U.heap.size = sz ∧ va_P D vwCl [(xo, .inr (11, [.ref xk, .ref xn, .ref xc, .ref xh, .ref xt, .ref xw, .ref xm, .ref xp, .int 0, .int 0, .long 0, .int 0])), (xn, .inr (3, [.int 0, .int 0, .ref n1, .ref n2, .ref n3, .ref n4, .ref n5]))] U.heap ∧ kk_ D cy U ∧ va_D (fun _ => True) [(xo, .inr (11, [.ref xk, .ref xn, .ref xc, .ref xh, .ref xt, .ref xw, .ref xm, .ref xp, .int 0, .int 0, .long 0, .int 0])), (xn, .inr (3, [.int 0, .int 0, .ref n1, .ref n2, .ref n3, .ref n4, .ref n5]))])) (va_Qi (fun (r : Int32) (_ : Unit) => r = (-1)) (fun (_ : Unit) (_ : State) => True) (va_A [] sz)) 0 0 (va_A [] sz) := by
  refine Met.ofW (cc := cX11_told) (maxL := 3) (ret := (some .int)) (by decide) rfl ?_
  intro p e s m args below meth c s₁ B hml hv
  obtain ⟨rfl, hsz, hP, hK, hD0⟩ := hv
  have hx := B.exec
  have hb := B.bytes
  have hr := B.returns
  have hts := atoms_spec (ws := wsX11_told) B.pre
  have hown : s.vm.findClass RX11 = some m.cls := findClass_of_methodNamed B.named
  have hlocks := B.notSynchronized
  subst hsz
  have hD : va_D (va_A [] s.heap.size) [] := dd_nil
  generalize hAe : va_A [] s.heap.size = A at hD ⊢
  have hA : ∀ q : Nat, s.heap.size ≤ q → A q := fun q h => by rw [← hAe]; exact Or.inr h
  have hS : va_S A s.heap s.heap [] := va_S.rf
  have hl := lv_entry ([.ref xo, .int a1, .int a2]) (n := 3) (Nat.le_of_ble_eq_true rfl)
  rw [lg_entry_eq]
  generalize (lg_sl ([.ref xo, .int a1, .int a2]) ++ List.replicate (3 - (lg_sl ([.ref xo, .int a1, .int a2])).length) Slot.unset).toArray = ls at hl ⊢
  have hl : lv_has ls 3 [(0, .ref xo), (1, .int a1), (2, .int a2)] := hl
  refine lv_aload_n hx hb dX11_told_0 rfl (lv_at hl 0 rfl) ?_
  refine va_get (ci := 11) (v := .ref xn) (C := RX11) (T := TX11) (N := 12) hx hb hts (fun _ h => List.mem_cons_of_mem _ (List.mem_append_left _ (List.mem_append_right _ h))) hown hK.1 hP 0 rfl rfl 1 (by decide) (hts (.fieldLink RX11 31 "CutAtlas" "net" "LCutAtlas$Net;") (by decide +kernel)) (fun _ h9 => h9) rfl dX11_told_1 ?_
  refine lv_iload_n hx hb dX11_told_4 rfl (lv_at hl 1 rfl) ?_
  have hPc := hP.sub (ws' := [(xn, .inr (3, [.int 0, .int 0, .ref n1, .ref n2, .ref n3, .ref n4, .ref n5]))]) [1] rfl
  have hDw : va_D (fun _ => True) [(xn, .inr (3, [.int 0, .int 0, .ref n1, .ref n2, .ref n3, .ref n4, .ref n5]))] := hD0.sub [1] (by decide) rfl
  have hFc := va_free (wc := []) hD hS hA [] rfl
  refine va_calli (va_runV (As := [.int a1]) (rest := []) ⟨hx, hb, hml, hown, hts⟩ (c_X3_hasLine l D cy s.heap.size xn n1 n2 n3 n4 n5 a1) (cwV 1 hts gX11_told_X3_hasLine rfl rfl rfl (by decide +kernel) ⟨Nat.le_of_ble_eq_true rfl, Nat.le_of_ble_eq_true rfl⟩) ⟨bl_, va_recv hK.1 hPc (ci := 3) (q0 := 0) rfl rfl, fun U hU hW => ⟨rfl, by rw [hU], by rw [hU]; exact hPc, kk_mv hW hK, hDw⟩⟩ rfl rfl hl.1 rfl (lv_room (Nat.le_of_ble_eq_true rfl)) dX11_told_5 ⟨Nat.le_of_ble_eq_true rfl, Nat.le_of_ble_eq_true rfl⟩) hS (fun q _ h => hFc q h) hFc (fun r_1 u t H locs ht hvm hw hB hz1 hk1 hS => ?_)
  have hP := ro_keep hP hk1
  have hP : va_P D vwCl [(xo, .inr (11, [.ref xk, .ref xn, .ref xc, .ref xh, .ref xt, .ref xw, .ref xm, .ref xp, .int 0, .int 0, .long 0, .int 0])), (xn, .inr (3, [.int 0, .int 0, .ref n1, .ref n2, .ref n3, .ref n4, .ref n5]))] H := hP
  have e_ := hw.symm
  subst e_
  refine lv_if_ne (tgt := 13) hx hb dX11_told_8 (by decide) (fun c_2 => ?_) (fun c_2 => ?_)
  · exact absurd c_2 (by decide)
  · have _ := c_2
    refine lv_iconst (v := (-1)) hx hb dX11_told_11 (by decide) ?_
    exact W.iret (v := (-1)) hx hb hr (fun t ht hW => ⟨⟨(-1), (), rfl, rfl, trivial⟩, hS.F ht⟩) hS.2.2 dX11_told_12

set_option maxHeartbeats 4000000 in
set_option maxRecDepth 100000 in
theorem c_X11_ask (l : Launch) (D : va_G) (cy : Nat → ClassId) (sz : Nat) (xo : Nat) (xk : Nat) (xn : Nat) (xc : Nat) (xh : Nat) (xt : Nat) (xw : Nat) (xm : Nat) (xp : Nat) (n1 : Nat) (n2 : Nat) (n3 : Nat) (n4 : Nat) (n5 : Nat) (a1 : Int32) (a2 : Int32) : Met l yX11_ask wsX11_ask ({ frames := 1, cells := 0, slots := 0, locals := 21 }) (va_Pc [.ref xo, .int a1, .int a2] (fun U => U.heap.size = sz ∧ va_P D vwCl [(xo, .inr (11, [.ref xk, .ref xn, .ref xc, .ref xh, .ref xt, .ref xw, .ref xm, .ref xp, .int 0, .int 0, .long 0, .int 0])), (xn, .inr (3, [.int 0, .int 0, .ref n1, .ref n2, .ref n3, .ref n4, .ref n5]))] U.heap ∧ kk_ D cy U ∧ va_D (fun _ => True) [(xo, .inr (11, [.ref xk, .ref xn, .ref xc, .ref xh, .ref xt, .ref xw, .ref xm, .ref xp, .int 0, .int 0, .long 0, .int 0])), (xn, .inr (3, [.int 0, .int 0, .ref n1, .ref n2, .ref n3, .ref n4, .ref n5]))])) (va_Qi (fun (r : Int32) (_ : Unit) => r = (-1)) (fun (_ : Unit) (_ : State) => True) (va_A [] sz)) 0 0 (va_A [] sz) := by
  refine Met.ofW (cc := cX11_ask) (maxL := 5) (ret := (some .int)) (by decide) rfl ?_
  intro p e s m args below meth c s₁ B hml hv
  obtain ⟨rfl, hsz, hP, hK, hD0⟩ := hv
  have hx := B.exec
  have hb := B.bytes
  have hr := B.returns
  have hts := atoms_spec (ws := wsX11_ask) B.pre
  have hown : s.vm.findClass RX11 = some m.cls := findClass_of_methodNamed B.named
  have hlocks := B.notSynchronized
  subst hsz
  have hD : va_D (va_A [] s.heap.size) [] := dd_nil
  generalize hAe : va_A [] s.heap.size = A at hD ⊢
  have hA : ∀ q : Nat, s.heap.size ≤ q → A q := fun q h => by rw [← hAe]; exact Or.inr h
  have hS : va_S A s.heap s.heap [] := va_S.rf
  have hl := lv_entry ([.ref xo, .int a1, .int a2]) (n := 5) (Nat.le_of_ble_eq_true rfl)
  rw [lg_entry_eq]
  generalize (lg_sl ([.ref xo, .int a1, .int a2]) ++ List.replicate (5 - (lg_sl ([.ref xo, .int a1, .int a2])).length) Slot.unset).toArray = ls at hl ⊢
  have hl : lv_has ls 5 [(0, .ref xo), (1, .int a1), (2, .int a2)] := hl
  refine lv_aload_n hx hb dX11_ask_0 rfl (lv_at hl 0 rfl) ?_
  refine va_get (ci := 11) (v := .ref xn) (C := RX11) (T := TX11) (N := 12) hx hb hts (fun _ h => List.mem_cons_of_mem _ (List.mem_append_left _ (List.mem_append_right _ h))) hown hK.1 hP 0 rfl rfl 1 (by decide) (hts (.fieldLink RX11 31 "CutAtlas" "net" "LCutAtlas$Net;") (by decide +kernel)) (fun _ h9 => h9) rfl dX11_ask_1 ?_
  refine lv_iload_n hx hb dX11_ask_4 rfl (lv_at hl 1 rfl) ?_
  have hPc := hP.sub (ws' := [(xn, .inr (3, [.int 0, .int 0, .ref n1, .ref n2, .ref n3, .ref n4, .ref n5]))]) [1] rfl
  have hDw : va_D (fun _ => True) [(xn, .inr (3, [.int 0, .int 0, .ref n1, .ref n2, .ref n3, .ref n4, .ref n5]))] := hD0.sub [1] (by decide) rfl
  have hFc := va_free (wc := []) hD hS hA [] rfl
  refine va_calli (va_runV (As := [.int a1]) (rest := []) ⟨hx, hb, hml, hown, hts⟩ (c_X3_hasLine l D cy s.heap.size xn n1 n2 n3 n4 n5 a1) (cwV 1 hts gX11_ask_X3_hasLine rfl rfl rfl (by decide +kernel) ⟨Nat.le_of_ble_eq_true rfl, Nat.le_of_ble_eq_true rfl⟩) ⟨bl_, va_recv hK.1 hPc (ci := 3) (q0 := 0) rfl rfl, fun U hU hW => ⟨rfl, by rw [hU], by rw [hU]; exact hPc, kk_mv hW hK, hDw⟩⟩ rfl rfl hl.1 rfl (lv_room (Nat.le_of_ble_eq_true rfl)) dX11_ask_5 ⟨Nat.le_of_ble_eq_true rfl, Nat.le_of_ble_eq_true rfl⟩) hS (fun q _ h => hFc q h) hFc (fun r_1 u t H locs ht hvm hw hB hz1 hk1 hS => ?_)
  have hP := ro_keep hP hk1
  have hP : va_P D vwCl [(xo, .inr (11, [.ref xk, .ref xn, .ref xc, .ref xh, .ref xt, .ref xw, .ref xm, .ref xp, .int 0, .int 0, .long 0, .int 0])), (xn, .inr (3, [.int 0, .int 0, .ref n1, .ref n2, .ref n3, .ref n4, .ref n5]))] H := hP
  have e_ := hw.symm
  subst e_
  refine lv_if_eq (tgt := 20) hx hb dX11_ask_8 (by decide) (fun c_2 => ?_) (fun c_2 => ?_)
  · have _ := c_2
    refine lv_iconst (v := (-1)) hx hb dX11_ask_20 (by decide) ?_
    exact W.iret (v := (-1)) hx hb hr (fun t ht hW => ⟨⟨(-1), (), rfl, rfl, trivial⟩, hS.F ht⟩) hS.2.2 dX11_ask_21
  · exact absurd c_2 (by decide)

set_option maxHeartbeats 4000000 in
set_option maxRecDepth 100000 in
theorem c_X11_most (l : Launch) (D : va_G) (cy : Nat → ClassId) (sz : Nat) (xo : Nat) (xk : Nat) (xn : Nat) (xc : Nat) (xh : Nat) (xt : Nat) (xw : Nat) (xm : Nat) (xp : Nat) (n1 : Nat) (n2 : Nat) (n3 : Nat) (n4 : Nat) (n5 : Nat) (a1 : Int32) (a2 : Int32) : Met l yX11_most wsX11_most ({ frames := 2, cells := 0, slots := 0, locals := 46 }) (va_Pc [.ref xo, .int a1, .int a2] (fun U => U.heap.size = sz ∧ va_P D vwCl [(xo, .inr (11, [.ref xk, .ref xn, .ref xc, .ref xh, .ref xt, .ref xw, .ref xm, .ref xp, .int 0, .int 0, .long 0, .int 0])), (xn, .inr (3, [.int 0, .int 0, .ref n1, .ref n2, .ref n3, .ref n4, .ref n5]))] U.heap ∧ kk_ D cy U ∧ va_D (fun _ => True) [(xo, .inr (11, [.ref xk, .ref xn, .ref xc, .ref xh, .ref xt, .ref xw, .ref xm, .ref xp, .int 0, .int 0, .long 0, .int 0])), (xn, .inr (3, [.int 0, .int 0, .ref n1, .ref n2, .ref n3, .ref n4, .ref n5]))])) (va_Qi (fun (r : Int32) (_ : Unit) => r = (-1)) (fun (_ : Unit) (_ : State) => True) (va_A [] sz)) 0 0 (va_A [] sz) := by
  refine Met.ofW (cc := cX11_most) (maxL := 3) (ret := (some .int)) (by decide) rfl ?_
  intro p e s m args below meth c s₁ B hml hv
  obtain ⟨rfl, hsz, hP, hK, hD0⟩ := hv
  have hx := B.exec
  have hb := B.bytes
  have hr := B.returns
  have hts := atoms_spec (ws := wsX11_most) B.pre
  have hown : s.vm.findClass RX11 = some m.cls := findClass_of_methodNamed B.named
  have hlocks := B.notSynchronized
  subst hsz
  have hD : va_D (va_A [] s.heap.size) [] := dd_nil
  generalize hAe : va_A [] s.heap.size = A at hD ⊢
  have hA : ∀ q : Nat, s.heap.size ≤ q → A q := fun q h => by rw [← hAe]; exact Or.inr h
  have hS : va_S A s.heap s.heap [] := va_S.rf
  have hl := lv_entry ([.ref xo, .int a1, .int a2]) (n := 3) (Nat.le_of_ble_eq_true rfl)
  rw [lg_entry_eq]
  generalize (lg_sl ([.ref xo, .int a1, .int a2]) ++ List.replicate (3 - (lg_sl ([.ref xo, .int a1, .int a2])).length) Slot.unset).toArray = ls at hl ⊢
  have hl : lv_has ls 3 [(0, .ref xo), (1, .int a1), (2, .int a2)] := hl
  refine lv_aload_n hx hb dX11_most_0 rfl (lv_at hl 0 rfl) ?_
  refine va_get (ci := 11) (v := .ref xn) (C := RX11) (T := TX11) (N := 12) hx hb hts (fun _ h => List.mem_cons_of_mem _ (List.mem_append_left _ (List.mem_append_left _ (List.mem_append_right _ h)))) hown hK.1 hP 0 rfl rfl 1 (by decide) (hts (.fieldLink RX11 31 "CutAtlas" "net" "LCutAtlas$Net;") (by decide +kernel)) (fun _ h9 => h9) rfl dX11_most_1 ?_
  refine lv_iload_n hx hb dX11_most_4 rfl (lv_at hl 1 rfl) ?_
  refine lv_i2l (v := a1.toInt64) hx hb dX11_most_5 rfl ?_
  have q_5 : (a1.toInt64).toInt = a1.toInt := Int32.toInt_toInt64 a1
  refine lv_iload_n hx hb dX11_most_6 rfl (lv_at hl 2 rfl) ?_
  refine lv_i2l (v := a2.toInt64) hx hb dX11_most_7 rfl ?_
  have q_7 : (a2.toInt64).toInt = a2.toInt := Int32.toInt_toInt64 a2
  have hPc := hP.sub (ws' := [(xn, .inr (3, [.int 0, .int 0, .ref n1, .ref n2, .ref n3, .ref n4, .ref n5]))]) [1] rfl
  have hDw : va_D (fun _ => True) [(xn, .inr (3, [.int 0, .int 0, .ref n1, .ref n2, .ref n3, .ref n4, .ref n5]))] := hD0.sub [1] (by decide) rfl
  have hFc := va_free (wc := []) hD hS hA [] rfl
  refine va_calli (va_runV (As := [.long a1.toInt64, .long a2.toInt64]) (rest := []) ⟨hx, hb, hml, hown, hts⟩ (c_X3_hasPair l D cy s.heap.size xn n1 n2 n3 n4 n5 a1.toInt64 a2.toInt64) (cwV 2 hts gX11_most_X3_hasPair rfl rfl rfl (by decide +kernel) ⟨Nat.le_of_ble_eq_true rfl, Nat.le_of_ble_eq_true rfl⟩) ⟨bl_, va_recv hK.1 hPc (ci := 3) (q0 := 0) rfl rfl, fun U hU hW => ⟨rfl, by rw [hU], by rw [hU]; exact hPc, kk_mv hW hK, hDw⟩⟩ rfl rfl hl.1 rfl (lv_room (Nat.le_of_ble_eq_true rfl)) dX11_most_8 ⟨Nat.le_of_ble_eq_true rfl, Nat.le_of_ble_eq_true rfl⟩) hS (fun q _ h => hFc q h) hFc (fun r_1 u t H locs ht hvm hw hB hz1 hk1 hS => ?_)
  have hP := ro_keep hP hk1
  have hP : va_P D vwCl [(xo, .inr (11, [.ref xk, .ref xn, .ref xc, .ref xh, .ref xt, .ref xw, .ref xm, .ref xp, .int 0, .int 0, .long 0, .int 0])), (xn, .inr (3, [.int 0, .int 0, .ref n1, .ref n2, .ref n3, .ref n4, .ref n5]))] H := hP
  have e_ := hw.symm
  subst e_
  refine lv_if_ne (tgt := 16) hx hb dX11_most_11 (by decide) (fun c_2 => ?_) (fun c_2 => ?_)
  · exact absurd c_2 (by decide)
  · have _ := c_2
    refine lv_iconst (v := (-1)) hx hb dX11_most_14 (by decide) ?_
    exact W.iret (v := (-1)) hx hb hr (fun t ht hW => ⟨⟨(-1), (), rfl, rfl, trivial⟩, hS.F ht⟩) hS.2.2 dX11_most_15

set_option maxHeartbeats 4000000 in
set_option maxRecDepth 100000 in
theorem c_X11_cut (l : Launch) (D : va_G) (cy : Nat → ClassId) (sz : Nat) (xo : Nat) (xk : Nat) (xn : Nat) (xc : Nat) (xh : Nat) (xt : Nat) (xw : Nat) (xm : Nat) (xp : Nat) (n1 : Nat) (n2 : Nat) (n3 : Nat) (n4 : Nat) (n5 : Nat) (a1 : Int32) (a2 : Int32) (a3 : Int32) : Met l yX11_cut wsX11_cut ({ frames := 2, cells := 0, slots := 0, locals := 46 }) (va_Pc [.ref xo, .int a1, .int a2, .int a3] (fun U => U.heap.size = sz ∧ va_P D vwCl [(xo, .inr (11, [.ref xk, .ref xn, .ref xc, .ref xh, .ref xt, .ref xw, .ref xm, .ref xp, .int 0, .int 0, .long 0, .int 0])), (xn, .inr (3, [.int 0, .int 0, .ref n1, .ref n2, .ref n3, .ref n4, .ref n5]))] U.heap ∧ kk_ D cy U ∧ va_D (fun _ => True) [(xo, .inr (11, [.ref xk, .ref xn, .ref xc, .ref xh, .ref xt, .ref xw, .ref xm, .ref xp, .int 0, .int 0, .long 0, .int 0])), (xn, .inr (3, [.int 0, .int 0, .ref n1, .ref n2, .ref n3, .ref n4, .ref n5]))])) (va_Qi (fun (r : Int32) (_ : Unit) => r = (-1)) (fun (_ : Unit) (_ : State) => True) (va_A [] sz)) 0 0 (va_A [] sz) := by
  refine Met.ofW (cc := cX11_cut) (maxL := 4) (ret := (some .int)) (by decide) rfl ?_
  intro p e s m args below meth c s₁ B hml hv
  obtain ⟨rfl, hsz, hP, hK, hD0⟩ := hv
  have hx := B.exec
  have hb := B.bytes
  have hr := B.returns
  have hts := atoms_spec (ws := wsX11_cut) B.pre
  have hown : s.vm.findClass RX11 = some m.cls := findClass_of_methodNamed B.named
  have hlocks := B.notSynchronized
  subst hsz
  have hD : va_D (va_A [] s.heap.size) [] := dd_nil
  generalize hAe : va_A [] s.heap.size = A at hD ⊢
  have hA : ∀ q : Nat, s.heap.size ≤ q → A q := fun q h => by rw [← hAe]; exact Or.inr h
  have hS : va_S A s.heap s.heap [] := va_S.rf
  have hl := lv_entry ([.ref xo, .int a1, .int a2, .int a3]) (n := 4) (Nat.le_of_ble_eq_true rfl)
  rw [lg_entry_eq]
  generalize (lg_sl ([.ref xo, .int a1, .int a2, .int a3]) ++ List.replicate (4 - (lg_sl ([.ref xo, .int a1, .int a2, .int a3])).length) Slot.unset).toArray = ls at hl ⊢
  have hl : lv_has ls 4 [(0, .ref xo), (1, .int a1), (2, .int a2), (3, .int a3)] := hl
  refine lv_aload_n hx hb dX11_cut_0 rfl (lv_at hl 0 rfl) ?_
  refine va_get (ci := 11) (v := .ref xn) (C := RX11) (T := TX11) (N := 12) hx hb hts (fun _ h => List.mem_cons_of_mem _ (List.mem_append_left _ (List.mem_append_left _ (List.mem_append_right _ h)))) hown hK.1 hP 0 rfl rfl 1 (by decide) (hts (.fieldLink RX11 31 "CutAtlas" "net" "LCutAtlas$Net;") (by decide +kernel)) (fun _ h9 => h9) rfl dX11_cut_1 ?_
  refine lv_iload_n hx hb dX11_cut_4 rfl (lv_at hl 1 rfl) ?_
  refine lv_i2l (v := a1.toInt64) hx hb dX11_cut_5 rfl ?_
  have q_5 : (a1.toInt64).toInt = a1.toInt := Int32.toInt_toInt64 a1
  refine lv_iload_n hx hb dX11_cut_6 rfl (lv_at hl 2 rfl) ?_
  refine lv_i2l (v := a2.toInt64) hx hb dX11_cut_7 rfl ?_
  have q_7 : (a2.toInt64).toInt = a2.toInt := Int32.toInt_toInt64 a2
  have hPc := hP.sub (ws' := [(xn, .inr (3, [.int 0, .int 0, .ref n1, .ref n2, .ref n3, .ref n4, .ref n5]))]) [1] rfl
  have hDw : va_D (fun _ => True) [(xn, .inr (3, [.int 0, .int 0, .ref n1, .ref n2, .ref n3, .ref n4, .ref n5]))] := hD0.sub [1] (by decide) rfl
  have hFc := va_free (wc := []) hD hS hA [] rfl
  refine va_calli (va_runV (As := [.long a1.toInt64, .long a2.toInt64]) (rest := []) ⟨hx, hb, hml, hown, hts⟩ (c_X3_hasPair l D cy s.heap.size xn n1 n2 n3 n4 n5 a1.toInt64 a2.toInt64) (cwV 2 hts gX11_cut_X3_hasPair rfl rfl rfl (by decide +kernel) ⟨Nat.le_of_ble_eq_true rfl, Nat.le_of_ble_eq_true rfl⟩) ⟨bl_, va_recv hK.1 hPc (ci := 3) (q0 := 0) rfl rfl, fun U hU hW => ⟨rfl, by rw [hU], by rw [hU]; exact hPc, kk_mv hW hK, hDw⟩⟩ rfl rfl hl.1 rfl (lv_room (Nat.le_of_ble_eq_true rfl)) dX11_cut_8 ⟨Nat.le_of_ble_eq_true rfl, Nat.le_of_ble_eq_true rfl⟩) hS (fun q _ h => hFc q h) hFc (fun r_1 u t H locs ht hvm hw hB hz1 hk1 hS => ?_)
  have hP := ro_keep hP hk1
  have hP : va_P D vwCl [(xo, .inr (11, [.ref xk, .ref xn, .ref xc, .ref xh, .ref xt, .ref xw, .ref xm, .ref xp, .int 0, .int 0, .long 0, .int 0])), (xn, .inr (3, [.int 0, .int 0, .ref n1, .ref n2, .ref n3, .ref n4, .ref n5]))] H := hP
  have e_ := hw.symm
  subst e_
  refine lv_if_eq (tgt := 23) hx hb dX11_cut_11 (by decide) (fun c_2 => ?_) (fun c_2 => ?_)
  · have _ := c_2
    refine lv_iconst (v := (-1)) hx hb dX11_cut_23 (by decide) ?_
    exact W.iret (v := (-1)) hx hb hr (fun t ht hW => ⟨⟨(-1), (), rfl, rfl, trivial⟩, hS.F ht⟩) hS.2.2 dX11_cut_24
  · exact absurd c_2 (by decide)

set_option maxHeartbeats 4000000 in
set_option maxRecDepth 100000 in
theorem c_X11_count (l : Launch) (D : va_G) (cy : Nat → ClassId) (sz : Nat) (xo : Nat) (xk : Nat) (xn : Nat) (xc : Nat) (xh : Nat) (xt : Nat) (xw : Nat) (xm : Nat) (xp : Nat) (n1 : Nat) (n2 : Nat) (n3 : Nat) (n4 : Nat) (n5 : Nat) (a1 : Int32) (a2 : Int32) : Met l yX11_count wsX11_count ({ frames := 2, cells := 0, slots := 0, locals := 46 }) (va_Pc [.ref xo, .int a1, .int a2] (fun U => U.heap.size = sz ∧ va_P D vwCl [(xo, .inr (11, [.ref xk, .ref xn, .ref xc, .ref xh, .ref xt, .ref xw, .ref xm, .ref xp, .int 0, .int 0, .long 0, .int 0])), (xn, .inr (3, [.int 0, .int 0, .ref n1, .ref n2, .ref n3, .ref n4, .ref n5]))] U.heap ∧ kk_ D cy U ∧ va_D (fun _ => True) [(xo, .inr (11, [.ref xk, .ref xn, .ref xc, .ref xh, .ref xt, .ref xw, .ref xm, .ref xp, .int 0, .int 0, .long 0, .int 0])), (xn, .inr (3, [.int 0, .int 0, .ref n1, .ref n2, .ref n3, .ref n4, .ref n5]))])) (va_Qi (fun (r : Int32) (_ : Unit) => r = (-1)) (fun (_ : Unit) (_ : State) => True) (va_A [] sz)) 0 0 (va_A [] sz) := by
  refine Met.ofW (cc := cX11_count) (maxL := 4) (ret := (some .int)) (by decide) rfl ?_
  intro p e s m args below meth c s₁ B hml hv
  obtain ⟨rfl, hsz, hP, hK, hD0⟩ := hv
  have hx := B.exec
  have hb := B.bytes
  have hr := B.returns
  have hts := atoms_spec (ws := wsX11_count) B.pre
  have hown : s.vm.findClass RX11 = some m.cls := findClass_of_methodNamed B.named
  have hlocks := B.notSynchronized
  subst hsz
  have hD : va_D (va_A [] s.heap.size) [] := dd_nil
  generalize hAe : va_A [] s.heap.size = A at hD ⊢
  have hA : ∀ q : Nat, s.heap.size ≤ q → A q := fun q h => by rw [← hAe]; exact Or.inr h
  have hS : va_S A s.heap s.heap [] := va_S.rf
  have hl := lv_entry ([.ref xo, .int a1, .int a2]) (n := 4) (Nat.le_of_ble_eq_true rfl)
  rw [lg_entry_eq]
  generalize (lg_sl ([.ref xo, .int a1, .int a2]) ++ List.replicate (4 - (lg_sl ([.ref xo, .int a1, .int a2])).length) Slot.unset).toArray = ls at hl ⊢
  have hl : lv_has ls 4 [(0, .ref xo), (1, .int a1), (2, .int a2)] := hl
  refine lv_aload_n hx hb dX11_count_0 rfl (lv_at hl 0 rfl) ?_
  refine va_get (ci := 11) (v := .ref xn) (C := RX11) (T := TX11) (N := 12) hx hb hts (fun _ h => List.mem_cons_of_mem _ (List.mem_append_left _ (List.mem_append_left _ (List.mem_append_left _ (List.mem_append_right _ h))))) hown hK.1 hP 0 rfl rfl 1 (by decide) (hts (.fieldLink RX11 31 "CutAtlas" "net" "LCutAtlas$Net;") (by decide +kernel)) (fun _ h9 => h9) rfl dX11_count_1 ?_
  refine lv_iload_n hx hb dX11_count_4 rfl (lv_at hl 1 rfl) ?_
  refine lv_i2l (v := a1.toInt64) hx hb dX11_count_5 rfl ?_
  have q_5 : (a1.toInt64).toInt = a1.toInt := Int32.toInt_toInt64 a1
  refine lv_iload_n hx hb dX11_count_6 rfl (lv_at hl 2 rfl) ?_
  refine lv_i2l (v := a2.toInt64) hx hb dX11_count_7 rfl ?_
  have q_7 : (a2.toInt64).toInt = a2.toInt := Int32.toInt_toInt64 a2
  have hPc := hP.sub (ws' := [(xn, .inr (3, [.int 0, .int 0, .ref n1, .ref n2, .ref n3, .ref n4, .ref n5]))]) [1] rfl
  have hDw : va_D (fun _ => True) [(xn, .inr (3, [.int 0, .int 0, .ref n1, .ref n2, .ref n3, .ref n4, .ref n5]))] := hD0.sub [1] (by decide) rfl
  have hFc := va_free (wc := []) hD hS hA [] rfl
  refine va_calli (va_runV (As := [.long a1.toInt64, .long a2.toInt64]) (rest := []) ⟨hx, hb, hml, hown, hts⟩ (c_X3_hasPair l D cy s.heap.size xn n1 n2 n3 n4 n5 a1.toInt64 a2.toInt64) (cwV 2 hts gX11_count_X3_hasPair rfl rfl rfl (by decide +kernel) ⟨Nat.le_of_ble_eq_true rfl, Nat.le_of_ble_eq_true rfl⟩) ⟨bl_, va_recv hK.1 hPc (ci := 3) (q0 := 0) rfl rfl, fun U hU hW => ⟨rfl, by rw [hU], by rw [hU]; exact hPc, kk_mv hW hK, hDw⟩⟩ rfl rfl hl.1 rfl (lv_room (Nat.le_of_ble_eq_true rfl)) dX11_count_8 ⟨Nat.le_of_ble_eq_true rfl, Nat.le_of_ble_eq_true rfl⟩) hS (fun q _ h => hFc q h) hFc (fun r_1 u t H locs ht hvm hw hB hz1 hk1 hS => ?_)
  have hP := ro_keep hP hk1
  have hP : va_P D vwCl [(xo, .inr (11, [.ref xk, .ref xn, .ref xc, .ref xh, .ref xt, .ref xw, .ref xm, .ref xp, .int 0, .int 0, .long 0, .int 0])), (xn, .inr (3, [.int 0, .int 0, .ref n1, .ref n2, .ref n3, .ref n4, .ref n5]))] H := hP
  have e_ := hw.symm
  subst e_
  refine lv_if_ne (tgt := 16) hx hb dX11_count_11 (by decide) (fun c_2 => ?_) (fun c_2 => ?_)
  · exact absurd c_2 (by decide)
  · have _ := c_2
    refine lv_iconst (v := (-1)) hx hb dX11_count_14 (by decide) ?_
    exact W.iret (v := (-1)) hx hb hr (fun t ht hW => ⟨⟨(-1), (), rfl, rfl, trivial⟩, hS.F ht⟩) hS.2.2 dX11_count_15

set_option maxHeartbeats 4000000 in
set_option maxRecDepth 100000 in
theorem c_X11_next (l : Launch) (D : va_G) (cy : Nat → ClassId) (sz : Nat) (xo : Nat) (xk : Nat) (xn : Nat) (xc : Nat) (xh : Nat) (xt : Nat) (xw : Nat) (xm : Nat) (xp : Nat) (n1 : Nat) (n2 : Nat) (n3 : Nat) (n4 : Nat) (n5 : Nat) (a1 : Int32) (a2 : Int32) (a3 : Int32) : Met l yX11_next wsX11_next ({ frames := 2, cells := 0, slots := 0, locals := 46 }) (va_Pc [.ref xo, .int a1, .int a2, .int a3] (fun U => U.heap.size = sz ∧ va_P D vwCl [(xo, .inr (11, [.ref xk, .ref xn, .ref xc, .ref xh, .ref xt, .ref xw, .ref xm, .ref xp, .int 0, .int 0, .long 0, .int 0])), (xn, .inr (3, [.int 0, .int 0, .ref n1, .ref n2, .ref n3, .ref n4, .ref n5]))] U.heap ∧ kk_ D cy U ∧ va_D (fun _ => True) [(xo, .inr (11, [.ref xk, .ref xn, .ref xc, .ref xh, .ref xt, .ref xw, .ref xm, .ref xp, .int 0, .int 0, .long 0, .int 0])), (xn, .inr (3, [.int 0, .int 0, .ref n1, .ref n2, .ref n3, .ref n4, .ref n5]))])) (va_Qi (fun (r : Int32) (_ : Unit) => r = (-1)) (fun (_ : Unit) (_ : State) => True) (va_A [] sz)) 0 0 (va_A [] sz) := by
  refine Met.ofW (cc := cX11_next) (maxL := 5) (ret := (some .int)) (by decide) rfl ?_
  intro p e s m args below meth c s₁ B hml hv
  obtain ⟨rfl, hsz, hP, hK, hD0⟩ := hv
  have hx := B.exec
  have hb := B.bytes
  have hr := B.returns
  have hts := atoms_spec (ws := wsX11_next) B.pre
  have hown : s.vm.findClass RX11 = some m.cls := findClass_of_methodNamed B.named
  have hlocks := B.notSynchronized
  subst hsz
  have hD : va_D (va_A [] s.heap.size) [] := dd_nil
  generalize hAe : va_A [] s.heap.size = A at hD ⊢
  have hA : ∀ q : Nat, s.heap.size ≤ q → A q := fun q h => by rw [← hAe]; exact Or.inr h
  have hS : va_S A s.heap s.heap [] := va_S.rf
  have hl := lv_entry ([.ref xo, .int a1, .int a2, .int a3]) (n := 5) (Nat.le_of_ble_eq_true rfl)
  rw [lg_entry_eq]
  generalize (lg_sl ([.ref xo, .int a1, .int a2, .int a3]) ++ List.replicate (5 - (lg_sl ([.ref xo, .int a1, .int a2, .int a3])).length) Slot.unset).toArray = ls at hl ⊢
  have hl : lv_has ls 5 [(0, .ref xo), (1, .int a1), (2, .int a2), (3, .int a3)] := hl
  refine lv_aload_n hx hb dX11_next_0 rfl (lv_at hl 0 rfl) ?_
  refine va_get (ci := 11) (v := .ref xn) (C := RX11) (T := TX11) (N := 12) hx hb hts (fun _ h => List.mem_cons_of_mem _ (List.mem_append_left _ (List.mem_append_left _ (List.mem_append_left _ (List.mem_append_right _ h))))) hown hK.1 hP 0 rfl rfl 1 (by decide) (hts (.fieldLink RX11 31 "CutAtlas" "net" "LCutAtlas$Net;") (by decide +kernel)) (fun _ h9 => h9) rfl dX11_next_1 ?_
  refine lv_iload_n hx hb dX11_next_4 rfl (lv_at hl 1 rfl) ?_
  refine lv_i2l (v := a1.toInt64) hx hb dX11_next_5 rfl ?_
  have q_5 : (a1.toInt64).toInt = a1.toInt := Int32.toInt_toInt64 a1
  refine lv_iload_n hx hb dX11_next_6 rfl (lv_at hl 2 rfl) ?_
  refine lv_i2l (v := a2.toInt64) hx hb dX11_next_7 rfl ?_
  have q_7 : (a2.toInt64).toInt = a2.toInt := Int32.toInt_toInt64 a2
  have hPc := hP.sub (ws' := [(xn, .inr (3, [.int 0, .int 0, .ref n1, .ref n2, .ref n3, .ref n4, .ref n5]))]) [1] rfl
  have hDw : va_D (fun _ => True) [(xn, .inr (3, [.int 0, .int 0, .ref n1, .ref n2, .ref n3, .ref n4, .ref n5]))] := hD0.sub [1] (by decide) rfl
  have hFc := va_free (wc := []) hD hS hA [] rfl
  refine va_calli (va_runV (As := [.long a1.toInt64, .long a2.toInt64]) (rest := []) ⟨hx, hb, hml, hown, hts⟩ (c_X3_hasPair l D cy s.heap.size xn n1 n2 n3 n4 n5 a1.toInt64 a2.toInt64) (cwV 2 hts gX11_next_X3_hasPair rfl rfl rfl (by decide +kernel) ⟨Nat.le_of_ble_eq_true rfl, Nat.le_of_ble_eq_true rfl⟩) ⟨bl_, va_recv hK.1 hPc (ci := 3) (q0 := 0) rfl rfl, fun U hU hW => ⟨rfl, by rw [hU], by rw [hU]; exact hPc, kk_mv hW hK, hDw⟩⟩ rfl rfl hl.1 rfl (lv_room (Nat.le_of_ble_eq_true rfl)) dX11_next_8 ⟨Nat.le_of_ble_eq_true rfl, Nat.le_of_ble_eq_true rfl⟩) hS (fun q _ h => hFc q h) hFc (fun r_1 u t H locs ht hvm hw hB hz1 hk1 hS => ?_)
  have hP := ro_keep hP hk1
  have hP : va_P D vwCl [(xo, .inr (11, [.ref xk, .ref xn, .ref xc, .ref xh, .ref xt, .ref xw, .ref xm, .ref xp, .int 0, .int 0, .long 0, .int 0])), (xn, .inr (3, [.int 0, .int 0, .ref n1, .ref n2, .ref n3, .ref n4, .ref n5]))] H := hP
  have e_ := hw.symm
  subst e_
  refine lv_if_eq (tgt := 18) hx hb dX11_next_11 (by decide) (fun c_2 => ?_) (fun c_2 => ?_)
  · have _ := c_2
    refine lv_iconst (v := (-1)) hx hb dX11_next_18 (by decide) ?_
    exact W.iret (v := (-1)) hx hb hr (fun t ht hW => ⟨⟨(-1), (), rfl, rfl, trivial⟩, hS.F ht⟩) hS.2.2 dX11_next_19
  · exact absurd c_2 (by decide)

set_option maxHeartbeats 4000000 in
set_option maxRecDepth 100000 in
theorem c_X11_size (l : Launch) (D : va_G) (cy : Nat → ClassId) (sz : Nat) (xo : Nat) (xk : Nat) (xn : Nat) (xc : Nat) (xh : Nat) (xt : Nat) (xw : Nat) (xm : Nat) (xp : Nat) (n1 : Nat) (n2 : Nat) (n3 : Nat) (n4 : Nat) (n5 : Nat) (a1 : Int32) (a2 : Int32) (a3 : Int32) : Met l yX11_size wsX11_size ({ frames := 2, cells := 0, slots := 0, locals := 46 }) (va_Pc [.ref xo, .int a1, .int a2, .int a3] (fun U => U.heap.size = sz ∧ va_P D vwCl [(xo, .inr (11, [.ref xk, .ref xn, .ref xc, .ref xh, .ref xt, .ref xw, .ref xm, .ref xp, .int 0, .int 0, .long 0, .int 0])), (xn, .inr (3, [.int 0, .int 0, .ref n1, .ref n2, .ref n3, .ref n4, .ref n5]))] U.heap ∧ kk_ D cy U ∧ va_D (fun _ => True) [(xo, .inr (11, [.ref xk, .ref xn, .ref xc, .ref xh, .ref xt, .ref xw, .ref xm, .ref xp, .int 0, .int 0, .long 0, .int 0])), (xn, .inr (3, [.int 0, .int 0, .ref n1, .ref n2, .ref n3, .ref n4, .ref n5]))])) (va_Qi (fun (r : Int32) (_ : Unit) => r = (-1)) (fun (_ : Unit) (_ : State) => True) (va_A [] sz)) 0 0 (va_A [] sz) := by
  refine Met.ofW (cc := cX11_size) (maxL := 5) (ret := (some .int)) (by decide) rfl ?_
  intro p e s m args below meth c s₁ B hml hv
  obtain ⟨rfl, hsz, hP, hK, hD0⟩ := hv
  have hx := B.exec
  have hb := B.bytes
  have hr := B.returns
  have hts := atoms_spec (ws := wsX11_size) B.pre
  have hown : s.vm.findClass RX11 = some m.cls := findClass_of_methodNamed B.named
  have hlocks := B.notSynchronized
  subst hsz
  have hD : va_D (va_A [] s.heap.size) [] := dd_nil
  generalize hAe : va_A [] s.heap.size = A at hD ⊢
  have hA : ∀ q : Nat, s.heap.size ≤ q → A q := fun q h => by rw [← hAe]; exact Or.inr h
  have hS : va_S A s.heap s.heap [] := va_S.rf
  have hl := lv_entry ([.ref xo, .int a1, .int a2, .int a3]) (n := 5) (Nat.le_of_ble_eq_true rfl)
  rw [lg_entry_eq]
  generalize (lg_sl ([.ref xo, .int a1, .int a2, .int a3]) ++ List.replicate (5 - (lg_sl ([.ref xo, .int a1, .int a2, .int a3])).length) Slot.unset).toArray = ls at hl ⊢
  have hl : lv_has ls 5 [(0, .ref xo), (1, .int a1), (2, .int a2), (3, .int a3)] := hl
  refine lv_aload_n hx hb dX11_size_0 rfl (lv_at hl 0 rfl) ?_
  refine va_get (ci := 11) (v := .ref xn) (C := RX11) (T := TX11) (N := 12) hx hb hts (fun _ h => List.mem_cons_of_mem _ (List.mem_append_left _ (List.mem_append_left _ (List.mem_append_right _ h)))) hown hK.1 hP 0 rfl rfl 1 (by decide) (hts (.fieldLink RX11 31 "CutAtlas" "net" "LCutAtlas$Net;") (by decide +kernel)) (fun _ h9 => h9) rfl dX11_size_1 ?_
  refine lv_iload_n hx hb dX11_size_4 rfl (lv_at hl 1 rfl) ?_
  refine lv_i2l (v := a1.toInt64) hx hb dX11_size_5 rfl ?_
  have q_5 : (a1.toInt64).toInt = a1.toInt := Int32.toInt_toInt64 a1
  refine lv_iload_n hx hb dX11_size_6 rfl (lv_at hl 2 rfl) ?_
  refine lv_i2l (v := a2.toInt64) hx hb dX11_size_7 rfl ?_
  have q_7 : (a2.toInt64).toInt = a2.toInt := Int32.toInt_toInt64 a2
  have hPc := hP.sub (ws' := [(xn, .inr (3, [.int 0, .int 0, .ref n1, .ref n2, .ref n3, .ref n4, .ref n5]))]) [1] rfl
  have hDw : va_D (fun _ => True) [(xn, .inr (3, [.int 0, .int 0, .ref n1, .ref n2, .ref n3, .ref n4, .ref n5]))] := hD0.sub [1] (by decide) rfl
  have hFc := va_free (wc := []) hD hS hA [] rfl
  refine va_calli (va_runV (As := [.long a1.toInt64, .long a2.toInt64]) (rest := []) ⟨hx, hb, hml, hown, hts⟩ (c_X3_hasPair l D cy s.heap.size xn n1 n2 n3 n4 n5 a1.toInt64 a2.toInt64) (cwV 2 hts gX11_size_X3_hasPair rfl rfl rfl (by decide +kernel) ⟨Nat.le_of_ble_eq_true rfl, Nat.le_of_ble_eq_true rfl⟩) ⟨bl_, va_recv hK.1 hPc (ci := 3) (q0 := 0) rfl rfl, fun U hU hW => ⟨rfl, by rw [hU], by rw [hU]; exact hPc, kk_mv hW hK, hDw⟩⟩ rfl rfl hl.1 rfl (lv_room (Nat.le_of_ble_eq_true rfl)) dX11_size_8 ⟨Nat.le_of_ble_eq_true rfl, Nat.le_of_ble_eq_true rfl⟩) hS (fun q _ h => hFc q h) hFc (fun r_1 u t H locs ht hvm hw hB hz1 hk1 hS => ?_)
  have hP := ro_keep hP hk1
  have hP : va_P D vwCl [(xo, .inr (11, [.ref xk, .ref xn, .ref xc, .ref xh, .ref xt, .ref xw, .ref xm, .ref xp, .int 0, .int 0, .long 0, .int 0])), (xn, .inr (3, [.int 0, .int 0, .ref n1, .ref n2, .ref n3, .ref n4, .ref n5]))] H := hP
  have e_ := hw.symm
  subst e_
  refine lv_if_ne (tgt := 16) hx hb dX11_size_11 (by decide) (fun c_2 => ?_) (fun c_2 => ?_)
  · exact absurd c_2 (by decide)
  · have _ := c_2
    refine lv_iconst (v := (-1)) hx hb dX11_size_14 (by decide) ?_
    exact W.iret (v := (-1)) hx hb hr (fun t ht hW => ⟨⟨(-1), (), rfl, rfl, trivial⟩, hS.F ht⟩) hS.2.2 dX11_size_15

set_option maxHeartbeats 4000000 in
set_option maxRecDepth 100000 in
theorem c_X11_raise (l : Launch) (D : va_G) (cy : Nat → ClassId) (sz : Nat) (xo : Nat) (xk : Nat) (xn : Nat) (xc : Nat) (xh : Nat) (xt : Nat) (xw : Nat) (xm : Nat) (xp : Nat) (n1 : Nat) (n2 : Nat) (n3 : Nat) (n4 : Nat) (n5 : Nat) (a1 : Int32) (a2 : Int32) (a3 : Int32) : Met l yX11_raise wsX11_raise ({ frames := 2, cells := 0, slots := 0, locals := 46 }) (va_Pc [.ref xo, .int a1, .int a2, .int a3] (fun U => U.heap.size = sz ∧ va_P D vwCl [(xo, .inr (11, [.ref xk, .ref xn, .ref xc, .ref xh, .ref xt, .ref xw, .ref xm, .ref xp, .int 0, .int 0, .long 0, .int 0])), (xn, .inr (3, [.int 0, .int 0, .ref n1, .ref n2, .ref n3, .ref n4, .ref n5]))] U.heap ∧ kk_ D cy U ∧ va_D (fun _ => True) [(xo, .inr (11, [.ref xk, .ref xn, .ref xc, .ref xh, .ref xt, .ref xw, .ref xm, .ref xp, .int 0, .int 0, .long 0, .int 0])), (xn, .inr (3, [.int 0, .int 0, .ref n1, .ref n2, .ref n3, .ref n4, .ref n5]))])) (va_Qi (fun (r : Int32) (_ : Unit) => r = (-1)) (fun (_ : Unit) (_ : State) => True) (va_A [] sz)) 0 0 (va_A [] sz) := by
  refine Met.ofW (cc := cX11_raise) (maxL := 4) (ret := (some .int)) (by decide) rfl ?_
  intro p e s m args below meth c s₁ B hml hv
  obtain ⟨rfl, hsz, hP, hK, hD0⟩ := hv
  have hx := B.exec
  have hb := B.bytes
  have hr := B.returns
  have hts := atoms_spec (ws := wsX11_raise) B.pre
  have hown : s.vm.findClass RX11 = some m.cls := findClass_of_methodNamed B.named
  have hlocks := B.notSynchronized
  subst hsz
  have hD : va_D (va_A [] s.heap.size) [] := dd_nil
  generalize hAe : va_A [] s.heap.size = A at hD ⊢
  have hA : ∀ q : Nat, s.heap.size ≤ q → A q := fun q h => by rw [← hAe]; exact Or.inr h
  have hS : va_S A s.heap s.heap [] := va_S.rf
  have hl := lv_entry ([.ref xo, .int a1, .int a2, .int a3]) (n := 4) (Nat.le_of_ble_eq_true rfl)
  rw [lg_entry_eq]
  generalize (lg_sl ([.ref xo, .int a1, .int a2, .int a3]) ++ List.replicate (4 - (lg_sl ([.ref xo, .int a1, .int a2, .int a3])).length) Slot.unset).toArray = ls at hl ⊢
  have hl : lv_has ls 4 [(0, .ref xo), (1, .int a1), (2, .int a2), (3, .int a3)] := hl
  refine lv_aload_n hx hb dX11_raise_0 rfl (lv_at hl 0 rfl) ?_
  refine va_get (ci := 11) (v := .ref xn) (C := RX11) (T := TX11) (N := 12) hx hb hts (fun _ h => List.mem_cons_of_mem _ (List.mem_append_left _ (List.mem_append_left _ (List.mem_append_right _ h)))) hown hK.1 hP 0 rfl rfl 1 (by decide) (hts (.fieldLink RX11 31 "CutAtlas" "net" "LCutAtlas$Net;") (by decide +kernel)) (fun _ h9 => h9) rfl dX11_raise_1 ?_
  refine lv_iload_n hx hb dX11_raise_4 rfl (lv_at hl 1 rfl) ?_
  refine lv_i2l (v := a1.toInt64) hx hb dX11_raise_5 rfl ?_
  have q_5 : (a1.toInt64).toInt = a1.toInt := Int32.toInt_toInt64 a1
  refine lv_iload_n hx hb dX11_raise_6 rfl (lv_at hl 2 rfl) ?_
  refine lv_i2l (v := a2.toInt64) hx hb dX11_raise_7 rfl ?_
  have q_7 : (a2.toInt64).toInt = a2.toInt := Int32.toInt_toInt64 a2
  have hPc := hP.sub (ws' := [(xn, .inr (3, [.int 0, .int 0, .ref n1, .ref n2, .ref n3, .ref n4, .ref n5]))]) [1] rfl
  have hDw : va_D (fun _ => True) [(xn, .inr (3, [.int 0, .int 0, .ref n1, .ref n2, .ref n3, .ref n4, .ref n5]))] := hD0.sub [1] (by decide) rfl
  have hFc := va_free (wc := []) hD hS hA [] rfl
  refine va_calli (va_runV (As := [.long a1.toInt64, .long a2.toInt64]) (rest := []) ⟨hx, hb, hml, hown, hts⟩ (c_X3_hasPair l D cy s.heap.size xn n1 n2 n3 n4 n5 a1.toInt64 a2.toInt64) (cwV 2 hts gX11_raise_X3_hasPair rfl rfl rfl (by decide +kernel) ⟨Nat.le_of_ble_eq_true rfl, Nat.le_of_ble_eq_true rfl⟩) ⟨bl_, va_recv hK.1 hPc (ci := 3) (q0 := 0) rfl rfl, fun U hU hW => ⟨rfl, by rw [hU], by rw [hU]; exact hPc, kk_mv hW hK, hDw⟩⟩ rfl rfl hl.1 rfl (lv_room (Nat.le_of_ble_eq_true rfl)) dX11_raise_8 ⟨Nat.le_of_ble_eq_true rfl, Nat.le_of_ble_eq_true rfl⟩) hS (fun q _ h => hFc q h) hFc (fun r_1 u t H locs ht hvm hw hB hz1 hk1 hS => ?_)
  have hP := ro_keep hP hk1
  have hP : va_P D vwCl [(xo, .inr (11, [.ref xk, .ref xn, .ref xc, .ref xh, .ref xt, .ref xw, .ref xm, .ref xp, .int 0, .int 0, .long 0, .int 0])), (xn, .inr (3, [.int 0, .int 0, .ref n1, .ref n2, .ref n3, .ref n4, .ref n5]))] H := hP
  have e_ := hw.symm
  subst e_
  refine lv_if_eq (tgt := 25) hx hb dX11_raise_11 (by decide) (fun c_2 => ?_) (fun c_2 => ?_)
  · have _ := c_2
    refine lv_iconst (v := (-1)) hx hb dX11_raise_25 (by decide) ?_
    exact W.iret (v := (-1)) hx hb hr (fun t ht hW => ⟨⟨(-1), (), rfl, rfl, trivial⟩, hS.F ht⟩) hS.2.2 dX11_raise_26
  · exact absurd c_2 (by decide)

set_option maxHeartbeats 4000000 in
set_option maxRecDepth 100000 in
theorem c_X11_cheapest (l : Launch) (D : va_G) (cy : Nat → ClassId) (sz : Nat) (xo : Nat) (xk : Nat) (xn : Nat) (xc : Nat) (xh : Nat) (xt : Nat) (xw : Nat) (xm : Nat) (xp : Nat) (n1 : Nat) (n2 : Nat) (n3 : Nat) (n4 : Nat) (n5 : Nat) (a1 : Int32) (a2 : Int32) (a3 : Int32) : Met l yX11_cheapest wsX11_cheapest ({ frames := 2, cells := 0, slots := 0, locals := 46 }) (va_Pc [.ref xo, .int a1, .int a2, .int a3] (fun U => U.heap.size = sz ∧ va_P D vwCl [(xo, .inr (11, [.ref xk, .ref xn, .ref xc, .ref xh, .ref xt, .ref xw, .ref xm, .ref xp, .int 0, .int 0, .long 0, .int 0])), (xn, .inr (3, [.int 0, .int 0, .ref n1, .ref n2, .ref n3, .ref n4, .ref n5]))] U.heap ∧ kk_ D cy U ∧ va_D (fun _ => True) [(xo, .inr (11, [.ref xk, .ref xn, .ref xc, .ref xh, .ref xt, .ref xw, .ref xm, .ref xp, .int 0, .int 0, .long 0, .int 0])), (xn, .inr (3, [.int 0, .int 0, .ref n1, .ref n2, .ref n3, .ref n4, .ref n5]))])) (va_Qi (fun (r : Int32) (_ : Unit) => r = (-1)) (fun (_ : Unit) (_ : State) => True) (va_A [] sz)) 0 0 (va_A [] sz) := by
  refine Met.ofW (cc := cX11_cheapest) (maxL := 5) (ret := (some .int)) (by decide) rfl ?_
  intro p e s m args below meth c s₁ B hml hv
  obtain ⟨rfl, hsz, hP, hK, hD0⟩ := hv
  have hx := B.exec
  have hb := B.bytes
  have hr := B.returns
  have hts := atoms_spec (ws := wsX11_cheapest) B.pre
  have hown : s.vm.findClass RX11 = some m.cls := findClass_of_methodNamed B.named
  have hlocks := B.notSynchronized
  subst hsz
  have hD : va_D (va_A [] s.heap.size) [] := dd_nil
  generalize hAe : va_A [] s.heap.size = A at hD ⊢
  have hA : ∀ q : Nat, s.heap.size ≤ q → A q := fun q h => by rw [← hAe]; exact Or.inr h
  have hS : va_S A s.heap s.heap [] := va_S.rf
  have hl := lv_entry ([.ref xo, .int a1, .int a2, .int a3]) (n := 5) (Nat.le_of_ble_eq_true rfl)
  rw [lg_entry_eq]
  generalize (lg_sl ([.ref xo, .int a1, .int a2, .int a3]) ++ List.replicate (5 - (lg_sl ([.ref xo, .int a1, .int a2, .int a3])).length) Slot.unset).toArray = ls at hl ⊢
  have hl : lv_has ls 5 [(0, .ref xo), (1, .int a1), (2, .int a2), (3, .int a3)] := hl
  refine lv_aload_n hx hb dX11_cheapest_0 rfl (lv_at hl 0 rfl) ?_
  refine va_get (ci := 11) (v := .ref xn) (C := RX11) (T := TX11) (N := 12) hx hb hts (fun _ h => List.mem_cons_of_mem _ (List.mem_append_left _ (List.mem_append_left _ (List.mem_append_left _ (List.mem_append_right _ h))))) hown hK.1 hP 0 rfl rfl 1 (by decide) (hts (.fieldLink RX11 31 "CutAtlas" "net" "LCutAtlas$Net;") (by decide +kernel)) (fun _ h9 => h9) rfl dX11_cheapest_1 ?_
  refine lv_iload_n hx hb dX11_cheapest_4 rfl (lv_at hl 1 rfl) ?_
  refine lv_i2l (v := a1.toInt64) hx hb dX11_cheapest_5 rfl ?_
  have q_5 : (a1.toInt64).toInt = a1.toInt := Int32.toInt_toInt64 a1
  refine lv_iload_n hx hb dX11_cheapest_6 rfl (lv_at hl 2 rfl) ?_
  refine lv_i2l (v := a2.toInt64) hx hb dX11_cheapest_7 rfl ?_
  have q_7 : (a2.toInt64).toInt = a2.toInt := Int32.toInt_toInt64 a2
  have hPc := hP.sub (ws' := [(xn, .inr (3, [.int 0, .int 0, .ref n1, .ref n2, .ref n3, .ref n4, .ref n5]))]) [1] rfl
  have hDw : va_D (fun _ => True) [(xn, .inr (3, [.int 0, .int 0, .ref n1, .ref n2, .ref n3, .ref n4, .ref n5]))] := hD0.sub [1] (by decide) rfl
  have hFc := va_free (wc := []) hD hS hA [] rfl
  refine va_calli (va_runV (As := [.long a1.toInt64, .long a2.toInt64]) (rest := []) ⟨hx, hb, hml, hown, hts⟩ (c_X3_hasPair l D cy s.heap.size xn n1 n2 n3 n4 n5 a1.toInt64 a2.toInt64) (cwV 2 hts gX11_cheapest_X3_hasPair rfl rfl rfl (by decide +kernel) ⟨Nat.le_of_ble_eq_true rfl, Nat.le_of_ble_eq_true rfl⟩) ⟨bl_, va_recv hK.1 hPc (ci := 3) (q0 := 0) rfl rfl, fun U hU hW => ⟨rfl, by rw [hU], by rw [hU]; exact hPc, kk_mv hW hK, hDw⟩⟩ rfl rfl hl.1 rfl (lv_room (Nat.le_of_ble_eq_true rfl)) dX11_cheapest_8 ⟨Nat.le_of_ble_eq_true rfl, Nat.le_of_ble_eq_true rfl⟩) hS (fun q _ h => hFc q h) hFc (fun r_1 u t H locs ht hvm hw hB hz1 hk1 hS => ?_)
  have hP := ro_keep hP hk1
  have hP : va_P D vwCl [(xo, .inr (11, [.ref xk, .ref xn, .ref xc, .ref xh, .ref xt, .ref xw, .ref xm, .ref xp, .int 0, .int 0, .long 0, .int 0])), (xn, .inr (3, [.int 0, .int 0, .ref n1, .ref n2, .ref n3, .ref n4, .ref n5]))] H := hP
  have e_ := hw.symm
  subst e_
  refine lv_if_eq (tgt := 25) hx hb dX11_cheapest_11 (by decide) (fun c_2 => ?_) (fun c_2 => ?_)
  · have _ := c_2
    refine lv_iconst (v := (-1)) hx hb dX11_cheapest_25 (by decide) ?_
    exact W.iret (v := (-1)) hx hb hr (fun t ht hW => ⟨⟨(-1), (), rfl, rfl, trivial⟩, hS.F ht⟩) hS.2.2 dX11_cheapest_26
  · exact absurd c_2 (by decide)

set_option maxHeartbeats 4000000 in
set_option maxRecDepth 100000 in
theorem c_X11_weak (l : Launch) (D : va_G) (cy : Nat → ClassId) (sz : Nat) (xo : Nat) (xk : Nat) (xn : Nat) (xc : Nat) (xh : Nat) (xt : Nat) (xw : Nat) (xm : Nat) (xp : Nat) (n1 : Nat) (n2 : Nat) (n3 : Nat) (n4 : Nat) (n5 : Nat) (a1 : Int32) : Met l yX11_weak wsX11_weak ({ frames := 1, cells := 0, slots := 0, locals := 21 }) (va_Pc [.ref xo, .int a1] (fun U => U.heap.size = sz ∧ va_P D vwCl [(xo, .inr (11, [.ref xk, .ref xn, .ref xc, .ref xh, .ref xt, .ref xw, .ref xm, .ref xp, .int 0, .int 0, .long 0, .int 0])), (xn, .inr (3, [.int 0, .int 0, .ref n1, .ref n2, .ref n3, .ref n4, .ref n5]))] U.heap ∧ kk_ D cy U ∧ va_D (fun _ => True) [(xo, .inr (11, [.ref xk, .ref xn, .ref xc, .ref xh, .ref xt, .ref xw, .ref xm, .ref xp, .int 0, .int 0, .long 0, .int 0])), (xn, .inr (3, [.int 0, .int 0, .ref n1, .ref n2, .ref n3, .ref n4, .ref n5]))])) (va_Qi (fun (r : Int32) (_ : Unit) => r = (-1)) (fun (_ : Unit) (_ : State) => True) (va_A [] sz)) 0 0 (va_A [] sz) := by
  refine Met.ofW (cc := cX11_weak) (maxL := 2) (ret := (some .int)) (by decide) rfl ?_
  intro p e s m args below meth c s₁ B hml hv
  obtain ⟨rfl, hsz, hP, hK, hD0⟩ := hv
  have hx := B.exec
  have hb := B.bytes
  have hr := B.returns
  have hts := atoms_spec (ws := wsX11_weak) B.pre
  have hown : s.vm.findClass RX11 = some m.cls := findClass_of_methodNamed B.named
  have hlocks := B.notSynchronized
  subst hsz
  have hD : va_D (va_A [] s.heap.size) [] := dd_nil
  generalize hAe : va_A [] s.heap.size = A at hD ⊢
  have hA : ∀ q : Nat, s.heap.size ≤ q → A q := fun q h => by rw [← hAe]; exact Or.inr h
  have hS : va_S A s.heap s.heap [] := va_S.rf
  have hl := lv_entry ([.ref xo, .int a1]) (n := 2) (Nat.le_of_ble_eq_true rfl)
  rw [lg_entry_eq]
  generalize (lg_sl ([.ref xo, .int a1]) ++ List.replicate (2 - (lg_sl ([.ref xo, .int a1])).length) Slot.unset).toArray = ls at hl ⊢
  have hl : lv_has ls 2 [(0, .ref xo), (1, .int a1)] := hl
  refine lv_aload_n hx hb dX11_weak_0 rfl (lv_at hl 0 rfl) ?_
  refine va_get (ci := 11) (v := .ref xn) (C := RX11) (T := TX11) (N := 12) hx hb hts (fun _ h => List.mem_cons_of_mem _ (List.mem_append_left _ (List.mem_append_left _ (List.mem_append_left _ (List.mem_append_right _ h))))) hown hK.1 hP 0 rfl rfl 1 (by decide) (hts (.fieldLink RX11 31 "CutAtlas" "net" "LCutAtlas$Net;") (by decide +kernel)) (fun _ h9 => h9) rfl dX11_weak_1 ?_
  refine lv_iload_n hx hb dX11_weak_4 rfl (lv_at hl 1 rfl) ?_
  have hPc := hP.sub (ws' := [(xn, .inr (3, [.int 0, .int 0, .ref n1, .ref n2, .ref n3, .ref n4, .ref n5]))]) [1] rfl
  have hDw : va_D (fun _ => True) [(xn, .inr (3, [.int 0, .int 0, .ref n1, .ref n2, .ref n3, .ref n4, .ref n5]))] := hD0.sub [1] (by decide) rfl
  have hFc := va_free (wc := []) hD hS hA [] rfl
  refine va_calli (va_runV (As := [.int a1]) (rest := []) ⟨hx, hb, hml, hown, hts⟩ (c_X3_hasLine l D cy s.heap.size xn n1 n2 n3 n4 n5 a1) (cwV 1 hts gX11_weak_X3_hasLine rfl rfl rfl (by decide +kernel) ⟨Nat.le_of_ble_eq_true rfl, Nat.le_of_ble_eq_true rfl⟩) ⟨bl_, va_recv hK.1 hPc (ci := 3) (q0 := 0) rfl rfl, fun U hU hW => ⟨rfl, by rw [hU], by rw [hU]; exact hPc, kk_mv hW hK, hDw⟩⟩ rfl rfl hl.1 rfl (lv_room (Nat.le_of_ble_eq_true rfl)) dX11_weak_5 ⟨Nat.le_of_ble_eq_true rfl, Nat.le_of_ble_eq_true rfl⟩) hS (fun q _ h => hFc q h) hFc (fun r_1 u t H locs ht hvm hw hB hz1 hk1 hS => ?_)
  have hP := ro_keep hP hk1
  have hP : va_P D vwCl [(xo, .inr (11, [.ref xk, .ref xn, .ref xc, .ref xh, .ref xt, .ref xw, .ref xm, .ref xp, .int 0, .int 0, .long 0, .int 0])), (xn, .inr (3, [.int 0, .int 0, .ref n1, .ref n2, .ref n3, .ref n4, .ref n5]))] H := hP
  have e_ := hw.symm
  subst e_
  refine lv_if_ne (tgt := 13) hx hb dX11_weak_8 (by decide) (fun c_2 => ?_) (fun c_2 => ?_)
  · exact absurd c_2 (by decide)
  · have _ := c_2
    refine lv_iconst (v := (-1)) hx hb dX11_weak_11 (by decide) ?_
    exact W.iret (v := (-1)) hx hb hr (fun t ht hW => ⟨⟨(-1), (), rfl, rfl, trivial⟩, hS.F ht⟩) hS.2.2 dX11_weak_12

set_option maxHeartbeats 4000000 in
set_option maxRecDepth 100000 in
theorem c_X11_flow (l : Launch) (D : va_G) (cy : Nat → ClassId) (sz : Nat) (xo : Nat) (xk : Nat) (xn : Nat) (xc : Nat) (xh : Nat) (xt : Nat) (xw : Nat) (xm : Nat) (xp : Nat) (n1 : Nat) (n2 : Nat) (n3 : Nat) (n4 : Nat) (n5 : Nat) (a1 : Int32) (a2 : Int32) (a3 : Int32) : Met l yX11_flow wsX11_flow ({ frames := 2, cells := 0, slots := 0, locals := 46 }) (va_Pc [.ref xo, .int a1, .int a2, .int a3] (fun U => U.heap.size = sz ∧ va_P D vwCl [(xo, .inr (11, [.ref xk, .ref xn, .ref xc, .ref xh, .ref xt, .ref xw, .ref xm, .ref xp, .int 0, .int 0, .long 0, .int 0])), (xn, .inr (3, [.int 0, .int 0, .ref n1, .ref n2, .ref n3, .ref n4, .ref n5]))] U.heap ∧ kk_ D cy U ∧ va_D (fun _ => True) [(xo, .inr (11, [.ref xk, .ref xn, .ref xc, .ref xh, .ref xt, .ref xw, .ref xm, .ref xp, .int 0, .int 0, .long 0, .int 0])), (xn, .inr (3, [.int 0, .int 0, .ref n1, .ref n2, .ref n3, .ref n4, .ref n5]))])) (va_Qi (fun (r : Int32) (_ : Unit) => r = (-1000000)) (fun (_ : Unit) (_ : State) => True) (va_A [] sz)) 0 0 (va_A [] sz) := by
  refine Met.ofW (cc := cX11_flow) (maxL := 4) (ret := (some .int)) (by decide) rfl ?_
  intro p e s m args below meth c s₁ B hml hv
  obtain ⟨rfl, hsz, hP, hK, hD0⟩ := hv
  have hx := B.exec
  have hb := B.bytes
  have hr := B.returns
  have hts := atoms_spec (ws := wsX11_flow) B.pre
  have hown : s.vm.findClass RX11 = some m.cls := findClass_of_methodNamed B.named
  have hlocks := B.notSynchronized
  subst hsz
  have hD : va_D (va_A [] s.heap.size) [] := dd_nil
  generalize hAe : va_A [] s.heap.size = A at hD ⊢
  have hA : ∀ q : Nat, s.heap.size ≤ q → A q := fun q h => by rw [← hAe]; exact Or.inr h
  have hS : va_S A s.heap s.heap [] := va_S.rf
  have hl := lv_entry ([.ref xo, .int a1, .int a2, .int a3]) (n := 4) (Nat.le_of_ble_eq_true rfl)
  rw [lg_entry_eq]
  generalize (lg_sl ([.ref xo, .int a1, .int a2, .int a3]) ++ List.replicate (4 - (lg_sl ([.ref xo, .int a1, .int a2, .int a3])).length) Slot.unset).toArray = ls at hl ⊢
  have hl : lv_has ls 4 [(0, .ref xo), (1, .int a1), (2, .int a2), (3, .int a3)] := hl
  refine lv_aload_n hx hb dX11_flow_0 rfl (lv_at hl 0 rfl) ?_
  refine va_get (ci := 11) (v := .ref xn) (C := RX11) (T := TX11) (N := 12) hx hb hts (fun _ h => List.mem_cons_of_mem _ (List.mem_append_left _ (List.mem_append_left _ (List.mem_append_right _ h)))) hown hK.1 hP 0 rfl rfl 1 (by decide) (hts (.fieldLink RX11 31 "CutAtlas" "net" "LCutAtlas$Net;") (by decide +kernel)) (fun _ h9 => h9) rfl dX11_flow_1 ?_
  refine lv_iload_n hx hb dX11_flow_4 rfl (lv_at hl 1 rfl) ?_
  refine lv_i2l (v := a1.toInt64) hx hb dX11_flow_5 rfl ?_
  have q_5 : (a1.toInt64).toInt = a1.toInt := Int32.toInt_toInt64 a1
  refine lv_iload_n hx hb dX11_flow_6 rfl (lv_at hl 2 rfl) ?_
  refine lv_i2l (v := a2.toInt64) hx hb dX11_flow_7 rfl ?_
  have q_7 : (a2.toInt64).toInt = a2.toInt := Int32.toInt_toInt64 a2
  have hPc := hP.sub (ws' := [(xn, .inr (3, [.int 0, .int 0, .ref n1, .ref n2, .ref n3, .ref n4, .ref n5]))]) [1] rfl
  have hDw : va_D (fun _ => True) [(xn, .inr (3, [.int 0, .int 0, .ref n1, .ref n2, .ref n3, .ref n4, .ref n5]))] := hD0.sub [1] (by decide) rfl
  have hFc := va_free (wc := []) hD hS hA [] rfl
  refine va_calli (va_runV (As := [.long a1.toInt64, .long a2.toInt64]) (rest := []) ⟨hx, hb, hml, hown, hts⟩ (c_X3_hasPair l D cy s.heap.size xn n1 n2 n3 n4 n5 a1.toInt64 a2.toInt64) (cwV 2 hts gX11_flow_X3_hasPair rfl rfl rfl (by decide +kernel) ⟨Nat.le_of_ble_eq_true rfl, Nat.le_of_ble_eq_true rfl⟩) ⟨bl_, va_recv hK.1 hPc (ci := 3) (q0 := 0) rfl rfl, fun U hU hW => ⟨rfl, by rw [hU], by rw [hU]; exact hPc, kk_mv hW hK, hDw⟩⟩ rfl rfl hl.1 rfl (lv_room (Nat.le_of_ble_eq_true rfl)) dX11_flow_8 ⟨Nat.le_of_ble_eq_true rfl, Nat.le_of_ble_eq_true rfl⟩) hS (fun q _ h => hFc q h) hFc (fun r_1 u t H locs ht hvm hw hB hz1 hk1 hS => ?_)
  have hP := ro_keep hP hk1
  have hP : va_P D vwCl [(xo, .inr (11, [.ref xk, .ref xn, .ref xc, .ref xh, .ref xt, .ref xw, .ref xm, .ref xp, .int 0, .int 0, .long 0, .int 0])), (xn, .inr (3, [.int 0, .int 0, .ref n1, .ref n2, .ref n3, .ref n4, .ref n5]))] H := hP
  have e_ := hw.symm
  subst e_
  refine lv_if_eq (tgt := 36) hx hb dX11_flow_11 (by decide) (fun c_2 => ?_) (fun c_2 => ?_)
  · have _ := c_2
    refine lv_ldc (v := (-1000000)) hx hb hown (hts (.constant RX11 172 (-1000000)) (by decide +kernel)) dX11_flow_36 ?_
    exact W.iret (v := (-1000000)) hx hb hr (fun t ht hW => ⟨⟨(-1000000), (), rfl, rfl, trivial⟩, hS.F ht⟩) hS.2.2 dX11_flow_38
  · exact absurd c_2 (by decide)

set_option maxHeartbeats 4000000 in
set_option maxRecDepth 100000 in
theorem c_X11_between (l : Launch) (D : va_G) (cy : Nat → ClassId) (sz : Nat) (xo : Nat) (xk : Nat) (xn : Nat) (xc : Nat) (xh : Nat) (xt : Nat) (xw : Nat) (xm : Nat) (xp : Nat) (n1 : Nat) (n2 : Nat) (n3 : Nat) (n4 : Nat) (n5 : Nat) (a1 : Int32) (a2 : Int32) : Met l yX11_between wsX11_between ({ frames := 1, cells := 0, slots := 0, locals := 22 }) (va_Pc [.ref xo, .int a1, .int a2] (fun U => U.heap.size = sz ∧ va_P D vwCl [(xo, .inr (11, [.ref xk, .ref xn, .ref xc, .ref xh, .ref xt, .ref xw, .ref xm, .ref xp, .int 0, .int 0, .long 0, .int 0])), (xn, .inr (3, [.int 0, .int 0, .ref n1, .ref n2, .ref n3, .ref n4, .ref n5]))] U.heap ∧ kk_ D cy U ∧ va_D (fun _ => True) [(xo, .inr (11, [.ref xk, .ref xn, .ref xc, .ref xh, .ref xt, .ref xw, .ref xm, .ref xp, .int 0, .int 0, .long 0, .int 0])), (xn, .inr (3, [.int 0, .int 0, .ref n1, .ref n2, .ref n3, .ref n4, .ref n5]))])) (va_Qi (fun (r : Int32) (_ : Unit) => r = (-2)) (fun (_ : Unit) (_ : State) => True) (va_A [] sz)) 0 0 (va_A [] sz) := by
  refine Met.ofW (cc := cX11_between) (maxL := 3) (ret := (some .int)) (by decide) rfl ?_
  intro p e s m args below meth c s₁ B hml hv
  obtain ⟨rfl, hsz, hP, hK, hD0⟩ := hv
  have hx := B.exec
  have hb := B.bytes
  have hr := B.returns
  have hts := atoms_spec (ws := wsX11_between) B.pre
  have hown : s.vm.findClass RX11 = some m.cls := findClass_of_methodNamed B.named
  have hlocks := B.notSynchronized
  subst hsz
  have hD : va_D (va_A [] s.heap.size) [] := dd_nil
  generalize hAe : va_A [] s.heap.size = A at hD ⊢
  have hA : ∀ q : Nat, s.heap.size ≤ q → A q := fun q h => by rw [← hAe]; exact Or.inr h
  have hS : va_S A s.heap s.heap [] := va_S.rf
  have hl := lv_entry ([.ref xo, .int a1, .int a2]) (n := 3) (Nat.le_of_ble_eq_true rfl)
  rw [lg_entry_eq]
  generalize (lg_sl ([.ref xo, .int a1, .int a2]) ++ List.replicate (3 - (lg_sl ([.ref xo, .int a1, .int a2])).length) Slot.unset).toArray = ls at hl ⊢
  have hl : lv_has ls 3 [(0, .ref xo), (1, .int a1), (2, .int a2)] := hl
  refine lv_aload_n hx hb dX11_between_0 rfl (lv_at hl 0 rfl) ?_
  refine va_get (ci := 11) (v := .ref xn) (C := RX11) (T := TX11) (N := 12) hx hb hts (fun _ h => List.mem_cons_of_mem _ (List.mem_append_left _ (List.mem_append_left _ (List.mem_append_left _ (List.mem_append_right _ h))))) hown hK.1 hP 0 rfl rfl 1 (by decide) (hts (.fieldLink RX11 31 "CutAtlas" "net" "LCutAtlas$Net;") (by decide +kernel)) (fun _ h9 => h9) rfl dX11_between_1 ?_
  have hPc := hP.sub (ws' := [(xn, .inr (3, [.int 0, .int 0, .ref n1, .ref n2, .ref n3, .ref n4, .ref n5]))]) [1] rfl
  have hDw : va_D (fun _ => True) [(xn, .inr (3, [.int 0, .int 0, .ref n1, .ref n2, .ref n3, .ref n4, .ref n5]))] := hD0.sub [1] (by decide) rfl
  have hFc := va_free (wc := []) hD hS hA [] rfl
  refine va_calli (va_runV (As := []) (rest := []) ⟨hx, hb, hml, hown, hts⟩ (c_X3_isWhole l D cy s.heap.size xn n1 n2 n3 n4 n5) (cwV 0 hts gX11_between_X3_isWhole rfl rfl rfl (by decide +kernel) ⟨Nat.le_of_ble_eq_true rfl, Nat.le_of_ble_eq_true rfl⟩) ⟨bl_, va_recv hK.1 hPc (ci := 3) (q0 := 0) rfl rfl, fun U hU hW => ⟨rfl, by rw [hU], by rw [hU]; exact hPc, kk_mv hW hK, hDw⟩⟩ rfl rfl hl.1 rfl (lv_room (Nat.le_of_ble_eq_true rfl)) dX11_between_4 ⟨Nat.le_of_ble_eq_true rfl, Nat.le_of_ble_eq_true rfl⟩) hS (fun q _ h => hFc q h) hFc (fun r_1 u t H locs ht hvm hw hB hz1 hk1 hS => ?_)
  have hP := ro_keep hP hk1
  have hP : va_P D vwCl [(xo, .inr (11, [.ref xk, .ref xn, .ref xc, .ref xh, .ref xt, .ref xw, .ref xm, .ref xp, .int 0, .int 0, .long 0, .int 0])), (xn, .inr (3, [.int 0, .int 0, .ref n1, .ref n2, .ref n3, .ref n4, .ref n5]))] H := hP
  have e_ := hw.symm
  subst e_
  refine lv_if_ne (tgt := 13) hx hb dX11_between_7 (by decide) (fun c_2 => ?_) (fun c_2 => ?_)
  · exact absurd c_2 (by decide)
  · have _ := c_2
    refine lv_bipush (v := (-2)) hx hb dX11_between_10 (by decide) ?_
    exact W.iret (v := (-2)) hx hb hr (fun t ht hW => ⟨⟨(-2), (), rfl, rfl, trivial⟩, hS.F ht⟩) hS.2.2 dX11_between_12

set_option maxHeartbeats 4000000 in
set_option maxRecDepth 100000 in
theorem c_X11_least (l : Launch) (D : va_G) (cy : Nat → ClassId) (sz : Nat) (xo : Nat) (xk : Nat) (xn : Nat) (xc : Nat) (xh : Nat) (xt : Nat) (xw : Nat) (xm : Nat) (xp : Nat) (n1 : Nat) (n2 : Nat) (n3 : Nat) (n4 : Nat) (n5 : Nat) : Met l yX11_least wsX11_least ({ frames := 1, cells := 0, slots := 0, locals := 22 }) (va_Pc [.ref xo] (fun U => U.heap.size = sz ∧ va_P D vwCl [(xo, .inr (11, [.ref xk, .ref xn, .ref xc, .ref xh, .ref xt, .ref xw, .ref xm, .ref xp, .int 0, .int 0, .long 0, .int 0])), (xn, .inr (3, [.int 0, .int 0, .ref n1, .ref n2, .ref n3, .ref n4, .ref n5]))] U.heap ∧ kk_ D cy U ∧ va_D (fun _ => True) [(xo, .inr (11, [.ref xk, .ref xn, .ref xc, .ref xh, .ref xt, .ref xw, .ref xm, .ref xp, .int 0, .int 0, .long 0, .int 0])), (xn, .inr (3, [.int 0, .int 0, .ref n1, .ref n2, .ref n3, .ref n4, .ref n5]))])) (va_Qi (fun (r : Int32) (_ : Unit) => r = (-2)) (fun (_ : Unit) (_ : State) => True) (va_A [] sz)) 0 0 (va_A [] sz) := by
  refine Met.ofW (cc := cX11_least) (maxL := 1) (ret := (some .int)) (by decide) rfl ?_
  intro p e s m args below meth c s₁ B hml hv
  obtain ⟨rfl, hsz, hP, hK, hD0⟩ := hv
  have hx := B.exec
  have hb := B.bytes
  have hr := B.returns
  have hts := atoms_spec (ws := wsX11_least) B.pre
  have hown : s.vm.findClass RX11 = some m.cls := findClass_of_methodNamed B.named
  have hlocks := B.notSynchronized
  subst hsz
  have hD : va_D (va_A [] s.heap.size) [] := dd_nil
  generalize hAe : va_A [] s.heap.size = A at hD ⊢
  have hA : ∀ q : Nat, s.heap.size ≤ q → A q := fun q h => by rw [← hAe]; exact Or.inr h
  have hS : va_S A s.heap s.heap [] := va_S.rf
  have hl := lv_entry ([.ref xo]) (n := 1) (Nat.le_of_ble_eq_true rfl)
  rw [lg_entry_eq]
  generalize (lg_sl ([.ref xo]) ++ List.replicate (1 - (lg_sl ([.ref xo])).length) Slot.unset).toArray = ls at hl ⊢
  have hl : lv_has ls 1 [(0, .ref xo)] := hl
  refine lv_aload_n hx hb dX11_least_0 rfl (lv_at hl 0 rfl) ?_
  refine va_get (ci := 11) (v := .ref xn) (C := RX11) (T := TX11) (N := 12) hx hb hts (fun _ h => List.mem_cons_of_mem _ (List.mem_append_left _ (List.mem_append_left _ (List.mem_append_left _ (List.mem_append_right _ h))))) hown hK.1 hP 0 rfl rfl 1 (by decide) (hts (.fieldLink RX11 31 "CutAtlas" "net" "LCutAtlas$Net;") (by decide +kernel)) (fun _ h9 => h9) rfl dX11_least_1 ?_
  have hPc := hP.sub (ws' := [(xn, .inr (3, [.int 0, .int 0, .ref n1, .ref n2, .ref n3, .ref n4, .ref n5]))]) [1] rfl
  have hDw : va_D (fun _ => True) [(xn, .inr (3, [.int 0, .int 0, .ref n1, .ref n2, .ref n3, .ref n4, .ref n5]))] := hD0.sub [1] (by decide) rfl
  have hFc := va_free (wc := []) hD hS hA [] rfl
  refine va_calli (va_runV (As := []) (rest := []) ⟨hx, hb, hml, hown, hts⟩ (c_X3_isWhole l D cy s.heap.size xn n1 n2 n3 n4 n5) (cwV 0 hts gX11_least_X3_isWhole rfl rfl rfl (by decide +kernel) ⟨Nat.le_of_ble_eq_true rfl, Nat.le_of_ble_eq_true rfl⟩) ⟨bl_, va_recv hK.1 hPc (ci := 3) (q0 := 0) rfl rfl, fun U hU hW => ⟨rfl, by rw [hU], by rw [hU]; exact hPc, kk_mv hW hK, hDw⟩⟩ rfl rfl hl.1 rfl (lv_room (Nat.le_of_ble_eq_true rfl)) dX11_least_4 ⟨Nat.le_of_ble_eq_true rfl, Nat.le_of_ble_eq_true rfl⟩) hS (fun q _ h => hFc q h) hFc (fun r_1 u t H locs ht hvm hw hB hz1 hk1 hS => ?_)
  have hP := ro_keep hP hk1
  have hP : va_P D vwCl [(xo, .inr (11, [.ref xk, .ref xn, .ref xc, .ref xh, .ref xt, .ref xw, .ref xm, .ref xp, .int 0, .int 0, .long 0, .int 0])), (xn, .inr (3, [.int 0, .int 0, .ref n1, .ref n2, .ref n3, .ref n4, .ref n5]))] H := hP
  have e_ := hw.symm
  subst e_
  refine lv_if_ne (tgt := 13) hx hb dX11_least_7 (by decide) (fun c_2 => ?_) (fun c_2 => ?_)
  · exact absurd c_2 (by decide)
  · have _ := c_2
    refine lv_bipush (v := (-2)) hx hb dX11_least_10 (by decide) ?_
    exact W.iret (v := (-2)) hx hb hr (fun t ht hW => ⟨⟨(-2), (), rfl, rfl, trivial⟩, hS.F ht⟩) hS.2.2 dX11_least_12

set_option maxHeartbeats 4000000 in
set_option maxRecDepth 100000 in
theorem c_X11_cuts (l : Launch) (D : va_G) (cy : Nat → ClassId) (sz : Nat) (xo : Nat) (xk : Nat) (xn : Nat) (xc : Nat) (xh : Nat) (xt : Nat) (xw : Nat) (xm : Nat) (xp : Nat) (n1 : Nat) (n2 : Nat) (n3 : Nat) (n4 : Nat) (n5 : Nat) : Met l yX11_cuts wsX11_cuts ({ frames := 1, cells := 0, slots := 0, locals := 22 }) (va_Pc [.ref xo] (fun U => U.heap.size = sz ∧ va_P D vwCl [(xo, .inr (11, [.ref xk, .ref xn, .ref xc, .ref xh, .ref xt, .ref xw, .ref xm, .ref xp, .int 0, .int 0, .long 0, .int 0])), (xn, .inr (3, [.int 0, .int 0, .ref n1, .ref n2, .ref n3, .ref n4, .ref n5]))] U.heap ∧ kk_ D cy U ∧ va_D (fun _ => True) [(xo, .inr (11, [.ref xk, .ref xn, .ref xc, .ref xh, .ref xt, .ref xw, .ref xm, .ref xp, .int 0, .int 0, .long 0, .int 0])), (xn, .inr (3, [.int 0, .int 0, .ref n1, .ref n2, .ref n3, .ref n4, .ref n5]))])) (va_Qi (fun (r : Int32) (_ : Unit) => r = (-2)) (fun (_ : Unit) (_ : State) => True) (va_A [] sz)) 0 0 (va_A [] sz) := by
  refine Met.ofW (cc := cX11_cuts) (maxL := 1) (ret := (some .int)) (by decide) rfl ?_
  intro p e s m args below meth c s₁ B hml hv
  obtain ⟨rfl, hsz, hP, hK, hD0⟩ := hv
  have hx := B.exec
  have hb := B.bytes
  have hr := B.returns
  have hts := atoms_spec (ws := wsX11_cuts) B.pre
  have hown : s.vm.findClass RX11 = some m.cls := findClass_of_methodNamed B.named
  have hlocks := B.notSynchronized
  subst hsz
  have hD : va_D (va_A [] s.heap.size) [] := dd_nil
  generalize hAe : va_A [] s.heap.size = A at hD ⊢
  have hA : ∀ q : Nat, s.heap.size ≤ q → A q := fun q h => by rw [← hAe]; exact Or.inr h
  have hS : va_S A s.heap s.heap [] := va_S.rf
  have hl := lv_entry ([.ref xo]) (n := 1) (Nat.le_of_ble_eq_true rfl)
  rw [lg_entry_eq]
  generalize (lg_sl ([.ref xo]) ++ List.replicate (1 - (lg_sl ([.ref xo])).length) Slot.unset).toArray = ls at hl ⊢
  have hl : lv_has ls 1 [(0, .ref xo)] := hl
  refine lv_aload_n hx hb dX11_cuts_0 rfl (lv_at hl 0 rfl) ?_
  refine va_get (ci := 11) (v := .ref xn) (C := RX11) (T := TX11) (N := 12) hx hb hts (fun _ h => List.mem_cons_of_mem _ (List.mem_append_left _ (List.mem_append_left _ (List.mem_append_left _ (List.mem_append_left _ (List.mem_append_right _ h)))))) hown hK.1 hP 0 rfl rfl 1 (by decide) (hts (.fieldLink RX11 31 "CutAtlas" "net" "LCutAtlas$Net;") (by decide +kernel)) (fun _ h9 => h9) rfl dX11_cuts_1 ?_
  have hPc := hP.sub (ws' := [(xn, .inr (3, [.int 0, .int 0, .ref n1, .ref n2, .ref n3, .ref n4, .ref n5]))]) [1] rfl
  have hDw : va_D (fun _ => True) [(xn, .inr (3, [.int 0, .int 0, .ref n1, .ref n2, .ref n3, .ref n4, .ref n5]))] := hD0.sub [1] (by decide) rfl
  have hFc := va_free (wc := []) hD hS hA [] rfl
  refine va_calli (va_runV (As := []) (rest := []) ⟨hx, hb, hml, hown, hts⟩ (c_X3_isWhole l D cy s.heap.size xn n1 n2 n3 n4 n5) (cwV 0 hts gX11_cuts_X3_isWhole rfl rfl rfl (by decide +kernel) ⟨Nat.le_of_ble_eq_true rfl, Nat.le_of_ble_eq_true rfl⟩) ⟨bl_, va_recv hK.1 hPc (ci := 3) (q0 := 0) rfl rfl, fun U hU hW => ⟨rfl, by rw [hU], by rw [hU]; exact hPc, kk_mv hW hK, hDw⟩⟩ rfl rfl hl.1 rfl (lv_room (Nat.le_of_ble_eq_true rfl)) dX11_cuts_4 ⟨Nat.le_of_ble_eq_true rfl, Nat.le_of_ble_eq_true rfl⟩) hS (fun q _ h => hFc q h) hFc (fun r_1 u t H locs ht hvm hw hB hz1 hk1 hS => ?_)
  have hP := ro_keep hP hk1
  have hP : va_P D vwCl [(xo, .inr (11, [.ref xk, .ref xn, .ref xc, .ref xh, .ref xt, .ref xw, .ref xm, .ref xp, .int 0, .int 0, .long 0, .int 0])), (xn, .inr (3, [.int 0, .int 0, .ref n1, .ref n2, .ref n3, .ref n4, .ref n5]))] H := hP
  have e_ := hw.symm
  subst e_
  refine lv_if_ne (tgt := 13) hx hb dX11_cuts_7 (by decide) (fun c_2 => ?_) (fun c_2 => ?_)
  · exact absurd c_2 (by decide)
  · have _ := c_2
    refine lv_bipush (v := (-2)) hx hb dX11_cuts_10 (by decide) ?_
    exact W.iret (v := (-2)) hx hb hr (fun t ht hW => ⟨⟨(-2), (), rfl, rfl, trivial⟩, hS.F ht⟩) hS.2.2 dX11_cuts_12

set_option maxHeartbeats 4000000 in
set_option maxRecDepth 100000 in
theorem c_X11_undo (l : Launch) (D : va_G) (cy : Nat → ClassId) (sz : Nat) (xo : Nat) (xk : Nat) (xn : Nat) (xc : Nat) (xh : Nat) (xt : Nat) (xw : Nat) (xm : Nat) (xp : Nat) (n1 : Nat) (n2 : Nat) (n3 : Nat) (n4 : Nat) (n5 : Nat) : Met l yX11_undo wsX11_undo ({ frames := 0, cells := 0, slots := 0, locals := 0 }) (va_Pc [.ref xo] (fun U => U.heap.size = sz ∧ va_P D vwCl [(xo, .inr (11, [.ref xk, .ref xn, .ref xc, .ref xh, .ref xt, .ref xw, .ref xm, .ref xp, .int 0, .int 0, .long 0, .int 0])), (xn, .inr (3, [.int 0, .int 0, .ref n1, .ref n2, .ref n3, .ref n4, .ref n5]))] U.heap ∧ kk_ D cy U ∧ va_D (fun _ => True) [(xo, .inr (11, [.ref xk, .ref xn, .ref xc, .ref xh, .ref xt, .ref xw, .ref xm, .ref xp, .int 0, .int 0, .long 0, .int 0])), (xn, .inr (3, [.int 0, .int 0, .ref n1, .ref n2, .ref n3, .ref n4, .ref n5]))])) (va_Qi (fun (r : Int32) (_ : Unit) => r = (-2)) (fun (_ : Unit) (_ : State) => True) (va_A [] sz)) 0 0 (va_A [] sz) := by
  refine Met.ofW (cc := cX11_undo) (maxL := 2) (ret := (some .int)) (by decide) rfl ?_
  intro p e s m args below meth c s₁ B hml hv
  obtain ⟨rfl, hsz, hP, hK, hD0⟩ := hv
  have hx := B.exec
  have hb := B.bytes
  have hr := B.returns
  have hts := atoms_spec (ws := wsX11_undo) B.pre
  have hown : s.vm.findClass RX11 = some m.cls := findClass_of_methodNamed B.named
  have hlocks := B.notSynchronized
  subst hsz
  have hD : va_D (va_A [] s.heap.size) [] := dd_nil
  generalize hAe : va_A [] s.heap.size = A at hD ⊢
  have hA : ∀ q : Nat, s.heap.size ≤ q → A q := fun q h => by rw [← hAe]; exact Or.inr h
  have hS : va_S A s.heap s.heap [] := va_S.rf
  have hl := lv_entry ([.ref xo]) (n := 2) (Nat.le_of_ble_eq_true rfl)
  rw [lg_entry_eq]
  generalize (lg_sl ([.ref xo]) ++ List.replicate (2 - (lg_sl ([.ref xo])).length) Slot.unset).toArray = ls at hl ⊢
  have hl : lv_has ls 2 [(0, .ref xo)] := hl
  refine lv_aload_n hx hb dX11_undo_0 rfl (lv_at hl 0 rfl) ?_
  refine va_get (ci := 11) (v := .int 0) (C := RX11) (T := TX11) (N := 12) hx hb hts (fun _ h => List.mem_cons_of_mem _ (List.mem_append_left _ (List.mem_append_right _ h))) hown hK.1 hP 0 rfl rfl 9 (by decide) (hts (.fieldLink RX11 84 "CutAtlas" "pastHeld" "I") (by decide +kernel)) (fun _ h9 => h9) rfl dX11_undo_1 ?_
  refine lv_if_ne (tgt := 10) hx hb dX11_undo_4 (by decide) (fun c_1 => ?_) (fun c_1 => ?_)
  · exact absurd c_1 (by decide)
  · have _ := c_1
    refine lv_bipush (v := (-2)) hx hb dX11_undo_7 (by decide) ?_
    exact W.iret (v := (-2)) hx hb hr (fun t ht hW => ⟨⟨(-2), (), rfl, rfl, trivial⟩, hS.F ht⟩) hS.2.2 dX11_undo_9

set_option maxHeartbeats 4000000 in
set_option maxRecDepth 100000 in
theorem c_X11_trace (l : Launch) (D : va_G) (cy : Nat → ClassId) (sz : Nat) (xo : Nat) (xk : Nat) (xn : Nat) (xc : Nat) (xh : Nat) (xt : Nat) (xw : Nat) (xm : Nat) (xp : Nat) (n1 : Nat) (n2 : Nat) (n3 : Nat) (n4 : Nat) (n5 : Nat) : Met l yX11_trace wsX11_trace ({ frames := 0, cells := 0, slots := 0, locals := 0 }) (va_Pc [.ref xo] (fun U => U.heap.size = sz ∧ va_P D vwCl [(xo, .inr (11, [.ref xk, .ref xn, .ref xc, .ref xh, .ref xt, .ref xw, .ref xm, .ref xp, .int 0, .int 0, .long 0, .int 0])), (xn, .inr (3, [.int 0, .int 0, .ref n1, .ref n2, .ref n3, .ref n4, .ref n5]))] U.heap ∧ kk_ D cy U ∧ va_D (fun _ => True) [(xo, .inr (11, [.ref xk, .ref xn, .ref xc, .ref xh, .ref xt, .ref xw, .ref xm, .ref xp, .int 0, .int 0, .long 0, .int 0])), (xn, .inr (3, [.int 0, .int 0, .ref n1, .ref n2, .ref n3, .ref n4, .ref n5]))])) (va_Ql (fun (r : Int64) (_ : Unit) => r = 0) (fun (_ : Unit) (_ : State) => True) (va_A [] sz)) 0 0 (va_A [] sz) := by
  refine Met.ofW (cc := cX11_trace) (maxL := 1) (ret := (some .long)) (by decide) rfl ?_
  intro p e s m args below meth c s₁ B hml hv
  obtain ⟨rfl, hsz, hP, hK, hD0⟩ := hv
  have hx := B.exec
  have hb := B.bytes
  have hr := B.returns
  have hts := atoms_spec (ws := wsX11_trace) B.pre
  have hown : s.vm.findClass RX11 = some m.cls := findClass_of_methodNamed B.named
  have hlocks := B.notSynchronized
  subst hsz
  have hD : va_D (va_A [] s.heap.size) [] := dd_nil
  generalize hAe : va_A [] s.heap.size = A at hD ⊢
  have hA : ∀ q : Nat, s.heap.size ≤ q → A q := fun q h => by rw [← hAe]; exact Or.inr h
  have hS : va_S A s.heap s.heap [] := va_S.rf
  have hl := lv_entry ([.ref xo]) (n := 1) (Nat.le_of_ble_eq_true rfl)
  rw [lg_entry_eq]
  generalize (lg_sl ([.ref xo]) ++ List.replicate (1 - (lg_sl ([.ref xo])).length) Slot.unset).toArray = ls at hl ⊢
  have hl : lv_has ls 1 [(0, .ref xo)] := hl
  refine lv_aload_n hx hb dX11_trace_0 rfl (lv_at hl 0 rfl) ?_
  refine va_get (ci := 11) (v := .long 0) (C := RX11) (T := TX11) (N := 12) hx hb hts (fun _ h => List.mem_cons_of_mem _ (List.mem_append_right _ h)) hown hK.1 hP 0 rfl rfl 10 (by decide) (hts (.fieldLink RX11 87 "CutAtlas" "traced" "J") (by decide +kernel)) (fun _ h9 => h9) rfl dX11_trace_1 ?_
  exact W.lret (v := 0) hx hb hr (fun t ht hW => ⟨⟨0, (), rfl, rfl, trivial⟩, hS.F ht⟩) hS.2.2 dX11_trace_4

set_option maxHeartbeats 4000000 in
set_option maxRecDepth 100000 in
theorem c_X11_status (l : Launch) (D : va_G) (cy : Nat → ClassId) (sz : Nat) (xo : Nat) (xk : Nat) (xn : Nat) (xc : Nat) (xh : Nat) (xt : Nat) (xw : Nat) (xm : Nat) (xp : Nat) (n1 : Nat) (n2 : Nat) (n3 : Nat) (n4 : Nat) (n5 : Nat) : Met l yX11_status wsX11_status ({ frames := 0, cells := 0, slots := 0, locals := 0 }) (va_Pc [.ref xo] (fun U => U.heap.size = sz ∧ va_P D vwCl [(xo, .inr (11, [.ref xk, .ref xn, .ref xc, .ref xh, .ref xt, .ref xw, .ref xm, .ref xp, .int 0, .int 0, .long 0, .int 0])), (xn, .inr (3, [.int 0, .int 0, .ref n1, .ref n2, .ref n3, .ref n4, .ref n5]))] U.heap ∧ kk_ D cy U ∧ va_D (fun _ => True) [(xo, .inr (11, [.ref xk, .ref xn, .ref xc, .ref xh, .ref xt, .ref xw, .ref xm, .ref xp, .int 0, .int 0, .long 0, .int 0])), (xn, .inr (3, [.int 0, .int 0, .ref n1, .ref n2, .ref n3, .ref n4, .ref n5]))])) (va_Qi (fun (r : Int32) (_ : Unit) => r = 0) (fun (_ : Unit) (_ : State) => True) (va_A [] sz)) 0 0 (va_A [] sz) := by
  refine Met.ofW (cc := cX11_status) (maxL := 1) (ret := (some .int)) (by decide) rfl ?_
  intro p e s m args below meth c s₁ B hml hv
  obtain ⟨rfl, hsz, hP, hK, hD0⟩ := hv
  have hx := B.exec
  have hb := B.bytes
  have hr := B.returns
  have hts := atoms_spec (ws := wsX11_status) B.pre
  have hown : s.vm.findClass RX11 = some m.cls := findClass_of_methodNamed B.named
  have hlocks := B.notSynchronized
  subst hsz
  have hD : va_D (va_A [] s.heap.size) [] := dd_nil
  generalize hAe : va_A [] s.heap.size = A at hD ⊢
  have hA : ∀ q : Nat, s.heap.size ≤ q → A q := fun q h => by rw [← hAe]; exact Or.inr h
  have hS : va_S A s.heap s.heap [] := va_S.rf
  have hl := lv_entry ([.ref xo]) (n := 1) (Nat.le_of_ble_eq_true rfl)
  rw [lg_entry_eq]
  generalize (lg_sl ([.ref xo]) ++ List.replicate (1 - (lg_sl ([.ref xo])).length) Slot.unset).toArray = ls at hl ⊢
  have hl : lv_has ls 1 [(0, .ref xo)] := hl
  refine lv_aload_n hx hb dX11_status_0 rfl (lv_at hl 0 rfl) ?_
  refine va_get (ci := 11) (v := .int 0) (C := RX11) (T := TX11) (N := 12) hx hb hts (fun _ h => List.mem_cons_of_mem _ (List.mem_append_right _ h)) hown hK.1 hP 0 rfl rfl 11 (by decide) (hts (.fieldLink RX11 91 "CutAtlas" "finding" "I") (by decide +kernel)) (fun _ h9 => h9) rfl dX11_status_1 ?_
  exact W.iret (v := 0) hx hb hr (fun t ht hW => ⟨⟨0, (), rfl, rfl, trivial⟩, hS.F ht⟩) hS.2.2 dX11_status_4
end
section
set_option maxHeartbeats 4000000 in
set_option maxRecDepth 100000 in
theorem c_X11_tree (l : Launch) (D : va_G) (cy : Nat → ClassId) (sz : Nat) (xo : Nat) (xk : Nat) (xn : Nat) (xc : Nat) (xh : Nat) (xt : Nat) (xw : Nat) (xm : Nat) (xp : Nat) (n1 : Nat) (n2 : Nat) (n3 : Nat) (n4 : Nat) (n5 : Nat) (a1 : Int32) (a2 : Int32) : Met l yX11_tree wsX11_tree ({ frames := 1, cells := 0, slots := 0, locals := 22 }) (va_Pc [.ref xo, .int a1, .int a2] (fun U => U.heap.size = sz ∧ va_P D vwCl [(xo, .inr (11, [.ref xk, .ref xn, .ref xc, .ref xh, .ref xt, .ref xw, .ref xm, .ref xp, .int 0, .int 0, .long 0, .int 0])), (xn, .inr (3, [.int 0, .int 0, .ref n1, .ref n2, .ref n3, .ref n4, .ref n5]))] U.heap ∧ kk_ D cy U ∧ va_D (fun _ => True) [(xo, .inr (11, [.ref xk, .ref xn, .ref xc, .ref xh, .ref xt, .ref xw, .ref xm, .ref xp, .int 0, .int 0, .long 0, .int 0])), (xn, .inr (3, [.int 0, .int 0, .ref n1, .ref n2, .ref n3, .ref n4, .ref n5]))])) (va_Qi (fun (r : Int32) (_ : Unit) => ((¬ (0 ≤ a2.toInt ∧ a2.toInt ≤ 1)) ∧ r = (-1)) ∨ ((0 ≤ a2.toInt ∧ a2.toInt ≤ 1) ∧ r = (-2))) (fun (_ : Unit) (_ : State) => True) (va_A [] sz)) 0 0 (va_A [] sz) := by
  refine Met.ofW (cc := cX11_tree) (maxL := 3) (ret := (some .int)) (by decide) rfl ?_
  intro p e s m args below meth c s₁ B hml hv
  obtain ⟨rfl, hsz, hP, hK, hD0⟩ := hv
  have hx := B.exec
  have hb := B.bytes
  have hr := B.returns
  have hts := atoms_spec (ws := wsX11_tree) B.pre
  have hown : s.vm.findClass RX11 = some m.cls := findClass_of_methodNamed B.named
  have hlocks := B.notSynchronized
  subst hsz
  have hD : va_D (va_A [] s.heap.size) [] := dd_nil
  generalize hAe : va_A [] s.heap.size = A at hD ⊢
  have hA : ∀ q : Nat, s.heap.size ≤ q → A q := fun q h => by rw [← hAe]; exact Or.inr h
  have hS : va_S A s.heap s.heap [] := va_S.rf
  have hl := lv_entry ([.ref xo, .int a1, .int a2]) (n := 3) (Nat.le_of_ble_eq_true rfl)
  rw [lg_entry_eq]
  generalize (lg_sl ([.ref xo, .int a1, .int a2]) ++ List.replicate (3 - (lg_sl ([.ref xo, .int a1, .int a2])).length) Slot.unset).toArray = ls at hl ⊢
  have hl : lv_has ls 3 [(0, .ref xo), (1, .int a1), (2, .int a2)] := hl
  have z0 : (0 : Int32).toInt = 0 := by decide
  have z1 : (1 : Int32).toInt = 1 := by decide
  refine lv_iload_n hx hb dX11_tree_0 rfl (lv_at hl 2 rfl) ?_
  refine lv_if_lt (tgt := 9) hx hb dX11_tree_1 (by decide) (fun c_1 => ?_) (fun c_1 => ?_)
  · have t_1 : a2.toInt < (0 : Int32).toInt := Int32.lt_iff_toInt_lt.mp c_1
    refine lv_iconst (v := (-1)) hx hb dX11_tree_9 (by decide) ?_
    exact W.iret (v := (-1)) hx hb hr (fun t ht hW => ⟨⟨(-1), (), rfl, Or.inl (⟨by omega, rfl⟩), trivial⟩, hS.F ht⟩) hS.2.2 dX11_tree_10
  · have t_1 : ¬ a2.toInt < (0 : Int32).toInt := fun h => c_1 (Int32.lt_iff_toInt_lt.mpr h)
    refine lv_iload_n hx hb dX11_tree_4 rfl (lv_at hl 2 rfl) ?_
    refine lv_iconst (v := 1) hx hb dX11_tree_5 (by decide) ?_
    refine lv_icmp_le (tgt := 11) hx hb dX11_tree_6 (by decide) (fun c_2 => ?_) (fun c_2 => ?_)
    · have t_2 : a2.toInt ≤ (1 : Int32).toInt := Int32.le_iff_toInt_le.mp c_2
      refine lv_aload_n hx hb dX11_tree_11 rfl (lv_at hl 0 rfl) ?_
      refine va_get (ci := 11) (v := .ref xn) (C := RX11) (T := TX11) (N := 12) hx hb hts (fun _ h => List.mem_cons_of_mem _ (List.mem_append_left _ (List.mem_append_left _ (List.mem_append_left _ (List.mem_append_right _ h))))) hown hK.1 hP 0 rfl rfl 1 (by decide) (hts (.fieldLink RX11 31 "CutAtlas" "net" "LCutAtlas$Net;") (by decide +kernel)) (fun _ h9 => h9) rfl dX11_tree_12 ?_
      have hPc := hP.sub (ws' := [(xn, .inr (3, [.int 0, .int 0, .ref n1, .ref n2, .ref n3, .ref n4, .ref n5]))]) [1] rfl
      have hDw : va_D (fun _ => True) [(xn, .inr (3, [.int 0, .int 0, .ref n1, .ref n2, .ref n3, .ref n4, .ref n5]))] := hD0.sub [1] (by decide) rfl
      have hFc := va_free (wc := []) hD hS hA [] rfl
      refine va_calli (va_runV (As := []) (rest := []) ⟨hx, hb, hml, hown, hts⟩ (c_X3_isWhole l D cy s.heap.size xn n1 n2 n3 n4 n5) (cwV 0 hts gX11_tree_X3_isWhole rfl rfl rfl (by decide +kernel) ⟨Nat.le_of_ble_eq_true rfl, Nat.le_of_ble_eq_true rfl⟩) ⟨bl_, va_recv hK.1 hPc (ci := 3) (q0 := 0) rfl rfl, fun U hU hW => ⟨rfl, by rw [hU], by rw [hU]; exact hPc, kk_mv hW hK, hDw⟩⟩ rfl rfl hl.1 rfl (lv_room (Nat.le_of_ble_eq_true rfl)) dX11_tree_15 ⟨Nat.le_of_ble_eq_true rfl, Nat.le_of_ble_eq_true rfl⟩) hS (fun q _ h => hFc q h) hFc (fun r_3 u t H locs ht hvm hw hB hz1 hk1 hS => ?_)
      have hP := ro_keep hP hk1
      have hP : va_P D vwCl [(xo, .inr (11, [.ref xk, .ref xn, .ref xc, .ref xh, .ref xt, .ref xw, .ref xm, .ref xp, .int 0, .int 0, .long 0, .int 0])), (xn, .inr (3, [.int 0, .int 0, .ref n1, .ref n2, .ref n3, .ref n4, .ref n5]))] H := hP
      have e_ := hw.symm
      subst e_
      refine lv_if_ne (tgt := 24) hx hb dX11_tree_18 (by decide) (fun c_4 => ?_) (fun c_4 => ?_)
      · exact absurd c_4 (by decide)
      · have _ := c_4
        refine lv_bipush (v := (-2)) hx hb dX11_tree_21 (by decide) ?_
        exact W.iret (v := (-2)) hx hb hr (fun t ht hW => ⟨⟨(-2), (), rfl, Or.inr (⟨by omega, rfl⟩), trivial⟩, hS.F ht⟩) hS.2.2 dX11_tree_23
    · have t_2 : ¬ a2.toInt ≤ (1 : Int32).toInt := fun h => c_2 (Int32.le_iff_toInt_le.mpr h)
      refine lv_iconst (v := (-1)) hx hb dX11_tree_9 (by decide) ?_
      exact W.iret (v := (-1)) hx hb hr (fun t ht hW => ⟨⟨(-1), (), rfl, Or.inl (⟨by omega, rfl⟩), trivial⟩, hS.F ht⟩) hS.2.2 dX11_tree_10

set_option maxHeartbeats 4000000 in
set_option maxRecDepth 100000 in
theorem c_X11_cutAt (l : Launch) (D : va_G) (cy : Nat → ClassId) (sz : Nat) (xo : Nat) (xk : Nat) (xn : Nat) (xc : Nat) (xh : Nat) (xt : Nat) (xw : Nat) (xm : Nat) (xp : Nat) (n1 : Nat) (n2 : Nat) (n3 : Nat) (n4 : Nat) (n5 : Nat) (a1 : Int32) : Met l yX11_cutAt wsX11_cutAt ({ frames := 1, cells := 0, slots := 0, locals := 22 }) (va_Pc [.ref xo, .int a1] (fun U => U.heap.size = sz ∧ va_P D vwCl [(xo, .inr (11, [.ref xk, .ref xn, .ref xc, .ref xh, .ref xt, .ref xw, .ref xm, .ref xp, .int 0, .int 0, .long 0, .int 0])), (xn, .inr (3, [.int 0, .int 0, .ref n1, .ref n2, .ref n3, .ref n4, .ref n5]))] U.heap ∧ kk_ D cy U ∧ va_D (fun _ => True) [(xo, .inr (11, [.ref xk, .ref xn, .ref xc, .ref xh, .ref xt, .ref xw, .ref xm, .ref xp, .int 0, .int 0, .long 0, .int 0])), (xn, .inr (3, [.int 0, .int 0, .ref n1, .ref n2, .ref n3, .ref n4, .ref n5]))])) (va_Qi (fun (r : Int32) (_ : Unit) => ((a1.toInt < 0) ∧ r = (-1)) ∨ ((0 ≤ a1.toInt) ∧ r = (-2))) (fun (_ : Unit) (_ : State) => True) (va_A [] sz)) 0 0 (va_A [] sz) := by
  refine Met.ofW (cc := cX11_cutAt) (maxL := 2) (ret := (some .int)) (by decide) rfl ?_
  intro p e s m args below meth c s₁ B hml hv
  obtain ⟨rfl, hsz, hP, hK, hD0⟩ := hv
  have hx := B.exec
  have hb := B.bytes
  have hr := B.returns
  have hts := atoms_spec (ws := wsX11_cutAt) B.pre
  have hown : s.vm.findClass RX11 = some m.cls := findClass_of_methodNamed B.named
  have hlocks := B.notSynchronized
  subst hsz
  have hD : va_D (va_A [] s.heap.size) [] := dd_nil
  generalize hAe : va_A [] s.heap.size = A at hD ⊢
  have hA : ∀ q : Nat, s.heap.size ≤ q → A q := fun q h => by rw [← hAe]; exact Or.inr h
  have hS : va_S A s.heap s.heap [] := va_S.rf
  have hl := lv_entry ([.ref xo, .int a1]) (n := 2) (Nat.le_of_ble_eq_true rfl)
  rw [lg_entry_eq]
  generalize (lg_sl ([.ref xo, .int a1]) ++ List.replicate (2 - (lg_sl ([.ref xo, .int a1])).length) Slot.unset).toArray = ls at hl ⊢
  have hl : lv_has ls 2 [(0, .ref xo), (1, .int a1)] := hl
  have z0 : (0 : Int32).toInt = 0 := by decide
  refine lv_iload_n hx hb dX11_cutAt_0 rfl (lv_at hl 1 rfl) ?_
  refine lv_if_ge (tgt := 6) hx hb dX11_cutAt_1 (by decide) (fun c_1 => ?_) (fun c_1 => ?_)
  · have t_1 : (0 : Int32).toInt ≤ a1.toInt := Int32.le_iff_toInt_le.mp c_1
    refine lv_aload_n hx hb dX11_cutAt_6 rfl (lv_at hl 0 rfl) ?_
    refine va_get (ci := 11) (v := .ref xn) (C := RX11) (T := TX11) (N := 12) hx hb hts (fun _ h => List.mem_cons_of_mem _ (List.mem_append_left _ (List.mem_append_left _ (List.mem_append_left _ (List.mem_append_left _ (List.mem_append_right _ h)))))) hown hK.1 hP 0 rfl rfl 1 (by decide) (hts (.fieldLink RX11 31 "CutAtlas" "net" "LCutAtlas$Net;") (by decide +kernel)) (fun _ h9 => h9) rfl dX11_cutAt_7 ?_
    have hPc := hP.sub (ws' := [(xn, .inr (3, [.int 0, .int 0, .ref n1, .ref n2, .ref n3, .ref n4, .ref n5]))]) [1] rfl
    have hDw : va_D (fun _ => True) [(xn, .inr (3, [.int 0, .int 0, .ref n1, .ref n2, .ref n3, .ref n4, .ref n5]))] := hD0.sub [1] (by decide) rfl
    have hFc := va_free (wc := []) hD hS hA [] rfl
    refine va_calli (va_runV (As := []) (rest := []) ⟨hx, hb, hml, hown, hts⟩ (c_X3_isWhole l D cy s.heap.size xn n1 n2 n3 n4 n5) (cwV 0 hts gX11_cutAt_X3_isWhole rfl rfl rfl (by decide +kernel) ⟨Nat.le_of_ble_eq_true rfl, Nat.le_of_ble_eq_true rfl⟩) ⟨bl_, va_recv hK.1 hPc (ci := 3) (q0 := 0) rfl rfl, fun U hU hW => ⟨rfl, by rw [hU], by rw [hU]; exact hPc, kk_mv hW hK, hDw⟩⟩ rfl rfl hl.1 rfl (lv_room (Nat.le_of_ble_eq_true rfl)) dX11_cutAt_10 ⟨Nat.le_of_ble_eq_true rfl, Nat.le_of_ble_eq_true rfl⟩) hS (fun q _ h => hFc q h) hFc (fun r_2 u t H locs ht hvm hw hB hz1 hk1 hS => ?_)
    have hP := ro_keep hP hk1
    have hP : va_P D vwCl [(xo, .inr (11, [.ref xk, .ref xn, .ref xc, .ref xh, .ref xt, .ref xw, .ref xm, .ref xp, .int 0, .int 0, .long 0, .int 0])), (xn, .inr (3, [.int 0, .int 0, .ref n1, .ref n2, .ref n3, .ref n4, .ref n5]))] H := hP
    have e_ := hw.symm
    subst e_
    refine lv_if_ne (tgt := 19) hx hb dX11_cutAt_13 (by decide) (fun c_3 => ?_) (fun c_3 => ?_)
    · exact absurd c_3 (by decide)
    · have _ := c_3
      refine lv_bipush (v := (-2)) hx hb dX11_cutAt_16 (by decide) ?_
      exact W.iret (v := (-2)) hx hb hr (fun t ht hW => ⟨⟨(-2), (), rfl, Or.inr (⟨by omega, rfl⟩), trivial⟩, hS.F ht⟩) hS.2.2 dX11_cutAt_18
  · have t_1 : ¬ (0 : Int32).toInt ≤ a1.toInt := fun h => c_1 (Int32.le_iff_toInt_le.mpr h)
    refine lv_iconst (v := (-1)) hx hb dX11_cutAt_4 (by decide) ?_
    exact W.iret (v := (-1)) hx hb hr (fun t ht hW => ⟨⟨(-1), (), rfl, Or.inl (⟨by omega, rfl⟩), trivial⟩, hS.F ht⟩) hS.2.2 dX11_cutAt_5

set_option maxHeartbeats 4000000 in
set_option maxRecDepth 100000 in
theorem c_X11_part (l : Launch) (D : va_G) (cy : Nat → ClassId) (sz : Nat) (xo : Nat) (xk : Nat) (xn : Nat) (xc : Nat) (xh : Nat) (xt : Nat) (xw : Nat) (xm : Nat) (xp : Nat) (n1 : Nat) (n2 : Nat) (n3 : Nat) (n4 : Nat) (n5 : Nat) (a1 : Int32) (a2 : Int32) : Met l yX11_part wsX11_part ({ frames := 1, cells := 0, slots := 0, locals := 22 }) (va_Pc [.ref xo, .int a1, .int a2] (fun U => U.heap.size = sz ∧ va_P D vwCl [(xo, .inr (11, [.ref xk, .ref xn, .ref xc, .ref xh, .ref xt, .ref xw, .ref xm, .ref xp, .int 0, .int 0, .long 0, .int 0])), (xn, .inr (3, [.int 0, .int 0, .ref n1, .ref n2, .ref n3, .ref n4, .ref n5]))] U.heap ∧ kk_ D cy U ∧ va_D (fun _ => True) [(xo, .inr (11, [.ref xk, .ref xn, .ref xc, .ref xh, .ref xt, .ref xw, .ref xm, .ref xp, .int 0, .int 0, .long 0, .int 0])), (xn, .inr (3, [.int 0, .int 0, .ref n1, .ref n2, .ref n3, .ref n4, .ref n5]))])) (va_Qi (fun (r : Int32) (_ : Unit) => ((a1.toInt < 0) ∧ r = (-1)) ∨ ((0 ≤ a1.toInt) ∧ r = (-2))) (fun (_ : Unit) (_ : State) => True) (va_A [] sz)) 0 0 (va_A [] sz) := by
  refine Met.ofW (cc := cX11_part) (maxL := 3) (ret := (some .int)) (by decide) rfl ?_
  intro p e s m args below meth c s₁ B hml hv
  obtain ⟨rfl, hsz, hP, hK, hD0⟩ := hv
  have hx := B.exec
  have hb := B.bytes
  have hr := B.returns
  have hts := atoms_spec (ws := wsX11_part) B.pre
  have hown : s.vm.findClass RX11 = some m.cls := findClass_of_methodNamed B.named
  have hlocks := B.notSynchronized
  subst hsz
  have hD : va_D (va_A [] s.heap.size) [] := dd_nil
  generalize hAe : va_A [] s.heap.size = A at hD ⊢
  have hA : ∀ q : Nat, s.heap.size ≤ q → A q := fun q h => by rw [← hAe]; exact Or.inr h
  have hS : va_S A s.heap s.heap [] := va_S.rf
  have hl := lv_entry ([.ref xo, .int a1, .int a2]) (n := 3) (Nat.le_of_ble_eq_true rfl)
  rw [lg_entry_eq]
  generalize (lg_sl ([.ref xo, .int a1, .int a2]) ++ List.replicate (3 - (lg_sl ([.ref xo, .int a1, .int a2])).length) Slot.unset).toArray = ls at hl ⊢
  have hl : lv_has ls 3 [(0, .ref xo), (1, .int a1), (2, .int a2)] := hl
  have z0 : (0 : Int32).toInt = 0 := by decide
  refine lv_iload_n hx hb dX11_part_0 rfl (lv_at hl 1 rfl) ?_
  refine lv_if_ge (tgt := 6) hx hb dX11_part_1 (by decide) (fun c_1 => ?_) (fun c_1 => ?_)
  · have t_1 : (0 : Int32).toInt ≤ a1.toInt := Int32.le_iff_toInt_le.mp c_1
    refine lv_aload_n hx hb dX11_part_6 rfl (lv_at hl 0 rfl) ?_
    refine va_get (ci := 11) (v := .ref xn) (C := RX11) (T := TX11) (N := 12) hx hb hts (fun _ h => List.mem_cons_of_mem _ (List.mem_append_left _ (List.mem_append_left _ (List.mem_append_left _ (List.mem_append_right _ h))))) hown hK.1 hP 0 rfl rfl 1 (by decide) (hts (.fieldLink RX11 31 "CutAtlas" "net" "LCutAtlas$Net;") (by decide +kernel)) (fun _ h9 => h9) rfl dX11_part_7 ?_
    have hPc := hP.sub (ws' := [(xn, .inr (3, [.int 0, .int 0, .ref n1, .ref n2, .ref n3, .ref n4, .ref n5]))]) [1] rfl
    have hDw : va_D (fun _ => True) [(xn, .inr (3, [.int 0, .int 0, .ref n1, .ref n2, .ref n3, .ref n4, .ref n5]))] := hD0.sub [1] (by decide) rfl
    have hFc := va_free (wc := []) hD hS hA [] rfl
    refine va_calli (va_runV (As := []) (rest := []) ⟨hx, hb, hml, hown, hts⟩ (c_X3_isWhole l D cy s.heap.size xn n1 n2 n3 n4 n5) (cwV 0 hts gX11_part_X3_isWhole rfl rfl rfl (by decide +kernel) ⟨Nat.le_of_ble_eq_true rfl, Nat.le_of_ble_eq_true rfl⟩) ⟨bl_, va_recv hK.1 hPc (ci := 3) (q0 := 0) rfl rfl, fun U hU hW => ⟨rfl, by rw [hU], by rw [hU]; exact hPc, kk_mv hW hK, hDw⟩⟩ rfl rfl hl.1 rfl (lv_room (Nat.le_of_ble_eq_true rfl)) dX11_part_10 ⟨Nat.le_of_ble_eq_true rfl, Nat.le_of_ble_eq_true rfl⟩) hS (fun q _ h => hFc q h) hFc (fun r_2 u t H locs ht hvm hw hB hz1 hk1 hS => ?_)
    have hP := ro_keep hP hk1
    have hP : va_P D vwCl [(xo, .inr (11, [.ref xk, .ref xn, .ref xc, .ref xh, .ref xt, .ref xw, .ref xm, .ref xp, .int 0, .int 0, .long 0, .int 0])), (xn, .inr (3, [.int 0, .int 0, .ref n1, .ref n2, .ref n3, .ref n4, .ref n5]))] H := hP
    have e_ := hw.symm
    subst e_
    refine lv_if_ne (tgt := 19) hx hb dX11_part_13 (by decide) (fun c_3 => ?_) (fun c_3 => ?_)
    · exact absurd c_3 (by decide)
    · have _ := c_3
      refine lv_bipush (v := (-2)) hx hb dX11_part_16 (by decide) ?_
      exact W.iret (v := (-2)) hx hb hr (fun t ht hW => ⟨⟨(-2), (), rfl, Or.inr (⟨by omega, rfl⟩), trivial⟩, hS.F ht⟩) hS.2.2 dX11_part_18
  · have t_1 : ¬ (0 : Int32).toInt ≤ a1.toInt := fun h => c_1 (Int32.le_iff_toInt_le.mpr h)
    refine lv_iconst (v := (-1)) hx hb dX11_part_4 (by decide) ?_
    exact W.iret (v := (-1)) hx hb hr (fun t ht hW => ⟨⟨(-1), (), rfl, Or.inl (⟨by omega, rfl⟩), trivial⟩, hS.F ht⟩) hS.2.2 dX11_part_5

set_option maxHeartbeats 4000000 in
set_option maxRecDepth 100000 in
theorem c_X11_dense (l : Launch) (D : va_G) (cy : Nat → ClassId) (sz : Nat) (xo : Nat) (xk : Nat) (xn : Nat) (xc : Nat) (xh : Nat) (xt : Nat) (xw : Nat) (xm : Nat) (xp : Nat) (n1 : Nat) (n2 : Nat) (n3 : Nat) (n4 : Nat) (n5 : Nat) (a1 : Int32) : Met l yX11_dense wsX11_dense ({ frames := 1, cells := 0, slots := 0, locals := 22 }) (va_Pc [.ref xo, .int a1] (fun U => U.heap.size = sz ∧ va_P D vwCl [(xo, .inr (11, [.ref xk, .ref xn, .ref xc, .ref xh, .ref xt, .ref xw, .ref xm, .ref xp, .int 0, .int 0, .long 0, .int 0])), (xn, .inr (3, [.int 0, .int 0, .ref n1, .ref n2, .ref n3, .ref n4, .ref n5]))] U.heap ∧ kk_ D cy U ∧ va_D (fun _ => True) [(xo, .inr (11, [.ref xk, .ref xn, .ref xc, .ref xh, .ref xt, .ref xw, .ref xm, .ref xp, .int 0, .int 0, .long 0, .int 0])), (xn, .inr (3, [.int 0, .int 0, .ref n1, .ref n2, .ref n3, .ref n4, .ref n5]))])) (va_Qi (fun (r : Int32) (_ : Unit) => ((¬ (0 ≤ a1.toInt ∧ a1.toInt ≤ 2)) ∧ r = (-1)) ∨ ((0 ≤ a1.toInt ∧ a1.toInt ≤ 2) ∧ r = (-2))) (fun (_ : Unit) (_ : State) => True) (va_A [] sz)) 0 0 (va_A [] sz) := by
  refine Met.ofW (cc := cX11_dense) (maxL := 2) (ret := (some .int)) (by decide) rfl ?_
  intro p e s m args below meth c s₁ B hml hv
  obtain ⟨rfl, hsz, hP, hK, hD0⟩ := hv
  have hx := B.exec
  have hb := B.bytes
  have hr := B.returns
  have hts := atoms_spec (ws := wsX11_dense) B.pre
  have hown : s.vm.findClass RX11 = some m.cls := findClass_of_methodNamed B.named
  have hlocks := B.notSynchronized
  subst hsz
  have hD : va_D (va_A [] s.heap.size) [] := dd_nil
  generalize hAe : va_A [] s.heap.size = A at hD ⊢
  have hA : ∀ q : Nat, s.heap.size ≤ q → A q := fun q h => by rw [← hAe]; exact Or.inr h
  have hS : va_S A s.heap s.heap [] := va_S.rf
  have hl := lv_entry ([.ref xo, .int a1]) (n := 2) (Nat.le_of_ble_eq_true rfl)
  rw [lg_entry_eq]
  generalize (lg_sl ([.ref xo, .int a1]) ++ List.replicate (2 - (lg_sl ([.ref xo, .int a1])).length) Slot.unset).toArray = ls at hl ⊢
  have hl : lv_has ls 2 [(0, .ref xo), (1, .int a1)] := hl
  have z0 : (0 : Int32).toInt = 0 := by decide
  have z2 : (2 : Int32).toInt = 2 := by decide
  refine lv_iload_n hx hb dX11_dense_0 rfl (lv_at hl 1 rfl) ?_
  refine lv_if_lt (tgt := 9) hx hb dX11_dense_1 (by decide) (fun c_1 => ?_) (fun c_1 => ?_)
  · have t_1 : a1.toInt < (0 : Int32).toInt := Int32.lt_iff_toInt_lt.mp c_1
    refine lv_iconst (v := (-1)) hx hb dX11_dense_9 (by decide) ?_
    exact W.iret (v := (-1)) hx hb hr (fun t ht hW => ⟨⟨(-1), (), rfl, Or.inl (⟨by omega, rfl⟩), trivial⟩, hS.F ht⟩) hS.2.2 dX11_dense_10
  · have t_1 : ¬ a1.toInt < (0 : Int32).toInt := fun h => c_1 (Int32.lt_iff_toInt_lt.mpr h)
    refine lv_iload_n hx hb dX11_dense_4 rfl (lv_at hl 1 rfl) ?_
    refine lv_iconst (v := 2) hx hb dX11_dense_5 (by decide) ?_
    refine lv_icmp_le (tgt := 11) hx hb dX11_dense_6 (by decide) (fun c_2 => ?_) (fun c_2 => ?_)
    · have t_2 : a1.toInt ≤ (2 : Int32).toInt := Int32.le_iff_toInt_le.mp c_2
      refine lv_aload_n hx hb dX11_dense_11 rfl (lv_at hl 0 rfl) ?_
      refine va_get (ci := 11) (v := .ref xn) (C := RX11) (T := TX11) (N := 12) hx hb hts (fun _ h => List.mem_cons_of_mem _ (List.mem_append_left _ (List.mem_append_left _ (List.mem_append_left _ (List.mem_append_right _ h))))) hown hK.1 hP 0 rfl rfl 1 (by decide) (hts (.fieldLink RX11 31 "CutAtlas" "net" "LCutAtlas$Net;") (by decide +kernel)) (fun _ h9 => h9) rfl dX11_dense_12 ?_
      have hPc := hP.sub (ws' := [(xn, .inr (3, [.int 0, .int 0, .ref n1, .ref n2, .ref n3, .ref n4, .ref n5]))]) [1] rfl
      have hDw : va_D (fun _ => True) [(xn, .inr (3, [.int 0, .int 0, .ref n1, .ref n2, .ref n3, .ref n4, .ref n5]))] := hD0.sub [1] (by decide) rfl
      have hFc := va_free (wc := []) hD hS hA [] rfl
      refine va_calli (va_runV (As := []) (rest := []) ⟨hx, hb, hml, hown, hts⟩ (c_X3_isWhole l D cy s.heap.size xn n1 n2 n3 n4 n5) (cwV 0 hts gX11_dense_X3_isWhole rfl rfl rfl (by decide +kernel) ⟨Nat.le_of_ble_eq_true rfl, Nat.le_of_ble_eq_true rfl⟩) ⟨bl_, va_recv hK.1 hPc (ci := 3) (q0 := 0) rfl rfl, fun U hU hW => ⟨rfl, by rw [hU], by rw [hU]; exact hPc, kk_mv hW hK, hDw⟩⟩ rfl rfl hl.1 rfl (lv_room (Nat.le_of_ble_eq_true rfl)) dX11_dense_15 ⟨Nat.le_of_ble_eq_true rfl, Nat.le_of_ble_eq_true rfl⟩) hS (fun q _ h => hFc q h) hFc (fun r_3 u t H locs ht hvm hw hB hz1 hk1 hS => ?_)
      have hP := ro_keep hP hk1
      have hP : va_P D vwCl [(xo, .inr (11, [.ref xk, .ref xn, .ref xc, .ref xh, .ref xt, .ref xw, .ref xm, .ref xp, .int 0, .int 0, .long 0, .int 0])), (xn, .inr (3, [.int 0, .int 0, .ref n1, .ref n2, .ref n3, .ref n4, .ref n5]))] H := hP
      have e_ := hw.symm
      subst e_
      refine lv_if_ne (tgt := 24) hx hb dX11_dense_18 (by decide) (fun c_4 => ?_) (fun c_4 => ?_)
      · exact absurd c_4 (by decide)
      · have _ := c_4
        refine lv_bipush (v := (-2)) hx hb dX11_dense_21 (by decide) ?_
        exact W.iret (v := (-2)) hx hb hr (fun t ht hW => ⟨⟨(-2), (), rfl, Or.inr (⟨by omega, rfl⟩), trivial⟩, hS.F ht⟩) hS.2.2 dX11_dense_23
    · have t_2 : ¬ a1.toInt ≤ (2 : Int32).toInt := fun h => c_2 (Int32.le_iff_toInt_le.mpr h)
      refine lv_iconst (v := (-1)) hx hb dX11_dense_9 (by decide) ?_
      exact W.iret (v := (-1)) hx hb hr (fun t ht hW => ⟨⟨(-1), (), rfl, Or.inl (⟨by omega, rfl⟩), trivial⟩, hS.F ht⟩) hS.2.2 dX11_dense_10

set_option maxHeartbeats 4000000 in
set_option maxRecDepth 100000 in
theorem c_X11_about (l : Launch) (D : va_G) (cy : Nat → ClassId) (sz : Nat) (xo : Nat) (xk : Nat) (xn : Nat) (xc : Nat) (xh : Nat) (xt : Nat) (xw : Nat) (xm : Nat) (xp : Nat) (n1 : Nat) (n2 : Nat) (n3 : Nat) (n4 : Nat) (n5 : Nat) (a1 : Int32) : Met l yX11_about wsX11_about ({ frames := 1, cells := 0, slots := 0, locals := 22 }) (va_Pc [.ref xo, .int a1] (fun U => U.heap.size = sz ∧ va_P D vwCl [(xo, .inr (11, [.ref xk, .ref xn, .ref xc, .ref xh, .ref xt, .ref xw, .ref xm, .ref xp, .int 0, .int 0, .long 0, .int 0])), (xn, .inr (3, [.int 0, .int 0, .ref n1, .ref n2, .ref n3, .ref n4, .ref n5]))] U.heap ∧ kk_ D cy U ∧ va_D (fun _ => True) [(xo, .inr (11, [.ref xk, .ref xn, .ref xc, .ref xh, .ref xt, .ref xw, .ref xm, .ref xp, .int 0, .int 0, .long 0, .int 0])), (xn, .inr (3, [.int 0, .int 0, .ref n1, .ref n2, .ref n3, .ref n4, .ref n5]))])) (va_Qi (fun (r : Int32) (_ : Unit) => ((¬ (0 ≤ a1.toInt ∧ a1.toInt ≤ 4)) ∧ r = (-1)) ∨ ((0 ≤ a1.toInt ∧ a1.toInt ≤ 4) ∧ r = 0)) (fun (_ : Unit) (_ : State) => True) (va_A [] sz)) 0 0 (va_A [] sz) := by
  refine Met.ofW (cc := cX11_about) (maxL := 2) (ret := (some .int)) (by decide) rfl ?_
  intro p e s m args below meth c s₁ B hml hv
  obtain ⟨rfl, hsz, hP, hK, hD0⟩ := hv
  have hx := B.exec
  have hb := B.bytes
  have hr := B.returns
  have hts := atoms_spec (ws := wsX11_about) B.pre
  have hown : s.vm.findClass RX11 = some m.cls := findClass_of_methodNamed B.named
  have hlocks := B.notSynchronized
  subst hsz
  have hD : va_D (va_A [] s.heap.size) [] := dd_nil
  generalize hAe : va_A [] s.heap.size = A at hD ⊢
  have hA : ∀ q : Nat, s.heap.size ≤ q → A q := fun q h => by rw [← hAe]; exact Or.inr h
  have hS : va_S A s.heap s.heap [] := va_S.rf
  have hl := lv_entry ([.ref xo, .int a1]) (n := 2) (Nat.le_of_ble_eq_true rfl)
  rw [lg_entry_eq]
  generalize (lg_sl ([.ref xo, .int a1]) ++ List.replicate (2 - (lg_sl ([.ref xo, .int a1])).length) Slot.unset).toArray = ls at hl ⊢
  have hl : lv_has ls 2 [(0, .ref xo), (1, .int a1)] := hl
  refine lv_iload_n hx hb dX11_about_0 rfl (lv_at hl 1 rfl) ?_
  rcases sw_5 a1 with h_ | e_ | e_ | e_ | e_ | e_
  · refine lv_tableOut (tgt := 81) hx hb dX11_about_1 h_ (by decide) ?_
    refine lv_iconst (v := (-1)) hx hb dX11_about_81 (by decide) ?_
    exact W.iret (v := (-1)) hx hb hr (fun t ht hW => ⟨⟨(-1), (), rfl, Or.inl (⟨by omega, rfl⟩), trivial⟩, hS.F ht⟩) hS.2.2 dX11_about_82
  · refine lv_tableIn (off := 35) (tgt := 36) hx hb dX11_about_1 (by rw [e_]; decide) (by rw [e_]; decide) (by rw [e_]; decide) (by decide) ?_
    refine lv_aload_n hx hb dX11_about_36 rfl (lv_at hl 0 rfl) ?_
    refine va_get (ci := 11) (v := .ref xn) (C := RX11) (T := TX11) (N := 12) hx hb hts (fun _ h => List.mem_cons_of_mem _ (List.mem_append_left _ (List.mem_append_right _ h))) hown hK.1 hP 0 rfl rfl 1 (by decide) (hts (.fieldLink RX11 31 "CutAtlas" "net" "LCutAtlas$Net;") (by decide +kernel)) (fun _ h9 => h9) rfl dX11_about_37 ?_
    refine va_get (ci := 3) (v := .int 0) (C := RX3) (T := TX3) (N := 7) hx hb hts (fun _ h => List.mem_cons_of_mem _ (List.mem_append_right _ h)) hown hK.1 hP 1 rfl rfl 0 (by decide) (hts (.fieldLink RX11 94 "CutAtlas$Net" "places" "I") (by decide +kernel)) (fun _ h9 => h9) rfl dX11_about_40 ?_
    exact W.iret (v := 0) hx hb hr (fun t ht hW => ⟨⟨0, (), rfl, Or.inr (⟨by omega, rfl⟩), trivial⟩, hS.F ht⟩) hS.2.2 dX11_about_43
  · refine lv_tableIn (off := 43) (tgt := 44) hx hb dX11_about_1 (by rw [e_]; decide) (by rw [e_]; decide) (by rw [e_]; decide) (by decide) ?_
    refine lv_aload_n hx hb dX11_about_44 rfl (lv_at hl 0 rfl) ?_
    refine va_get (ci := 11) (v := .ref xn) (C := RX11) (T := TX11) (N := 12) hx hb hts (fun _ h => List.mem_cons_of_mem _ (List.mem_append_left _ (List.mem_append_right _ h))) hown hK.1 hP 0 rfl rfl 1 (by decide) (hts (.fieldLink RX11 31 "CutAtlas" "net" "LCutAtlas$Net;") (by decide +kernel)) (fun _ h9 => h9) rfl dX11_about_45 ?_
    refine va_get (ci := 3) (v := .int 0) (C := RX3) (T := TX3) (N := 7) hx hb hts (fun _ h => List.mem_cons_of_mem _ (List.mem_append_right _ h)) hown hK.1 hP 1 rfl rfl 1 (by decide) (hts (.fieldLink RX11 294 "CutAtlas$Net" "lines" "I") (by decide +kernel)) (fun _ h9 => h9) rfl dX11_about_48 ?_
    exact W.iret (v := 0) hx hb hr (fun t ht hW => ⟨⟨0, (), rfl, Or.inr (⟨by omega, rfl⟩), trivial⟩, hS.F ht⟩) hS.2.2 dX11_about_51
  · refine lv_tableIn (off := 51) (tgt := 52) hx hb dX11_about_1 (by rw [e_]; decide) (by rw [e_]; decide) (by rw [e_]; decide) (by decide) ?_
    refine lv_aload_n hx hb dX11_about_52 rfl (lv_at hl 0 rfl) ?_
    refine va_get (ci := 11) (v := .ref xn) (C := RX11) (T := TX11) (N := 12) hx hb hts (fun _ h => List.mem_cons_of_mem _ (List.mem_append_left _ (List.mem_append_right _ h))) hown hK.1 hP 0 rfl rfl 1 (by decide) (hts (.fieldLink RX11 31 "CutAtlas" "net" "LCutAtlas$Net;") (by decide +kernel)) (fun _ h9 => h9) rfl dX11_about_53 ?_
    have hPc := hP.sub (ws' := [(xn, .inr (3, [.int 0, .int 0, .ref n1, .ref n2, .ref n3, .ref n4, .ref n5]))]) [1] rfl
    have hDw : va_D (fun _ => True) [(xn, .inr (3, [.int 0, .int 0, .ref n1, .ref n2, .ref n3, .ref n4, .ref n5]))] := hD0.sub [1] (by decide) rfl
    have hFc := va_free (wc := []) hD hS hA [] rfl
    refine va_calli (va_runV (As := []) (rest := []) ⟨hx, hb, hml, hown, hts⟩ (c_X3_missingLines l D cy s.heap.size xn n1 n2 n3 n4 n5) (cwV 0 hts gX11_about_X3_missingLines rfl rfl rfl (by decide +kernel) ⟨Nat.le_of_ble_eq_true rfl, Nat.le_of_ble_eq_true rfl⟩) ⟨bl_, va_recv hK.1 hPc (ci := 3) (q0 := 0) rfl rfl, fun U hU hW => ⟨rfl, by rw [hU], by rw [hU]; exact hPc, kk_mv hW hK, hDw⟩⟩ rfl rfl hl.1 rfl (lv_room (Nat.le_of_ble_eq_true rfl)) dX11_about_56 ⟨Nat.le_of_ble_eq_true rfl, Nat.le_of_ble_eq_true rfl⟩) hS (fun q _ h => hFc q h) hFc (fun r_1 u t H locs ht hvm hw hB hz1 hk1 hS => ?_)
    have hP := ro_keep hP hk1
    have hP : va_P D vwCl [(xo, .inr (11, [.ref xk, .ref xn, .ref xc, .ref xh, .ref xt, .ref xw, .ref xm, .ref xp, .int 0, .int 0, .long 0, .int 0])), (xn, .inr (3, [.int 0, .int 0, .ref n1, .ref n2, .ref n3, .ref n4, .ref n5]))] H := hP
    have e_ := hw.symm
    subst e_
    exact W.iret (v := 0) hx hb hr (fun t ht hW => ⟨⟨0, (), rfl, Or.inr (⟨by omega, rfl⟩), trivial⟩, hS.F ht⟩) hS.2.2 dX11_about_59
  · refine lv_tableIn (off := 59) (tgt := 60) hx hb dX11_about_1 (by rw [e_]; decide) (by rw [e_]; decide) (by rw [e_]; decide) (by decide) ?_
    refine lv_aload_n hx hb dX11_about_60 rfl (lv_at hl 0 rfl) ?_
    refine va_get (ci := 11) (v := .int 0) (C := RX11) (T := TX11) (N := 12) hx hb hts (fun _ h => List.mem_cons_of_mem _ (List.mem_append_left _ (List.mem_append_right _ h))) hown hK.1 hP 0 rfl rfl 9 (by decide) (hts (.fieldLink RX11 84 "CutAtlas" "pastHeld" "I") (by decide +kernel)) (fun _ h9 => h9) rfl dX11_about_61 ?_
    exact W.iret (v := 0) hx hb hr (fun t ht hW => ⟨⟨0, (), rfl, Or.inr (⟨by omega, rfl⟩), trivial⟩, hS.F ht⟩) hS.2.2 dX11_about_64
  · refine lv_tableIn (off := 64) (tgt := 65) hx hb dX11_about_1 (by rw [e_]; decide) (by rw [e_]; decide) (by rw [e_]; decide) (by decide) ?_
    refine lv_aload_n hx hb dX11_about_65 rfl (lv_at hl 0 rfl) ?_
    refine va_get (ci := 11) (v := .ref xn) (C := RX11) (T := TX11) (N := 12) hx hb hts (fun _ h => List.mem_cons_of_mem _ (List.mem_append_left _ (List.mem_append_right _ h))) hown hK.1 hP 0 rfl rfl 1 (by decide) (hts (.fieldLink RX11 31 "CutAtlas" "net" "LCutAtlas$Net;") (by decide +kernel)) (fun _ h9 => h9) rfl dX11_about_66 ?_
    have hPc := hP.sub (ws' := [(xn, .inr (3, [.int 0, .int 0, .ref n1, .ref n2, .ref n3, .ref n4, .ref n5]))]) [1] rfl
    have hDw : va_D (fun _ => True) [(xn, .inr (3, [.int 0, .int 0, .ref n1, .ref n2, .ref n3, .ref n4, .ref n5]))] := hD0.sub [1] (by decide) rfl
    have hFc := va_free (wc := []) hD hS hA [] rfl
    refine va_calli (va_runV (As := []) (rest := []) ⟨hx, hb, hml, hown, hts⟩ (c_X3_isWhole l D cy s.heap.size xn n1 n2 n3 n4 n5) (cwV 0 hts gX11_about_X3_isWhole rfl rfl rfl (by decide +kernel) ⟨Nat.le_of_ble_eq_true rfl, Nat.le_of_ble_eq_true rfl⟩) ⟨bl_, va_recv hK.1 hPc (ci := 3) (q0 := 0) rfl rfl, fun U hU hW => ⟨rfl, by rw [hU], by rw [hU]; exact hPc, kk_mv hW hK, hDw⟩⟩ rfl rfl hl.1 rfl (lv_room (Nat.le_of_ble_eq_true rfl)) dX11_about_69 ⟨Nat.le_of_ble_eq_true rfl, Nat.le_of_ble_eq_true rfl⟩) hS (fun q _ h => hFc q h) hFc (fun r_2 u t H locs ht hvm hw hB hz1 hk1 hS => ?_)
    have hP := ro_keep hP hk1
    have hP : va_P D vwCl [(xo, .inr (11, [.ref xk, .ref xn, .ref xc, .ref xh, .ref xt, .ref xw, .ref xm, .ref xp, .int 0, .int 0, .long 0, .int 0])), (xn, .inr (3, [.int 0, .int 0, .ref n1, .ref n2, .ref n3, .ref n4, .ref n5]))] H := hP
    have e_ := hw.symm
    subst e_
    refine lv_if_eq (tgt := 79) hx hb dX11_about_72 (by decide) (fun c_3 => ?_) (fun c_3 => ?_)
    · have _ := c_3
      refine lv_iconst (v := 0) hx hb dX11_about_79 (by decide) ?_
      exact W.iret (v := 0) hx hb hr (fun t ht hW => ⟨⟨0, (), rfl, Or.inr (⟨by omega, rfl⟩), trivial⟩, hS.F ht⟩) hS.2.2 dX11_about_80
    · exact absurd c_3 (by decide)
end
section
set_option maxHeartbeats 4000000 in
set_option maxRecDepth 100000 in
theorem c_X11_isMapNumber (l : Launch) (D : va_G) (cy : Nat → ClassId) (sz : Nat) (a1 : Int32) : Met l yX11_isMapNumber wsX11_isMapNumber ({ frames := 0, cells := 0, slots := 0, locals := 0 }) (va_Pc [.int a1] (fun U => U.heap.size = sz ∧ va_P D vwCl [] U.heap ∧ kk_ D cy U ∧ va_D (fun _ => True) [])) (va_Qi (fun (r : Int32) (_ : Unit) => ((0 ≤ a1.toInt ∧ a1.toInt < 4) ∧ r = 1) ∨ ((¬ (0 ≤ a1.toInt ∧ a1.toInt < 4)) ∧ r = 0)) (fun (_ : Unit) (_ : State) => True) (va_A [] sz)) 0 0 (va_A [] sz) := by
  refine Met.ofW (cc := cX11_isMapNumber) (maxL := 1) (ret := (some .boolean)) (by decide) rfl ?_
  intro p e s m args below meth c s₁ B hml hv
  obtain ⟨rfl, hsz, hP, hK, hD0⟩ := hv
  have hx := B.exec
  have hb := B.bytes
  have hr := B.returns
  have hts := atoms_spec (ws := wsX11_isMapNumber) B.pre
  have hown : s.vm.findClass RX11 = some m.cls := findClass_of_methodNamed B.named
  have hlocks := B.notSynchronized
  subst hsz
  have hD : va_D (va_A [] s.heap.size) [] := dd_nil
  generalize hAe : va_A [] s.heap.size = A at hD ⊢
  have hA : ∀ q : Nat, s.heap.size ≤ q → A q := fun q h => by rw [← hAe]; exact Or.inr h
  have hS : va_S A s.heap s.heap [] := va_S.rf
  have hl := lv_entry ([.int a1]) (n := 1) (Nat.le_of_ble_eq_true rfl)
  rw [lg_entry_eq]
  generalize (lg_sl ([.int a1]) ++ List.replicate (1 - (lg_sl ([.int a1])).length) Slot.unset).toArray = ls at hl ⊢
  have hl : lv_has ls 1 [(0, .int a1)] := hl
  have z0 : (0 : Int32).toInt = 0 := by decide
  have z4 : (4 : Int32).toInt = 4 := by decide
  refine lv_iload_n hx hb dX11_isMapNumber_0 rfl (lv_at hl 0 rfl) ?_
  refine lv_if_lt (tgt := 13) hx hb dX11_isMapNumber_1 (by decide) (fun c_1 => ?_) (fun c_1 => ?_)
  · have t_1 : a1.toInt < (0 : Int32).toInt := Int32.lt_iff_toInt_lt.mp c_1
    refine lv_iconst (v := 0) hx hb dX11_isMapNumber_13 (by decide) ?_
    exact W.zret (ty := .boolean) (v := 0) hx hb hr (by decide) (fun t ht hW => ⟨⟨0, (), rfl, Or.inr (⟨by omega, rfl⟩), trivial⟩, hS.F ht⟩) hS.2.2 dX11_isMapNumber_14
  · have t_1 : ¬ a1.toInt < (0 : Int32).toInt := fun h => c_1 (Int32.lt_iff_toInt_lt.mpr h)
    refine lv_iload_n hx hb dX11_isMapNumber_4 rfl (lv_at hl 0 rfl) ?_
    refine lv_iconst (v := 4) hx hb dX11_isMapNumber_5 (by decide) ?_
    refine lv_icmp_ge (tgt := 13) hx hb dX11_isMapNumber_6 (by decide) (fun c_2 => ?_) (fun c_2 => ?_)
    · have t_2 : (4 : Int32).toInt ≤ a1.toInt := Int32.le_iff_toInt_le.mp c_2
      refine lv_iconst (v := 0) hx hb dX11_isMapNumber_13 (by decide) ?_
      exact W.zret (ty := .boolean) (v := 0) hx hb hr (by decide) (fun t ht hW => ⟨⟨0, (), rfl, Or.inr (⟨by omega, rfl⟩), trivial⟩, hS.F ht⟩) hS.2.2 dX11_isMapNumber_14
    · have t_2 : ¬ (4 : Int32).toInt ≤ a1.toInt := fun h => c_2 (Int32.le_iff_toInt_le.mpr h)
      refine lv_iconst (v := 1) hx hb dX11_isMapNumber_9 (by decide) ?_
      refine lv_goto (tgt := 14) hx hb dX11_isMapNumber_10 (by decide) ?_
      exact W.zret (ty := .boolean) (v := 1) hx hb hr (by decide) (fun t ht hW => ⟨⟨1, (), rfl, Or.inl (⟨by omega, rfl⟩), trivial⟩, hS.F ht⟩) hS.2.2 dX11_isMapNumber_14

set_option maxHeartbeats 4000000 in
set_option maxRecDepth 100000 in
theorem c_X11_isMapKind (l : Launch) (D : va_G) (cy : Nat → ClassId) (sz : Nat) (a1 : Int32) : Met l yX11_isMapKind wsX11_isMapKind ({ frames := 0, cells := 0, slots := 0, locals := 0 }) (va_Pc [.int a1] (fun U => U.heap.size = sz ∧ va_P D vwCl [] U.heap ∧ kk_ D cy U ∧ va_D (fun _ => True) [])) (va_Qi (fun (r : Int32) (_ : Unit) => ((0 ≤ a1.toInt ∧ a1.toInt < 3) ∧ r = 1) ∨ ((¬ (0 ≤ a1.toInt ∧ a1.toInt < 3)) ∧ r = 0)) (fun (_ : Unit) (_ : State) => True) (va_A [] sz)) 0 0 (va_A [] sz) := by
  refine Met.ofW (cc := cX11_isMapKind) (maxL := 1) (ret := (some .boolean)) (by decide) rfl ?_
  intro p e s m args below meth c s₁ B hml hv
  obtain ⟨rfl, hsz, hP, hK, hD0⟩ := hv
  have hx := B.exec
  have hb := B.bytes
  have hr := B.returns
  have hts := atoms_spec (ws := wsX11_isMapKind) B.pre
  have hown : s.vm.findClass RX11 = some m.cls := findClass_of_methodNamed B.named
  have hlocks := B.notSynchronized
  subst hsz
  have hD : va_D (va_A [] s.heap.size) [] := dd_nil
  generalize hAe : va_A [] s.heap.size = A at hD ⊢
  have hA : ∀ q : Nat, s.heap.size ≤ q → A q := fun q h => by rw [← hAe]; exact Or.inr h
  have hS : va_S A s.heap s.heap [] := va_S.rf
  have hl := lv_entry ([.int a1]) (n := 1) (Nat.le_of_ble_eq_true rfl)
  rw [lg_entry_eq]
  generalize (lg_sl ([.int a1]) ++ List.replicate (1 - (lg_sl ([.int a1])).length) Slot.unset).toArray = ls at hl ⊢
  have hl : lv_has ls 1 [(0, .int a1)] := hl
  have z0 : (0 : Int32).toInt = 0 := by decide
  have z3 : (3 : Int32).toInt = 3 := by decide
  refine lv_iload_n hx hb dX11_isMapKind_0 rfl (lv_at hl 0 rfl) ?_
  refine lv_if_lt (tgt := 13) hx hb dX11_isMapKind_1 (by decide) (fun c_1 => ?_) (fun c_1 => ?_)
  · have t_1 : a1.toInt < (0 : Int32).toInt := Int32.lt_iff_toInt_lt.mp c_1
    refine lv_iconst (v := 0) hx hb dX11_isMapKind_13 (by decide) ?_
    exact W.zret (ty := .boolean) (v := 0) hx hb hr (by decide) (fun t ht hW => ⟨⟨0, (), rfl, Or.inr (⟨by omega, rfl⟩), trivial⟩, hS.F ht⟩) hS.2.2 dX11_isMapKind_14
  · have t_1 : ¬ a1.toInt < (0 : Int32).toInt := fun h => c_1 (Int32.lt_iff_toInt_lt.mpr h)
    refine lv_iload_n hx hb dX11_isMapKind_4 rfl (lv_at hl 0 rfl) ?_
    refine lv_iconst (v := 3) hx hb dX11_isMapKind_5 (by decide) ?_
    refine lv_icmp_ge (tgt := 13) hx hb dX11_isMapKind_6 (by decide) (fun c_2 => ?_) (fun c_2 => ?_)
    · have t_2 : (3 : Int32).toInt ≤ a1.toInt := Int32.le_iff_toInt_le.mp c_2
      refine lv_iconst (v := 0) hx hb dX11_isMapKind_13 (by decide) ?_
      exact W.zret (ty := .boolean) (v := 0) hx hb hr (by decide) (fun t ht hW => ⟨⟨0, (), rfl, Or.inr (⟨by omega, rfl⟩), trivial⟩, hS.F ht⟩) hS.2.2 dX11_isMapKind_14
    · have t_2 : ¬ (3 : Int32).toInt ≤ a1.toInt := fun h => c_2 (Int32.le_iff_toInt_le.mpr h)
      refine lv_iconst (v := 1) hx hb dX11_isMapKind_9 (by decide) ?_
      refine lv_goto (tgt := 14) hx hb dX11_isMapKind_10 (by decide) ?_
      exact W.zret (ty := .boolean) (v := 1) hx hb hr (by decide) (fun t ht hW => ⟨⟨1, (), rfl, Or.inl (⟨by omega, rfl⟩), trivial⟩, hS.F ht⟩) hS.2.2 dX11_isMapKind_14

set_option maxHeartbeats 4000000 in
set_option maxRecDepth 100000 in
theorem c_X11_mapRefusal (l : Launch) (D : va_G) (cy : Nat → ClassId) (sz : Nat) (a1 : Int32) (a2 : Int32) (a3 : Int32) : Met l yX11_mapRefusal wsX11_mapRefusal ({ frames := 1, cells := 0, slots := 0, locals := 20 }) (va_Pc [.int a1, .int a2, .int a3] (fun U => U.heap.size = sz ∧ va_P D vwCl [] U.heap ∧ kk_ D cy U ∧ va_D (fun _ => True) [])) (va_Qi (fun (r : Int32) (_ : Unit) => ((¬ ((0 ≤ a1.toInt ∧ a1.toInt < 4) ∧ (0 ≤ a2.toInt ∧ a2.toInt < 3) ∧ a3.toInt ≤ 6)) ∧ r = (-1)) ∨ ((((0 ≤ a1.toInt ∧ a1.toInt < 4) ∧ (0 ≤ a2.toInt ∧ a2.toInt < 3) ∧ a3.toInt ≤ 6) ∧ a3.toInt < 0) ∧ r = (-15)) ∨ ((((0 ≤ a1.toInt ∧ a1.toInt < 4) ∧ (0 ≤ a2.toInt ∧ a2.toInt < 3) ∧ a3.toInt ≤ 6) ∧ 0 ≤ a3.toInt) ∧ r = 0)) (fun (_ : Unit) (_ : State) => True) (va_A [] sz)) 0 0 (va_A [] sz) := by
  refine Met.ofW (cc := cX11_mapRefusal) (maxL := 3) (ret := (some .int)) (by decide) rfl ?_
  intro p e s m args below meth c s₁ B hml hv
  obtain ⟨rfl, hsz, hP, hK, hD0⟩ := hv
  have hx := B.exec
  have hb := B.bytes
  have hr := B.returns
  have hts := atoms_spec (ws := wsX11_mapRefusal) B.pre
  have hown : s.vm.findClass RX11 = some m.cls := findClass_of_methodNamed B.named
  have hlocks := B.notSynchronized
  subst hsz
  have hD : va_D (va_A [] s.heap.size) [] := dd_nil
  generalize hAe : va_A [] s.heap.size = A at hD ⊢
  have hA : ∀ q : Nat, s.heap.size ≤ q → A q := fun q h => by rw [← hAe]; exact Or.inr h
  have hS : va_S A s.heap s.heap [] := va_S.rf
  have hl := lv_entry ([.int a1, .int a2, .int a3]) (n := 3) (Nat.le_of_ble_eq_true rfl)
  rw [lg_entry_eq]
  generalize (lg_sl ([.int a1, .int a2, .int a3]) ++ List.replicate (3 - (lg_sl ([.int a1, .int a2, .int a3])).length) Slot.unset).toArray = ls at hl ⊢
  have hl : lv_has ls 3 [(0, .int a1), (1, .int a2), (2, .int a3)] := hl
  have z0 : (0 : Int32).toInt = 0 := by decide
  have z6 : (6 : Int32).toInt = 6 := by decide
  refine lv_iload_n hx hb dX11_mapRefusal_0 rfl (lv_at hl 0 rfl) ?_
  have hPc := hP.sub (ws' := []) [] rfl
  have hDw : va_D (fun _ => True) [] := hD0.sub [] (by decide) rfl
  have hFc := va_free (wc := []) hD hS hA [] rfl
  refine va_calli (va_runS (As := [.int a1]) (rest := []) ⟨hx, hb, hml, hown, hts⟩ (c_X11_isMapNumber l D cy s.heap.size a1) (va_cwS 1 hts gX11_mapRefusal_X11_isMapNumber rfl rfl rfl (by decide +kernel) ⟨Nat.le_of_ble_eq_true rfl, Nat.le_of_ble_eq_true rfl⟩) ⟨bl_, fun U hU hW => ⟨rfl, by rw [hU], by rw [hU]; exact hPc, kk_mv hW hK, hDw⟩⟩ rfl rfl hl.1 rfl (lv_room (Nat.le_of_ble_eq_true rfl)) dX11_mapRefusal_1 ⟨Nat.le_of_ble_eq_true rfl, Nat.le_of_ble_eq_true rfl⟩) hS (fun q _ h => hFc q h) hFc (fun r_1 u t H locs ht hvm hw hB hz1 hk1 hS => ?_)
  have hP := ro_keep hP hk1
  have hP : va_P D vwCl [] H := hP
  rcases hw with ⟨w_2, e_⟩ | ⟨w_2, e_⟩
  · have e_ := e_.symm
    subst e_
    refine lv_if_eq (tgt := 20) hx hb dX11_mapRefusal_4 (by decide) (fun c_3 => ?_) (fun c_3 => ?_)
    · exact absurd c_3 (by decide)
    · have _ := c_3
      refine lv_iload_n hx hb dX11_mapRefusal_7 rfl (lv_at hl 1 rfl) ?_
      have hPc := hP.sub (ws' := []) [] rfl
      have hDw : va_D (fun _ => True) [] := hD0.sub [] (by decide) rfl
      have hFc := va_free (wc := []) hD hS hA [] rfl
      refine va_calli (va_runS (As := [.int a2]) (rest := []) ⟨hx, hb, hml, hown, hts⟩ (c_X11_isMapKind l D cy H.size a2) (va_cwS 1 hts gX11_mapRefusal_X11_isMapKind rfl rfl rfl (by decide +kernel) ⟨Nat.le_of_ble_eq_true rfl, Nat.le_of_ble_eq_true rfl⟩) ⟨bl_, fun U hU hW => ⟨rfl, by rw [hU], by rw [hU]; exact hPc, kk_mv hW hK, hDw⟩⟩ rfl rfl hl.1 rfl (lv_room (Nat.le_of_ble_eq_true rfl)) dX11_mapRefusal_8 ⟨Nat.le_of_ble_eq_true rfl, Nat.le_of_ble_eq_true rfl⟩) hS (fun q _ h => hFc q h) hFc (fun r_4 u t H locs ht hvm hw hB hz1 hk1 hS => ?_)
      have hP := ro_keep hP hk1
      have hP : va_P D vwCl [] H := hP
      rcases hw with ⟨w_5, e_⟩ | ⟨w_5, e_⟩
      · have e_ := e_.symm
        subst e_
        refine lv_if_eq (tgt := 20) hx hb dX11_mapRefusal_11 (by decide) (fun c_6 => ?_) (fun c_6 => ?_)
        · exact absurd c_6 (by decide)
        · have _ := c_6
          refine lv_iload_n hx hb dX11_mapRefusal_14 rfl (lv_at hl 2 rfl) ?_
          refine lv_bipush (v := 6) hx hb dX11_mapRefusal_15 (by decide) ?_
          refine lv_icmp_le (tgt := 22) hx hb dX11_mapRefusal_17 (by decide) (fun c_7 => ?_) (fun c_7 => ?_)
          · have t_7 : a3.toInt ≤ (6 : Int32).toInt := Int32.le_iff_toInt_le.mp c_7
            refine lv_iload_n hx hb dX11_mapRefusal_22 rfl (lv_at hl 2 rfl) ?_
            refine lv_if_ge (tgt := 31) hx hb dX11_mapRefusal_23 (by decide) (fun c_8 => ?_) (fun c_8 => ?_)
            · have t_8 : (0 : Int32).toInt ≤ a3.toInt := Int32.le_iff_toInt_le.mp c_8
              refine lv_iconst (v := 0) hx hb dX11_mapRefusal_31 (by decide) ?_
              exact W.iret (v := 0) hx hb hr (fun t ht hW => ⟨⟨0, (), rfl, Or.inr (Or.inr (⟨by omega, rfl⟩)), trivial⟩, hS.F ht⟩) hS.2.2 dX11_mapRefusal_32
            · have t_8 : ¬ (0 : Int32).toInt ≤ a3.toInt := fun h => c_8 (Int32.le_iff_toInt_le.mpr h)
              refine lv_bipush (v := (-15)) hx hb dX11_mapRefusal_26 (by decide) ?_
              refine lv_goto (tgt := 32) hx hb dX11_mapRefusal_28 (by decide) ?_
              exact W.iret (v := (-15)) hx hb hr (fun t ht hW => ⟨⟨(-15), (), rfl, Or.inr (Or.inl (⟨by omega, rfl⟩)), trivial⟩, hS.F ht⟩) hS.2.2 dX11_mapRefusal_32
          · have t_7 : ¬ a3.toInt ≤ (6 : Int32).toInt := fun h => c_7 (Int32.le_iff_toInt_le.mpr h)
            refine lv_iconst (v := (-1)) hx hb dX11_mapRefusal_20 (by decide) ?_
            exact W.iret (v := (-1)) hx hb hr (fun t ht hW => ⟨⟨(-1), (), rfl, Or.inl (⟨by omega, rfl⟩), trivial⟩, hS.F ht⟩) hS.2.2 dX11_mapRefusal_21
      · have e_ := e_.symm
        subst e_
        refine lv_if_eq (tgt := 20) hx hb dX11_mapRefusal_11 (by decide) (fun c_9 => ?_) (fun c_9 => ?_)
        · have _ := c_9
          refine lv_iconst (v := (-1)) hx hb dX11_mapRefusal_20 (by decide) ?_
          exact W.iret (v := (-1)) hx hb hr (fun t ht hW => ⟨⟨(-1), (), rfl, Or.inl (⟨by omega, rfl⟩), trivial⟩, hS.F ht⟩) hS.2.2 dX11_mapRefusal_21
        · exact absurd c_9 (by decide)
  · have e_ := e_.symm
    subst e_
    refine lv_if_eq (tgt := 20) hx hb dX11_mapRefusal_4 (by decide) (fun c_10 => ?_) (fun c_10 => ?_)
    · have _ := c_10
      refine lv_iconst (v := (-1)) hx hb dX11_mapRefusal_20 (by decide) ?_
      exact W.iret (v := (-1)) hx hb hr (fun t ht hW => ⟨⟨(-1), (), rfl, Or.inl (⟨by omega, rfl⟩), trivial⟩, hS.F ht⟩) hS.2.2 dX11_mapRefusal_21
    · exact absurd c_10 (by decide)

set_option maxHeartbeats 4000000 in
set_option maxRecDepth 100000 in
theorem c_X4_isThere (l : Launch) (D : va_G) (cy : Nat → ClassId) (sz : Nat) (m0 : Nat) (l0 : Nat) (u0 : Nat) : Met l yX4_isThere wsX4_isThere ({ frames := 0, cells := 0, slots := 0, locals := 0 }) (va_Pc [.ref m0] (fun U => U.heap.size = sz ∧ va_P D vwCl [(m0, .inr (4, [.int 0, .int (-9), .ref l0, .ref u0]))] U.heap ∧ kk_ D cy U ∧ va_D (fun _ => True) [(m0, .inr (4, [.int 0, .int (-9), .ref l0, .ref u0]))])) (va_Qi (fun (r : Int32) (_ : Unit) => r = 0) (fun (_ : Unit) (_ : State) => True) (va_A [] sz)) 0 0 (va_A [] sz) := by
  refine Met.ofW (cc := cX4_isThere) (maxL := 1) (ret := (some .boolean)) (by decide) rfl ?_
  intro p e s m args below meth c s₁ B hml hv
  obtain ⟨rfl, hsz, hP, hK, hD0⟩ := hv
  have hx := B.exec
  have hb := B.bytes
  have hr := B.returns
  have hts := atoms_spec (ws := wsX4_isThere) B.pre
  have hown : s.vm.findClass RX4 = some m.cls := findClass_of_methodNamed B.named
  have hlocks := B.notSynchronized
  subst hsz
  have hD : va_D (va_A [] s.heap.size) [] := dd_nil
  generalize hAe : va_A [] s.heap.size = A at hD ⊢
  have hA : ∀ q : Nat, s.heap.size ≤ q → A q := fun q h => by rw [← hAe]; exact Or.inr h
  have hS : va_S A s.heap s.heap [] := va_S.rf
  have hl := lv_entry ([.ref m0]) (n := 1) (Nat.le_of_ble_eq_true rfl)
  rw [lg_entry_eq]
  generalize (lg_sl ([.ref m0]) ++ List.replicate (1 - (lg_sl ([.ref m0])).length) Slot.unset).toArray = ls at hl ⊢
  have hl : lv_has ls 1 [(0, .ref m0)] := hl
  refine lv_aload_n hx hb dX4_isThere_0 rfl (lv_at hl 0 rfl) ?_
  refine va_get (ci := 4) (v := .int (-9)) (C := RX4) (T := TX4) (N := 4) hx hb hts (fun _ h => List.mem_cons_of_mem _ (List.mem_append_right _ h)) hown hK.1 hP 0 rfl rfl 1 (by decide) (hts (.fieldLink RX4 15 "CutAtlas$NumberMap" "rows" "I") (by decide +kernel)) (fun _ h9 => h9) rfl dX4_isThere_1 ?_
  refine lv_bipush (v := (-9)) hx hb dX4_isThere_4 (by decide) ?_
  refine lv_icmp_eq (tgt := 13) hx hb dX4_isThere_6 (by decide) (fun c_1 => ?_) (fun c_1 => ?_)
  · have _ := c_1
    refine lv_iconst (v := 0) hx hb dX4_isThere_13 (by decide) ?_
    exact W.zret (ty := .boolean) (v := 0) hx hb hr (by decide) (fun t ht hW => ⟨⟨0, (), rfl, rfl, trivial⟩, hS.F ht⟩) hS.2.2 dX4_isThere_14
  · exact absurd c_1 (by decide)

set_option maxHeartbeats 4000000 in
set_option maxRecDepth 100000 in
theorem c_X11_rowRefusal (l : Launch) (D : va_G) (cy : Nat → ClassId) (sz : Nat) (xo : Nat) (xk : Nat) (xn : Nat) (xc : Nat) (xh : Nat) (xt : Nat) (xw : Nat) (xm : Nat) (xp : Nat) (m0 : Nat) (m1 : Nat) (m2 : Nat) (m3 : Nat) (l0 : Nat) (l1 : Nat) (l2 : Nat) (l3 : Nat) (u0 : Nat) (u1 : Nat) (u2 : Nat) (u3 : Nat) (a1 : Int32) (a2 : Int32) (a3 : Int32) : Met l yX11_rowRefusal wsX11_rowRefusal ({ frames := 1, cells := 0, slots := 0, locals := 20 }) (va_Pc [.ref xo, .int a1, .int a2, .int a3] (fun U => U.heap.size = sz ∧ va_P D vwCl [(xo, .inr (11, [.ref xk, .ref xn, .ref xc, .ref xh, .ref xt, .ref xw, .ref xm, .ref xp, .int 0, .int 0, .long 0, .int 0])), (xm, .inl (cy 4, 4, .inr (.inr (.inr (.inr (mf_ m0 m1 m2 m3)))))), (m0, .inr (4, [.int 0, .int (-9), .ref l0, .ref u0])), (m1, .inr (4, [.int 0, .int (-9), .ref l1, .ref u1])), (m2, .inr (4, [.int 0, .int (-9), .ref l2, .ref u2])), (m3, .inr (4, [.int 0, .int (-9), .ref l3, .ref u3]))] U.heap ∧ kk_ D cy U ∧ va_D (fun _ => True) [(xo, .inr (11, [.ref xk, .ref xn, .ref xc, .ref xh, .ref xt, .ref xw, .ref xm, .ref xp, .int 0, .int 0, .long 0, .int 0])), (xm, .inl (cy 4, 4, .inr (.inr (.inr (.inr (mf_ m0 m1 m2 m3)))))), (m0, .inr (4, [.int 0, .int (-9), .ref l0, .ref u0])), (m1, .inr (4, [.int 0, .int (-9), .ref l1, .ref u1])), (m2, .inr (4, [.int 0, .int (-9), .ref l2, .ref u2])), (m3, .inr (4, [.int 0, .int (-9), .ref l3, .ref u3]))])) (va_Qi (fun (r : Int32) (_ : Unit) => ((¬ ((0 ≤ a1.toInt ∧ a1.toInt < 4) ∧ a3.toInt ≤ 5)) ∧ r = (-1)) ∨ (((0 ≤ a1.toInt ∧ a1.toInt < 4) ∧ a3.toInt ≤ 5) ∧ r = (-11))) (fun (_ : Unit) (_ : State) => True) (va_A [] sz)) 0 0 (va_A [] sz) := by
  refine Met.ofW (cc := cX11_rowRefusal) (maxL := 4) (ret := (some .int)) (by decide) rfl ?_
  intro p e s m args below meth c s₁ B hml hv
  obtain ⟨rfl, hsz, hP, hK, hD0⟩ := hv
  have hx := B.exec
  have hb := B.bytes
  have hr := B.returns
  have hts := atoms_spec (ws := wsX11_rowRefusal) B.pre
  have hown : s.vm.findClass RX11 = some m.cls := findClass_of_methodNamed B.named
  have hlocks := B.notSynchronized
  subst hsz
  have hD : va_D (va_A [] s.heap.size) [] := dd_nil
  generalize hAe : va_A [] s.heap.size = A at hD ⊢
  have hA : ∀ q : Nat, s.heap.size ≤ q → A q := fun q h => by rw [← hAe]; exact Or.inr h
  have hS : va_S A s.heap s.heap [] := va_S.rf
  have hl := lv_entry ([.ref xo, .int a1, .int a2, .int a3]) (n := 4) (Nat.le_of_ble_eq_true rfl)
  rw [lg_entry_eq]
  generalize (lg_sl ([.ref xo, .int a1, .int a2, .int a3]) ++ List.replicate (4 - (lg_sl ([.ref xo, .int a1, .int a2, .int a3])).length) Slot.unset).toArray = ls at hl ⊢
  have hl : lv_has ls 4 [(0, .ref xo), (1, .int a1), (2, .int a2), (3, .int a3)] := hl
  have z5 : (5 : Int32).toInt = 5 := by decide
  refine lv_iload_n hx hb dX11_rowRefusal_0 rfl (lv_at hl 1 rfl) ?_
  have hPc := hP.sub (ws' := []) [] rfl
  have hDw : va_D (fun _ => True) [] := hD0.sub [] (by decide) rfl
  have hFc := va_free (wc := []) hD hS hA [] rfl
  refine va_calli (va_runS (As := [.int a1]) (rest := []) ⟨hx, hb, hml, hown, hts⟩ (c_X11_isMapNumber l D cy s.heap.size a1) (va_cwS 1 hts gX11_rowRefusal_X11_isMapNumber rfl rfl rfl (by decide +kernel) ⟨Nat.le_of_ble_eq_true rfl, Nat.le_of_ble_eq_true rfl⟩) ⟨bl_, fun U hU hW => ⟨rfl, by rw [hU], by rw [hU]; exact hPc, kk_mv hW hK, hDw⟩⟩ rfl rfl hl.1 rfl (lv_room (Nat.le_of_ble_eq_true rfl)) dX11_rowRefusal_1 ⟨Nat.le_of_ble_eq_true rfl, Nat.le_of_ble_eq_true rfl⟩) hS (fun q _ h => hFc q h) hFc (fun r_1 u t H locs ht hvm hw hB hz1 hk1 hS => ?_)
  have hP := ro_keep hP hk1
  have hP : va_P D vwCl [(xo, .inr (11, [.ref xk, .ref xn, .ref xc, .ref xh, .ref xt, .ref xw, .ref xm, .ref xp, .int 0, .int 0, .long 0, .int 0])), (xm, .inl (cy 4, 4, .inr (.inr (.inr (.inr (mf_ m0 m1 m2 m3)))))), (m0, .inr (4, [.int 0, .int (-9), .ref l0, .ref u0])), (m1, .inr (4, [.int 0, .int (-9), .ref l1, .ref u1])), (m2, .inr (4, [.int 0, .int (-9), .ref l2, .ref u2])), (m3, .inr (4, [.int 0, .int (-9), .ref l3, .ref u3]))] H := hP
  rcases hw with ⟨w_2, e_⟩ | ⟨w_2, e_⟩
  · have e_ := e_.symm
    subst e_
    refine lv_if_eq (tgt := 12) hx hb dX11_rowRefusal_4 (by decide) (fun c_3 => ?_) (fun c_3 => ?_)
    · exact absurd c_3 (by decide)
    · have _ := c_3
      refine lv_iload_n hx hb dX11_rowRefusal_7 rfl (lv_at hl 3 rfl) ?_
      refine lv_iconst (v := 5) hx hb dX11_rowRefusal_8 (by decide) ?_
      refine lv_icmp_le (tgt := 14) hx hb dX11_rowRefusal_9 (by decide) (fun c_4 => ?_) (fun c_4 => ?_)
      · have t_4 : a3.toInt ≤ (5 : Int32).toInt := Int32.le_iff_toInt_le.mp c_4
        rcases sp_4 (x := a1) (by omega) with rfl | rfl | rfl | rfl
        · refine lv_aload_n hx hb dX11_rowRefusal_14 rfl (lv_at hl 0 rfl) ?_
          refine va_get (ci := 11) (v := .ref xm) (C := RX11) (T := TX11) (N := 12) hx hb hts (fun _ h => List.mem_cons_of_mem _ (List.mem_append_left _ (List.mem_append_right _ h))) hown hK.1 hP 0 rfl rfl 6 (by decide) (hts (.fieldLink RX11 72 "CutAtlas" "maps" "[LCutAtlas$NumberMap;") (by decide +kernel)) (fun _ h9 => h9) rfl dX11_rowRefusal_15 ?_
          refine lv_iload_n hx hb dX11_rowRefusal_18 rfl (lv_at hl 1 rfl) ?_
          refine va_aldq hx hb hK.1 hP 1 4 rfl rfl (i := 0) (by unfold vp_in; decide) dX11_rowRefusal_19 ?_
          refine lv_topv (v' := .ref m0) (by simp [va_up, va_rf, mf_, cl_0, cl_1, cl_2, cl_3, cl_4]) ?_
          have hPc := hP.sub (ws' := [(m0, .inr (4, [.int 0, .int (-9), .ref l0, .ref u0]))]) [2] rfl
          have hDw : va_D (fun _ => True) [(m0, .inr (4, [.int 0, .int (-9), .ref l0, .ref u0]))] := hD0.sub [2] (by decide) rfl
          have hFc := va_free (wc := []) hD hS hA [] rfl
          refine va_calli (va_runV (As := []) (rest := []) ⟨hx, hb, hml, hown, hts⟩ (c_X4_isThere l D cy H.size m0 l0 u0) (cwV 0 hts gX11_rowRefusal_X4_isThere rfl rfl rfl (by decide +kernel) ⟨Nat.le_of_ble_eq_true rfl, Nat.le_of_ble_eq_true rfl⟩) ⟨bl_, va_recv hK.1 hPc (ci := 4) (q0 := 0) rfl rfl, fun U hU hW => ⟨rfl, by rw [hU], by rw [hU]; exact hPc, kk_mv hW hK, hDw⟩⟩ rfl rfl hl.1 rfl (lv_room (Nat.le_of_ble_eq_true rfl)) dX11_rowRefusal_20 ⟨Nat.le_of_ble_eq_true rfl, Nat.le_of_ble_eq_true rfl⟩) hS (fun q _ h => hFc q h) hFc (fun r_5 u t H locs ht hvm hw hB hz1 hk1 hS => ?_)
          have hP := ro_keep hP hk1
          have hP : va_P D vwCl [(xo, .inr (11, [.ref xk, .ref xn, .ref xc, .ref xh, .ref xt, .ref xw, .ref xm, .ref xp, .int 0, .int 0, .long 0, .int 0])), (xm, .inl (cy 4, 4, .inr (.inr (.inr (.inr (mf_ m0 m1 m2 m3)))))), (m0, .inr (4, [.int 0, .int (-9), .ref l0, .ref u0])), (m1, .inr (4, [.int 0, .int (-9), .ref l1, .ref u1])), (m2, .inr (4, [.int 0, .int (-9), .ref l2, .ref u2])), (m3, .inr (4, [.int 0, .int (-9), .ref l3, .ref u3]))] H := hP
          have e_ := hw.symm
          subst e_
          refine lv_if_ne (tgt := 29) hx hb dX11_rowRefusal_23 (by decide) (fun c_6 => ?_) (fun c_6 => ?_)
          · exact absurd c_6 (by decide)
          · have _ := c_6
            refine lv_bipush (v := (-11)) hx hb dX11_rowRefusal_26 (by decide) ?_
            exact W.iret (v := (-11)) hx hb hr (fun t ht hW => ⟨⟨(-11), (), rfl, Or.inr (⟨by omega, rfl⟩), trivial⟩, hS.F ht⟩) hS.2.2 dX11_rowRefusal_28
        · refine lv_aload_n hx hb dX11_rowRefusal_14 rfl (lv_at hl 0 rfl) ?_
          refine va_get (ci := 11) (v := .ref xm) (C := RX11) (T := TX11) (N := 12) hx hb hts (fun _ h => List.mem_cons_of_mem _ (List.mem_append_left _ (List.mem_append_right _ h))) hown hK.1 hP 0 rfl rfl 6 (by decide) (hts (.fieldLink RX11 72 "CutAtlas" "maps" "[LCutAtlas$NumberMap;") (by decide +kernel)) (fun _ h9 => h9) rfl dX11_rowRefusal_15 ?_
          refine lv_iload_n hx hb dX11_rowRefusal_18 rfl (lv_at hl 1 rfl) ?_
          refine va_aldq hx hb hK.1 hP 1 4 rfl rfl (i := 1) (by unfold vp_in; decide) dX11_rowRefusal_19 ?_
          refine lv_topv (v' := .ref m1) (by simp [va_up, va_rf, mf_, cl_0, cl_1, cl_2, cl_3, cl_4]) ?_
          have hPc := hP.sub (ws' := [(m1, .inr (4, [.int 0, .int (-9), .ref l1, .ref u1]))]) [3] rfl
          have hDw : va_D (fun _ => True) [(m1, .inr (4, [.int 0, .int (-9), .ref l1, .ref u1]))] := hD0.sub [3] (by decide) rfl
          have hFc := va_free (wc := []) hD hS hA [] rfl
          refine va_calli (va_runV (As := []) (rest := []) ⟨hx, hb, hml, hown, hts⟩ (c_X4_isThere l D cy H.size m1 l1 u1) (cwV 0 hts gX11_rowRefusal_X4_isThere rfl rfl rfl (by decide +kernel) ⟨Nat.le_of_ble_eq_true rfl, Nat.le_of_ble_eq_true rfl⟩) ⟨bl_, va_recv hK.1 hPc (ci := 4) (q0 := 0) rfl rfl, fun U hU hW => ⟨rfl, by rw [hU], by rw [hU]; exact hPc, kk_mv hW hK, hDw⟩⟩ rfl rfl hl.1 rfl (lv_room (Nat.le_of_ble_eq_true rfl)) dX11_rowRefusal_20 ⟨Nat.le_of_ble_eq_true rfl, Nat.le_of_ble_eq_true rfl⟩) hS (fun q _ h => hFc q h) hFc (fun r_7 u t H locs ht hvm hw hB hz1 hk1 hS => ?_)
          have hP := ro_keep hP hk1
          have hP : va_P D vwCl [(xo, .inr (11, [.ref xk, .ref xn, .ref xc, .ref xh, .ref xt, .ref xw, .ref xm, .ref xp, .int 0, .int 0, .long 0, .int 0])), (xm, .inl (cy 4, 4, .inr (.inr (.inr (.inr (mf_ m0 m1 m2 m3)))))), (m0, .inr (4, [.int 0, .int (-9), .ref l0, .ref u0])), (m1, .inr (4, [.int 0, .int (-9), .ref l1, .ref u1])), (m2, .inr (4, [.int 0, .int (-9), .ref l2, .ref u2])), (m3, .inr (4, [.int 0, .int (-9), .ref l3, .ref u3]))] H := hP
          have e_ := hw.symm
          subst e_
          refine lv_if_ne (tgt := 29) hx hb dX11_rowRefusal_23 (by decide) (fun c_8 => ?_) (fun c_8 => ?_)
          · exact absurd c_8 (by decide)
          · have _ := c_8
            refine lv_bipush (v := (-11)) hx hb dX11_rowRefusal_26 (by decide) ?_
            exact W.iret (v := (-11)) hx hb hr (fun t ht hW => ⟨⟨(-11), (), rfl, Or.inr (⟨by omega, rfl⟩), trivial⟩, hS.F ht⟩) hS.2.2 dX11_rowRefusal_28
        · refine lv_aload_n hx hb dX11_rowRefusal_14 rfl (lv_at hl 0 rfl) ?_
          refine va_get (ci := 11) (v := .ref xm) (C := RX11) (T := TX11) (N := 12) hx hb hts (fun _ h => List.mem_cons_of_mem _ (List.mem_append_left _ (List.mem_append_right _ h))) hown hK.1 hP 0 rfl rfl 6 (by decide) (hts (.fieldLink RX11 72 "CutAtlas" "maps" "[LCutAtlas$NumberMap;") (by decide +kernel)) (fun _ h9 => h9) rfl dX11_rowRefusal_15 ?_
          refine lv_iload_n hx hb dX11_rowRefusal_18 rfl (lv_at hl 1 rfl) ?_
          refine va_aldq hx hb hK.1 hP 1 4 rfl rfl (i := 2) (by unfold vp_in; decide) dX11_rowRefusal_19 ?_
          refine lv_topv (v' := .ref m2) (by simp [va_up, va_rf, mf_, cl_0, cl_1, cl_2, cl_3, cl_4]) ?_
          have hPc := hP.sub (ws' := [(m2, .inr (4, [.int 0, .int (-9), .ref l2, .ref u2]))]) [4] rfl
          have hDw : va_D (fun _ => True) [(m2, .inr (4, [.int 0, .int (-9), .ref l2, .ref u2]))] := hD0.sub [4] (by decide) rfl
          have hFc := va_free (wc := []) hD hS hA [] rfl
          refine va_calli (va_runV (As := []) (rest := []) ⟨hx, hb, hml, hown, hts⟩ (c_X4_isThere l D cy H.size m2 l2 u2) (cwV 0 hts gX11_rowRefusal_X4_isThere rfl rfl rfl (by decide +kernel) ⟨Nat.le_of_ble_eq_true rfl, Nat.le_of_ble_eq_true rfl⟩) ⟨bl_, va_recv hK.1 hPc (ci := 4) (q0 := 0) rfl rfl, fun U hU hW => ⟨rfl, by rw [hU], by rw [hU]; exact hPc, kk_mv hW hK, hDw⟩⟩ rfl rfl hl.1 rfl (lv_room (Nat.le_of_ble_eq_true rfl)) dX11_rowRefusal_20 ⟨Nat.le_of_ble_eq_true rfl, Nat.le_of_ble_eq_true rfl⟩) hS (fun q _ h => hFc q h) hFc (fun r_9 u t H locs ht hvm hw hB hz1 hk1 hS => ?_)
          have hP := ro_keep hP hk1
          have hP : va_P D vwCl [(xo, .inr (11, [.ref xk, .ref xn, .ref xc, .ref xh, .ref xt, .ref xw, .ref xm, .ref xp, .int 0, .int 0, .long 0, .int 0])), (xm, .inl (cy 4, 4, .inr (.inr (.inr (.inr (mf_ m0 m1 m2 m3)))))), (m0, .inr (4, [.int 0, .int (-9), .ref l0, .ref u0])), (m1, .inr (4, [.int 0, .int (-9), .ref l1, .ref u1])), (m2, .inr (4, [.int 0, .int (-9), .ref l2, .ref u2])), (m3, .inr (4, [.int 0, .int (-9), .ref l3, .ref u3]))] H := hP
          have e_ := hw.symm
          subst e_
          refine lv_if_ne (tgt := 29) hx hb dX11_rowRefusal_23 (by decide) (fun c_10 => ?_) (fun c_10 => ?_)
          · exact absurd c_10 (by decide)
          · have _ := c_10
            refine lv_bipush (v := (-11)) hx hb dX11_rowRefusal_26 (by decide) ?_
            exact W.iret (v := (-11)) hx hb hr (fun t ht hW => ⟨⟨(-11), (), rfl, Or.inr (⟨by omega, rfl⟩), trivial⟩, hS.F ht⟩) hS.2.2 dX11_rowRefusal_28
        · refine lv_aload_n hx hb dX11_rowRefusal_14 rfl (lv_at hl 0 rfl) ?_
          refine va_get (ci := 11) (v := .ref xm) (C := RX11) (T := TX11) (N := 12) hx hb hts (fun _ h => List.mem_cons_of_mem _ (List.mem_append_left _ (List.mem_append_right _ h))) hown hK.1 hP 0 rfl rfl 6 (by decide) (hts (.fieldLink RX11 72 "CutAtlas" "maps" "[LCutAtlas$NumberMap;") (by decide +kernel)) (fun _ h9 => h9) rfl dX11_rowRefusal_15 ?_
          refine lv_iload_n hx hb dX11_rowRefusal_18 rfl (lv_at hl 1 rfl) ?_
          refine va_aldq hx hb hK.1 hP 1 4 rfl rfl (i := 3) (by unfold vp_in; decide) dX11_rowRefusal_19 ?_
          refine lv_topv (v' := .ref m3) (by simp [va_up, va_rf, mf_, cl_0, cl_1, cl_2, cl_3, cl_4]) ?_
          have hPc := hP.sub (ws' := [(m3, .inr (4, [.int 0, .int (-9), .ref l3, .ref u3]))]) [5] rfl
          have hDw : va_D (fun _ => True) [(m3, .inr (4, [.int 0, .int (-9), .ref l3, .ref u3]))] := hD0.sub [5] (by decide) rfl
          have hFc := va_free (wc := []) hD hS hA [] rfl
          refine va_calli (va_runV (As := []) (rest := []) ⟨hx, hb, hml, hown, hts⟩ (c_X4_isThere l D cy H.size m3 l3 u3) (cwV 0 hts gX11_rowRefusal_X4_isThere rfl rfl rfl (by decide +kernel) ⟨Nat.le_of_ble_eq_true rfl, Nat.le_of_ble_eq_true rfl⟩) ⟨bl_, va_recv hK.1 hPc (ci := 4) (q0 := 0) rfl rfl, fun U hU hW => ⟨rfl, by rw [hU], by rw [hU]; exact hPc, kk_mv hW hK, hDw⟩⟩ rfl rfl hl.1 rfl (lv_room (Nat.le_of_ble_eq_true rfl)) dX11_rowRefusal_20 ⟨Nat.le_of_ble_eq_true rfl, Nat.le_of_ble_eq_true rfl⟩) hS (fun q _ h => hFc q h) hFc (fun r_11 u t H locs ht hvm hw hB hz1 hk1 hS => ?_)
          have hP := ro_keep hP hk1
          have hP : va_P D vwCl [(xo, .inr (11, [.ref xk, .ref xn, .ref xc, .ref xh, .ref xt, .ref xw, .ref xm, .ref xp, .int 0, .int 0, .long 0, .int 0])), (xm, .inl (cy 4, 4, .inr (.inr (.inr (.inr (mf_ m0 m1 m2 m3)))))), (m0, .inr (4, [.int 0, .int (-9), .ref l0, .ref u0])), (m1, .inr (4, [.int 0, .int (-9), .ref l1, .ref u1])), (m2, .inr (4, [.int 0, .int (-9), .ref l2, .ref u2])), (m3, .inr (4, [.int 0, .int (-9), .ref l3, .ref u3]))] H := hP
          have e_ := hw.symm
          subst e_
          refine lv_if_ne (tgt := 29) hx hb dX11_rowRefusal_23 (by decide) (fun c_12 => ?_) (fun c_12 => ?_)
          · exact absurd c_12 (by decide)
          · have _ := c_12
            refine lv_bipush (v := (-11)) hx hb dX11_rowRefusal_26 (by decide) ?_
            exact W.iret (v := (-11)) hx hb hr (fun t ht hW => ⟨⟨(-11), (), rfl, Or.inr (⟨by omega, rfl⟩), trivial⟩, hS.F ht⟩) hS.2.2 dX11_rowRefusal_28
      · have t_4 : ¬ a3.toInt ≤ (5 : Int32).toInt := fun h => c_4 (Int32.le_iff_toInt_le.mpr h)
        refine lv_iconst (v := (-1)) hx hb dX11_rowRefusal_12 (by decide) ?_
        exact W.iret (v := (-1)) hx hb hr (fun t ht hW => ⟨⟨(-1), (), rfl, Or.inl (⟨by omega, rfl⟩), trivial⟩, hS.F ht⟩) hS.2.2 dX11_rowRefusal_13
  · have e_ := e_.symm
    subst e_
    refine lv_if_eq (tgt := 12) hx hb dX11_rowRefusal_4 (by decide) (fun c_13 => ?_) (fun c_13 => ?_)
    · have _ := c_13
      refine lv_iconst (v := (-1)) hx hb dX11_rowRefusal_12 (by decide) ?_
      exact W.iret (v := (-1)) hx hb hr (fun t ht hW => ⟨⟨(-1), (), rfl, Or.inl (⟨by omega, rfl⟩), trivial⟩, hS.F ht⟩) hS.2.2 dX11_rowRefusal_13
    · exact absurd c_13 (by decide)

set_option maxHeartbeats 4000000 in
set_option maxRecDepth 100000 in
theorem c_X11_numberRefusal (l : Launch) (D : va_G) (cy : Nat → ClassId) (sz : Nat) (xo : Nat) (xk : Nat) (xn : Nat) (xc : Nat) (xh : Nat) (xt : Nat) (xw : Nat) (xm : Nat) (xp : Nat) (m0 : Nat) (m1 : Nat) (m2 : Nat) (m3 : Nat) (l0 : Nat) (l1 : Nat) (l2 : Nat) (l3 : Nat) (u0 : Nat) (u1 : Nat) (u2 : Nat) (u3 : Nat) (a1 : Int32) (a2 : Int32) (a3 : Int32) (a4 : Int32) : Met l yX11_numberRefusal wsX11_numberRefusal ({ frames := 1, cells := 0, slots := 0, locals := 20 }) (va_Pc [.ref xo, .int a1, .int a2, .int a3, .int a4] (fun U => U.heap.size = sz ∧ va_P D vwCl [(xo, .inr (11, [.ref xk, .ref xn, .ref xc, .ref xh, .ref xt, .ref xw, .ref xm, .ref xp, .int 0, .int 0, .long 0, .int 0])), (xm, .inl (cy 4, 4, .inr (.inr (.inr (.inr (mf_ m0 m1 m2 m3)))))), (m0, .inr (4, [.int 0, .int (-9), .ref l0, .ref u0])), (m1, .inr (4, [.int 0, .int (-9), .ref l1, .ref u1])), (m2, .inr (4, [.int 0, .int (-9), .ref l2, .ref u2])), (m3, .inr (4, [.int 0, .int (-9), .ref l3, .ref u3]))] U.heap ∧ kk_ D cy U ∧ va_D (fun _ => True) [(xo, .inr (11, [.ref xk, .ref xn, .ref xc, .ref xh, .ref xt, .ref xw, .ref xm, .ref xp, .int 0, .int 0, .long 0, .int 0])), (xm, .inl (cy 4, 4, .inr (.inr (.inr (.inr (mf_ m0 m1 m2 m3)))))), (m0, .inr (4, [.int 0, .int (-9), .ref l0, .ref u0])), (m1, .inr (4, [.int 0, .int (-9), .ref l1, .ref u1])), (m2, .inr (4, [.int 0, .int (-9), .ref l2, .ref u2])), (m3, .inr (4, [.int 0, .int (-9), .ref l3, .ref u3]))])) (va_Qi (fun (r : Int32) (_ : Unit) => ((¬ ((0 ≤ a1.toInt ∧ a1.toInt < 4) ∧ (0 ≤ a2.toInt ∧ a2.toInt < 3))) ∧ r = (-1)) ∨ (((0 ≤ a1.toInt ∧ a1.toInt < 4) ∧ (0 ≤ a2.toInt ∧ a2.toInt < 3)) ∧ r = (-11))) (fun (_ : Unit) (_ : State) => True) (va_A [] sz)) 0 0 (va_A [] sz) := by
  refine Met.ofW (cc := cX11_numberRefusal) (maxL := 5) (ret := (some .int)) (by decide) rfl ?_
  intro p e s m args below meth c s₁ B hml hv
  obtain ⟨rfl, hsz, hP, hK, hD0⟩ := hv
  have hx := B.exec
  have hb := B.bytes
  have hr := B.returns
  have hts := atoms_spec (ws := wsX11_numberRefusal) B.pre
  have hown : s.vm.findClass RX11 = some m.cls := findClass_of_methodNamed B.named
  have hlocks := B.notSynchronized
  subst hsz
  have hD : va_D (va_A [] s.heap.size) [] := dd_nil
  generalize hAe : va_A [] s.heap.size = A at hD ⊢
  have hA : ∀ q : Nat, s.heap.size ≤ q → A q := fun q h => by rw [← hAe]; exact Or.inr h
  have hS : va_S A s.heap s.heap [] := va_S.rf
  have hl := lv_entry ([.ref xo, .int a1, .int a2, .int a3, .int a4]) (n := 5) (Nat.le_of_ble_eq_true rfl)
  rw [lg_entry_eq]
  generalize (lg_sl ([.ref xo, .int a1, .int a2, .int a3, .int a4]) ++ List.replicate (5 - (lg_sl ([.ref xo, .int a1, .int a2, .int a3, .int a4])).length) Slot.unset).toArray = ls at hl ⊢
  have hl : lv_has ls 5 [(0, .ref xo), (1, .int a1), (2, .int a2), (3, .int a3), (4, .int a4)] := hl
  refine lv_iload_n hx hb dX11_numberRefusal_0 rfl (lv_at hl 1 rfl) ?_
  have hPc := hP.sub (ws' := []) [] rfl
  have hDw : va_D (fun _ => True) [] := hD0.sub [] (by decide) rfl
  have hFc := va_free (wc := []) hD hS hA [] rfl
  refine va_calli (va_runS (As := [.int a1]) (rest := []) ⟨hx, hb, hml, hown, hts⟩ (c_X11_isMapNumber l D cy s.heap.size a1) (va_cwS 1 hts gX11_numberRefusal_X11_isMapNumber rfl rfl rfl (by decide +kernel) ⟨Nat.le_of_ble_eq_true rfl, Nat.le_of_ble_eq_true rfl⟩) ⟨bl_, fun U hU hW => ⟨rfl, by rw [hU], by rw [hU]; exact hPc, kk_mv hW hK, hDw⟩⟩ rfl rfl hl.1 rfl (lv_room (Nat.le_of_ble_eq_true rfl)) dX11_numberRefusal_1 ⟨Nat.le_of_ble_eq_true rfl, Nat.le_of_ble_eq_true rfl⟩) hS (fun q _ h => hFc q h) hFc (fun r_1 u t H locs ht hvm hw hB hz1 hk1 hS => ?_)
  have hP := ro_keep hP hk1
  have hP : va_P D vwCl [(xo, .inr (11, [.ref xk, .ref xn, .ref xc, .ref xh, .ref xt, .ref xw, .ref xm, .ref xp, .int 0, .int 0, .long 0, .int 0])), (xm, .inl (cy 4, 4, .inr (.inr (.inr (.inr (mf_ m0 m1 m2 m3)))))), (m0, .inr (4, [.int 0, .int (-9), .ref l0, .ref u0])), (m1, .inr (4, [.int 0, .int (-9), .ref l1, .ref u1])), (m2, .inr (4, [.int 0, .int (-9), .ref l2, .ref u2])), (m3, .inr (4, [.int 0, .int (-9), .ref l3, .ref u3]))] H := hP
  rcases hw with ⟨w_2, e_⟩ | ⟨w_2, e_⟩
  · have e_ := e_.symm
    subst e_
    refine lv_if_eq (tgt := 14) hx hb dX11_numberRefusal_4 (by decide) (fun c_3 => ?_) (fun c_3 => ?_)
    · exact absurd c_3 (by decide)
    · have _ := c_3
      refine lv_iload_n hx hb dX11_numberRefusal_7 rfl (lv_at hl 2 rfl) ?_
      have hPc := hP.sub (ws' := []) [] rfl
      have hDw : va_D (fun _ => True) [] := hD0.sub [] (by decide) rfl
      have hFc := va_free (wc := []) hD hS hA [] rfl
      refine va_calli (va_runS (As := [.int a2]) (rest := []) ⟨hx, hb, hml, hown, hts⟩ (c_X11_isMapKind l D cy H.size a2) (va_cwS 1 hts gX11_numberRefusal_X11_isMapKind rfl rfl rfl (by decide +kernel) ⟨Nat.le_of_ble_eq_true rfl, Nat.le_of_ble_eq_true rfl⟩) ⟨bl_, fun U hU hW => ⟨rfl, by rw [hU], by rw [hU]; exact hPc, kk_mv hW hK, hDw⟩⟩ rfl rfl hl.1 rfl (lv_room (Nat.le_of_ble_eq_true rfl)) dX11_numberRefusal_8 ⟨Nat.le_of_ble_eq_true rfl, Nat.le_of_ble_eq_true rfl⟩) hS (fun q _ h => hFc q h) hFc (fun r_4 u t H locs ht hvm hw hB hz1 hk1 hS => ?_)
      have hP := ro_keep hP hk1
      have hP : va_P D vwCl [(xo, .inr (11, [.ref xk, .ref xn, .ref xc, .ref xh, .ref xt, .ref xw, .ref xm, .ref xp, .int 0, .int 0, .long 0, .int 0])), (xm, .inl (cy 4, 4, .inr (.inr (.inr (.inr (mf_ m0 m1 m2 m3)))))), (m0, .inr (4, [.int 0, .int (-9), .ref l0, .ref u0])), (m1, .inr (4, [.int 0, .int (-9), .ref l1, .ref u1])), (m2, .inr (4, [.int 0, .int (-9), .ref l2, .ref u2])), (m3, .inr (4, [.int 0, .int (-9), .ref l3, .ref u3]))] H := hP
      rcases hw with ⟨w_5, e_⟩ | ⟨w_5, e_⟩
      · have e_ := e_.symm
        subst e_
        refine lv_if_ne (tgt := 16) hx hb dX11_numberRefusal_11 (by decide) (fun c_6 => ?_) (fun c_6 => ?_)
        · have _ := c_6
          rcases sp_4 (x := a1) (by omega) with rfl | rfl | rfl | rfl
          · refine lv_aload_n hx hb dX11_numberRefusal_16 rfl (lv_at hl 0 rfl) ?_
            refine va_get (ci := 11) (v := .ref xm) (C := RX11) (T := TX11) (N := 12) hx hb hts (fun _ h => List.mem_cons_of_mem _ (List.mem_append_left _ (List.mem_append_right _ h))) hown hK.1 hP 0 rfl rfl 6 (by decide) (hts (.fieldLink RX11 72 "CutAtlas" "maps" "[LCutAtlas$NumberMap;") (by decide +kernel)) (fun _ h9 => h9) rfl dX11_numberRefusal_17 ?_
            refine lv_iload_n hx hb dX11_numberRefusal_20 rfl (lv_at hl 1 rfl) ?_
            refine va_aldq hx hb hK.1 hP 1 4 rfl rfl (i := 0) (by unfold vp_in; decide) dX11_numberRefusal_21 ?_
            refine lv_topv (v' := .ref m0) (by simp [va_up, va_rf, mf_, cl_0, cl_1, cl_2, cl_3, cl_4]) ?_
            have hPc := hP.sub (ws' := [(m0, .inr (4, [.int 0, .int (-9), .ref l0, .ref u0]))]) [2] rfl
            have hDw : va_D (fun _ => True) [(m0, .inr (4, [.int 0, .int (-9), .ref l0, .ref u0]))] := hD0.sub [2] (by decide) rfl
            have hFc := va_free (wc := []) hD hS hA [] rfl
            refine va_calli (va_runV (As := []) (rest := []) ⟨hx, hb, hml, hown, hts⟩ (c_X4_isThere l D cy H.size m0 l0 u0) (cwV 0 hts gX11_numberRefusal_X4_isThere rfl rfl rfl (by decide +kernel) ⟨Nat.le_of_ble_eq_true rfl, Nat.le_of_ble_eq_true rfl⟩) ⟨bl_, va_recv hK.1 hPc (ci := 4) (q0 := 0) rfl rfl, fun U hU hW => ⟨rfl, by rw [hU], by rw [hU]; exact hPc, kk_mv hW hK, hDw⟩⟩ rfl rfl hl.1 rfl (lv_room (Nat.le_of_ble_eq_true rfl)) dX11_numberRefusal_22 ⟨Nat.le_of_ble_eq_true rfl, Nat.le_of_ble_eq_true rfl⟩) hS (fun q _ h => hFc q h) hFc (fun r_7 u t H locs ht hvm hw hB hz1 hk1 hS => ?_)
            have hP := ro_keep hP hk1
            have hP : va_P D vwCl [(xo, .inr (11, [.ref xk, .ref xn, .ref xc, .ref xh, .ref xt, .ref xw, .ref xm, .ref xp, .int 0, .int 0, .long 0, .int 0])), (xm, .inl (cy 4, 4, .inr (.inr (.inr (.inr (mf_ m0 m1 m2 m3)))))), (m0, .inr (4, [.int 0, .int (-9), .ref l0, .ref u0])), (m1, .inr (4, [.int 0, .int (-9), .ref l1, .ref u1])), (m2, .inr (4, [.int 0, .int (-9), .ref l2, .ref u2])), (m3, .inr (4, [.int 0, .int (-9), .ref l3, .ref u3]))] H := hP
            have e_ := hw.symm
            subst e_
            refine lv_if_ne (tgt := 31) hx hb dX11_numberRefusal_25 (by decide) (fun c_8 => ?_) (fun c_8 => ?_)
            · exact absurd c_8 (by decide)
            · have _ := c_8
              refine lv_bipush (v := (-11)) hx hb dX11_numberRefusal_28 (by decide) ?_
              exact W.iret (v := (-11)) hx hb hr (fun t ht hW => ⟨⟨(-11), (), rfl, Or.inr (⟨by omega, rfl⟩), trivial⟩, hS.F ht⟩) hS.2.2 dX11_numberRefusal_30
          · refine lv_aload_n hx hb dX11_numberRefusal_16 rfl (lv_at hl 0 rfl) ?_
            refine va_get (ci := 11) (v := .ref xm) (C := RX11) (T := TX11) (N := 12) hx hb hts (fun _ h => List.mem_cons_of_mem _ (List.mem_append_left _ (List.mem_append_right _ h))) hown hK.1 hP 0 rfl rfl 6 (by decide) (hts (.fieldLink RX11 72 "CutAtlas" "maps" "[LCutAtlas$NumberMap;") (by decide +kernel)) (fun _ h9 => h9) rfl dX11_numberRefusal_17 ?_
            refine lv_iload_n hx hb dX11_numberRefusal_20 rfl (lv_at hl 1 rfl) ?_
            refine va_aldq hx hb hK.1 hP 1 4 rfl rfl (i := 1) (by unfold vp_in; decide) dX11_numberRefusal_21 ?_
            refine lv_topv (v' := .ref m1) (by simp [va_up, va_rf, mf_, cl_0, cl_1, cl_2, cl_3, cl_4]) ?_
            have hPc := hP.sub (ws' := [(m1, .inr (4, [.int 0, .int (-9), .ref l1, .ref u1]))]) [3] rfl
            have hDw : va_D (fun _ => True) [(m1, .inr (4, [.int 0, .int (-9), .ref l1, .ref u1]))] := hD0.sub [3] (by decide) rfl
            have hFc := va_free (wc := []) hD hS hA [] rfl
            refine va_calli (va_runV (As := []) (rest := []) ⟨hx, hb, hml, hown, hts⟩ (c_X4_isThere l D cy H.size m1 l1 u1) (cwV 0 hts gX11_numberRefusal_X4_isThere rfl rfl rfl (by decide +kernel) ⟨Nat.le_of_ble_eq_true rfl, Nat.le_of_ble_eq_true rfl⟩) ⟨bl_, va_recv hK.1 hPc (ci := 4) (q0 := 0) rfl rfl, fun U hU hW => ⟨rfl, by rw [hU], by rw [hU]; exact hPc, kk_mv hW hK, hDw⟩⟩ rfl rfl hl.1 rfl (lv_room (Nat.le_of_ble_eq_true rfl)) dX11_numberRefusal_22 ⟨Nat.le_of_ble_eq_true rfl, Nat.le_of_ble_eq_true rfl⟩) hS (fun q _ h => hFc q h) hFc (fun r_9 u t H locs ht hvm hw hB hz1 hk1 hS => ?_)
            have hP := ro_keep hP hk1
            have hP : va_P D vwCl [(xo, .inr (11, [.ref xk, .ref xn, .ref xc, .ref xh, .ref xt, .ref xw, .ref xm, .ref xp, .int 0, .int 0, .long 0, .int 0])), (xm, .inl (cy 4, 4, .inr (.inr (.inr (.inr (mf_ m0 m1 m2 m3)))))), (m0, .inr (4, [.int 0, .int (-9), .ref l0, .ref u0])), (m1, .inr (4, [.int 0, .int (-9), .ref l1, .ref u1])), (m2, .inr (4, [.int 0, .int (-9), .ref l2, .ref u2])), (m3, .inr (4, [.int 0, .int (-9), .ref l3, .ref u3]))] H := hP
            have e_ := hw.symm
            subst e_
            refine lv_if_ne (tgt := 31) hx hb dX11_numberRefusal_25 (by decide) (fun c_10 => ?_) (fun c_10 => ?_)
            · exact absurd c_10 (by decide)
            · have _ := c_10
              refine lv_bipush (v := (-11)) hx hb dX11_numberRefusal_28 (by decide) ?_
              exact W.iret (v := (-11)) hx hb hr (fun t ht hW => ⟨⟨(-11), (), rfl, Or.inr (⟨by omega, rfl⟩), trivial⟩, hS.F ht⟩) hS.2.2 dX11_numberRefusal_30
          · refine lv_aload_n hx hb dX11_numberRefusal_16 rfl (lv_at hl 0 rfl) ?_
            refine va_get (ci := 11) (v := .ref xm) (C := RX11) (T := TX11) (N := 12) hx hb hts (fun _ h => List.mem_cons_of_mem _ (List.mem_append_left _ (List.mem_append_right _ h))) hown hK.1 hP 0 rfl rfl 6 (by decide) (hts (.fieldLink RX11 72 "CutAtlas" "maps" "[LCutAtlas$NumberMap;") (by decide +kernel)) (fun _ h9 => h9) rfl dX11_numberRefusal_17 ?_
            refine lv_iload_n hx hb dX11_numberRefusal_20 rfl (lv_at hl 1 rfl) ?_
            refine va_aldq hx hb hK.1 hP 1 4 rfl rfl (i := 2) (by unfold vp_in; decide) dX11_numberRefusal_21 ?_
            refine lv_topv (v' := .ref m2) (by simp [va_up, va_rf, mf_, cl_0, cl_1, cl_2, cl_3, cl_4]) ?_
            have hPc := hP.sub (ws' := [(m2, .inr (4, [.int 0, .int (-9), .ref l2, .ref u2]))]) [4] rfl
            have hDw : va_D (fun _ => True) [(m2, .inr (4, [.int 0, .int (-9), .ref l2, .ref u2]))] := hD0.sub [4] (by decide) rfl
            have hFc := va_free (wc := []) hD hS hA [] rfl
            refine va_calli (va_runV (As := []) (rest := []) ⟨hx, hb, hml, hown, hts⟩ (c_X4_isThere l D cy H.size m2 l2 u2) (cwV 0 hts gX11_numberRefusal_X4_isThere rfl rfl rfl (by decide +kernel) ⟨Nat.le_of_ble_eq_true rfl, Nat.le_of_ble_eq_true rfl⟩) ⟨bl_, va_recv hK.1 hPc (ci := 4) (q0 := 0) rfl rfl, fun U hU hW => ⟨rfl, by rw [hU], by rw [hU]; exact hPc, kk_mv hW hK, hDw⟩⟩ rfl rfl hl.1 rfl (lv_room (Nat.le_of_ble_eq_true rfl)) dX11_numberRefusal_22 ⟨Nat.le_of_ble_eq_true rfl, Nat.le_of_ble_eq_true rfl⟩) hS (fun q _ h => hFc q h) hFc (fun r_11 u t H locs ht hvm hw hB hz1 hk1 hS => ?_)
            have hP := ro_keep hP hk1
            have hP : va_P D vwCl [(xo, .inr (11, [.ref xk, .ref xn, .ref xc, .ref xh, .ref xt, .ref xw, .ref xm, .ref xp, .int 0, .int 0, .long 0, .int 0])), (xm, .inl (cy 4, 4, .inr (.inr (.inr (.inr (mf_ m0 m1 m2 m3)))))), (m0, .inr (4, [.int 0, .int (-9), .ref l0, .ref u0])), (m1, .inr (4, [.int 0, .int (-9), .ref l1, .ref u1])), (m2, .inr (4, [.int 0, .int (-9), .ref l2, .ref u2])), (m3, .inr (4, [.int 0, .int (-9), .ref l3, .ref u3]))] H := hP
            have e_ := hw.symm
            subst e_
            refine lv_if_ne (tgt := 31) hx hb dX11_numberRefusal_25 (by decide) (fun c_12 => ?_) (fun c_12 => ?_)
            · exact absurd c_12 (by decide)
            · have _ := c_12
              refine lv_bipush (v := (-11)) hx hb dX11_numberRefusal_28 (by decide) ?_
              exact W.iret (v := (-11)) hx hb hr (fun t ht hW => ⟨⟨(-11), (), rfl, Or.inr (⟨by omega, rfl⟩), trivial⟩, hS.F ht⟩) hS.2.2 dX11_numberRefusal_30
          · refine lv_aload_n hx hb dX11_numberRefusal_16 rfl (lv_at hl 0 rfl) ?_
            refine va_get (ci := 11) (v := .ref xm) (C := RX11) (T := TX11) (N := 12) hx hb hts (fun _ h => List.mem_cons_of_mem _ (List.mem_append_left _ (List.mem_append_right _ h))) hown hK.1 hP 0 rfl rfl 6 (by decide) (hts (.fieldLink RX11 72 "CutAtlas" "maps" "[LCutAtlas$NumberMap;") (by decide +kernel)) (fun _ h9 => h9) rfl dX11_numberRefusal_17 ?_
            refine lv_iload_n hx hb dX11_numberRefusal_20 rfl (lv_at hl 1 rfl) ?_
            refine va_aldq hx hb hK.1 hP 1 4 rfl rfl (i := 3) (by unfold vp_in; decide) dX11_numberRefusal_21 ?_
            refine lv_topv (v' := .ref m3) (by simp [va_up, va_rf, mf_, cl_0, cl_1, cl_2, cl_3, cl_4]) ?_
            have hPc := hP.sub (ws' := [(m3, .inr (4, [.int 0, .int (-9), .ref l3, .ref u3]))]) [5] rfl
            have hDw : va_D (fun _ => True) [(m3, .inr (4, [.int 0, .int (-9), .ref l3, .ref u3]))] := hD0.sub [5] (by decide) rfl
            have hFc := va_free (wc := []) hD hS hA [] rfl
            refine va_calli (va_runV (As := []) (rest := []) ⟨hx, hb, hml, hown, hts⟩ (c_X4_isThere l D cy H.size m3 l3 u3) (cwV 0 hts gX11_numberRefusal_X4_isThere rfl rfl rfl (by decide +kernel) ⟨Nat.le_of_ble_eq_true rfl, Nat.le_of_ble_eq_true rfl⟩) ⟨bl_, va_recv hK.1 hPc (ci := 4) (q0 := 0) rfl rfl, fun U hU hW => ⟨rfl, by rw [hU], by rw [hU]; exact hPc, kk_mv hW hK, hDw⟩⟩ rfl rfl hl.1 rfl (lv_room (Nat.le_of_ble_eq_true rfl)) dX11_numberRefusal_22 ⟨Nat.le_of_ble_eq_true rfl, Nat.le_of_ble_eq_true rfl⟩) hS (fun q _ h => hFc q h) hFc (fun r_13 u t H locs ht hvm hw hB hz1 hk1 hS => ?_)
            have hP := ro_keep hP hk1
            have hP : va_P D vwCl [(xo, .inr (11, [.ref xk, .ref xn, .ref xc, .ref xh, .ref xt, .ref xw, .ref xm, .ref xp, .int 0, .int 0, .long 0, .int 0])), (xm, .inl (cy 4, 4, .inr (.inr (.inr (.inr (mf_ m0 m1 m2 m3)))))), (m0, .inr (4, [.int 0, .int (-9), .ref l0, .ref u0])), (m1, .inr (4, [.int 0, .int (-9), .ref l1, .ref u1])), (m2, .inr (4, [.int 0, .int (-9), .ref l2, .ref u2])), (m3, .inr (4, [.int 0, .int (-9), .ref l3, .ref u3]))] H := hP
            have e_ := hw.symm
            subst e_
            refine lv_if_ne (tgt := 31) hx hb dX11_numberRefusal_25 (by decide) (fun c_14 => ?_) (fun c_14 => ?_)
            · exact absurd c_14 (by decide)
            · have _ := c_14
              refine lv_bipush (v := (-11)) hx hb dX11_numberRefusal_28 (by decide) ?_
              exact W.iret (v := (-11)) hx hb hr (fun t ht hW => ⟨⟨(-11), (), rfl, Or.inr (⟨by omega, rfl⟩), trivial⟩, hS.F ht⟩) hS.2.2 dX11_numberRefusal_30
        · exact absurd c_6 (by decide)
      · have e_ := e_.symm
        subst e_
        refine lv_if_ne (tgt := 16) hx hb dX11_numberRefusal_11 (by decide) (fun c_15 => ?_) (fun c_15 => ?_)
        · exact absurd c_15 (by decide)
        · have _ := c_15
          refine lv_iconst (v := (-1)) hx hb dX11_numberRefusal_14 (by decide) ?_
          exact W.iret (v := (-1)) hx hb hr (fun t ht hW => ⟨⟨(-1), (), rfl, Or.inl (⟨by omega, rfl⟩), trivial⟩, hS.F ht⟩) hS.2.2 dX11_numberRefusal_15
  · have e_ := e_.symm
    subst e_
    refine lv_if_eq (tgt := 14) hx hb dX11_numberRefusal_4 (by decide) (fun c_16 => ?_) (fun c_16 => ?_)
    · have _ := c_16
      refine lv_iconst (v := (-1)) hx hb dX11_numberRefusal_14 (by decide) ?_
      exact W.iret (v := (-1)) hx hb hr (fun t ht hW => ⟨⟨(-1), (), rfl, Or.inl (⟨by omega, rfl⟩), trivial⟩, hS.F ht⟩) hS.2.2 dX11_numberRefusal_15
    · exact absurd c_16 (by decide)

set_option maxHeartbeats 4000000 in
set_option maxRecDepth 100000 in
theorem c_X4_moveRefusal (l : Launch) (D : va_G) (cy : Nat → ClassId) (sz : Nat) (m0 : Nat) (l0 : Nat) (u0 : Nat) (a1 : Int32) (a2 : Int32) (a3 : Int32) (a4 : Int32) (a5 : Int32) : Met l yX4_moveRefusal wsX4_moveRefusal ({ frames := 1, cells := 0, slots := 0, locals := 20 }) (va_Pc [.ref m0, .int a1, .int a2, .int a3, .int a4, .int a5] (fun U => U.heap.size = sz ∧ va_P D vwCl [(m0, .inr (4, [.int 0, .int (-9), .ref l0, .ref u0]))] U.heap ∧ kk_ D cy U ∧ va_D (fun _ => True) [(m0, .inr (4, [.int 0, .int (-9), .ref l0, .ref u0]))])) (va_Qi (fun (r : Int32) (_ : Unit) => r = (-11)) (fun (_ : Unit) (_ : State) => True) (va_A [] sz)) 0 0 (va_A [] sz) := by
  refine Met.ofW (cc := cX4_moveRefusal) (maxL := 6) (ret := (some .int)) (by decide) rfl ?_
  intro p e s m args below meth c s₁ B hml hv
  obtain ⟨rfl, hsz, hP, hK, hD0⟩ := hv
  have hx := B.exec
  have hb := B.bytes
  have hr := B.returns
  have hts := atoms_spec (ws := wsX4_moveRefusal) B.pre
  have hown : s.vm.findClass RX4 = some m.cls := findClass_of_methodNamed B.named
  have hlocks := B.notSynchronized
  subst hsz
  have hD : va_D (va_A [] s.heap.size) [] := dd_nil
  generalize hAe : va_A [] s.heap.size = A at hD ⊢
  have hA : ∀ q : Nat, s.heap.size ≤ q → A q := fun q h => by rw [← hAe]; exact Or.inr h
  have hS : va_S A s.heap s.heap [] := va_S.rf
  have hl := lv_entry ([.ref m0, .int a1, .int a2, .int a3, .int a4, .int a5]) (n := 6) (Nat.le_of_ble_eq_true rfl)
  rw [lg_entry_eq]
  generalize (lg_sl ([.ref m0, .int a1, .int a2, .int a3, .int a4, .int a5]) ++ List.replicate (6 - (lg_sl ([.ref m0, .int a1, .int a2, .int a3, .int a4, .int a5])).length) Slot.unset).toArray = ls at hl ⊢
  have hl : lv_has ls 6 [(0, .ref m0), (1, .int a1), (2, .int a2), (3, .int a3), (4, .int a4), (5, .int a5)] := hl
  refine lv_aload_n hx hb dX4_moveRefusal_0 rfl (lv_at hl 0 rfl) ?_
  have hPc := hP.sub (ws' := [(m0, .inr (4, [.int 0, .int (-9), .ref l0, .ref u0]))]) [0] rfl
  have hDw : va_D (fun _ => True) [(m0, .inr (4, [.int 0, .int (-9), .ref l0, .ref u0]))] := hD0.sub [0] (by decide) rfl
  have hFc := va_free (wc := []) hD hS hA [] rfl
  refine va_calli (va_runV (As := []) (rest := []) ⟨hx, hb, hml, hown, hts⟩ (c_X4_isThere l D cy s.heap.size m0 l0 u0) (cwV 0 hts gX4_moveRefusal_X4_isThere rfl rfl rfl (by decide +kernel) ⟨Nat.le_of_ble_eq_true rfl, Nat.le_of_ble_eq_true rfl⟩) ⟨bl_, va_recv hK.1 hPc (ci := 4) (q0 := 0) rfl rfl, fun U hU hW => ⟨rfl, by rw [hU], by rw [hU]; exact hPc, kk_mv hW hK, hDw⟩⟩ rfl rfl hl.1 rfl (lv_room (Nat.le_of_ble_eq_true rfl)) dX4_moveRefusal_1 ⟨Nat.le_of_ble_eq_true rfl, Nat.le_of_ble_eq_true rfl⟩) hS (fun q _ h => hFc q h) hFc (fun r_1 u t H locs ht hvm hw hB hz1 hk1 hS => ?_)
  have hP := ro_keep hP hk1
  have hP : va_P D vwCl [(m0, .inr (4, [.int 0, .int (-9), .ref l0, .ref u0]))] H := hP
  have e_ := hw.symm
  subst e_
  refine lv_if_ne (tgt := 10) hx hb dX4_moveRefusal_4 (by decide) (fun c_2 => ?_) (fun c_2 => ?_)
  · exact absurd c_2 (by decide)
  · have _ := c_2
    refine lv_bipush (v := (-11)) hx hb dX4_moveRefusal_7 (by decide) ?_
    exact W.iret (v := (-11)) hx hb hr (fun t ht hW => ⟨⟨(-11), (), rfl, rfl, trivial⟩, hS.F ht⟩) hS.2.2 dX4_moveRefusal_9

set_option maxHeartbeats 4000000 in
set_option maxRecDepth 100000 in
/-- Arrays.fill of six -/
theorem c_J7_fill_53178 (l : Launch) (D : va_G) (cy : Nat → ClassId) (sz : Nat) (l0 : Nat) (a1 : Int32) : Met l yJ7_fill_53178 wsJ7_fill_53178 ({ frames := 0, cells := 0, slots := 0, locals := 0 }) (va_Pc [.ref l0, .int a1] (fun U => U.heap.size = sz ∧ va_P D vwCl [(l0, .inl (cy 0, 6, .inl (fun _ => 0)))] U.heap ∧ kk_ D cy U ∧ va_D (fun _ => True) [(l0, .inl (cy 0, 6, .inl (fun _ => 0)))])) (va_Qv (fun (_ : Unit) => True) (fun (_ : Unit) (_ : State) => True) (va_A [(l0, .inl (cy 0, 6, .inl (fun _ => 0)))] sz)) 0 0 (va_A [(l0, .inl (cy 0, 6, .inl (fun _ => 0)))] sz) := by
  refine Met.ofW (cc := cJ7_fill_53178) (maxL := 4) (ret := none) (by decide) rfl ?_
  intro p e s m args below meth c s₁ B hml hv
  obtain ⟨rfl, hsz, hP, hK, hD0⟩ := hv
  have hx := B.exec
  have hb := B.bytes
  have hr := B.returns
  have hts := atoms_spec (ws := wsJ7_fill_53178) B.pre
  have hown : s.vm.findClass RJ7 = some m.cls := findClass_of_methodNamed B.named
  have hlocks := B.notSynchronized
  subst hsz
  have hD := hD0.self (sz := s.heap.size)
  generalize hAe : va_A [(l0, .inl (cy 0, 6, .inl (fun _ => 0)))] s.heap.size = A at hD ⊢
  have hA : ∀ q : Nat, s.heap.size ≤ q → A q := fun q h => by rw [← hAe]; exact Or.inr h
  have hS : va_S A s.heap s.heap [] := va_S.rf
  have hl := lv_entry ([.ref l0, .int a1]) (n := 4) (Nat.le_of_ble_eq_true rfl)
  rw [lg_entry_eq]
  generalize (lg_sl ([.ref l0, .int a1]) ++ List.replicate (4 - (lg_sl ([.ref l0, .int a1])).length) Slot.unset).toArray = ls at hl ⊢
  have hl : lv_has ls 4 [(0, .ref l0), (1, .int a1)] := hl
  refine lv_iconst (v := 0) hx hb dJ7_fill_53178_0 (by decide) ?_
  refine lv_istore_n (lv' := [(2, .int 0), (0, .ref l0), (1, .int a1)]) hx hb dJ7_fill_53178_1 rfl hl (by decide) rfl (fun ls hl => ?_)
  refine lv_aload_n hx hb dJ7_fill_53178_2 rfl (lv_at hl 1 rfl) ?_
  refine va_alen hx hb hK.1 hP 0 0 rfl rfl (v := 6) rfl dJ7_fill_53178_3 ?_
  refine lv_istore_n (lv' := [(3, .int 6), (2, .int 0), (0, .ref l0), (1, .int a1)]) hx hb dJ7_fill_53178_4 rfl hl (by decide) rfl (fun ls hl => ?_)
  refine lv_iload_n hx hb dJ7_fill_53178_5 rfl (lv_at hl 1 rfl) ?_
  refine lv_iload_n hx hb dJ7_fill_53178_6 rfl (lv_at hl 0 rfl) ?_
  refine lv_icmp_ge (tgt := 20) hx hb dJ7_fill_53178_7 (by decide) (fun c_1 => ?_) (fun c_1 => ?_)
  · exact absurd c_1 (by decide)
  · have _ := c_1
    refine lv_aload_n hx hb dJ7_fill_53178_10 rfl (lv_at hl 2 rfl) ?_
    refine lv_iload_n hx hb dJ7_fill_53178_11 rfl (lv_at hl 1 rfl) ?_
    refine lv_iload_n hx hb dJ7_fill_53178_12 rfl (lv_at hl 3 rfl) ?_
    refine va_iast hx hb hK.1 hP hD hS 0 0 rfl rfl (i := 0) (by unfold vp_in; decide) dJ7_fill_53178_13 (fun H locs hP hD hS => ?_)
    have hP : va_P D vwCl [(l0, .inl (cy 0, 6, .inl (upd (fun _ => 0) (0 : Int32).toNatClampNeg a1)))] H := hP
    have hD : va_D A [(l0, .inl (cy 0, 6, .inl (upd (fun _ => 0) (0 : Int32).toNatClampNeg a1)))] := hD
    refine lv_iinc (v := 1) (lv' := [(2, .int 1), (3, .int 6), (0, .ref l0), (1, .int a1)]) hx hb dJ7_fill_53178_14 hl (k := 1) rfl (by decide) (by decide) rfl (fun ls hl => ?_)
    refine lv_goto (tgt := 5) hx hb dJ7_fill_53178_17 (by decide) ?_
    refine lv_iload_n hx hb dJ7_fill_53178_5 rfl (lv_at hl 0 rfl) ?_
    refine lv_iload_n hx hb dJ7_fill_53178_6 rfl (lv_at hl 1 rfl) ?_
    refine lv_icmp_ge (tgt := 20) hx hb dJ7_fill_53178_7 (by decide) (fun c_2 => ?_) (fun c_2 => ?_)
    · exact absurd c_2 (by decide)
    · have _ := c_2
      refine lv_aload_n hx hb dJ7_fill_53178_10 rfl (lv_at hl 2 rfl) ?_
      refine lv_iload_n hx hb dJ7_fill_53178_11 rfl (lv_at hl 0 rfl) ?_
      refine lv_iload_n hx hb dJ7_fill_53178_12 rfl (lv_at hl 3 rfl) ?_
      refine va_iast hx hb hK.1 hP hD hS 0 0 rfl rfl (i := 1) (by unfold vp_in; decide) dJ7_fill_53178_13 (fun H locs hP hD hS => ?_)
      have hP : va_P D vwCl [(l0, .inl (cy 0, 6, .inl (upd (upd (fun _ => 0) (0 : Int32).toNatClampNeg a1) (1 : Int32).toNatClampNeg a1)))] H := hP
      have hD : va_D A [(l0, .inl (cy 0, 6, .inl (upd (upd (fun _ => 0) (0 : Int32).toNatClampNeg a1) (1 : Int32).toNatClampNeg a1)))] := hD
      refine lv_iinc (v := 2) (lv' := [(2, .int 2), (3, .int 6), (0, .ref l0), (1, .int a1)]) hx hb dJ7_fill_53178_14 hl (k := 0) rfl (by decide) (by decide) rfl (fun ls hl => ?_)
      refine lv_goto (tgt := 5) hx hb dJ7_fill_53178_17 (by decide) ?_
      refine lv_iload_n hx hb dJ7_fill_53178_5 rfl (lv_at hl 0 rfl) ?_
      refine lv_iload_n hx hb dJ7_fill_53178_6 rfl (lv_at hl 1 rfl) ?_
      refine lv_icmp_ge (tgt := 20) hx hb dJ7_fill_53178_7 (by decide) (fun c_3 => ?_) (fun c_3 => ?_)
      · exact absurd c_3 (by decide)
      · have _ := c_3
        refine lv_aload_n hx hb dJ7_fill_53178_10 rfl (lv_at hl 2 rfl) ?_
        refine lv_iload_n hx hb dJ7_fill_53178_11 rfl (lv_at hl 0 rfl) ?_
        refine lv_iload_n hx hb dJ7_fill_53178_12 rfl (lv_at hl 3 rfl) ?_
        refine va_iast hx hb hK.1 hP hD hS 0 0 rfl rfl (i := 2) (by unfold vp_in; decide) dJ7_fill_53178_13 (fun H locs hP hD hS => ?_)
        have hP : va_P D vwCl [(l0, .inl (cy 0, 6, .inl (upd (upd (upd (fun _ => 0) (0 : Int32).toNatClampNeg a1) (1 : Int32).toNatClampNeg a1) (2 : Int32).toNatClampNeg a1)))] H := hP
        have hD : va_D A [(l0, .inl (cy 0, 6, .inl (upd (upd (upd (fun _ => 0) (0 : Int32).toNatClampNeg a1) (1 : Int32).toNatClampNeg a1) (2 : Int32).toNatClampNeg a1)))] := hD
        refine lv_iinc (v := 3) (lv' := [(2, .int 3), (3, .int 6), (0, .ref l0), (1, .int a1)]) hx hb dJ7_fill_53178_14 hl (k := 0) rfl (by decide) (by decide) rfl (fun ls hl => ?_)
        refine lv_goto (tgt := 5) hx hb dJ7_fill_53178_17 (by decide) ?_
        refine lv_iload_n hx hb dJ7_fill_53178_5 rfl (lv_at hl 0 rfl) ?_
        refine lv_iload_n hx hb dJ7_fill_53178_6 rfl (lv_at hl 1 rfl) ?_
        refine lv_icmp_ge (tgt := 20) hx hb dJ7_fill_53178_7 (by decide) (fun c_4 => ?_) (fun c_4 => ?_)
        · exact absurd c_4 (by decide)
        · have _ := c_4
          refine lv_aload_n hx hb dJ7_fill_53178_10 rfl (lv_at hl 2 rfl) ?_
          refine lv_iload_n hx hb dJ7_fill_53178_11 rfl (lv_at hl 0 rfl) ?_
          refine lv_iload_n hx hb dJ7_fill_53178_12 rfl (lv_at hl 3 rfl) ?_
          refine va_iast hx hb hK.1 hP hD hS 0 0 rfl rfl (i := 3) (by unfold vp_in; decide) dJ7_fill_53178_13 (fun H locs hP hD hS => ?_)
          have hP : va_P D vwCl [(l0, .inl (cy 0, 6, .inl (upd (upd (upd (upd (fun _ => 0) (0 : Int32).toNatClampNeg a1) (1 : Int32).toNatClampNeg a1) (2 : Int32).toNatClampNeg a1) (3 : Int32).toNatClampNeg a1)))] H := hP
          have hD : va_D A [(l0, .inl (cy 0, 6, .inl (upd (upd (upd (upd (fun _ => 0) (0 : Int32).toNatClampNeg a1) (1 : Int32).toNatClampNeg a1) (2 : Int32).toNatClampNeg a1) (3 : Int32).toNatClampNeg a1)))] := hD
          refine lv_iinc (v := 4) (lv' := [(2, .int 4), (3, .int 6), (0, .ref l0), (1, .int a1)]) hx hb dJ7_fill_53178_14 hl (k := 0) rfl (by decide) (by decide) rfl (fun ls hl => ?_)
          refine lv_goto (tgt := 5) hx hb dJ7_fill_53178_17 (by decide) ?_
          refine lv_iload_n hx hb dJ7_fill_53178_5 rfl (lv_at hl 0 rfl) ?_
          refine lv_iload_n hx hb dJ7_fill_53178_6 rfl (lv_at hl 1 rfl) ?_
          refine lv_icmp_ge (tgt := 20) hx hb dJ7_fill_53178_7 (by decide) (fun c_5 => ?_) (fun c_5 => ?_)
          · exact absurd c_5 (by decide)
          · have _ := c_5
            refine lv_aload_n hx hb dJ7_fill_53178_10 rfl (lv_at hl 2 rfl) ?_
            refine lv_iload_n hx hb dJ7_fill_53178_11 rfl (lv_at hl 0 rfl) ?_
            refine lv_iload_n hx hb dJ7_fill_53178_12 rfl (lv_at hl 3 rfl) ?_
            refine va_iast hx hb hK.1 hP hD hS 0 0 rfl rfl (i := 4) (by unfold vp_in; decide) dJ7_fill_53178_13 (fun H locs hP hD hS => ?_)
            have hP : va_P D vwCl [(l0, .inl (cy 0, 6, .inl (upd (upd (upd (upd (upd (fun _ => 0) (0 : Int32).toNatClampNeg a1) (1 : Int32).toNatClampNeg a1) (2 : Int32).toNatClampNeg a1) (3 : Int32).toNatClampNeg a1) (4 : Int32).toNatClampNeg a1)))] H := hP
            have hD : va_D A [(l0, .inl (cy 0, 6, .inl (upd (upd (upd (upd (upd (fun _ => 0) (0 : Int32).toNatClampNeg a1) (1 : Int32).toNatClampNeg a1) (2 : Int32).toNatClampNeg a1) (3 : Int32).toNatClampNeg a1) (4 : Int32).toNatClampNeg a1)))] := hD
            refine lv_iinc (v := 5) (lv' := [(2, .int 5), (3, .int 6), (0, .ref l0), (1, .int a1)]) hx hb dJ7_fill_53178_14 hl (k := 0) rfl (by decide) (by decide) rfl (fun ls hl => ?_)
            refine lv_goto (tgt := 5) hx hb dJ7_fill_53178_17 (by decide) ?_
            refine lv_iload_n hx hb dJ7_fill_53178_5 rfl (lv_at hl 0 rfl) ?_
            refine lv_iload_n hx hb dJ7_fill_53178_6 rfl (lv_at hl 1 rfl) ?_
            refine lv_icmp_ge (tgt := 20) hx hb dJ7_fill_53178_7 (by decide) (fun c_6 => ?_) (fun c_6 => ?_)
            · exact absurd c_6 (by decide)
            · have _ := c_6
              refine lv_aload_n hx hb dJ7_fill_53178_10 rfl (lv_at hl 2 rfl) ?_
              refine lv_iload_n hx hb dJ7_fill_53178_11 rfl (lv_at hl 0 rfl) ?_
              refine lv_iload_n hx hb dJ7_fill_53178_12 rfl (lv_at hl 3 rfl) ?_
              refine va_iast hx hb hK.1 hP hD hS 0 0 rfl rfl (i := 5) (by unfold vp_in; decide) dJ7_fill_53178_13 (fun H locs hP hD hS => ?_)
              have hP : va_P D vwCl [(l0, .inl (cy 0, 6, .inl (upd (upd (upd (upd (upd (upd (fun _ => 0) (0 : Int32).toNatClampNeg a1) (1 : Int32).toNatClampNeg a1) (2 : Int32).toNatClampNeg a1) (3 : Int32).toNatClampNeg a1) (4 : Int32).toNatClampNeg a1) (5 : Int32).toNatClampNeg a1)))] H := hP
              have hD : va_D A [(l0, .inl (cy 0, 6, .inl (upd (upd (upd (upd (upd (upd (fun _ => 0) (0 : Int32).toNatClampNeg a1) (1 : Int32).toNatClampNeg a1) (2 : Int32).toNatClampNeg a1) (3 : Int32).toNatClampNeg a1) (4 : Int32).toNatClampNeg a1) (5 : Int32).toNatClampNeg a1)))] := hD
              refine lv_iinc (v := 6) (lv' := [(2, .int 6), (3, .int 6), (0, .ref l0), (1, .int a1)]) hx hb dJ7_fill_53178_14 hl (k := 0) rfl (by decide) (by decide) rfl (fun ls hl => ?_)
              refine lv_goto (tgt := 5) hx hb dJ7_fill_53178_17 (by decide) ?_
              refine lv_iload_n hx hb dJ7_fill_53178_5 rfl (lv_at hl 0 rfl) ?_
              refine lv_iload_n hx hb dJ7_fill_53178_6 rfl (lv_at hl 1 rfl) ?_
              refine lv_icmp_ge (tgt := 20) hx hb dJ7_fill_53178_7 (by decide) (fun c_7 => ?_) (fun c_7 => ?_)
              · have _ := c_7
                exact W.vret hx hb hr (fun t ht hW => ⟨⟨(), rfl, trivial, trivial⟩, hS.F ht⟩) hS.2.2 dJ7_fill_53178_20
              · exact absurd c_7 (by decide)

set_option maxHeartbeats 4000000 in
set_option maxRecDepth 100000 in
theorem c_X4_begin (l : Launch) (D : va_G) (cy : Nat → ClassId) (sz : Nat) (m0 : Nat) (l0 : Nat) (u0 : Nat) (a1 : Int32) (a2 : Int32) : Met l yX4_begin wsX4_begin ({ frames := 1, cells := 0, slots := 0, locals := 23 }) (va_Pc [.ref m0, .int a1, .int a2] (fun U => U.heap.size = sz ∧ va_P D vwCl [(m0, .inr (4, [.int 0, .int (-9), .ref l0, .ref u0])), (l0, .inl (cy 0, 6, .inl (fun _ => 0)))] U.heap ∧ kk_ D cy U ∧ va_D (fun _ => True) [(m0, .inr (4, [.int 0, .int (-9), .ref l0, .ref u0])), (l0, .inl (cy 0, 6, .inl (fun _ => 0)))])) (va_Qv (fun (_ : Unit) => True) (fun (_ : Unit) (_ : State) => True) (va_A [(m0, .inr (4, [.int 0, .int (-9), .ref l0, .ref u0])), (l0, .inl (cy 0, 6, .inl (fun _ => 0)))] sz)) 0 0 (va_A [(m0, .inr (4, [.int 0, .int (-9), .ref l0, .ref u0])), (l0, .inl (cy 0, 6, .inl (fun _ => 0)))] sz) := by
  refine Met.ofW (cc := cX4_begin) (maxL := 3) (ret := none) (by decide) rfl ?_
  intro p e s m args below meth c s₁ B hml hv
  obtain ⟨rfl, hsz, hP, hK, hD0⟩ := hv
  have hx := B.exec
  have hb := B.bytes
  have hr := B.returns
  have hts := atoms_spec (ws := wsX4_begin) B.pre
  have hown : s.vm.findClass RX4 = some m.cls := findClass_of_methodNamed B.named
  have hlocks := B.notSynchronized
  subst hsz
  have hD := hD0.self (sz := s.heap.size)
  generalize hAe : va_A [(m0, .inr (4, [.int 0, .int (-9), .ref l0, .ref u0])), (l0, .inl (cy 0, 6, .inl (fun _ => 0)))] s.heap.size = A at hD ⊢
  have hA : ∀ q : Nat, s.heap.size ≤ q → A q := fun q h => by rw [← hAe]; exact Or.inr h
  have hS : va_S A s.heap s.heap [] := va_S.rf
  have hl := lv_entry ([.ref m0, .int a1, .int a2]) (n := 3) (Nat.le_of_ble_eq_true rfl)
  rw [lg_entry_eq]
  generalize (lg_sl ([.ref m0, .int a1, .int a2]) ++ List.replicate (3 - (lg_sl ([.ref m0, .int a1, .int a2])).length) Slot.unset).toArray = ls at hl ⊢
  have hl : lv_has ls 3 [(0, .ref m0), (1, .int a1), (2, .int a2)] := hl
  refine lv_aload_n hx hb dX4_begin_0 rfl (lv_at hl 0 rfl) ?_
  refine lv_iload_n hx hb dX4_begin_1 rfl (lv_at hl 1 rfl) ?_
  refine va_put (ci := 4) (v := .int a1) (ty := .int) (C := RX4) (T := TX4) (N := 4) hx hb hts (fun _ h => List.mem_cons_of_mem _ (List.mem_append_right _ h)) tyX4 tyX4_ok nmX4 hown hK.1 hP hD hS 0 rfl rfl 0 (by decide) (hts (.fieldLink RX4 9 "CutAtlas$NumberMap" "kind" "I") (by decide +kernel)) (fun _ h9 => h9) rfl (by decide +kernel) rfl rfl (Nat.le_of_ble_eq_true rfl) dX4_begin_2 (fun H locs hP hD hS => ?_)
  have hP : va_P D vwCl [(m0, .inr (4, [.int a1, .int (-9), .ref l0, .ref u0])), (l0, .inl (cy 0, 6, .inl (fun _ => 0)))] H := hP
  have hD : va_D A [(m0, .inr (4, [.int a1, .int (-9), .ref l0, .ref u0])), (l0, .inl (cy 0, 6, .inl (fun _ => 0)))] := hD
  refine lv_aload_n hx hb dX4_begin_5 rfl (lv_at hl 0 rfl) ?_
  refine lv_iload_n hx hb dX4_begin_6 rfl (lv_at hl 2 rfl) ?_
  refine va_put (ci := 4) (v := .int a2) (ty := .int) (C := RX4) (T := TX4) (N := 4) hx hb hts (fun _ h => List.mem_cons_of_mem _ (List.mem_append_right _ h)) tyX4 tyX4_ok nmX4 hown hK.1 hP hD hS 0 rfl rfl 1 (by decide) (hts (.fieldLink RX4 15 "CutAtlas$NumberMap" "rows" "I") (by decide +kernel)) (fun _ h9 => h9) rfl (by decide +kernel) rfl rfl (Nat.le_of_ble_eq_true rfl) dX4_begin_7 (fun H locs hP hD hS => ?_)
  have hP : va_P D vwCl [(m0, .inr (4, [.int a1, .int a2, .ref l0, .ref u0])), (l0, .inl (cy 0, 6, .inl (fun _ => 0)))] H := hP
  have hD : va_D A [(m0, .inr (4, [.int a1, .int a2, .ref l0, .ref u0])), (l0, .inl (cy 0, 6, .inl (fun _ => 0)))] := hD
  refine lv_aload_n hx hb dX4_begin_10 rfl (lv_at hl 0 rfl) ?_
  refine va_get (ci := 4) (v := .ref l0) (C := RX4) (T := TX4) (N := 4) hx hb hts (fun _ h => List.mem_cons_of_mem _ (List.mem_append_right _ h)) hown hK.1 hP 0 rfl rfl 2 (by decide) (hts (.fieldLink RX4 18 "CutAtlas$NumberMap" "lengths" "[I") (by decide +kernel)) (fun _ h9 => h9) rfl dX4_begin_11 ?_
  refine lv_bipush (v := (-9)) hx hb dX4_begin_14 (by decide) ?_
  have hPc := hP.sub (ws' := [(l0, .inl (cy 0, 6, .inl (fun _ => 0)))]) [1] rfl
  have hDc := hD.sub (ws' := [(l0, .inl (cy 0, 6, .inl (fun _ => 0)))]) [1] (by decide) rfl
  have hDw : va_D (fun _ => True) [(l0, .inl (cy 0, 6, .inl (fun _ => 0)))] := hDc.weaken (fun _ _ _ _ => trivial)
  have hFc := va_free (wc := [(l0, .inl (cy 0, 6, .inl (fun _ => 0)))]) hD hS hA [1] rfl
  refine va_callv (va_runS (As := [.ref l0, .int (-9)]) (rest := []) ⟨hx, hb, hml, hown, hts⟩ (c_J7_fill_53178 l D cy H.size l0 ((-9) : Int32)) (va_cwS 2 hts gX4_begin_J7_fill_53178 rfl rfl rfl (by decide +kernel) ⟨Nat.le_of_ble_eq_true rfl, Nat.le_of_ble_eq_true rfl⟩) ⟨bl_, fun U hU hW => ⟨rfl, by rw [hU], by rw [hU]; exact hPc, kk_mv hW hK, hDw⟩⟩ rfl rfl hl.1 rfl (lv_room (Nat.le_of_ble_eq_true rfl)) dX4_begin_16 ⟨Nat.le_of_ble_eq_true rfl, Nat.le_of_ble_eq_true rfl⟩) hS (fun q _ h => hFc q h) hFc (fun u t H locs ht hvm hw hB hz1 hk1 hS => ?_)
  obtain ⟨hP, hD⟩ := va_join (wr := [(m0, .inr (4, [.int a1, .int a2, .ref l0, .ref u0]))]) (w1 := []) hP hD [1] [0] rfl rfl (by decide) (by decide) hk1 hFc pp_nil dd_nil
  have hP : va_P D vwCl [(m0, .inr (4, [.int a1, .int a2, .ref l0, .ref u0]))] H := hP
  have hD : va_D A [(m0, .inr (4, [.int a1, .int a2, .ref l0, .ref u0]))] := hD
  exact W.vret hx hb hr (fun t ht hW => ⟨⟨(), rfl, trivial, trivial⟩, hS.F ht⟩) hS.2.2 dX4_begin_19
end
section
set_option maxHeartbeats 4000000 in
set_option maxRecDepth 100000 in
theorem c_X11_map (l : Launch) (D : va_G) (cy : Nat → ClassId) (sz : Nat) (xo : Nat) (xk : Nat) (xn : Nat) (xc : Nat) (xh : Nat) (xt : Nat) (xw : Nat) (xm : Nat) (xp : Nat) (m0 : Nat) (m1 : Nat) (m2 : Nat) (m3 : Nat) (l0 : Nat) (l1 : Nat) (l2 : Nat) (l3 : Nat) (u0 : Nat) (u1 : Nat) (u2 : Nat) (u3 : Nat) (a1 : Int32) (a2 : Int32) (a3 : Int32) : Met l yX11_map wsX11_map ({ frames := 2, cells := 0, slots := 0, locals := 45 }) (va_Pc [.ref xo, .int a1, .int a2, .int a3] (fun U => U.heap.size = sz ∧ va_P D vwCl [(xo, .inr (11, [.ref xk, .ref xn, .ref xc, .ref xh, .ref xt, .ref xw, .ref xm, .ref xp, .int 0, .int 0, .long 0, .int 0])), (xm, .inl (cy 4, 4, .inr (.inr (.inr (.inr (mf_ m0 m1 m2 m3)))))), (m0, .inr (4, [.int 0, .int (-9), .ref l0, .ref u0])), (m1, .inr (4, [.int 0, .int (-9), .ref l1, .ref u1])), (m2, .inr (4, [.int 0, .int (-9), .ref l2, .ref u2])), (m3, .inr (4, [.int 0, .int (-9), .ref l3, .ref u3])), (l0, .inl (cy 0, 6, .inl (fun _ => 0))), (l1, .inl (cy 0, 6, .inl (fun _ => 0))), (l2, .inl (cy 0, 6, .inl (fun _ => 0))), (l3, .inl (cy 0, 6, .inl (fun _ => 0)))] U.heap ∧ kk_ D cy U ∧ va_D (fun _ => True) [(xo, .inr (11, [.ref xk, .ref xn, .ref xc, .ref xh, .ref xt, .ref xw, .ref xm, .ref xp, .int 0, .int 0, .long 0, .int 0])), (xm, .inl (cy 4, 4, .inr (.inr (.inr (.inr (mf_ m0 m1 m2 m3)))))), (m0, .inr (4, [.int 0, .int (-9), .ref l0, .ref u0])), (m1, .inr (4, [.int 0, .int (-9), .ref l1, .ref u1])), (m2, .inr (4, [.int 0, .int (-9), .ref l2, .ref u2])), (m3, .inr (4, [.int 0, .int (-9), .ref l3, .ref u3])), (l0, .inl (cy 0, 6, .inl (fun _ => 0))), (l1, .inl (cy 0, 6, .inl (fun _ => 0))), (l2, .inl (cy 0, 6, .inl (fun _ => 0))), (l3, .inl (cy 0, 6, .inl (fun _ => 0)))])) (va_Qi (fun (r : Int32) (_ : Unit) => ((¬ ((0 ≤ a1.toInt ∧ a1.toInt < 4) ∧ (0 ≤ a2.toInt ∧ a2.toInt < 3) ∧ a3.toInt ≤ 6)) ∧ r = (-1)) ∨ ((((0 ≤ a1.toInt ∧ a1.toInt < 4) ∧ (0 ≤ a2.toInt ∧ a2.toInt < 3) ∧ a3.toInt ≤ 6) ∧ a3.toInt < 0) ∧ r = (-15)) ∨ ((((0 ≤ a1.toInt ∧ a1.toInt < 4) ∧ (0 ≤ a2.toInt ∧ a2.toInt < 3) ∧ a3.toInt ≤ 6) ∧ 0 ≤ a3.toInt) ∧ r = 1)) (fun (_ : Unit) (_ : State) => True) (va_A [(xo, .inr (11, [.ref xk, .ref xn, .ref xc, .ref xh, .ref xt, .ref xw, .ref xm, .ref xp, .int 0, .int 0, .long 0, .int 0])), (xm, .inl (cy 4, 4, .inr (.inr (.inr (.inr (mf_ m0 m1 m2 m3)))))), (m0, .inr (4, [.int 0, .int (-9), .ref l0, .ref u0])), (m1, .inr (4, [.int 0, .int (-9), .ref l1, .ref u1])), (m2, .inr (4, [.int 0, .int (-9), .ref l2, .ref u2])), (m3, .inr (4, [.int 0, .int (-9), .ref l3, .ref u3])), (l0, .inl (cy 0, 6, .inl (fun _ => 0))), (l1, .inl (cy 0, 6, .inl (fun _ => 0))), (l2, .inl (cy 0, 6, .inl (fun _ => 0))), (l3, .inl (cy 0, 6, .inl (fun _ => 0)))] sz)) 0 0 (va_A [(xo, .inr (11, [.ref xk, .ref xn, .ref xc, .ref xh, .ref xt, .ref xw, .ref xm, .ref xp, .int 0, .int 0, .long 0, .int 0])), (xm, .inl (cy 4, 4, .inr (.inr (.inr (.inr (mf_ m0 m1 m2 m3)))))), (m0, .inr (4, [.int 0, .int (-9), .ref l0, .ref u0])), (m1, .inr (4, [.int 0, .int (-9), .ref l1, .ref u1])), (m2, .inr (4, [.int 0, .int (-9), .ref l2, .ref u2])), (m3, .inr (4, [.int 0, .int (-9), .ref l3, .ref u3])), (l0, .inl (cy 0, 6, .inl (fun _ => 0))), (l1, .inl (cy 0, 6, .inl (fun _ => 0))), (l2, .inl (cy 0, 6, .inl (fun _ => 0))), (l3, .inl (cy 0, 6, .inl (fun _ => 0)))] sz) := by
  refine Met.ofW (cc := cX11_map) (maxL := 4) (ret := (some .int)) (by decide) rfl ?_
  intro p e s m args below meth c s₁ B hml hv
  obtain ⟨rfl, hsz, hP, hK, hD0⟩ := hv
  have hx := B.exec
  have hb := B.bytes
  have hr := B.returns
  have hts := atoms_spec (ws := wsX11_map) B.pre
  have hown : s.vm.findClass RX11 = some m.cls := findClass_of_methodNamed B.named
  have hlocks := B.notSynchronized
  subst hsz
  have hD := hD0.self (sz := s.heap.size)
  generalize hAe : va_A [(xo, .inr (11, [.ref xk, .ref xn, .ref xc, .ref xh, .ref xt, .ref xw, .ref xm, .ref xp, .int 0, .int 0, .long 0, .int 0])), (xm, .inl (cy 4, 4, .inr (.inr (.inr (.inr (mf_ m0 m1 m2 m3)))))), (m0, .inr (4, [.int 0, .int (-9), .ref l0, .ref u0])), (m1, .inr (4, [.int 0, .int (-9), .ref l1, .ref u1])), (m2, .inr (4, [.int 0, .int (-9), .ref l2, .ref u2])), (m3, .inr (4, [.int 0, .int (-9), .ref l3, .ref u3])), (l0, .inl (cy 0, 6, .inl (fun _ => 0))), (l1, .inl (cy 0, 6, .inl (fun _ => 0))), (l2, .inl (cy 0, 6, .inl (fun _ => 0))), (l3, .inl (cy 0, 6, .inl (fun _ => 0)))] s.heap.size = A at hD ⊢
  have hA : ∀ q : Nat, s.heap.size ≤ q → A q := fun q h => by rw [← hAe]; exact Or.inr h
  have hS : va_S A s.heap s.heap [] := va_S.rf
  have hl := lv_entry ([.ref xo, .int a1, .int a2, .int a3]) (n := 4) (Nat.le_of_ble_eq_true rfl)
  rw [lg_entry_eq]
  generalize (lg_sl ([.ref xo, .int a1, .int a2, .int a3]) ++ List.replicate (4 - (lg_sl ([.ref xo, .int a1, .int a2, .int a3])).length) Slot.unset).toArray = ls at hl ⊢
  have hl : lv_has ls 4 [(0, .ref xo), (1, .int a1), (2, .int a2), (3, .int a3)] := hl
  refine lv_aload_n hx hb dX11_map_0 rfl (lv_at hl 0 rfl) ?_
  refine lv_iload_n hx hb dX11_map_1 rfl (lv_at hl 1 rfl) ?_
  refine lv_iload_n hx hb dX11_map_2 rfl (lv_at hl 2 rfl) ?_
  refine lv_iload_n hx hb dX11_map_3 rfl (lv_at hl 3 rfl) ?_
  have hPc := hP.sub (ws' := []) [] rfl
  have hDc := hD.sub (ws' := []) [] (by decide) rfl
  have hDw : va_D (fun _ => True) [] := hDc.weaken (fun _ _ _ _ => trivial)
  have hFc := va_free (wc := []) hD hS hA [] rfl
  refine va_calli (va_runS (As := [.int a1, .int a2, .int a3]) (rest := [.ref xo]) ⟨hx, hb, hml, hown, hts⟩ (c_X11_mapRefusal l D cy s.heap.size a1 a2 a3) (va_cwS 3 hts gX11_map_X11_mapRefusal rfl rfl rfl (by decide +kernel) ⟨Nat.le_of_ble_eq_true rfl, Nat.le_of_ble_eq_true rfl⟩) ⟨bl_, fun U hU hW => ⟨rfl, by rw [hU], by rw [hU]; exact hPc, kk_mv hW hK, hDw⟩⟩ rfl rfl hl.1 rfl (lv_room (Nat.le_of_ble_eq_true rfl)) dX11_map_4 ⟨Nat.le_of_ble_eq_true rfl, Nat.le_of_ble_eq_true rfl⟩) hS (fun q _ h => hFc q h) hFc (fun r_1 u t H locs ht hvm hw hB hz1 hk1 hS => ?_)
  have hP := ro_keep hP hk1
  have hP : va_P D vwCl [(xo, .inr (11, [.ref xk, .ref xn, .ref xc, .ref xh, .ref xt, .ref xw, .ref xm, .ref xp, .int 0, .int 0, .long 0, .int 0])), (xm, .inl (cy 4, 4, .inr (.inr (.inr (.inr (mf_ m0 m1 m2 m3)))))), (m0, .inr (4, [.int 0, .int (-9), .ref l0, .ref u0])), (m1, .inr (4, [.int 0, .int (-9), .ref l1, .ref u1])), (m2, .inr (4, [.int 0, .int (-9), .ref l2, .ref u2])), (m3, .inr (4, [.int 0, .int (-9), .ref l3, .ref u3])), (l0, .inl (cy 0, 6, .inl (fun _ => 0))), (l1, .inl (cy 0, 6, .inl (fun _ => 0))), (l2, .inl (cy 0, 6, .inl (fun _ => 0))), (l3, .inl (cy 0, 6, .inl (fun _ => 0)))] H := hP
  rcases hw with ⟨w_2, e_⟩ | ⟨w_2, e_⟩ | ⟨w_2, e_⟩
  · have e_ := e_.symm
    subst e_
    refine va_put (ci := 11) (v := .int (-1)) (ty := .int) (C := RX11) (T := TX11) (N := 12) hx hb hts (fun _ h => List.mem_cons_of_mem _ (List.mem_append_left _ (List.mem_append_right _ h))) tyX11 tyX11_ok nmX11 hown hK.1 hP hD hS 0 rfl rfl 11 (by decide) (hts (.fieldLink RX11 91 "CutAtlas" "finding" "I") (by decide +kernel)) (fun _ h9 => h9) rfl (by decide +kernel) rfl rfl (Nat.le_of_ble_eq_true rfl) dX11_map_7 (fun H locs hP hD hS => ?_)
    have hP : va_P D vwCl [(xo, .inr (11, [.ref xk, .ref xn, .ref xc, .ref xh, .ref xt, .ref xw, .ref xm, .ref xp, .int 0, .int 0, .long 0, .int (-1)])), (xm, .inl (cy 4, 4, .inr (.inr (.inr (.inr (mf_ m0 m1 m2 m3)))))), (m0, .inr (4, [.int 0, .int (-9), .ref l0, .ref u0])), (m1, .inr (4, [.int 0, .int (-9), .ref l1, .ref u1])), (m2, .inr (4, [.int 0, .int (-9), .ref l2, .ref u2])), (m3, .inr (4, [.int 0, .int (-9), .ref l3, .ref u3])), (l0, .inl (cy 0, 6, .inl (fun _ => 0))), (l1, .inl (cy 0, 6, .inl (fun _ => 0))), (l2, .inl (cy 0, 6, .inl (fun _ => 0))), (l3, .inl (cy 0, 6, .inl (fun _ => 0)))] H := hP
    have hD : va_D A [(xo, .inr (11, [.ref xk, .ref xn, .ref xc, .ref xh, .ref xt, .ref xw, .ref xm, .ref xp, .int 0, .int 0, .long 0, .int (-1)])), (xm, .inl (cy 4, 4, .inr (.inr (.inr (.inr (mf_ m0 m1 m2 m3)))))), (m0, .inr (4, [.int 0, .int (-9), .ref l0, .ref u0])), (m1, .inr (4, [.int 0, .int (-9), .ref l1, .ref u1])), (m2, .inr (4, [.int 0, .int (-9), .ref l2, .ref u2])), (m3, .inr (4, [.int 0, .int (-9), .ref l3, .ref u3])), (l0, .inl (cy 0, 6, .inl (fun _ => 0))), (l1, .inl (cy 0, 6, .inl (fun _ => 0))), (l2, .inl (cy 0, 6, .inl (fun _ => 0))), (l3, .inl (cy 0, 6, .inl (fun _ => 0)))] := hD
    refine lv_aload_n hx hb dX11_map_10 rfl (lv_at hl 0 rfl) ?_
    refine va_get (ci := 11) (v := .int (-1)) (C := RX11) (T := TX11) (N := 12) hx hb hts (fun _ h => List.mem_cons_of_mem _ (List.mem_append_left _ (List.mem_append_right _ h))) hown hK.1 hP 0 rfl rfl 11 (by decide) (hts (.fieldLink RX11 91 "CutAtlas" "finding" "I") (by decide +kernel)) (fun _ h9 => h9) rfl dX11_map_11 ?_
    refine lv_if_eq (tgt := 22) hx hb dX11_map_14 (by decide) (fun c_3 => ?_) (fun c_3 => ?_)
    · exact absurd c_3 (by decide)
    · have _ := c_3
      refine lv_aload_n hx hb dX11_map_17 rfl (lv_at hl 0 rfl) ?_
      refine va_get (ci := 11) (v := .int (-1)) (C := RX11) (T := TX11) (N := 12) hx hb hts (fun _ h => List.mem_cons_of_mem _ (List.mem_append_left _ (List.mem_append_right _ h))) hown hK.1 hP 0 rfl rfl 11 (by decide) (hts (.fieldLink RX11 91 "CutAtlas" "finding" "I") (by decide +kernel)) (fun _ h9 => h9) rfl dX11_map_18 ?_
      exact W.iret (v := (-1)) hx hb hr (fun t ht hW => ⟨⟨(-1), (), rfl, Or.inl (⟨by omega, rfl⟩), trivial⟩, hS.F ht⟩) hS.2.2 dX11_map_21
  · have e_ := e_.symm
    subst e_
    refine va_put (ci := 11) (v := .int (-15)) (ty := .int) (C := RX11) (T := TX11) (N := 12) hx hb hts (fun _ h => List.mem_cons_of_mem _ (List.mem_append_left _ (List.mem_append_right _ h))) tyX11 tyX11_ok nmX11 hown hK.1 hP hD hS 0 rfl rfl 11 (by decide) (hts (.fieldLink RX11 91 "CutAtlas" "finding" "I") (by decide +kernel)) (fun _ h9 => h9) rfl (by decide +kernel) rfl rfl (Nat.le_of_ble_eq_true rfl) dX11_map_7 (fun H locs hP hD hS => ?_)
    have hP : va_P D vwCl [(xo, .inr (11, [.ref xk, .ref xn, .ref xc, .ref xh, .ref xt, .ref xw, .ref xm, .ref xp, .int 0, .int 0, .long 0, .int (-15)])), (xm, .inl (cy 4, 4, .inr (.inr (.inr (.inr (mf_ m0 m1 m2 m3)))))), (m0, .inr (4, [.int 0, .int (-9), .ref l0, .ref u0])), (m1, .inr (4, [.int 0, .int (-9), .ref l1, .ref u1])), (m2, .inr (4, [.int 0, .int (-9), .ref l2, .ref u2])), (m3, .inr (4, [.int 0, .int (-9), .ref l3, .ref u3])), (l0, .inl (cy 0, 6, .inl (fun _ => 0))), (l1, .inl (cy 0, 6, .inl (fun _ => 0))), (l2, .inl (cy 0, 6, .inl (fun _ => 0))), (l3, .inl (cy 0, 6, .inl (fun _ => 0)))] H := hP
    have hD : va_D A [(xo, .inr (11, [.ref xk, .ref xn, .ref xc, .ref xh, .ref xt, .ref xw, .ref xm, .ref xp, .int 0, .int 0, .long 0, .int (-15)])), (xm, .inl (cy 4, 4, .inr (.inr (.inr (.inr (mf_ m0 m1 m2 m3)))))), (m0, .inr (4, [.int 0, .int (-9), .ref l0, .ref u0])), (m1, .inr (4, [.int 0, .int (-9), .ref l1, .ref u1])), (m2, .inr (4, [.int 0, .int (-9), .ref l2, .ref u2])), (m3, .inr (4, [.int 0, .int (-9), .ref l3, .ref u3])), (l0, .inl (cy 0, 6, .inl (fun _ => 0))), (l1, .inl (cy 0, 6, .inl (fun _ => 0))), (l2, .inl (cy 0, 6, .inl (fun _ => 0))), (l3, .inl (cy 0, 6, .inl (fun _ => 0)))] := hD
    refine lv_aload_n hx hb dX11_map_10 rfl (lv_at hl 0 rfl) ?_
    refine va_get (ci := 11) (v := .int (-15)) (C := RX11) (T := TX11) (N := 12) hx hb hts (fun _ h => List.mem_cons_of_mem _ (List.mem_append_left _ (List.mem_append_right _ h))) hown hK.1 hP 0 rfl rfl 11 (by decide) (hts (.fieldLink RX11 91 "CutAtlas" "finding" "I") (by decide +kernel)) (fun _ h9 => h9) rfl dX11_map_11 ?_
    refine lv_if_eq (tgt := 22) hx hb dX11_map_14 (by decide) (fun c_4 => ?_) (fun c_4 => ?_)
    · exact absurd c_4 (by decide)
    · have _ := c_4
      refine lv_aload_n hx hb dX11_map_17 rfl (lv_at hl 0 rfl) ?_
      refine va_get (ci := 11) (v := .int (-15)) (C := RX11) (T := TX11) (N := 12) hx hb hts (fun _ h => List.mem_cons_of_mem _ (List.mem_append_left _ (List.mem_append_right _ h))) hown hK.1 hP 0 rfl rfl 11 (by decide) (hts (.fieldLink RX11 91 "CutAtlas" "finding" "I") (by decide +kernel)) (fun _ h9 => h9) rfl dX11_map_18 ?_
      exact W.iret (v := (-15)) hx hb hr (fun t ht hW => ⟨⟨(-15), (), rfl, Or.inr (Or.inl (⟨by omega, rfl⟩)), trivial⟩, hS.F ht⟩) hS.2.2 dX11_map_21
  · have e_ := e_.symm
    subst e_
    refine va_put (ci := 11) (v := .int 0) (ty := .int) (C := RX11) (T := TX11) (N := 12) hx hb hts (fun _ h => List.mem_cons_of_mem _ (List.mem_append_left _ (List.mem_append_right _ h))) tyX11 tyX11_ok nmX11 hown hK.1 hP hD hS 0 rfl rfl 11 (by decide) (hts (.fieldLink RX11 91 "CutAtlas" "finding" "I") (by decide +kernel)) (fun _ h9 => h9) rfl (by decide +kernel) rfl rfl (Nat.le_of_ble_eq_true rfl) dX11_map_7 (fun H locs hP hD hS => ?_)
    have hP : va_P D vwCl [(xo, .inr (11, [.ref xk, .ref xn, .ref xc, .ref xh, .ref xt, .ref xw, .ref xm, .ref xp, .int 0, .int 0, .long 0, .int 0])), (xm, .inl (cy 4, 4, .inr (.inr (.inr (.inr (mf_ m0 m1 m2 m3)))))), (m0, .inr (4, [.int 0, .int (-9), .ref l0, .ref u0])), (m1, .inr (4, [.int 0, .int (-9), .ref l1, .ref u1])), (m2, .inr (4, [.int 0, .int (-9), .ref l2, .ref u2])), (m3, .inr (4, [.int 0, .int (-9), .ref l3, .ref u3])), (l0, .inl (cy 0, 6, .inl (fun _ => 0))), (l1, .inl (cy 0, 6, .inl (fun _ => 0))), (l2, .inl (cy 0, 6, .inl (fun _ => 0))), (l3, .inl (cy 0, 6, .inl (fun _ => 0)))] H := hP
    have hD : va_D A [(xo, .inr (11, [.ref xk, .ref xn, .ref xc, .ref xh, .ref xt, .ref xw, .ref xm, .ref xp, .int 0, .int 0, .long 0, .int 0])), (xm, .inl (cy 4, 4, .inr (.inr (.inr (.inr (mf_ m0 m1 m2 m3)))))), (m0, .inr (4, [.int 0, .int (-9), .ref l0, .ref u0])), (m1, .inr (4, [.int 0, .int (-9), .ref l1, .ref u1])), (m2, .inr (4, [.int 0, .int (-9), .ref l2, .ref u2])), (m3, .inr (4, [.int 0, .int (-9), .ref l3, .ref u3])), (l0, .inl (cy 0, 6, .inl (fun _ => 0))), (l1, .inl (cy 0, 6, .inl (fun _ => 0))), (l2, .inl (cy 0, 6, .inl (fun _ => 0))), (l3, .inl (cy 0, 6, .inl (fun _ => 0)))] := hD
    refine lv_aload_n hx hb dX11_map_10 rfl (lv_at hl 0 rfl) ?_
    refine va_get (ci := 11) (v := .int 0) (C := RX11) (T := TX11) (N := 12) hx hb hts (fun _ h => List.mem_cons_of_mem _ (List.mem_append_left _ (List.mem_append_right _ h))) hown hK.1 hP 0 rfl rfl 11 (by decide) (hts (.fieldLink RX11 91 "CutAtlas" "finding" "I") (by decide +kernel)) (fun _ h9 => h9) rfl dX11_map_11 ?_
    refine lv_if_eq (tgt := 22) hx hb dX11_map_14 (by decide) (fun c_5 => ?_) (fun c_5 => ?_)
    · have _ := c_5
      rcases sp_4 (x := a1) (by omega) with rfl | rfl | rfl | rfl
      · refine lv_aload_n hx hb dX11_map_22 rfl (lv_at hl 0 rfl) ?_
        refine va_get (ci := 11) (v := .ref xm) (C := RX11) (T := TX11) (N := 12) hx hb hts (fun _ h => List.mem_cons_of_mem _ (List.mem_append_left _ (List.mem_append_right _ h))) hown hK.1 hP 0 rfl rfl 6 (by decide) (hts (.fieldLink RX11 72 "CutAtlas" "maps" "[LCutAtlas$NumberMap;") (by decide +kernel)) (fun _ h9 => h9) rfl dX11_map_23 ?_
        refine lv_iload_n hx hb dX11_map_26 rfl (lv_at hl 1 rfl) ?_
        refine va_aldq hx hb hK.1 hP 1 4 rfl rfl (i := 0) (by unfold vp_in; decide) dX11_map_27 ?_
        refine lv_topv (v' := .ref m0) (by simp [va_up, va_rf, mf_, cl_0, cl_1, cl_2, cl_3, cl_4]) ?_
        refine lv_iload_n hx hb dX11_map_28 rfl (lv_at hl 2 rfl) ?_
        refine lv_iload_n hx hb dX11_map_29 rfl (lv_at hl 3 rfl) ?_
        have hPc := hP.sub (ws' := [(m0, .inr (4, [.int 0, .int (-9), .ref l0, .ref u0])), (l0, .inl (cy 0, 6, .inl (fun _ => 0)))]) [2, 6] rfl
        have hDc := hD.sub (ws' := [(m0, .inr (4, [.int 0, .int (-9), .ref l0, .ref u0])), (l0, .inl (cy 0, 6, .inl (fun _ => 0)))]) [2, 6] (by decide) rfl
        have hDw : va_D (fun _ => True) [(m0, .inr (4, [.int 0, .int (-9), .ref l0, .ref u0])), (l0, .inl (cy 0, 6, .inl (fun _ => 0)))] := hDc.weaken (fun _ _ _ _ => trivial)
        have hFc := va_free (wc := [(m0, .inr (4, [.int 0, .int (-9), .ref l0, .ref u0])), (l0, .inl (cy 0, 6, .inl (fun _ => 0)))]) hD hS hA [2, 6] rfl
        refine va_callv (va_runV (As := [.int a2, .int a3]) (rest := []) ⟨hx, hb, hml, hown, hts⟩ (c_X4_begin l D cy H.size m0 l0 u0 a2 a3) (cwV 2 hts gX11_map_X4_begin rfl rfl rfl (by decide +kernel) ⟨Nat.le_of_ble_eq_true rfl, Nat.le_of_ble_eq_true rfl⟩) ⟨bl_, va_recv hK.1 hPc (ci := 4) (q0 := 0) rfl rfl, fun U hU hW => ⟨rfl, by rw [hU], by rw [hU]; exact hPc, kk_mv hW hK, hDw⟩⟩ rfl rfl hl.1 rfl (lv_room (Nat.le_of_ble_eq_true rfl)) dX11_map_30 ⟨Nat.le_of_ble_eq_true rfl, Nat.le_of_ble_eq_true rfl⟩) hS (fun q _ h => hFc q h) hFc (fun u t H locs ht hvm hw hB hz1 hk1 hS => ?_)
        obtain ⟨hP, hD⟩ := va_join (wr := [(xo, .inr (11, [.ref xk, .ref xn, .ref xc, .ref xh, .ref xt, .ref xw, .ref xm, .ref xp, .int 0, .int 0, .long 0, .int 0])), (xm, .inl (cy 4, 4, .inr (.inr (.inr (.inr (mf_ m0 m1 m2 m3)))))), (m1, .inr (4, [.int 0, .int (-9), .ref l1, .ref u1])), (m2, .inr (4, [.int 0, .int (-9), .ref l2, .ref u2])), (m3, .inr (4, [.int 0, .int (-9), .ref l3, .ref u3])), (l1, .inl (cy 0, 6, .inl (fun _ => 0))), (l2, .inl (cy 0, 6, .inl (fun _ => 0))), (l3, .inl (cy 0, 6, .inl (fun _ => 0)))]) (w1 := []) hP hD [2, 6] [0, 1, 3, 4, 5, 7, 8, 9] rfl rfl (by decide) (by decide) hk1 hFc pp_nil dd_nil
        have hP : va_P D vwCl [(xo, .inr (11, [.ref xk, .ref xn, .ref xc, .ref xh, .ref xt, .ref xw, .ref xm, .ref xp, .int 0, .int 0, .long 0, .int 0])), (xm, .inl (cy 4, 4, .inr (.inr (.inr (.inr (mf_ m0 m1 m2 m3)))))), (m1, .inr (4, [.int 0, .int (-9), .ref l1, .ref u1])), (m2, .inr (4, [.int 0, .int (-9), .ref l2, .ref u2])), (m3, .inr (4, [.int 0, .int (-9), .ref l3, .ref u3])), (l1, .inl (cy 0, 6, .inl (fun _ => 0))), (l2, .inl (cy 0, 6, .inl (fun _ => 0))), (l3, .inl (cy 0, 6, .inl (fun _ => 0)))] H := hP
        have hD : va_D A [(xo, .inr (11, [.ref xk, .ref xn, .ref xc, .ref xh, .ref xt, .ref xw, .ref xm, .ref xp, .int 0, .int 0, .long 0, .int 0])), (xm, .inl (cy 4, 4, .inr (.inr (.inr (.inr (mf_ m0 m1 m2 m3)))))), (m1, .inr (4, [.int 0, .int (-9), .ref l1, .ref u1])), (m2, .inr (4, [.int 0, .int (-9), .ref l2, .ref u2])), (m3, .inr (4, [.int 0, .int (-9), .ref l3, .ref u3])), (l1, .inl (cy 0, 6, .inl (fun _ => 0))), (l2, .inl (cy 0, 6, .inl (fun _ => 0))), (l3, .inl (cy 0, 6, .inl (fun _ => 0)))] := hD
        refine lv_iconst (v := 1) hx hb dX11_map_33 (by decide) ?_
        exact W.iret (v := 1) hx hb hr (fun t ht hW => ⟨⟨1, (), rfl, Or.inr (Or.inr (⟨by omega, rfl⟩)), trivial⟩, hS.F ht⟩) hS.2.2 dX11_map_34
      · refine lv_aload_n hx hb dX11_map_22 rfl (lv_at hl 0 rfl) ?_
        refine va_get (ci := 11) (v := .ref xm) (C := RX11) (T := TX11) (N := 12) hx hb hts (fun _ h => List.mem_cons_of_mem _ (List.mem_append_left _ (List.mem_append_right _ h))) hown hK.1 hP 0 rfl rfl 6 (by decide) (hts (.fieldLink RX11 72 "CutAtlas" "maps" "[LCutAtlas$NumberMap;") (by decide +kernel)) (fun _ h9 => h9) rfl dX11_map_23 ?_
        refine lv_iload_n hx hb dX11_map_26 rfl (lv_at hl 1 rfl) ?_
        refine va_aldq hx hb hK.1 hP 1 4 rfl rfl (i := 1) (by unfold vp_in; decide) dX11_map_27 ?_
        refine lv_topv (v' := .ref m1) (by simp [va_up, va_rf, mf_, cl_0, cl_1, cl_2, cl_3, cl_4]) ?_
        refine lv_iload_n hx hb dX11_map_28 rfl (lv_at hl 2 rfl) ?_
        refine lv_iload_n hx hb dX11_map_29 rfl (lv_at hl 3 rfl) ?_
        have hPc := hP.sub (ws' := [(m1, .inr (4, [.int 0, .int (-9), .ref l1, .ref u1])), (l1, .inl (cy 0, 6, .inl (fun _ => 0)))]) [3, 7] rfl
        have hDc := hD.sub (ws' := [(m1, .inr (4, [.int 0, .int (-9), .ref l1, .ref u1])), (l1, .inl (cy 0, 6, .inl (fun _ => 0)))]) [3, 7] (by decide) rfl
        have hDw : va_D (fun _ => True) [(m1, .inr (4, [.int 0, .int (-9), .ref l1, .ref u1])), (l1, .inl (cy 0, 6, .inl (fun _ => 0)))] := hDc.weaken (fun _ _ _ _ => trivial)
        have hFc := va_free (wc := [(m1, .inr (4, [.int 0, .int (-9), .ref l1, .ref u1])), (l1, .inl (cy 0, 6, .inl (fun _ => 0)))]) hD hS hA [3, 7] rfl
        refine va_callv (va_runV (As := [.int a2, .int a3]) (rest := []) ⟨hx, hb, hml, hown, hts⟩ (c_X4_begin l D cy H.size m1 l1 u1 a2 a3) (cwV 2 hts gX11_map_X4_begin rfl rfl rfl (by decide +kernel) ⟨Nat.le_of_ble_eq_true rfl, Nat.le_of_ble_eq_true rfl⟩) ⟨bl_, va_recv hK.1 hPc (ci := 4) (q0 := 0) rfl rfl, fun U hU hW => ⟨rfl, by rw [hU], by rw [hU]; exact hPc, kk_mv hW hK, hDw⟩⟩ rfl rfl hl.1 rfl (lv_room (Nat.le_of_ble_eq_true rfl)) dX11_map_30 ⟨Nat.le_of_ble_eq_true rfl, Nat.le_of_ble_eq_true rfl⟩) hS (fun q _ h => hFc q h) hFc (fun u t H locs ht hvm hw hB hz1 hk1 hS => ?_)
        obtain ⟨hP, hD⟩ := va_join (wr := [(xo, .inr (11, [.ref xk, .ref xn, .ref xc, .ref xh, .ref xt, .ref xw, .ref xm, .ref xp, .int 0, .int 0, .long 0, .int 0])), (xm, .inl (cy 4, 4, .inr (.inr (.inr (.inr (mf_ m0 m1 m2 m3)))))), (m0, .inr (4, [.int 0, .int (-9), .ref l0, .ref u0])), (m2, .inr (4, [.int 0, .int (-9), .ref l2, .ref u2])), (m3, .inr (4, [.int 0, .int (-9), .ref l3, .ref u3])), (l0, .inl (cy 0, 6, .inl (fun _ => 0))), (l2, .inl (cy 0, 6, .inl (fun _ => 0))), (l3, .inl (cy 0, 6, .inl (fun _ => 0)))]) (w1 := []) hP hD [3, 7] [0, 1, 2, 4, 5, 6, 8, 9] rfl rfl (by decide) (by decide) hk1 hFc pp_nil dd_nil
        have hP : va_P D vwCl [(xo, .inr (11, [.ref xk, .ref xn, .ref xc, .ref xh, .ref xt, .ref xw, .ref xm, .ref xp, .int 0, .int 0, .long 0, .int 0])), (xm, .inl (cy 4, 4, .inr (.inr (.inr (.inr (mf_ m0 m1 m2 m3)))))), (m0, .inr (4, [.int 0, .int (-9), .ref l0, .ref u0])), (m2, .inr (4, [.int 0, .int (-9), .ref l2, .ref u2])), (m3, .inr (4, [.int 0, .int (-9), .ref l3, .ref u3])), (l0, .inl (cy 0, 6, .inl (fun _ => 0))), (l2, .inl (cy 0, 6, .inl (fun _ => 0))), (l3, .inl (cy 0, 6, .inl (fun _ => 0)))] H := hP
        have hD : va_D A [(xo, .inr (11, [.ref xk, .ref xn, .ref xc, .ref xh, .ref xt, .ref xw, .ref xm, .ref xp, .int 0, .int 0, .long 0, .int 0])), (xm, .inl (cy 4, 4, .inr (.inr (.inr (.inr (mf_ m0 m1 m2 m3)))))), (m0, .inr (4, [.int 0, .int (-9), .ref l0, .ref u0])), (m2, .inr (4, [.int 0, .int (-9), .ref l2, .ref u2])), (m3, .inr (4, [.int 0, .int (-9), .ref l3, .ref u3])), (l0, .inl (cy 0, 6, .inl (fun _ => 0))), (l2, .inl (cy 0, 6, .inl (fun _ => 0))), (l3, .inl (cy 0, 6, .inl (fun _ => 0)))] := hD
        refine lv_iconst (v := 1) hx hb dX11_map_33 (by decide) ?_
        exact W.iret (v := 1) hx hb hr (fun t ht hW => ⟨⟨1, (), rfl, Or.inr (Or.inr (⟨by omega, rfl⟩)), trivial⟩, hS.F ht⟩) hS.2.2 dX11_map_34
      · refine lv_aload_n hx hb dX11_map_22 rfl (lv_at hl 0 rfl) ?_
        refine va_get (ci := 11) (v := .ref xm) (C := RX11) (T := TX11) (N := 12) hx hb hts (fun _ h => List.mem_cons_of_mem _ (List.mem_append_left _ (List.mem_append_right _ h))) hown hK.1 hP 0 rfl rfl 6 (by decide) (hts (.fieldLink RX11 72 "CutAtlas" "maps" "[LCutAtlas$NumberMap;") (by decide +kernel)) (fun _ h9 => h9) rfl dX11_map_23 ?_
        refine lv_iload_n hx hb dX11_map_26 rfl (lv_at hl 1 rfl) ?_
        refine va_aldq hx hb hK.1 hP 1 4 rfl rfl (i := 2) (by unfold vp_in; decide) dX11_map_27 ?_
        refine lv_topv (v' := .ref m2) (by simp [va_up, va_rf, mf_, cl_0, cl_1, cl_2, cl_3, cl_4]) ?_
        refine lv_iload_n hx hb dX11_map_28 rfl (lv_at hl 2 rfl) ?_
        refine lv_iload_n hx hb dX11_map_29 rfl (lv_at hl 3 rfl) ?_
        have hPc := hP.sub (ws' := [(m2, .inr (4, [.int 0, .int (-9), .ref l2, .ref u2])), (l2, .inl (cy 0, 6, .inl (fun _ => 0)))]) [4, 8] rfl
        have hDc := hD.sub (ws' := [(m2, .inr (4, [.int 0, .int (-9), .ref l2, .ref u2])), (l2, .inl (cy 0, 6, .inl (fun _ => 0)))]) [4, 8] (by decide) rfl
        have hDw : va_D (fun _ => True) [(m2, .inr (4, [.int 0, .int (-9), .ref l2, .ref u2])), (l2, .inl (cy 0, 6, .inl (fun _ => 0)))] := hDc.weaken (fun _ _ _ _ => trivial)
        have hFc := va_free (wc := [(m2, .inr (4, [.int 0, .int (-9), .ref l2, .ref u2])), (l2, .inl (cy 0, 6, .inl (fun _ => 0)))]) hD hS hA [4, 8] rfl
        refine va_callv (va_runV (As := [.int a2, .int a3]) (rest := []) ⟨hx, hb, hml, hown, hts⟩ (c_X4_begin l D cy H.size m2 l2 u2 a2 a3) (cwV 2 hts gX11_map_X4_begin rfl rfl rfl (by decide +kernel) ⟨Nat.le_of_ble_eq_true rfl, Nat.le_of_ble_eq_true rfl⟩) ⟨bl_, va_recv hK.1 hPc (ci := 4) (q0 := 0) rfl rfl, fun U hU hW => ⟨rfl, by rw [hU], by rw [hU]; exact hPc, kk_mv hW hK, hDw⟩⟩ rfl rfl hl.1 rfl (lv_room (Nat.le_of_ble_eq_true rfl)) dX11_map_30 ⟨Nat.le_of_ble_eq_true rfl, Nat.le_of_ble_eq_true rfl⟩) hS (fun q _ h => hFc q h) hFc (fun u t H locs ht hvm hw hB hz1 hk1 hS => ?_)
        obtain ⟨hP, hD⟩ := va_join (wr := [(xo, .inr (11, [.ref xk, .ref xn, .ref xc, .ref xh, .ref xt, .ref xw, .ref xm, .ref xp, .int 0, .int 0, .long 0, .int 0])), (xm, .inl (cy 4, 4, .inr (.inr (.inr (.inr (mf_ m0 m1 m2 m3)))))), (m0, .inr (4, [.int 0, .int (-9), .ref l0, .ref u0])), (m1, .inr (4, [.int 0, .int (-9), .ref l1, .ref u1])), (m3, .inr (4, [.int 0, .int (-9), .ref l3, .ref u3])), (l0, .inl (cy 0, 6, .inl (fun _ => 0))), (l1, .inl (cy 0, 6, .inl (fun _ => 0))), (l3, .inl (cy 0, 6, .inl (fun _ => 0)))]) (w1 := []) hP hD [4, 8] [0, 1, 2, 3, 5, 6, 7, 9] rfl rfl (by decide) (by decide) hk1 hFc pp_nil dd_nil
        have hP : va_P D vwCl [(xo, .inr (11, [.ref xk, .ref xn, .ref xc, .ref xh, .ref xt, .ref xw, .ref xm, .ref xp, .int 0, .int 0, .long 0, .int 0])), (xm, .inl (cy 4, 4, .inr (.inr (.inr (.inr (mf_ m0 m1 m2 m3)))))), (m0, .inr (4, [.int 0, .int (-9), .ref l0, .ref u0])), (m1, .inr (4, [.int 0, .int (-9), .ref l1, .ref u1])), (m3, .inr (4, [.int 0, .int (-9), .ref l3, .ref u3])), (l0, .inl (cy 0, 6, .inl (fun _ => 0))), (l1, .inl (cy 0, 6, .inl (fun _ => 0))), (l3, .inl (cy 0, 6, .inl (fun _ => 0)))] H := hP
        have hD : va_D A [(xo, .inr (11, [.ref xk, .ref xn, .ref xc, .ref xh, .ref xt, .ref xw, .ref xm, .ref xp, .int 0, .int 0, .long 0, .int 0])), (xm, .inl (cy 4, 4, .inr (.inr (.inr (.inr (mf_ m0 m1 m2 m3)))))), (m0, .inr (4, [.int 0, .int (-9), .ref l0, .ref u0])), (m1, .inr (4, [.int 0, .int (-9), .ref l1, .ref u1])), (m3, .inr (4, [.int 0, .int (-9), .ref l3, .ref u3])), (l0, .inl (cy 0, 6, .inl (fun _ => 0))), (l1, .inl (cy 0, 6, .inl (fun _ => 0))), (l3, .inl (cy 0, 6, .inl (fun _ => 0)))] := hD
        refine lv_iconst (v := 1) hx hb dX11_map_33 (by decide) ?_
        exact W.iret (v := 1) hx hb hr (fun t ht hW => ⟨⟨1, (), rfl, Or.inr (Or.inr (⟨by omega, rfl⟩)), trivial⟩, hS.F ht⟩) hS.2.2 dX11_map_34
      · refine lv_aload_n hx hb dX11_map_22 rfl (lv_at hl 0 rfl) ?_
        refine va_get (ci := 11) (v := .ref xm) (C := RX11) (T := TX11) (N := 12) hx hb hts (fun _ h => List.mem_cons_of_mem _ (List.mem_append_left _ (List.mem_append_right _ h))) hown hK.1 hP 0 rfl rfl 6 (by decide) (hts (.fieldLink RX11 72 "CutAtlas" "maps" "[LCutAtlas$NumberMap;") (by decide +kernel)) (fun _ h9 => h9) rfl dX11_map_23 ?_
        refine lv_iload_n hx hb dX11_map_26 rfl (lv_at hl 1 rfl) ?_
        refine va_aldq hx hb hK.1 hP 1 4 rfl rfl (i := 3) (by unfold vp_in; decide) dX11_map_27 ?_
        refine lv_topv (v' := .ref m3) (by simp [va_up, va_rf, mf_, cl_0, cl_1, cl_2, cl_3, cl_4]) ?_
        refine lv_iload_n hx hb dX11_map_28 rfl (lv_at hl 2 rfl) ?_
        refine lv_iload_n hx hb dX11_map_29 rfl (lv_at hl 3 rfl) ?_
        have hPc := hP.sub (ws' := [(m3, .inr (4, [.int 0, .int (-9), .ref l3, .ref u3])), (l3, .inl (cy 0, 6, .inl (fun _ => 0)))]) [5, 9] rfl
        have hDc := hD.sub (ws' := [(m3, .inr (4, [.int 0, .int (-9), .ref l3, .ref u3])), (l3, .inl (cy 0, 6, .inl (fun _ => 0)))]) [5, 9] (by decide) rfl
        have hDw : va_D (fun _ => True) [(m3, .inr (4, [.int 0, .int (-9), .ref l3, .ref u3])), (l3, .inl (cy 0, 6, .inl (fun _ => 0)))] := hDc.weaken (fun _ _ _ _ => trivial)
        have hFc := va_free (wc := [(m3, .inr (4, [.int 0, .int (-9), .ref l3, .ref u3])), (l3, .inl (cy 0, 6, .inl (fun _ => 0)))]) hD hS hA [5, 9] rfl
        refine va_callv (va_runV (As := [.int a2, .int a3]) (rest := []) ⟨hx, hb, hml, hown, hts⟩ (c_X4_begin l D cy H.size m3 l3 u3 a2 a3) (cwV 2 hts gX11_map_X4_begin rfl rfl rfl (by decide +kernel) ⟨Nat.le_of_ble_eq_true rfl, Nat.le_of_ble_eq_true rfl⟩) ⟨bl_, va_recv hK.1 hPc (ci := 4) (q0 := 0) rfl rfl, fun U hU hW => ⟨rfl, by rw [hU], by rw [hU]; exact hPc, kk_mv hW hK, hDw⟩⟩ rfl rfl hl.1 rfl (lv_room (Nat.le_of_ble_eq_true rfl)) dX11_map_30 ⟨Nat.le_of_ble_eq_true rfl, Nat.le_of_ble_eq_true rfl⟩) hS (fun q _ h => hFc q h) hFc (fun u t H locs ht hvm hw hB hz1 hk1 hS => ?_)
        obtain ⟨hP, hD⟩ := va_join (wr := [(xo, .inr (11, [.ref xk, .ref xn, .ref xc, .ref xh, .ref xt, .ref xw, .ref xm, .ref xp, .int 0, .int 0, .long 0, .int 0])), (xm, .inl (cy 4, 4, .inr (.inr (.inr (.inr (mf_ m0 m1 m2 m3)))))), (m0, .inr (4, [.int 0, .int (-9), .ref l0, .ref u0])), (m1, .inr (4, [.int 0, .int (-9), .ref l1, .ref u1])), (m2, .inr (4, [.int 0, .int (-9), .ref l2, .ref u2])), (l0, .inl (cy 0, 6, .inl (fun _ => 0))), (l1, .inl (cy 0, 6, .inl (fun _ => 0))), (l2, .inl (cy 0, 6, .inl (fun _ => 0)))]) (w1 := []) hP hD [5, 9] [0, 1, 2, 3, 4, 6, 7, 8] rfl rfl (by decide) (by decide) hk1 hFc pp_nil dd_nil
        have hP : va_P D vwCl [(xo, .inr (11, [.ref xk, .ref xn, .ref xc, .ref xh, .ref xt, .ref xw, .ref xm, .ref xp, .int 0, .int 0, .long 0, .int 0])), (xm, .inl (cy 4, 4, .inr (.inr (.inr (.inr (mf_ m0 m1 m2 m3)))))), (m0, .inr (4, [.int 0, .int (-9), .ref l0, .ref u0])), (m1, .inr (4, [.int 0, .int (-9), .ref l1, .ref u1])), (m2, .inr (4, [.int 0, .int (-9), .ref l2, .ref u2])), (l0, .inl (cy 0, 6, .inl (fun _ => 0))), (l1, .inl (cy 0, 6, .inl (fun _ => 0))), (l2, .inl (cy 0, 6, .inl (fun _ => 0)))] H := hP
        have hD : va_D A [(xo, .inr (11, [.ref xk, .ref xn, .ref xc, .ref xh, .ref xt, .ref xw, .ref xm, .ref xp, .int 0, .int 0, .long 0, .int 0])), (xm, .inl (cy 4, 4, .inr (.inr (.inr (.inr (mf_ m0 m1 m2 m3)))))), (m0, .inr (4, [.int 0, .int (-9), .ref l0, .ref u0])), (m1, .inr (4, [.int 0, .int (-9), .ref l1, .ref u1])), (m2, .inr (4, [.int 0, .int (-9), .ref l2, .ref u2])), (l0, .inl (cy 0, 6, .inl (fun _ => 0))), (l1, .inl (cy 0, 6, .inl (fun _ => 0))), (l2, .inl (cy 0, 6, .inl (fun _ => 0)))] := hD
        refine lv_iconst (v := 1) hx hb dX11_map_33 (by decide) ?_
        exact W.iret (v := 1) hx hb hr (fun t ht hW => ⟨⟨1, (), rfl, Or.inr (Or.inr (⟨by omega, rfl⟩)), trivial⟩, hS.F ht⟩) hS.2.2 dX11_map_34
    · exact absurd c_5 (by decide)

set_option maxHeartbeats 4000000 in
set_option maxRecDepth 100000 in
theorem c_X11_row (l : Launch) (D : va_G) (cy : Nat → ClassId) (sz : Nat) (xo : Nat) (xk : Nat) (xn : Nat) (xc : Nat) (xh : Nat) (xt : Nat) (xw : Nat) (xm : Nat) (xp : Nat) (m0 : Nat) (m1 : Nat) (m2 : Nat) (m3 : Nat) (l0 : Nat) (l1 : Nat) (l2 : Nat) (l3 : Nat) (u0 : Nat) (u1 : Nat) (u2 : Nat) (u3 : Nat) (a1 : Int32) (a2 : Int32) (a3 : Int32) : Met l yX11_row wsX11_row ({ frames := 2, cells := 0, slots := 0, locals := 43 }) (va_Pc [.ref xo, .int a1, .int a2, .int a3] (fun U => U.heap.size = sz ∧ va_P D vwCl [(xo, .inr (11, [.ref xk, .ref xn, .ref xc, .ref xh, .ref xt, .ref xw, .ref xm, .ref xp, .int 0, .int 0, .long 0, .int 0])), (xm, .inl (cy 4, 4, .inr (.inr (.inr (.inr (mf_ m0 m1 m2 m3)))))), (m0, .inr (4, [.int 0, .int (-9), .ref l0, .ref u0])), (m1, .inr (4, [.int 0, .int (-9), .ref l1, .ref u1])), (m2, .inr (4, [.int 0, .int (-9), .ref l2, .ref u2])), (m3, .inr (4, [.int 0, .int (-9), .ref l3, .ref u3]))] U.heap ∧ kk_ D cy U ∧ va_D (fun _ => True) [(xo, .inr (11, [.ref xk, .ref xn, .ref xc, .ref xh, .ref xt, .ref xw, .ref xm, .ref xp, .int 0, .int 0, .long 0, .int 0])), (xm, .inl (cy 4, 4, .inr (.inr (.inr (.inr (mf_ m0 m1 m2 m3)))))), (m0, .inr (4, [.int 0, .int (-9), .ref l0, .ref u0])), (m1, .inr (4, [.int 0, .int (-9), .ref l1, .ref u1])), (m2, .inr (4, [.int 0, .int (-9), .ref l2, .ref u2])), (m3, .inr (4, [.int 0, .int (-9), .ref l3, .ref u3]))])) (va_Qi (fun (r : Int32) (_ : Unit) => ((¬ ((0 ≤ a1.toInt ∧ a1.toInt < 4) ∧ a3.toInt ≤ 5)) ∧ r = (-1)) ∨ (((0 ≤ a1.toInt ∧ a1.toInt < 4) ∧ a3.toInt ≤ 5) ∧ r = (-11))) (fun (_ : Unit) (_ : State) => True) (va_A [(xo, .inr (11, [.ref xk, .ref xn, .ref xc, .ref xh, .ref xt, .ref xw, .ref xm, .ref xp, .int 0, .int 0, .long 0, .int 0])), (xm, .inl (cy 4, 4, .inr (.inr (.inr (.inr (mf_ m0 m1 m2 m3)))))), (m0, .inr (4, [.int 0, .int (-9), .ref l0, .ref u0])), (m1, .inr (4, [.int 0, .int (-9), .ref l1, .ref u1])), (m2, .inr (4, [.int 0, .int (-9), .ref l2, .ref u2])), (m3, .inr (4, [.int 0, .int (-9), .ref l3, .ref u3]))] sz)) 0 0 (va_A [(xo, .inr (11, [.ref xk, .ref xn, .ref xc, .ref xh, .ref xt, .ref xw, .ref xm, .ref xp, .int 0, .int 0, .long 0, .int 0])), (xm, .inl (cy 4, 4, .inr (.inr (.inr (.inr (mf_ m0 m1 m2 m3)))))), (m0, .inr (4, [.int 0, .int (-9), .ref l0, .ref u0])), (m1, .inr (4, [.int 0, .int (-9), .ref l1, .ref u1])), (m2, .inr (4, [.int 0, .int (-9), .ref l2, .ref u2])), (m3, .inr (4, [.int 0, .int (-9), .ref l3, .ref u3]))] sz) := by
  refine Met.ofW (cc := cX11_row) (maxL := 4) (ret := (some .int)) (by decide) rfl ?_
  intro p e s m args below meth c s₁ B hml hv
  obtain ⟨rfl, hsz, hP, hK, hD0⟩ := hv
  have hx := B.exec
  have hb := B.bytes
  have hr := B.returns
  have hts := atoms_spec (ws := wsX11_row) B.pre
  have hown : s.vm.findClass RX11 = some m.cls := findClass_of_methodNamed B.named
  have hlocks := B.notSynchronized
  subst hsz
  have hD := hD0.self (sz := s.heap.size)
  generalize hAe : va_A [(xo, .inr (11, [.ref xk, .ref xn, .ref xc, .ref xh, .ref xt, .ref xw, .ref xm, .ref xp, .int 0, .int 0, .long 0, .int 0])), (xm, .inl (cy 4, 4, .inr (.inr (.inr (.inr (mf_ m0 m1 m2 m3)))))), (m0, .inr (4, [.int 0, .int (-9), .ref l0, .ref u0])), (m1, .inr (4, [.int 0, .int (-9), .ref l1, .ref u1])), (m2, .inr (4, [.int 0, .int (-9), .ref l2, .ref u2])), (m3, .inr (4, [.int 0, .int (-9), .ref l3, .ref u3]))] s.heap.size = A at hD ⊢
  have hA : ∀ q : Nat, s.heap.size ≤ q → A q := fun q h => by rw [← hAe]; exact Or.inr h
  have hS : va_S A s.heap s.heap [] := va_S.rf
  have hl := lv_entry ([.ref xo, .int a1, .int a2, .int a3]) (n := 4) (Nat.le_of_ble_eq_true rfl)
  rw [lg_entry_eq]
  generalize (lg_sl ([.ref xo, .int a1, .int a2, .int a3]) ++ List.replicate (4 - (lg_sl ([.ref xo, .int a1, .int a2, .int a3])).length) Slot.unset).toArray = ls at hl ⊢
  have hl : lv_has ls 4 [(0, .ref xo), (1, .int a1), (2, .int a2), (3, .int a3)] := hl
  refine lv_aload_n hx hb dX11_row_0 rfl (lv_at hl 0 rfl) ?_
  refine lv_aload_n hx hb dX11_row_1 rfl (lv_at hl 0 rfl) ?_
  refine lv_iload_n hx hb dX11_row_2 rfl (lv_at hl 1 rfl) ?_
  refine lv_iload_n hx hb dX11_row_3 rfl (lv_at hl 2 rfl) ?_
  refine lv_iload_n hx hb dX11_row_4 rfl (lv_at hl 3 rfl) ?_
  have hPc := hP.sub (ws' := [(xo, .inr (11, [.ref xk, .ref xn, .ref xc, .ref xh, .ref xt, .ref xw, .ref xm, .ref xp, .int 0, .int 0, .long 0, .int 0])), (xm, .inl (cy 4, 4, .inr (.inr (.inr (.inr (mf_ m0 m1 m2 m3)))))), (m0, .inr (4, [.int 0, .int (-9), .ref l0, .ref u0])), (m1, .inr (4, [.int 0, .int (-9), .ref l1, .ref u1])), (m2, .inr (4, [.int 0, .int (-9), .ref l2, .ref u2])), (m3, .inr (4, [.int 0, .int (-9), .ref l3, .ref u3]))]) [0, 1, 2, 3, 4, 5] rfl
  have hDc := hD.sub (ws' := [(xo, .inr (11, [.ref xk, .ref xn, .ref xc, .ref xh, .ref xt, .ref xw, .ref xm, .ref xp, .int 0, .int 0, .long 0, .int 0])), (xm, .inl (cy 4, 4, .inr (.inr (.inr (.inr (mf_ m0 m1 m2 m3)))))), (m0, .inr (4, [.int 0, .int (-9), .ref l0, .ref u0])), (m1, .inr (4, [.int 0, .int (-9), .ref l1, .ref u1])), (m2, .inr (4, [.int 0, .int (-9), .ref l2, .ref u2])), (m3, .inr (4, [.int 0, .int (-9), .ref l3, .ref u3]))]) [0, 1, 2, 3, 4, 5] (by decide) rfl
  have hDw : va_D (fun _ => True) [(xo, .inr (11, [.ref xk, .ref xn, .ref xc, .ref xh, .ref xt, .ref xw, .ref xm, .ref xp, .int 0, .int 0, .long 0, .int 0])), (xm, .inl (cy 4, 4, .inr (.inr (.inr (.inr (mf_ m0 m1 m2 m3)))))), (m0, .inr (4, [.int 0, .int (-9), .ref l0, .ref u0])), (m1, .inr (4, [.int 0, .int (-9), .ref l1, .ref u1])), (m2, .inr (4, [.int 0, .int (-9), .ref l2, .ref u2])), (m3, .inr (4, [.int 0, .int (-9), .ref l3, .ref u3]))] := hDc.weaken (fun _ _ _ _ => trivial)
  have hFc := va_free (wc := []) hD hS hA [] rfl
  refine va_calli (va_runV (As := [.int a1, .int a2, .int a3]) (rest := [.ref xo]) ⟨hx, hb, hml, hown, hts⟩ (c_X11_rowRefusal l D cy s.heap.size xo xk xn xc xh xt xw xm xp m0 m1 m2 m3 l0 l1 l2 l3 u0 u1 u2 u3 a1 a2 a3) (cwV 3 hts gX11_row_X11_rowRefusal rfl rfl rfl (by decide +kernel) ⟨Nat.le_of_ble_eq_true rfl, Nat.le_of_ble_eq_true rfl⟩) ⟨bl_, va_recv hK.1 hPc (ci := 11) (q0 := 0) rfl rfl, fun U hU hW => ⟨rfl, by rw [hU], by rw [hU]; exact hPc, kk_mv hW hK, hDw⟩⟩ rfl rfl hl.1 rfl (lv_room (Nat.le_of_ble_eq_true rfl)) dX11_row_5 ⟨Nat.le_of_ble_eq_true rfl, Nat.le_of_ble_eq_true rfl⟩) hS (fun q _ h => hFc q h) hFc (fun r_1 u t H locs ht hvm hw hB hz1 hk1 hS => ?_)
  have hP := ro_keep hP hk1
  have hP : va_P D vwCl [(xo, .inr (11, [.ref xk, .ref xn, .ref xc, .ref xh, .ref xt, .ref xw, .ref xm, .ref xp, .int 0, .int 0, .long 0, .int 0])), (xm, .inl (cy 4, 4, .inr (.inr (.inr (.inr (mf_ m0 m1 m2 m3)))))), (m0, .inr (4, [.int 0, .int (-9), .ref l0, .ref u0])), (m1, .inr (4, [.int 0, .int (-9), .ref l1, .ref u1])), (m2, .inr (4, [.int 0, .int (-9), .ref l2, .ref u2])), (m3, .inr (4, [.int 0, .int (-9), .ref l3, .ref u3]))] H := hP
  rcases hw with ⟨w_2, e_⟩ | ⟨w_2, e_⟩
  · have e_ := e_.symm
    subst e_
    refine va_put (ci := 11) (v := .int (-1)) (ty := .int) (C := RX11) (T := TX11) (N := 12) hx hb hts (fun _ h => List.mem_cons_of_mem _ (List.mem_append_left _ (List.mem_append_right _ h))) tyX11 tyX11_ok nmX11 hown hK.1 hP hD hS 0 rfl rfl 11 (by decide) (hts (.fieldLink RX11 91 "CutAtlas" "finding" "I") (by decide +kernel)) (fun _ h9 => h9) rfl (by decide +kernel) rfl rfl (Nat.le_of_ble_eq_true rfl) dX11_row_8 (fun H locs hP hD hS => ?_)
    have hP : va_P D vwCl [(xo, .inr (11, [.ref xk, .ref xn, .ref xc, .ref xh, .ref xt, .ref xw, .ref xm, .ref xp, .int 0, .int 0, .long 0, .int (-1)])), (xm, .inl (cy 4, 4, .inr (.inr (.inr (.inr (mf_ m0 m1 m2 m3)))))), (m0, .inr (4, [.int 0, .int (-9), .ref l0, .ref u0])), (m1, .inr (4, [.int 0, .int (-9), .ref l1, .ref u1])), (m2, .inr (4, [.int 0, .int (-9), .ref l2, .ref u2])), (m3, .inr (4, [.int 0, .int (-9), .ref l3, .ref u3]))] H := hP
    have hD : va_D A [(xo, .inr (11, [.ref xk, .ref xn, .ref xc, .ref xh, .ref xt, .ref xw, .ref xm, .ref xp, .int 0, .int 0, .long 0, .int (-1)])), (xm, .inl (cy 4, 4, .inr (.inr (.inr (.inr (mf_ m0 m1 m2 m3)))))), (m0, .inr (4, [.int 0, .int (-9), .ref l0, .ref u0])), (m1, .inr (4, [.int 0, .int (-9), .ref l1, .ref u1])), (m2, .inr (4, [.int 0, .int (-9), .ref l2, .ref u2])), (m3, .inr (4, [.int 0, .int (-9), .ref l3, .ref u3]))] := hD
    refine lv_aload_n hx hb dX11_row_11 rfl (lv_at hl 0 rfl) ?_
    refine va_get (ci := 11) (v := .int (-1)) (C := RX11) (T := TX11) (N := 12) hx hb hts (fun _ h => List.mem_cons_of_mem _ (List.mem_append_left _ (List.mem_append_right _ h))) hown hK.1 hP 0 rfl rfl 11 (by decide) (hts (.fieldLink RX11 91 "CutAtlas" "finding" "I") (by decide +kernel)) (fun _ h9 => h9) rfl dX11_row_12 ?_
    refine lv_if_eq (tgt := 23) hx hb dX11_row_15 (by decide) (fun c_3 => ?_) (fun c_3 => ?_)
    · exact absurd c_3 (by decide)
    · have _ := c_3
      refine lv_aload_n hx hb dX11_row_18 rfl (lv_at hl 0 rfl) ?_
      refine va_get (ci := 11) (v := .int (-1)) (C := RX11) (T := TX11) (N := 12) hx hb hts (fun _ h => List.mem_cons_of_mem _ (List.mem_append_left _ (List.mem_append_right _ h))) hown hK.1 hP 0 rfl rfl 11 (by decide) (hts (.fieldLink RX11 91 "CutAtlas" "finding" "I") (by decide +kernel)) (fun _ h9 => h9) rfl dX11_row_19 ?_
      exact W.iret (v := (-1)) hx hb hr (fun t ht hW => ⟨⟨(-1), (), rfl, Or.inl (⟨by omega, rfl⟩), trivial⟩, hS.F ht⟩) hS.2.2 dX11_row_22
  · have e_ := e_.symm
    subst e_
    refine va_put (ci := 11) (v := .int (-11)) (ty := .int) (C := RX11) (T := TX11) (N := 12) hx hb hts (fun _ h => List.mem_cons_of_mem _ (List.mem_append_left _ (List.mem_append_right _ h))) tyX11 tyX11_ok nmX11 hown hK.1 hP hD hS 0 rfl rfl 11 (by decide) (hts (.fieldLink RX11 91 "CutAtlas" "finding" "I") (by decide +kernel)) (fun _ h9 => h9) rfl (by decide +kernel) rfl rfl (Nat.le_of_ble_eq_true rfl) dX11_row_8 (fun H locs hP hD hS => ?_)
    have hP : va_P D vwCl [(xo, .inr (11, [.ref xk, .ref xn, .ref xc, .ref xh, .ref xt, .ref xw, .ref xm, .ref xp, .int 0, .int 0, .long 0, .int (-11)])), (xm, .inl (cy 4, 4, .inr (.inr (.inr (.inr (mf_ m0 m1 m2 m3)))))), (m0, .inr (4, [.int 0, .int (-9), .ref l0, .ref u0])), (m1, .inr (4, [.int 0, .int (-9), .ref l1, .ref u1])), (m2, .inr (4, [.int 0, .int (-9), .ref l2, .ref u2])), (m3, .inr (4, [.int 0, .int (-9), .ref l3, .ref u3]))] H := hP
    have hD : va_D A [(xo, .inr (11, [.ref xk, .ref xn, .ref xc, .ref xh, .ref xt, .ref xw, .ref xm, .ref xp, .int 0, .int 0, .long 0, .int (-11)])), (xm, .inl (cy 4, 4, .inr (.inr (.inr (.inr (mf_ m0 m1 m2 m3)))))), (m0, .inr (4, [.int 0, .int (-9), .ref l0, .ref u0])), (m1, .inr (4, [.int 0, .int (-9), .ref l1, .ref u1])), (m2, .inr (4, [.int 0, .int (-9), .ref l2, .ref u2])), (m3, .inr (4, [.int 0, .int (-9), .ref l3, .ref u3]))] := hD
    refine lv_aload_n hx hb dX11_row_11 rfl (lv_at hl 0 rfl) ?_
    refine va_get (ci := 11) (v := .int (-11)) (C := RX11) (T := TX11) (N := 12) hx hb hts (fun _ h => List.mem_cons_of_mem _ (List.mem_append_left _ (List.mem_append_right _ h))) hown hK.1 hP 0 rfl rfl 11 (by decide) (hts (.fieldLink RX11 91 "CutAtlas" "finding" "I") (by decide +kernel)) (fun _ h9 => h9) rfl dX11_row_12 ?_
    refine lv_if_eq (tgt := 23) hx hb dX11_row_15 (by decide) (fun c_4 => ?_) (fun c_4 => ?_)
    · exact absurd c_4 (by decide)
    · have _ := c_4
      refine lv_aload_n hx hb dX11_row_18 rfl (lv_at hl 0 rfl) ?_
      refine va_get (ci := 11) (v := .int (-11)) (C := RX11) (T := TX11) (N := 12) hx hb hts (fun _ h => List.mem_cons_of_mem _ (List.mem_append_left _ (List.mem_append_right _ h))) hown hK.1 hP 0 rfl rfl 11 (by decide) (hts (.fieldLink RX11 91 "CutAtlas" "finding" "I") (by decide +kernel)) (fun _ h9 => h9) rfl dX11_row_19 ?_
      exact W.iret (v := (-11)) hx hb hr (fun t ht hW => ⟨⟨(-11), (), rfl, Or.inr (⟨by omega, rfl⟩), trivial⟩, hS.F ht⟩) hS.2.2 dX11_row_22

set_option maxHeartbeats 4000000 in
set_option maxRecDepth 100000 in
theorem c_X11_put (l : Launch) (D : va_G) (cy : Nat → ClassId) (sz : Nat) (xo : Nat) (xk : Nat) (xn : Nat) (xc : Nat) (xh : Nat) (xt : Nat) (xw : Nat) (xm : Nat) (xp : Nat) (m0 : Nat) (m1 : Nat) (m2 : Nat) (m3 : Nat) (l0 : Nat) (l1 : Nat) (l2 : Nat) (l3 : Nat) (u0 : Nat) (u1 : Nat) (u2 : Nat) (u3 : Nat) (a1 : Int32) (a2 : Int32) (a3 : Int32) (a4 : Int32) (a5 : Int64) : Met l yX11_put wsX11_put ({ frames := 2, cells := 0, slots := 0, locals := 44 }) (va_Pc [.ref xo, .int a1, .int a2, .int a3, .int a4, .long a5] (fun U => U.heap.size = sz ∧ va_P D vwCl [(xo, .inr (11, [.ref xk, .ref xn, .ref xc, .ref xh, .ref xt, .ref xw, .ref xm, .ref xp, .int 0, .int 0, .long 0, .int 0])), (xm, .inl (cy 4, 4, .inr (.inr (.inr (.inr (mf_ m0 m1 m2 m3)))))), (m0, .inr (4, [.int 0, .int (-9), .ref l0, .ref u0])), (m1, .inr (4, [.int 0, .int (-9), .ref l1, .ref u1])), (m2, .inr (4, [.int 0, .int (-9), .ref l2, .ref u2])), (m3, .inr (4, [.int 0, .int (-9), .ref l3, .ref u3]))] U.heap ∧ kk_ D cy U ∧ va_D (fun _ => True) [(xo, .inr (11, [.ref xk, .ref xn, .ref xc, .ref xh, .ref xt, .ref xw, .ref xm, .ref xp, .int 0, .int 0, .long 0, .int 0])), (xm, .inl (cy 4, 4, .inr (.inr (.inr (.inr (mf_ m0 m1 m2 m3)))))), (m0, .inr (4, [.int 0, .int (-9), .ref l0, .ref u0])), (m1, .inr (4, [.int 0, .int (-9), .ref l1, .ref u1])), (m2, .inr (4, [.int 0, .int (-9), .ref l2, .ref u2])), (m3, .inr (4, [.int 0, .int (-9), .ref l3, .ref u3]))])) (va_Qi (fun (r : Int32) (_ : Unit) => ((¬ ((0 ≤ a1.toInt ∧ a1.toInt < 4) ∧ (0 ≤ a2.toInt ∧ a2.toInt < 3))) ∧ r = (-1)) ∨ (((0 ≤ a1.toInt ∧ a1.toInt < 4) ∧ (0 ≤ a2.toInt ∧ a2.toInt < 3)) ∧ r = (-11))) (fun (_ : Unit) (_ : State) => True) (va_A [(xo, .inr (11, [.ref xk, .ref xn, .ref xc, .ref xh, .ref xt, .ref xw, .ref xm, .ref xp, .int 0, .int 0, .long 0, .int 0])), (xm, .inl (cy 4, 4, .inr (.inr (.inr (.inr (mf_ m0 m1 m2 m3)))))), (m0, .inr (4, [.int 0, .int (-9), .ref l0, .ref u0])), (m1, .inr (4, [.int 0, .int (-9), .ref l1, .ref u1])), (m2, .inr (4, [.int 0, .int (-9), .ref l2, .ref u2])), (m3, .inr (4, [.int 0, .int (-9), .ref l3, .ref u3]))] sz)) 0 0 (va_A [(xo, .inr (11, [.ref xk, .ref xn, .ref xc, .ref xh, .ref xt, .ref xw, .ref xm, .ref xp, .int 0, .int 0, .long 0, .int 0])), (xm, .inl (cy 4, 4, .inr (.inr (.inr (.inr (mf_ m0 m1 m2 m3)))))), (m0, .inr (4, [.int 0, .int (-9), .ref l0, .ref u0])), (m1, .inr (4, [.int 0, .int (-9), .ref l1, .ref u1])), (m2, .inr (4, [.int 0, .int (-9), .ref l2, .ref u2])), (m3, .inr (4, [.int 0, .int (-9), .ref l3, .ref u3]))] sz) := by
  refine Met.ofW (cc := cX11_put) (maxL := 7) (ret := (some .int)) (by decide) rfl ?_
  intro p e s m args below meth c s₁ B hml hv
  obtain ⟨rfl, hsz, hP, hK, hD0⟩ := hv
  have hx := B.exec
  have hb := B.bytes
  have hr := B.returns
  have hts := atoms_spec (ws := wsX11_put) B.pre
  have hown : s.vm.findClass RX11 = some m.cls := findClass_of_methodNamed B.named
  have hlocks := B.notSynchronized
  subst hsz
  have hD := hD0.self (sz := s.heap.size)
  generalize hAe : va_A [(xo, .inr (11, [.ref xk, .ref xn, .ref xc, .ref xh, .ref xt, .ref xw, .ref xm, .ref xp, .int 0, .int 0, .long 0, .int 0])), (xm, .inl (cy 4, 4, .inr (.inr (.inr (.inr (mf_ m0 m1 m2 m3)))))), (m0, .inr (4, [.int 0, .int (-9), .ref l0, .ref u0])), (m1, .inr (4, [.int 0, .int (-9), .ref l1, .ref u1])), (m2, .inr (4, [.int 0, .int (-9), .ref l2, .ref u2])), (m3, .inr (4, [.int 0, .int (-9), .ref l3, .ref u3]))] s.heap.size = A at hD ⊢
  have hA : ∀ q : Nat, s.heap.size ≤ q → A q := fun q h => by rw [← hAe]; exact Or.inr h
  have hS : va_S A s.heap s.heap [] := va_S.rf
  have hl := lv_entry ([.ref xo, .int a1, .int a2, .int a3, .int a4, .long a5]) (n := 7) (Nat.le_of_ble_eq_true rfl)
  rw [lg_entry_eq]
  generalize (lg_sl ([.ref xo, .int a1, .int a2, .int a3, .int a4, .long a5]) ++ List.replicate (7 - (lg_sl ([.ref xo, .int a1, .int a2, .int a3, .int a4, .long a5])).length) Slot.unset).toArray = ls at hl ⊢
  have hl : lv_has ls 7 [(0, .ref xo), (1, .int a1), (2, .int a2), (3, .int a3), (4, .int a4), (5, .long a5)] := hl
  refine lv_aload_n hx hb dX11_put_0 rfl (lv_at hl 0 rfl) ?_
  refine lv_aload_n hx hb dX11_put_1 rfl (lv_at hl 0 rfl) ?_
  refine lv_iload_n hx hb dX11_put_2 rfl (lv_at hl 1 rfl) ?_
  refine lv_iload_n hx hb dX11_put_3 rfl (lv_at hl 2 rfl) ?_
  refine lv_iload_n hx hb dX11_put_4 rfl (lv_at hl 3 rfl) ?_
  refine lv_iload hx hb dX11_put_5 (lv_at hl 4 rfl) ?_
  have hPc := hP.sub (ws' := [(xo, .inr (11, [.ref xk, .ref xn, .ref xc, .ref xh, .ref xt, .ref xw, .ref xm, .ref xp, .int 0, .int 0, .long 0, .int 0])), (xm, .inl (cy 4, 4, .inr (.inr (.inr (.inr (mf_ m0 m1 m2 m3)))))), (m0, .inr (4, [.int 0, .int (-9), .ref l0, .ref u0])), (m1, .inr (4, [.int 0, .int (-9), .ref l1, .ref u1])), (m2, .inr (4, [.int 0, .int (-9), .ref l2, .ref u2])), (m3, .inr (4, [.int 0, .int (-9), .ref l3, .ref u3]))]) [0, 1, 2, 3, 4, 5] rfl
  have hDc := hD.sub (ws' := [(xo, .inr (11, [.ref xk, .ref xn, .ref xc, .ref xh, .ref xt, .ref xw, .ref xm, .ref xp, .int 0, .int 0, .long 0, .int 0])), (xm, .inl (cy 4, 4, .inr (.inr (.inr (.inr (mf_ m0 m1 m2 m3)))))), (m0, .inr (4, [.int 0, .int (-9), .ref l0, .ref u0])), (m1, .inr (4, [.int 0, .int (-9), .ref l1, .ref u1])), (m2, .inr (4, [.int 0, .int (-9), .ref l2, .ref u2])), (m3, .inr (4, [.int 0, .int (-9), .ref l3, .ref u3]))]) [0, 1, 2, 3, 4, 5] (by decide) rfl
  have hDw : va_D (fun _ => True) [(xo, .inr (11, [.ref xk, .ref xn, .ref xc, .ref xh, .ref xt, .ref xw, .ref xm, .ref xp, .int 0, .int 0, .long 0, .int 0])), (xm, .inl (cy 4, 4, .inr (.inr (.inr (.inr (mf_ m0 m1 m2 m3)))))), (m0, .inr (4, [.int 0, .int (-9), .ref l0, .ref u0])), (m1, .inr (4, [.int 0, .int (-9), .ref l1, .ref u1])), (m2, .inr (4, [.int 0, .int (-9), .ref l2, .ref u2])), (m3, .inr (4, [.int 0, .int (-9), .ref l3, .ref u3]))] := hDc.weaken (fun _ _ _ _ => trivial)
  have hFc := va_free (wc := []) hD hS hA [] rfl
  refine va_calli (va_runV (As := [.int a1, .int a2, .int a3, .int a4]) (rest := [.ref xo]) ⟨hx, hb, hml, hown, hts⟩ (c_X11_numberRefusal l D cy s.heap.size xo xk xn xc xh xt xw xm xp m0 m1 m2 m3 l0 l1 l2 l3 u0 u1 u2 u3 a1 a2 a3 a4) (cwV 4 hts gX11_put_X11_numberRefusal rfl rfl rfl (by decide +kernel) ⟨Nat.le_of_ble_eq_true rfl, Nat.le_of_ble_eq_true rfl⟩) ⟨bl_, va_recv hK.1 hPc (ci := 11) (q0 := 0) rfl rfl, fun U hU hW => ⟨rfl, by rw [hU], by rw [hU]; exact hPc, kk_mv hW hK, hDw⟩⟩ rfl rfl hl.1 rfl (lv_room (Nat.le_of_ble_eq_true rfl)) dX11_put_7 ⟨Nat.le_of_ble_eq_true rfl, Nat.le_of_ble_eq_true rfl⟩) hS (fun q _ h => hFc q h) hFc (fun r_1 u t H locs ht hvm hw hB hz1 hk1 hS => ?_)
  have hP := ro_keep hP hk1
  have hP : va_P D vwCl [(xo, .inr (11, [.ref xk, .ref xn, .ref xc, .ref xh, .ref xt, .ref xw, .ref xm, .ref xp, .int 0, .int 0, .long 0, .int 0])), (xm, .inl (cy 4, 4, .inr (.inr (.inr (.inr (mf_ m0 m1 m2 m3)))))), (m0, .inr (4, [.int 0, .int (-9), .ref l0, .ref u0])), (m1, .inr (4, [.int 0, .int (-9), .ref l1, .ref u1])), (m2, .inr (4, [.int 0, .int (-9), .ref l2, .ref u2])), (m3, .inr (4, [.int 0, .int (-9), .ref l3, .ref u3]))] H := hP
  rcases hw with ⟨w_2, e_⟩ | ⟨w_2, e_⟩
  · have e_ := e_.symm
    subst e_
    refine va_put (ci := 11) (v := .int (-1)) (ty := .int) (C := RX11) (T := TX11) (N := 12) hx hb hts (fun _ h => List.mem_cons_of_mem _ (List.mem_append_left _ (List.mem_append_right _ h))) tyX11 tyX11_ok nmX11 hown hK.1 hP hD hS 0 rfl rfl 11 (by decide) (hts (.fieldLink RX11 91 "CutAtlas" "finding" "I") (by decide +kernel)) (fun _ h9 => h9) rfl (by decide +kernel) rfl rfl (Nat.le_of_ble_eq_true rfl) dX11_put_10 (fun H locs hP hD hS => ?_)
    have hP : va_P D vwCl [(xo, .inr (11, [.ref xk, .ref xn, .ref xc, .ref xh, .ref xt, .ref xw, .ref xm, .ref xp, .int 0, .int 0, .long 0, .int (-1)])), (xm, .inl (cy 4, 4, .inr (.inr (.inr (.inr (mf_ m0 m1 m2 m3)))))), (m0, .inr (4, [.int 0, .int (-9), .ref l0, .ref u0])), (m1, .inr (4, [.int 0, .int (-9), .ref l1, .ref u1])), (m2, .inr (4, [.int 0, .int (-9), .ref l2, .ref u2])), (m3, .inr (4, [.int 0, .int (-9), .ref l3, .ref u3]))] H := hP
    have hD : va_D A [(xo, .inr (11, [.ref xk, .ref xn, .ref xc, .ref xh, .ref xt, .ref xw, .ref xm, .ref xp, .int 0, .int 0, .long 0, .int (-1)])), (xm, .inl (cy 4, 4, .inr (.inr (.inr (.inr (mf_ m0 m1 m2 m3)))))), (m0, .inr (4, [.int 0, .int (-9), .ref l0, .ref u0])), (m1, .inr (4, [.int 0, .int (-9), .ref l1, .ref u1])), (m2, .inr (4, [.int 0, .int (-9), .ref l2, .ref u2])), (m3, .inr (4, [.int 0, .int (-9), .ref l3, .ref u3]))] := hD
    refine lv_aload_n hx hb dX11_put_13 rfl (lv_at hl 0 rfl) ?_
    refine va_get (ci := 11) (v := .int (-1)) (C := RX11) (T := TX11) (N := 12) hx hb hts (fun _ h => List.mem_cons_of_mem _ (List.mem_append_left _ (List.mem_append_right _ h))) hown hK.1 hP 0 rfl rfl 11 (by decide) (hts (.fieldLink RX11 91 "CutAtlas" "finding" "I") (by decide +kernel)) (fun _ h9 => h9) rfl dX11_put_14 ?_
    refine lv_if_eq (tgt := 25) hx hb dX11_put_17 (by decide) (fun c_3 => ?_) (fun c_3 => ?_)
    · exact absurd c_3 (by decide)
    · have _ := c_3
      refine lv_aload_n hx hb dX11_put_20 rfl (lv_at hl 0 rfl) ?_
      refine va_get (ci := 11) (v := .int (-1)) (C := RX11) (T := TX11) (N := 12) hx hb hts (fun _ h => List.mem_cons_of_mem _ (List.mem_append_left _ (List.mem_append_right _ h))) hown hK.1 hP 0 rfl rfl 11 (by decide) (hts (.fieldLink RX11 91 "CutAtlas" "finding" "I") (by decide +kernel)) (fun _ h9 => h9) rfl dX11_put_21 ?_
      exact W.iret (v := (-1)) hx hb hr (fun t ht hW => ⟨⟨(-1), (), rfl, Or.inl (⟨by omega, rfl⟩), trivial⟩, hS.F ht⟩) hS.2.2 dX11_put_24
  · have e_ := e_.symm
    subst e_
    refine va_put (ci := 11) (v := .int (-11)) (ty := .int) (C := RX11) (T := TX11) (N := 12) hx hb hts (fun _ h => List.mem_cons_of_mem _ (List.mem_append_left _ (List.mem_append_right _ h))) tyX11 tyX11_ok nmX11 hown hK.1 hP hD hS 0 rfl rfl 11 (by decide) (hts (.fieldLink RX11 91 "CutAtlas" "finding" "I") (by decide +kernel)) (fun _ h9 => h9) rfl (by decide +kernel) rfl rfl (Nat.le_of_ble_eq_true rfl) dX11_put_10 (fun H locs hP hD hS => ?_)
    have hP : va_P D vwCl [(xo, .inr (11, [.ref xk, .ref xn, .ref xc, .ref xh, .ref xt, .ref xw, .ref xm, .ref xp, .int 0, .int 0, .long 0, .int (-11)])), (xm, .inl (cy 4, 4, .inr (.inr (.inr (.inr (mf_ m0 m1 m2 m3)))))), (m0, .inr (4, [.int 0, .int (-9), .ref l0, .ref u0])), (m1, .inr (4, [.int 0, .int (-9), .ref l1, .ref u1])), (m2, .inr (4, [.int 0, .int (-9), .ref l2, .ref u2])), (m3, .inr (4, [.int 0, .int (-9), .ref l3, .ref u3]))] H := hP
    have hD : va_D A [(xo, .inr (11, [.ref xk, .ref xn, .ref xc, .ref xh, .ref xt, .ref xw, .ref xm, .ref xp, .int 0, .int 0, .long 0, .int (-11)])), (xm, .inl (cy 4, 4, .inr (.inr (.inr (.inr (mf_ m0 m1 m2 m3)))))), (m0, .inr (4, [.int 0, .int (-9), .ref l0, .ref u0])), (m1, .inr (4, [.int 0, .int (-9), .ref l1, .ref u1])), (m2, .inr (4, [.int 0, .int (-9), .ref l2, .ref u2])), (m3, .inr (4, [.int 0, .int (-9), .ref l3, .ref u3]))] := hD
    refine lv_aload_n hx hb dX11_put_13 rfl (lv_at hl 0 rfl) ?_
    refine va_get (ci := 11) (v := .int (-11)) (C := RX11) (T := TX11) (N := 12) hx hb hts (fun _ h => List.mem_cons_of_mem _ (List.mem_append_left _ (List.mem_append_right _ h))) hown hK.1 hP 0 rfl rfl 11 (by decide) (hts (.fieldLink RX11 91 "CutAtlas" "finding" "I") (by decide +kernel)) (fun _ h9 => h9) rfl dX11_put_14 ?_
    refine lv_if_eq (tgt := 25) hx hb dX11_put_17 (by decide) (fun c_4 => ?_) (fun c_4 => ?_)
    · exact absurd c_4 (by decide)
    · have _ := c_4
      refine lv_aload_n hx hb dX11_put_20 rfl (lv_at hl 0 rfl) ?_
      refine va_get (ci := 11) (v := .int (-11)) (C := RX11) (T := TX11) (N := 12) hx hb hts (fun _ h => List.mem_cons_of_mem _ (List.mem_append_left _ (List.mem_append_right _ h))) hown hK.1 hP 0 rfl rfl 11 (by decide) (hts (.fieldLink RX11 91 "CutAtlas" "finding" "I") (by decide +kernel)) (fun _ h9 => h9) rfl dX11_put_21 ?_
      exact W.iret (v := (-11)) hx hb hr (fun t ht hW => ⟨⟨(-11), (), rfl, Or.inr (⟨by omega, rfl⟩), trivial⟩, hS.F ht⟩) hS.2.2 dX11_put_24

set_option maxHeartbeats 4000000 in
set_option maxRecDepth 100000 in
theorem c_X11_item (l : Launch) (D : va_G) (cy : Nat → ClassId) (sz : Nat) (xo : Nat) (xk : Nat) (xn : Nat) (xc : Nat) (xh : Nat) (xt : Nat) (xw : Nat) (xm : Nat) (xp : Nat) (m0 : Nat) (m1 : Nat) (m2 : Nat) (m3 : Nat) (l0 : Nat) (l1 : Nat) (l2 : Nat) (l3 : Nat) (u0 : Nat) (u1 : Nat) (u2 : Nat) (u3 : Nat) (a1 : Int32) (a2 : Int32) (a3 : Int32) (a4 : Int32) : Met l yX11_item wsX11_item ({ frames := 2, cells := 0, slots := 0, locals := 44 }) (va_Pc [.ref xo, .int a1, .int a2, .int a3, .int a4] (fun U => U.heap.size = sz ∧ va_P D vwCl [(xo, .inr (11, [.ref xk, .ref xn, .ref xc, .ref xh, .ref xt, .ref xw, .ref xm, .ref xp, .int 0, .int 0, .long 0, .int 0])), (xm, .inl (cy 4, 4, .inr (.inr (.inr (.inr (mf_ m0 m1 m2 m3)))))), (m0, .inr (4, [.int 0, .int (-9), .ref l0, .ref u0])), (m1, .inr (4, [.int 0, .int (-9), .ref l1, .ref u1])), (m2, .inr (4, [.int 0, .int (-9), .ref l2, .ref u2])), (m3, .inr (4, [.int 0, .int (-9), .ref l3, .ref u3]))] U.heap ∧ kk_ D cy U ∧ va_D (fun _ => True) [(xo, .inr (11, [.ref xk, .ref xn, .ref xc, .ref xh, .ref xt, .ref xw, .ref xm, .ref xp, .int 0, .int 0, .long 0, .int 0])), (xm, .inl (cy 4, 4, .inr (.inr (.inr (.inr (mf_ m0 m1 m2 m3)))))), (m0, .inr (4, [.int 0, .int (-9), .ref l0, .ref u0])), (m1, .inr (4, [.int 0, .int (-9), .ref l1, .ref u1])), (m2, .inr (4, [.int 0, .int (-9), .ref l2, .ref u2])), (m3, .inr (4, [.int 0, .int (-9), .ref l3, .ref u3]))])) (va_Ql (fun (r : Int64) (_ : Unit) => r = 0) (fun (_ : Unit) (_ : State) => True) (va_A [(xo, .inr (11, [.ref xk, .ref xn, .ref xc, .ref xh, .ref xt, .ref xw, .ref xm, .ref xp, .int 0, .int 0, .long 0, .int 0])), (xm, .inl (cy 4, 4, .inr (.inr (.inr (.inr (mf_ m0 m1 m2 m3)))))), (m0, .inr (4, [.int 0, .int (-9), .ref l0, .ref u0])), (m1, .inr (4, [.int 0, .int (-9), .ref l1, .ref u1])), (m2, .inr (4, [.int 0, .int (-9), .ref l2, .ref u2])), (m3, .inr (4, [.int 0, .int (-9), .ref l3, .ref u3]))] sz)) 0 0 (va_A [(xo, .inr (11, [.ref xk, .ref xn, .ref xc, .ref xh, .ref xt, .ref xw, .ref xm, .ref xp, .int 0, .int 0, .long 0, .int 0])), (xm, .inl (cy 4, 4, .inr (.inr (.inr (.inr (mf_ m0 m1 m2 m3)))))), (m0, .inr (4, [.int 0, .int (-9), .ref l0, .ref u0])), (m1, .inr (4, [.int 0, .int (-9), .ref l1, .ref u1])), (m2, .inr (4, [.int 0, .int (-9), .ref l2, .ref u2])), (m3, .inr (4, [.int 0, .int (-9), .ref l3, .ref u3]))] sz) := by
  refine Met.ofW (cc := cX11_item) (maxL := 5) (ret := (some .long)) (by decide) rfl ?_
  intro p e s m args below meth c s₁ B hml hv
  obtain ⟨rfl, hsz, hP, hK, hD0⟩ := hv
  have hx := B.exec
  have hb := B.bytes
  have hr := B.returns
  have hts := atoms_spec (ws := wsX11_item) B.pre
  have hown : s.vm.findClass RX11 = some m.cls := findClass_of_methodNamed B.named
  have hlocks := B.notSynchronized
  subst hsz
  have hD := hD0.self (sz := s.heap.size)
  generalize hAe : va_A [(xo, .inr (11, [.ref xk, .ref xn, .ref xc, .ref xh, .ref xt, .ref xw, .ref xm, .ref xp, .int 0, .int 0, .long 0, .int 0])), (xm, .inl (cy 4, 4, .inr (.inr (.inr (.inr (mf_ m0 m1 m2 m3)))))), (m0, .inr (4, [.int 0, .int (-9), .ref l0, .ref u0])), (m1, .inr (4, [.int 0, .int (-9), .ref l1, .ref u1])), (m2, .inr (4, [.int 0, .int (-9), .ref l2, .ref u2])), (m3, .inr (4, [.int 0, .int (-9), .ref l3, .ref u3]))] s.heap.size = A at hD ⊢
  have hA : ∀ q : Nat, s.heap.size ≤ q → A q := fun q h => by rw [← hAe]; exact Or.inr h
  have hS : va_S A s.heap s.heap [] := va_S.rf
  have hl := lv_entry ([.ref xo, .int a1, .int a2, .int a3, .int a4]) (n := 5) (Nat.le_of_ble_eq_true rfl)
  rw [lg_entry_eq]
  generalize (lg_sl ([.ref xo, .int a1, .int a2, .int a3, .int a4]) ++ List.replicate (5 - (lg_sl ([.ref xo, .int a1, .int a2, .int a3, .int a4])).length) Slot.unset).toArray = ls at hl ⊢
  have hl : lv_has ls 5 [(0, .ref xo), (1, .int a1), (2, .int a2), (3, .int a3), (4, .int a4)] := hl
  refine lv_aload_n hx hb dX11_item_0 rfl (lv_at hl 0 rfl) ?_
  refine lv_aload_n hx hb dX11_item_1 rfl (lv_at hl 0 rfl) ?_
  refine lv_iload_n hx hb dX11_item_2 rfl (lv_at hl 1 rfl) ?_
  refine lv_iload_n hx hb dX11_item_3 rfl (lv_at hl 2 rfl) ?_
  refine lv_iload_n hx hb dX11_item_4 rfl (lv_at hl 3 rfl) ?_
  refine lv_iload hx hb dX11_item_5 (lv_at hl 4 rfl) ?_
  have hPc := hP.sub (ws' := [(xo, .inr (11, [.ref xk, .ref xn, .ref xc, .ref xh, .ref xt, .ref xw, .ref xm, .ref xp, .int 0, .int 0, .long 0, .int 0])), (xm, .inl (cy 4, 4, .inr (.inr (.inr (.inr (mf_ m0 m1 m2 m3)))))), (m0, .inr (4, [.int 0, .int (-9), .ref l0, .ref u0])), (m1, .inr (4, [.int 0, .int (-9), .ref l1, .ref u1])), (m2, .inr (4, [.int 0, .int (-9), .ref l2, .ref u2])), (m3, .inr (4, [.int 0, .int (-9), .ref l3, .ref u3]))]) [0, 1, 2, 3, 4, 5] rfl
  have hDc := hD.sub (ws' := [(xo, .inr (11, [.ref xk, .ref xn, .ref xc, .ref xh, .ref xt, .ref xw, .ref xm, .ref xp, .int 0, .int 0, .long 0, .int 0])), (xm, .inl (cy 4, 4, .inr (.inr (.inr (.inr (mf_ m0 m1 m2 m3)))))), (m0, .inr (4, [.int 0, .int (-9), .ref l0, .ref u0])), (m1, .inr (4, [.int 0, .int (-9), .ref l1, .ref u1])), (m2, .inr (4, [.int 0, .int (-9), .ref l2, .ref u2])), (m3, .inr (4, [.int 0, .int (-9), .ref l3, .ref u3]))]) [0, 1, 2, 3, 4, 5] (by decide) rfl
  have hDw : va_D (fun _ => True) [(xo, .inr (11, [.ref xk, .ref xn, .ref xc, .ref xh, .ref xt, .ref xw, .ref xm, .ref xp, .int 0, .int 0, .long 0, .int 0])), (xm, .inl (cy 4, 4, .inr (.inr (.inr (.inr (mf_ m0 m1 m2 m3)))))), (m0, .inr (4, [.int 0, .int (-9), .ref l0, .ref u0])), (m1, .inr (4, [.int 0, .int (-9), .ref l1, .ref u1])), (m2, .inr (4, [.int 0, .int (-9), .ref l2, .ref u2])), (m3, .inr (4, [.int 0, .int (-9), .ref l3, .ref u3]))] := hDc.weaken (fun _ _ _ _ => trivial)
  have hFc := va_free (wc := []) hD hS hA [] rfl
  refine va_calli (va_runV (As := [.int a1, .int a2, .int a3, .int a4]) (rest := [.ref xo]) ⟨hx, hb, hml, hown, hts⟩ (c_X11_numberRefusal l D cy s.heap.size xo xk xn xc xh xt xw xm xp m0 m1 m2 m3 l0 l1 l2 l3 u0 u1 u2 u3 a1 a2 a3 a4) (cwV 4 hts gX11_item_X11_numberRefusal rfl rfl rfl (by decide +kernel) ⟨Nat.le_of_ble_eq_true rfl, Nat.le_of_ble_eq_true rfl⟩) ⟨bl_, va_recv hK.1 hPc (ci := 11) (q0 := 0) rfl rfl, fun U hU hW => ⟨rfl, by rw [hU], by rw [hU]; exact hPc, kk_mv hW hK, hDw⟩⟩ rfl rfl hl.1 rfl (lv_room (Nat.le_of_ble_eq_true rfl)) dX11_item_7 ⟨Nat.le_of_ble_eq_true rfl, Nat.le_of_ble_eq_true rfl⟩) hS (fun q _ h => hFc q h) hFc (fun r_1 u t H locs ht hvm hw hB hz1 hk1 hS => ?_)
  have hP := ro_keep hP hk1
  have hP : va_P D vwCl [(xo, .inr (11, [.ref xk, .ref xn, .ref xc, .ref xh, .ref xt, .ref xw, .ref xm, .ref xp, .int 0, .int 0, .long 0, .int 0])), (xm, .inl (cy 4, 4, .inr (.inr (.inr (.inr (mf_ m0 m1 m2 m3)))))), (m0, .inr (4, [.int 0, .int (-9), .ref l0, .ref u0])), (m1, .inr (4, [.int 0, .int (-9), .ref l1, .ref u1])), (m2, .inr (4, [.int 0, .int (-9), .ref l2, .ref u2])), (m3, .inr (4, [.int 0, .int (-9), .ref l3, .ref u3]))] H := hP
  rcases hw with ⟨w_2, e_⟩ | ⟨w_2, e_⟩
  · have e_ := e_.symm
    subst e_
    refine va_put (ci := 11) (v := .int (-1)) (ty := .int) (C := RX11) (T := TX11) (N := 12) hx hb hts (fun _ h => List.mem_cons_of_mem _ (List.mem_append_left _ (List.mem_append_right _ h))) tyX11 tyX11_ok nmX11 hown hK.1 hP hD hS 0 rfl rfl 11 (by decide) (hts (.fieldLink RX11 91 "CutAtlas" "finding" "I") (by decide +kernel)) (fun _ h9 => h9) rfl (by decide +kernel) rfl rfl (Nat.le_of_ble_eq_true rfl) dX11_item_10 (fun H locs hP hD hS => ?_)
    have hP : va_P D vwCl [(xo, .inr (11, [.ref xk, .ref xn, .ref xc, .ref xh, .ref xt, .ref xw, .ref xm, .ref xp, .int 0, .int 0, .long 0, .int (-1)])), (xm, .inl (cy 4, 4, .inr (.inr (.inr (.inr (mf_ m0 m1 m2 m3)))))), (m0, .inr (4, [.int 0, .int (-9), .ref l0, .ref u0])), (m1, .inr (4, [.int 0, .int (-9), .ref l1, .ref u1])), (m2, .inr (4, [.int 0, .int (-9), .ref l2, .ref u2])), (m3, .inr (4, [.int 0, .int (-9), .ref l3, .ref u3]))] H := hP
    have hD : va_D A [(xo, .inr (11, [.ref xk, .ref xn, .ref xc, .ref xh, .ref xt, .ref xw, .ref xm, .ref xp, .int 0, .int 0, .long 0, .int (-1)])), (xm, .inl (cy 4, 4, .inr (.inr (.inr (.inr (mf_ m0 m1 m2 m3)))))), (m0, .inr (4, [.int 0, .int (-9), .ref l0, .ref u0])), (m1, .inr (4, [.int 0, .int (-9), .ref l1, .ref u1])), (m2, .inr (4, [.int 0, .int (-9), .ref l2, .ref u2])), (m3, .inr (4, [.int 0, .int (-9), .ref l3, .ref u3]))] := hD
    refine lv_aload_n hx hb dX11_item_13 rfl (lv_at hl 0 rfl) ?_
    refine va_get (ci := 11) (v := .int (-1)) (C := RX11) (T := TX11) (N := 12) hx hb hts (fun _ h => List.mem_cons_of_mem _ (List.mem_append_left _ (List.mem_append_right _ h))) hown hK.1 hP 0 rfl rfl 11 (by decide) (hts (.fieldLink RX11 91 "CutAtlas" "finding" "I") (by decide +kernel)) (fun _ h9 => h9) rfl dX11_item_14 ?_
    refine lv_if_eq (tgt := 22) hx hb dX11_item_17 (by decide) (fun c_3 => ?_) (fun c_3 => ?_)
    · exact absurd c_3 (by decide)
    · have _ := c_3
      refine lv_lconst (v := 0) hx hb dX11_item_20 (by decide) ?_
      exact W.lret (v := 0) hx hb hr (fun t ht hW => ⟨⟨0, (), rfl, rfl, trivial⟩, hS.F ht⟩) hS.2.2 dX11_item_21
  · have e_ := e_.symm
    subst e_
    refine va_put (ci := 11) (v := .int (-11)) (ty := .int) (C := RX11) (T := TX11) (N := 12) hx hb hts (fun _ h => List.mem_cons_of_mem _ (List.mem_append_left _ (List.mem_append_right _ h))) tyX11 tyX11_ok nmX11 hown hK.1 hP hD hS 0 rfl rfl 11 (by decide) (hts (.fieldLink RX11 91 "CutAtlas" "finding" "I") (by decide +kernel)) (fun _ h9 => h9) rfl (by decide +kernel) rfl rfl (Nat.le_of_ble_eq_true rfl) dX11_item_10 (fun H locs hP hD hS => ?_)
    have hP : va_P D vwCl [(xo, .inr (11, [.ref xk, .ref xn, .ref xc, .ref xh, .ref xt, .ref xw, .ref xm, .ref xp, .int 0, .int 0, .long 0, .int (-11)])), (xm, .inl (cy 4, 4, .inr (.inr (.inr (.inr (mf_ m0 m1 m2 m3)))))), (m0, .inr (4, [.int 0, .int (-9), .ref l0, .ref u0])), (m1, .inr (4, [.int 0, .int (-9), .ref l1, .ref u1])), (m2, .inr (4, [.int 0, .int (-9), .ref l2, .ref u2])), (m3, .inr (4, [.int 0, .int (-9), .ref l3, .ref u3]))] H := hP
    have hD : va_D A [(xo, .inr (11, [.ref xk, .ref xn, .ref xc, .ref xh, .ref xt, .ref xw, .ref xm, .ref xp, .int 0, .int 0, .long 0, .int (-11)])), (xm, .inl (cy 4, 4, .inr (.inr (.inr (.inr (mf_ m0 m1 m2 m3)))))), (m0, .inr (4, [.int 0, .int (-9), .ref l0, .ref u0])), (m1, .inr (4, [.int 0, .int (-9), .ref l1, .ref u1])), (m2, .inr (4, [.int 0, .int (-9), .ref l2, .ref u2])), (m3, .inr (4, [.int 0, .int (-9), .ref l3, .ref u3]))] := hD
    refine lv_aload_n hx hb dX11_item_13 rfl (lv_at hl 0 rfl) ?_
    refine va_get (ci := 11) (v := .int (-11)) (C := RX11) (T := TX11) (N := 12) hx hb hts (fun _ h => List.mem_cons_of_mem _ (List.mem_append_left _ (List.mem_append_right _ h))) hown hK.1 hP 0 rfl rfl 11 (by decide) (hts (.fieldLink RX11 91 "CutAtlas" "finding" "I") (by decide +kernel)) (fun _ h9 => h9) rfl dX11_item_14 ?_
    refine lv_if_eq (tgt := 22) hx hb dX11_item_17 (by decide) (fun c_4 => ?_) (fun c_4 => ?_)
    · exact absurd c_4 (by decide)
    · have _ := c_4
      refine lv_lconst (v := 0) hx hb dX11_item_20 (by decide) ?_
      exact W.lret (v := 0) hx hb hr (fun t ht hW => ⟨⟨0, (), rfl, rfl, trivial⟩, hS.F ht⟩) hS.2.2 dX11_item_21

set_option maxHeartbeats 4000000 in
set_option maxRecDepth 100000 in
theorem c_X11_copy (l : Launch) (D : va_G) (cy : Nat → ClassId) (sz : Nat) (xo : Nat) (xk : Nat) (xn : Nat) (xc : Nat) (xh : Nat) (xt : Nat) (xw : Nat) (xm : Nat) (xp : Nat) (m0 : Nat) (m1 : Nat) (m2 : Nat) (m3 : Nat) (l0 : Nat) (l1 : Nat) (l2 : Nat) (l3 : Nat) (u0 : Nat) (u1 : Nat) (u2 : Nat) (u3 : Nat) (a1 : Int32) (a2 : Int32) (a3 : Int32) (a4 : Int32) (a5 : Int32) (a6 : Int32) : Met l yX11_copy wsX11_copy ({ frames := 2, cells := 0, slots := 0, locals := 45 }) (va_Pc [.ref xo, .int a1, .int a2, .int a3, .int a4, .int a5, .int a6] (fun U => U.heap.size = sz ∧ va_P D vwCl [(xo, .inr (11, [.ref xk, .ref xn, .ref xc, .ref xh, .ref xt, .ref xw, .ref xm, .ref xp, .int 0, .int 0, .long 0, .int 0])), (xm, .inl (cy 4, 4, .inr (.inr (.inr (.inr (mf_ m0 m1 m2 m3)))))), (m0, .inr (4, [.int 0, .int (-9), .ref l0, .ref u0])), (m1, .inr (4, [.int 0, .int (-9), .ref l1, .ref u1])), (m2, .inr (4, [.int 0, .int (-9), .ref l2, .ref u2])), (m3, .inr (4, [.int 0, .int (-9), .ref l3, .ref u3]))] U.heap ∧ kk_ D cy U ∧ va_D (fun _ => True) [(xo, .inr (11, [.ref xk, .ref xn, .ref xc, .ref xh, .ref xt, .ref xw, .ref xm, .ref xp, .int 0, .int 0, .long 0, .int 0])), (xm, .inl (cy 4, 4, .inr (.inr (.inr (.inr (mf_ m0 m1 m2 m3)))))), (m0, .inr (4, [.int 0, .int (-9), .ref l0, .ref u0])), (m1, .inr (4, [.int 0, .int (-9), .ref l1, .ref u1])), (m2, .inr (4, [.int 0, .int (-9), .ref l2, .ref u2])), (m3, .inr (4, [.int 0, .int (-9), .ref l3, .ref u3]))])) (va_Qi (fun (r : Int32) (_ : Unit) => ((¬ (0 ≤ a1.toInt ∧ a1.toInt < 4)) ∧ r = (-1)) ∨ ((0 ≤ a1.toInt ∧ a1.toInt < 4) ∧ r = (-11))) (fun (_ : Unit) (_ : State) => True) (va_A [(xo, .inr (11, [.ref xk, .ref xn, .ref xc, .ref xh, .ref xt, .ref xw, .ref xm, .ref xp, .int 0, .int 0, .long 0, .int 0])), (xm, .inl (cy 4, 4, .inr (.inr (.inr (.inr (mf_ m0 m1 m2 m3)))))), (m0, .inr (4, [.int 0, .int (-9), .ref l0, .ref u0])), (m1, .inr (4, [.int 0, .int (-9), .ref l1, .ref u1])), (m2, .inr (4, [.int 0, .int (-9), .ref l2, .ref u2])), (m3, .inr (4, [.int 0, .int (-9), .ref l3, .ref u3]))] sz)) 0 0 (va_A [(xo, .inr (11, [.ref xk, .ref xn, .ref xc, .ref xh, .ref xt, .ref xw, .ref xm, .ref xp, .int 0, .int 0, .long 0, .int 0])), (xm, .inl (cy 4, 4, .inr (.inr (.inr (.inr (mf_ m0 m1 m2 m3)))))), (m0, .inr (4, [.int 0, .int (-9), .ref l0, .ref u0])), (m1, .inr (4, [.int 0, .int (-9), .ref l1, .ref u1])), (m2, .inr (4, [.int 0, .int (-9), .ref l2, .ref u2])), (m3, .inr (4, [.int 0, .int (-9), .ref l3, .ref u3]))] sz) := by
  refine Met.ofW (cc := cX11_copy) (maxL := 7) (ret := (some .int)) (by decide) rfl ?_
  intro p e s m args below meth c s₁ B hml hv
  obtain ⟨rfl, hsz, hP, hK, hD0⟩ := hv
  have hx := B.exec
  have hb := B.bytes
  have hr := B.returns
  have hts := atoms_spec (ws := wsX11_copy) B.pre
  have hown : s.vm.findClass RX11 = some m.cls := findClass_of_methodNamed B.named
  have hlocks := B.notSynchronized
  subst hsz
  have hD := hD0.self (sz := s.heap.size)
  generalize hAe : va_A [(xo, .inr (11, [.ref xk, .ref xn, .ref xc, .ref xh, .ref xt, .ref xw, .ref xm, .ref xp, .int 0, .int 0, .long 0, .int 0])), (xm, .inl (cy 4, 4, .inr (.inr (.inr (.inr (mf_ m0 m1 m2 m3)))))), (m0, .inr (4, [.int 0, .int (-9), .ref l0, .ref u0])), (m1, .inr (4, [.int 0, .int (-9), .ref l1, .ref u1])), (m2, .inr (4, [.int 0, .int (-9), .ref l2, .ref u2])), (m3, .inr (4, [.int 0, .int (-9), .ref l3, .ref u3]))] s.heap.size = A at hD ⊢
  have hA : ∀ q : Nat, s.heap.size ≤ q → A q := fun q h => by rw [← hAe]; exact Or.inr h
  have hS : va_S A s.heap s.heap [] := va_S.rf
  have hl := lv_entry ([.ref xo, .int a1, .int a2, .int a3, .int a4, .int a5, .int a6]) (n := 7) (Nat.le_of_ble_eq_true rfl)
  rw [lg_entry_eq]
  generalize (lg_sl ([.ref xo, .int a1, .int a2, .int a3, .int a4, .int a5, .int a6]) ++ List.replicate (7 - (lg_sl ([.ref xo, .int a1, .int a2, .int a3, .int a4, .int a5, .int a6])).length) Slot.unset).toArray = ls at hl ⊢
  have hl : lv_has ls 7 [(0, .ref xo), (1, .int a1), (2, .int a2), (3, .int a3), (4, .int a4), (5, .int a5), (6, .int a6)] := hl
  refine lv_aload_n hx hb dX11_copy_0 rfl (lv_at hl 0 rfl) ?_
  refine lv_iload_n hx hb dX11_copy_1 rfl (lv_at hl 1 rfl) ?_
  have hPc := hP.sub (ws' := []) [] rfl
  have hDc := hD.sub (ws' := []) [] (by decide) rfl
  have hDw : va_D (fun _ => True) [] := hDc.weaken (fun _ _ _ _ => trivial)
  have hFc := va_free (wc := []) hD hS hA [] rfl
  refine va_calli (va_runS (As := [.int a1]) (rest := [.ref xo]) ⟨hx, hb, hml, hown, hts⟩ (c_X11_isMapNumber l D cy s.heap.size a1) (va_cwS 1 hts gX11_copy_X11_isMapNumber rfl rfl rfl (by decide +kernel) ⟨Nat.le_of_ble_eq_true rfl, Nat.le_of_ble_eq_true rfl⟩) ⟨bl_, fun U hU hW => ⟨rfl, by rw [hU], by rw [hU]; exact hPc, kk_mv hW hK, hDw⟩⟩ rfl rfl hl.1 rfl (lv_room (Nat.le_of_ble_eq_true rfl)) dX11_copy_2 ⟨Nat.le_of_ble_eq_true rfl, Nat.le_of_ble_eq_true rfl⟩) hS (fun q _ h => hFc q h) hFc (fun r_1 u t H locs ht hvm hw hB hz1 hk1 hS => ?_)
  have hP := ro_keep hP hk1
  have hP : va_P D vwCl [(xo, .inr (11, [.ref xk, .ref xn, .ref xc, .ref xh, .ref xt, .ref xw, .ref xm, .ref xp, .int 0, .int 0, .long 0, .int 0])), (xm, .inl (cy 4, 4, .inr (.inr (.inr (.inr (mf_ m0 m1 m2 m3)))))), (m0, .inr (4, [.int 0, .int (-9), .ref l0, .ref u0])), (m1, .inr (4, [.int 0, .int (-9), .ref l1, .ref u1])), (m2, .inr (4, [.int 0, .int (-9), .ref l2, .ref u2])), (m3, .inr (4, [.int 0, .int (-9), .ref l3, .ref u3]))] H := hP
  rcases hw with ⟨w_2, e_⟩ | ⟨w_2, e_⟩
  · have e_ := e_.symm
    subst e_
    refine lv_if_eq (tgt := 28) hx hb dX11_copy_5 (by decide) (fun c_3 => ?_) (fun c_3 => ?_)
    · exact absurd c_3 (by decide)
    · have _ := c_3
      rcases sp_4 (x := a1) (by omega) with rfl | rfl | rfl | rfl
      · refine lv_aload_n hx hb dX11_copy_8 rfl (lv_at hl 0 rfl) ?_
        refine va_get (ci := 11) (v := .ref xm) (C := RX11) (T := TX11) (N := 12) hx hb hts (fun _ h => List.mem_cons_of_mem _ (List.mem_append_left _ (List.mem_append_right _ h))) hown hK.1 hP 0 rfl rfl 6 (by decide) (hts (.fieldLink RX11 72 "CutAtlas" "maps" "[LCutAtlas$NumberMap;") (by decide +kernel)) (fun _ h9 => h9) rfl dX11_copy_9 ?_
        refine lv_iload_n hx hb dX11_copy_12 rfl (lv_at hl 1 rfl) ?_
        refine va_aldq hx hb hK.1 hP 1 4 rfl rfl (i := 0) (by unfold vp_in; decide) dX11_copy_13 ?_
        refine lv_topv (v' := .ref m0) (by simp [va_up, va_rf, mf_, cl_0, cl_1, cl_2, cl_3, cl_4]) ?_
        refine lv_iload_n hx hb dX11_copy_14 rfl (lv_at hl 2 rfl) ?_
        refine lv_iload_n hx hb dX11_copy_15 rfl (lv_at hl 3 rfl) ?_
        refine lv_iload hx hb dX11_copy_16 (lv_at hl 4 rfl) ?_
        refine lv_iload hx hb dX11_copy_18 (lv_at hl 5 rfl) ?_
        refine lv_iload hx hb dX11_copy_20 (lv_at hl 6 rfl) ?_
        have hPc := hP.sub (ws' := [(m0, .inr (4, [.int 0, .int (-9), .ref l0, .ref u0]))]) [2] rfl
        have hDc := hD.sub (ws' := [(m0, .inr (4, [.int 0, .int (-9), .ref l0, .ref u0]))]) [2] (by decide) rfl
        have hDw : va_D (fun _ => True) [(m0, .inr (4, [.int 0, .int (-9), .ref l0, .ref u0]))] := hDc.weaken (fun _ _ _ _ => trivial)
        have hFc := va_free (wc := []) hD hS hA [] rfl
        refine va_calli (va_runV (As := [.int a2, .int a3, .int a4, .int a5, .int a6]) (rest := [.ref xo]) ⟨hx, hb, hml, hown, hts⟩ (c_X4_moveRefusal l D cy H.size m0 l0 u0 a2 a3 a4 a5 a6) (cwV 5 hts gX11_copy_X4_moveRefusal rfl rfl rfl (by decide +kernel) ⟨Nat.le_of_ble_eq_true rfl, Nat.le_of_ble_eq_true rfl⟩) ⟨bl_, va_recv hK.1 hPc (ci := 4) (q0 := 0) rfl rfl, fun U hU hW => ⟨rfl, by rw [hU], by rw [hU]; exact hPc, kk_mv hW hK, hDw⟩⟩ rfl rfl hl.1 rfl (lv_room (Nat.le_of_ble_eq_true rfl)) dX11_copy_22 ⟨Nat.le_of_ble_eq_true rfl, Nat.le_of_ble_eq_true rfl⟩) hS (fun q _ h => hFc q h) hFc (fun r_4 u t H locs ht hvm hw hB hz1 hk1 hS => ?_)
        have hP := ro_keep hP hk1
        have hP : va_P D vwCl [(xo, .inr (11, [.ref xk, .ref xn, .ref xc, .ref xh, .ref xt, .ref xw, .ref xm, .ref xp, .int 0, .int 0, .long 0, .int 0])), (xm, .inl (cy 4, 4, .inr (.inr (.inr (.inr (mf_ m0 m1 m2 m3)))))), (m0, .inr (4, [.int 0, .int (-9), .ref l0, .ref u0])), (m1, .inr (4, [.int 0, .int (-9), .ref l1, .ref u1])), (m2, .inr (4, [.int 0, .int (-9), .ref l2, .ref u2])), (m3, .inr (4, [.int 0, .int (-9), .ref l3, .ref u3]))] H := hP
        have e_ := hw.symm
        subst e_
        refine lv_goto (tgt := 29) hx hb dX11_copy_25 (by decide) ?_
        refine va_put (ci := 11) (v := .int (-11)) (ty := .int) (C := RX11) (T := TX11) (N := 12) hx hb hts (fun _ h => List.mem_cons_of_mem _ (List.mem_append_left _ (List.mem_append_right _ h))) tyX11 tyX11_ok nmX11 hown hK.1 hP hD hS 0 rfl rfl 11 (by decide) (hts (.fieldLink RX11 91 "CutAtlas" "finding" "I") (by decide +kernel)) (fun _ h9 => h9) rfl (by decide +kernel) rfl rfl (Nat.le_of_ble_eq_true rfl) dX11_copy_29 (fun H locs hP hD hS => ?_)
        have hP : va_P D vwCl [(xo, .inr (11, [.ref xk, .ref xn, .ref xc, .ref xh, .ref xt, .ref xw, .ref xm, .ref xp, .int 0, .int 0, .long 0, .int (-11)])), (xm, .inl (cy 4, 4, .inr (.inr (.inr (.inr (mf_ m0 m1 m2 m3)))))), (m0, .inr (4, [.int 0, .int (-9), .ref l0, .ref u0])), (m1, .inr (4, [.int 0, .int (-9), .ref l1, .ref u1])), (m2, .inr (4, [.int 0, .int (-9), .ref l2, .ref u2])), (m3, .inr (4, [.int 0, .int (-9), .ref l3, .ref u3]))] H := hP
        have hD : va_D A [(xo, .inr (11, [.ref xk, .ref xn, .ref xc, .ref xh, .ref xt, .ref xw, .ref xm, .ref xp, .int 0, .int 0, .long 0, .int (-11)])), (xm, .inl (cy 4, 4, .inr (.inr (.inr (.inr (mf_ m0 m1 m2 m3)))))), (m0, .inr (4, [.int 0, .int (-9), .ref l0, .ref u0])), (m1, .inr (4, [.int 0, .int (-9), .ref l1, .ref u1])), (m2, .inr (4, [.int 0, .int (-9), .ref l2, .ref u2])), (m3, .inr (4, [.int 0, .int (-9), .ref l3, .ref u3]))] := hD
        refine lv_aload_n hx hb dX11_copy_32 rfl (lv_at hl 0 rfl) ?_
        refine va_get (ci := 11) (v := .int (-11)) (C := RX11) (T := TX11) (N := 12) hx hb hts (fun _ h => List.mem_cons_of_mem _ (List.mem_append_left _ (List.mem_append_right _ h))) hown hK.1 hP 0 rfl rfl 11 (by decide) (hts (.fieldLink RX11 91 "CutAtlas" "finding" "I") (by decide +kernel)) (fun _ h9 => h9) rfl dX11_copy_33 ?_
        refine lv_if_eq (tgt := 44) hx hb dX11_copy_36 (by decide) (fun c_5 => ?_) (fun c_5 => ?_)
        · exact absurd c_5 (by decide)
        · have _ := c_5
          refine lv_aload_n hx hb dX11_copy_39 rfl (lv_at hl 0 rfl) ?_
          refine va_get (ci := 11) (v := .int (-11)) (C := RX11) (T := TX11) (N := 12) hx hb hts (fun _ h => List.mem_cons_of_mem _ (List.mem_append_left _ (List.mem_append_right _ h))) hown hK.1 hP 0 rfl rfl 11 (by decide) (hts (.fieldLink RX11 91 "CutAtlas" "finding" "I") (by decide +kernel)) (fun _ h9 => h9) rfl dX11_copy_40 ?_
          exact W.iret (v := (-11)) hx hb hr (fun t ht hW => ⟨⟨(-11), (), rfl, Or.inr (⟨by omega, rfl⟩), trivial⟩, hS.F ht⟩) hS.2.2 dX11_copy_43
      · refine lv_aload_n hx hb dX11_copy_8 rfl (lv_at hl 0 rfl) ?_
        refine va_get (ci := 11) (v := .ref xm) (C := RX11) (T := TX11) (N := 12) hx hb hts (fun _ h => List.mem_cons_of_mem _ (List.mem_append_left _ (List.mem_append_right _ h))) hown hK.1 hP 0 rfl rfl 6 (by decide) (hts (.fieldLink RX11 72 "CutAtlas" "maps" "[LCutAtlas$NumberMap;") (by decide +kernel)) (fun _ h9 => h9) rfl dX11_copy_9 ?_
        refine lv_iload_n hx hb dX11_copy_12 rfl (lv_at hl 1 rfl) ?_
        refine va_aldq hx hb hK.1 hP 1 4 rfl rfl (i := 1) (by unfold vp_in; decide) dX11_copy_13 ?_
        refine lv_topv (v' := .ref m1) (by simp [va_up, va_rf, mf_, cl_0, cl_1, cl_2, cl_3, cl_4]) ?_
        refine lv_iload_n hx hb dX11_copy_14 rfl (lv_at hl 2 rfl) ?_
        refine lv_iload_n hx hb dX11_copy_15 rfl (lv_at hl 3 rfl) ?_
        refine lv_iload hx hb dX11_copy_16 (lv_at hl 4 rfl) ?_
        refine lv_iload hx hb dX11_copy_18 (lv_at hl 5 rfl) ?_
        refine lv_iload hx hb dX11_copy_20 (lv_at hl 6 rfl) ?_
        have hPc := hP.sub (ws' := [(m1, .inr (4, [.int 0, .int (-9), .ref l1, .ref u1]))]) [3] rfl
        have hDc := hD.sub (ws' := [(m1, .inr (4, [.int 0, .int (-9), .ref l1, .ref u1]))]) [3] (by decide) rfl
        have hDw : va_D (fun _ => True) [(m1, .inr (4, [.int 0, .int (-9), .ref l1, .ref u1]))] := hDc.weaken (fun _ _ _ _ => trivial)
        have hFc := va_free (wc := []) hD hS hA [] rfl
        refine va_calli (va_runV (As := [.int a2, .int a3, .int a4, .int a5, .int a6]) (rest := [.ref xo]) ⟨hx, hb, hml, hown, hts⟩ (c_X4_moveRefusal l D cy H.size m1 l1 u1 a2 a3 a4 a5 a6) (cwV 5 hts gX11_copy_X4_moveRefusal rfl rfl rfl (by decide +kernel) ⟨Nat.le_of_ble_eq_true rfl, Nat.le_of_ble_eq_true rfl⟩) ⟨bl_, va_recv hK.1 hPc (ci := 4) (q0 := 0) rfl rfl, fun U hU hW => ⟨rfl, by rw [hU], by rw [hU]; exact hPc, kk_mv hW hK, hDw⟩⟩ rfl rfl hl.1 rfl (lv_room (Nat.le_of_ble_eq_true rfl)) dX11_copy_22 ⟨Nat.le_of_ble_eq_true rfl, Nat.le_of_ble_eq_true rfl⟩) hS (fun q _ h => hFc q h) hFc (fun r_6 u t H locs ht hvm hw hB hz1 hk1 hS => ?_)
        have hP := ro_keep hP hk1
        have hP : va_P D vwCl [(xo, .inr (11, [.ref xk, .ref xn, .ref xc, .ref xh, .ref xt, .ref xw, .ref xm, .ref xp, .int 0, .int 0, .long 0, .int 0])), (xm, .inl (cy 4, 4, .inr (.inr (.inr (.inr (mf_ m0 m1 m2 m3)))))), (m0, .inr (4, [.int 0, .int (-9), .ref l0, .ref u0])), (m1, .inr (4, [.int 0, .int (-9), .ref l1, .ref u1])), (m2, .inr (4, [.int 0, .int (-9), .ref l2, .ref u2])), (m3, .inr (4, [.int 0, .int (-9), .ref l3, .ref u3]))] H := hP
        have e_ := hw.symm
        subst e_
        refine lv_goto (tgt := 29) hx hb dX11_copy_25 (by decide) ?_
        refine va_put (ci := 11) (v := .int (-11)) (ty := .int) (C := RX11) (T := TX11) (N := 12) hx hb hts (fun _ h => List.mem_cons_of_mem _ (List.mem_append_left _ (List.mem_append_right _ h))) tyX11 tyX11_ok nmX11 hown hK.1 hP hD hS 0 rfl rfl 11 (by decide) (hts (.fieldLink RX11 91 "CutAtlas" "finding" "I") (by decide +kernel)) (fun _ h9 => h9) rfl (by decide +kernel) rfl rfl (Nat.le_of_ble_eq_true rfl) dX11_copy_29 (fun H locs hP hD hS => ?_)
        have hP : va_P D vwCl [(xo, .inr (11, [.ref xk, .ref xn, .ref xc, .ref xh, .ref xt, .ref xw, .ref xm, .ref xp, .int 0, .int 0, .long 0, .int (-11)])), (xm, .inl (cy 4, 4, .inr (.inr (.inr (.inr (mf_ m0 m1 m2 m3)))))), (m0, .inr (4, [.int 0, .int (-9), .ref l0, .ref u0])), (m1, .inr (4, [.int 0, .int (-9), .ref l1, .ref u1])), (m2, .inr (4, [.int 0, .int (-9), .ref l2, .ref u2])), (m3, .inr (4, [.int 0, .int (-9), .ref l3, .ref u3]))] H := hP
        have hD : va_D A [(xo, .inr (11, [.ref xk, .ref xn, .ref xc, .ref xh, .ref xt, .ref xw, .ref xm, .ref xp, .int 0, .int 0, .long 0, .int (-11)])), (xm, .inl (cy 4, 4, .inr (.inr (.inr (.inr (mf_ m0 m1 m2 m3)))))), (m0, .inr (4, [.int 0, .int (-9), .ref l0, .ref u0])), (m1, .inr (4, [.int 0, .int (-9), .ref l1, .ref u1])), (m2, .inr (4, [.int 0, .int (-9), .ref l2, .ref u2])), (m3, .inr (4, [.int 0, .int (-9), .ref l3, .ref u3]))] := hD
        refine lv_aload_n hx hb dX11_copy_32 rfl (lv_at hl 0 rfl) ?_
        refine va_get (ci := 11) (v := .int (-11)) (C := RX11) (T := TX11) (N := 12) hx hb hts (fun _ h => List.mem_cons_of_mem _ (List.mem_append_left _ (List.mem_append_right _ h))) hown hK.1 hP 0 rfl rfl 11 (by decide) (hts (.fieldLink RX11 91 "CutAtlas" "finding" "I") (by decide +kernel)) (fun _ h9 => h9) rfl dX11_copy_33 ?_
        refine lv_if_eq (tgt := 44) hx hb dX11_copy_36 (by decide) (fun c_7 => ?_) (fun c_7 => ?_)
        · exact absurd c_7 (by decide)
        · have _ := c_7
          refine lv_aload_n hx hb dX11_copy_39 rfl (lv_at hl 0 rfl) ?_
          refine va_get (ci := 11) (v := .int (-11)) (C := RX11) (T := TX11) (N := 12) hx hb hts (fun _ h => List.mem_cons_of_mem _ (List.mem_append_left _ (List.mem_append_right _ h))) hown hK.1 hP 0 rfl rfl 11 (by decide) (hts (.fieldLink RX11 91 "CutAtlas" "finding" "I") (by decide +kernel)) (fun _ h9 => h9) rfl dX11_copy_40 ?_
          exact W.iret (v := (-11)) hx hb hr (fun t ht hW => ⟨⟨(-11), (), rfl, Or.inr (⟨by omega, rfl⟩), trivial⟩, hS.F ht⟩) hS.2.2 dX11_copy_43
      · refine lv_aload_n hx hb dX11_copy_8 rfl (lv_at hl 0 rfl) ?_
        refine va_get (ci := 11) (v := .ref xm) (C := RX11) (T := TX11) (N := 12) hx hb hts (fun _ h => List.mem_cons_of_mem _ (List.mem_append_left _ (List.mem_append_right _ h))) hown hK.1 hP 0 rfl rfl 6 (by decide) (hts (.fieldLink RX11 72 "CutAtlas" "maps" "[LCutAtlas$NumberMap;") (by decide +kernel)) (fun _ h9 => h9) rfl dX11_copy_9 ?_
        refine lv_iload_n hx hb dX11_copy_12 rfl (lv_at hl 1 rfl) ?_
        refine va_aldq hx hb hK.1 hP 1 4 rfl rfl (i := 2) (by unfold vp_in; decide) dX11_copy_13 ?_
        refine lv_topv (v' := .ref m2) (by simp [va_up, va_rf, mf_, cl_0, cl_1, cl_2, cl_3, cl_4]) ?_
        refine lv_iload_n hx hb dX11_copy_14 rfl (lv_at hl 2 rfl) ?_
        refine lv_iload_n hx hb dX11_copy_15 rfl (lv_at hl 3 rfl) ?_
        refine lv_iload hx hb dX11_copy_16 (lv_at hl 4 rfl) ?_
        refine lv_iload hx hb dX11_copy_18 (lv_at hl 5 rfl) ?_
        refine lv_iload hx hb dX11_copy_20 (lv_at hl 6 rfl) ?_
        have hPc := hP.sub (ws' := [(m2, .inr (4, [.int 0, .int (-9), .ref l2, .ref u2]))]) [4] rfl
        have hDc := hD.sub (ws' := [(m2, .inr (4, [.int 0, .int (-9), .ref l2, .ref u2]))]) [4] (by decide) rfl
        have hDw : va_D (fun _ => True) [(m2, .inr (4, [.int 0, .int (-9), .ref l2, .ref u2]))] := hDc.weaken (fun _ _ _ _ => trivial)
        have hFc := va_free (wc := []) hD hS hA [] rfl
        refine va_calli (va_runV (As := [.int a2, .int a3, .int a4, .int a5, .int a6]) (rest := [.ref xo]) ⟨hx, hb, hml, hown, hts⟩ (c_X4_moveRefusal l D cy H.size m2 l2 u2 a2 a3 a4 a5 a6) (cwV 5 hts gX11_copy_X4_moveRefusal rfl rfl rfl (by decide +kernel) ⟨Nat.le_of_ble_eq_true rfl, Nat.le_of_ble_eq_true rfl⟩) ⟨bl_, va_recv hK.1 hPc (ci := 4) (q0 := 0) rfl rfl, fun U hU hW => ⟨rfl, by rw [hU], by rw [hU]; exact hPc, kk_mv hW hK, hDw⟩⟩ rfl rfl hl.1 rfl (lv_room (Nat.le_of_ble_eq_true rfl)) dX11_copy_22 ⟨Nat.le_of_ble_eq_true rfl, Nat.le_of_ble_eq_true rfl⟩) hS (fun q _ h => hFc q h) hFc (fun r_8 u t H locs ht hvm hw hB hz1 hk1 hS => ?_)
        have hP := ro_keep hP hk1
        have hP : va_P D vwCl [(xo, .inr (11, [.ref xk, .ref xn, .ref xc, .ref xh, .ref xt, .ref xw, .ref xm, .ref xp, .int 0, .int 0, .long 0, .int 0])), (xm, .inl (cy 4, 4, .inr (.inr (.inr (.inr (mf_ m0 m1 m2 m3)))))), (m0, .inr (4, [.int 0, .int (-9), .ref l0, .ref u0])), (m1, .inr (4, [.int 0, .int (-9), .ref l1, .ref u1])), (m2, .inr (4, [.int 0, .int (-9), .ref l2, .ref u2])), (m3, .inr (4, [.int 0, .int (-9), .ref l3, .ref u3]))] H := hP
        have e_ := hw.symm
        subst e_
        refine lv_goto (tgt := 29) hx hb dX11_copy_25 (by decide) ?_
        refine va_put (ci := 11) (v := .int (-11)) (ty := .int) (C := RX11) (T := TX11) (N := 12) hx hb hts (fun _ h => List.mem_cons_of_mem _ (List.mem_append_left _ (List.mem_append_right _ h))) tyX11 tyX11_ok nmX11 hown hK.1 hP hD hS 0 rfl rfl 11 (by decide) (hts (.fieldLink RX11 91 "CutAtlas" "finding" "I") (by decide +kernel)) (fun _ h9 => h9) rfl (by decide +kernel) rfl rfl (Nat.le_of_ble_eq_true rfl) dX11_copy_29 (fun H locs hP hD hS => ?_)
        have hP : va_P D vwCl [(xo, .inr (11, [.ref xk, .ref xn, .ref xc, .ref xh, .ref xt, .ref xw, .ref xm, .ref xp, .int 0, .int 0, .long 0, .int (-11)])), (xm, .inl (cy 4, 4, .inr (.inr (.inr (.inr (mf_ m0 m1 m2 m3)))))), (m0, .inr (4, [.int 0, .int (-9), .ref l0, .ref u0])), (m1, .inr (4, [.int 0, .int (-9), .ref l1, .ref u1])), (m2, .inr (4, [.int 0, .int (-9), .ref l2, .ref u2])), (m3, .inr (4, [.int 0, .int (-9), .ref l3, .ref u3]))] H := hP
        have hD : va_D A [(xo, .inr (11, [.ref xk, .ref xn, .ref xc, .ref xh, .ref xt, .ref xw, .ref xm, .ref xp, .int 0, .int 0, .long 0, .int (-11)])), (xm, .inl (cy 4, 4, .inr (.inr (.inr (.inr (mf_ m0 m1 m2 m3)))))), (m0, .inr (4, [.int 0, .int (-9), .ref l0, .ref u0])), (m1, .inr (4, [.int 0, .int (-9), .ref l1, .ref u1])), (m2, .inr (4, [.int 0, .int (-9), .ref l2, .ref u2])), (m3, .inr (4, [.int 0, .int (-9), .ref l3, .ref u3]))] := hD
        refine lv_aload_n hx hb dX11_copy_32 rfl (lv_at hl 0 rfl) ?_
        refine va_get (ci := 11) (v := .int (-11)) (C := RX11) (T := TX11) (N := 12) hx hb hts (fun _ h => List.mem_cons_of_mem _ (List.mem_append_left _ (List.mem_append_right _ h))) hown hK.1 hP 0 rfl rfl 11 (by decide) (hts (.fieldLink RX11 91 "CutAtlas" "finding" "I") (by decide +kernel)) (fun _ h9 => h9) rfl dX11_copy_33 ?_
        refine lv_if_eq (tgt := 44) hx hb dX11_copy_36 (by decide) (fun c_9 => ?_) (fun c_9 => ?_)
        · exact absurd c_9 (by decide)
        · have _ := c_9
          refine lv_aload_n hx hb dX11_copy_39 rfl (lv_at hl 0 rfl) ?_
          refine va_get (ci := 11) (v := .int (-11)) (C := RX11) (T := TX11) (N := 12) hx hb hts (fun _ h => List.mem_cons_of_mem _ (List.mem_append_left _ (List.mem_append_right _ h))) hown hK.1 hP 0 rfl rfl 11 (by decide) (hts (.fieldLink RX11 91 "CutAtlas" "finding" "I") (by decide +kernel)) (fun _ h9 => h9) rfl dX11_copy_40 ?_
          exact W.iret (v := (-11)) hx hb hr (fun t ht hW => ⟨⟨(-11), (), rfl, Or.inr (⟨by omega, rfl⟩), trivial⟩, hS.F ht⟩) hS.2.2 dX11_copy_43
      · refine lv_aload_n hx hb dX11_copy_8 rfl (lv_at hl 0 rfl) ?_
        refine va_get (ci := 11) (v := .ref xm) (C := RX11) (T := TX11) (N := 12) hx hb hts (fun _ h => List.mem_cons_of_mem _ (List.mem_append_left _ (List.mem_append_right _ h))) hown hK.1 hP 0 rfl rfl 6 (by decide) (hts (.fieldLink RX11 72 "CutAtlas" "maps" "[LCutAtlas$NumberMap;") (by decide +kernel)) (fun _ h9 => h9) rfl dX11_copy_9 ?_
        refine lv_iload_n hx hb dX11_copy_12 rfl (lv_at hl 1 rfl) ?_
        refine va_aldq hx hb hK.1 hP 1 4 rfl rfl (i := 3) (by unfold vp_in; decide) dX11_copy_13 ?_
        refine lv_topv (v' := .ref m3) (by simp [va_up, va_rf, mf_, cl_0, cl_1, cl_2, cl_3, cl_4]) ?_
        refine lv_iload_n hx hb dX11_copy_14 rfl (lv_at hl 2 rfl) ?_
        refine lv_iload_n hx hb dX11_copy_15 rfl (lv_at hl 3 rfl) ?_
        refine lv_iload hx hb dX11_copy_16 (lv_at hl 4 rfl) ?_
        refine lv_iload hx hb dX11_copy_18 (lv_at hl 5 rfl) ?_
        refine lv_iload hx hb dX11_copy_20 (lv_at hl 6 rfl) ?_
        have hPc := hP.sub (ws' := [(m3, .inr (4, [.int 0, .int (-9), .ref l3, .ref u3]))]) [5] rfl
        have hDc := hD.sub (ws' := [(m3, .inr (4, [.int 0, .int (-9), .ref l3, .ref u3]))]) [5] (by decide) rfl
        have hDw : va_D (fun _ => True) [(m3, .inr (4, [.int 0, .int (-9), .ref l3, .ref u3]))] := hDc.weaken (fun _ _ _ _ => trivial)
        have hFc := va_free (wc := []) hD hS hA [] rfl
        refine va_calli (va_runV (As := [.int a2, .int a3, .int a4, .int a5, .int a6]) (rest := [.ref xo]) ⟨hx, hb, hml, hown, hts⟩ (c_X4_moveRefusal l D cy H.size m3 l3 u3 a2 a3 a4 a5 a6) (cwV 5 hts gX11_copy_X4_moveRefusal rfl rfl rfl (by decide +kernel) ⟨Nat.le_of_ble_eq_true rfl, Nat.le_of_ble_eq_true rfl⟩) ⟨bl_, va_recv hK.1 hPc (ci := 4) (q0 := 0) rfl rfl, fun U hU hW => ⟨rfl, by rw [hU], by rw [hU]; exact hPc, kk_mv hW hK, hDw⟩⟩ rfl rfl hl.1 rfl (lv_room (Nat.le_of_ble_eq_true rfl)) dX11_copy_22 ⟨Nat.le_of_ble_eq_true rfl, Nat.le_of_ble_eq_true rfl⟩) hS (fun q _ h => hFc q h) hFc (fun r_10 u t H locs ht hvm hw hB hz1 hk1 hS => ?_)
        have hP := ro_keep hP hk1
        have hP : va_P D vwCl [(xo, .inr (11, [.ref xk, .ref xn, .ref xc, .ref xh, .ref xt, .ref xw, .ref xm, .ref xp, .int 0, .int 0, .long 0, .int 0])), (xm, .inl (cy 4, 4, .inr (.inr (.inr (.inr (mf_ m0 m1 m2 m3)))))), (m0, .inr (4, [.int 0, .int (-9), .ref l0, .ref u0])), (m1, .inr (4, [.int 0, .int (-9), .ref l1, .ref u1])), (m2, .inr (4, [.int 0, .int (-9), .ref l2, .ref u2])), (m3, .inr (4, [.int 0, .int (-9), .ref l3, .ref u3]))] H := hP
        have e_ := hw.symm
        subst e_
        refine lv_goto (tgt := 29) hx hb dX11_copy_25 (by decide) ?_
        refine va_put (ci := 11) (v := .int (-11)) (ty := .int) (C := RX11) (T := TX11) (N := 12) hx hb hts (fun _ h => List.mem_cons_of_mem _ (List.mem_append_left _ (List.mem_append_right _ h))) tyX11 tyX11_ok nmX11 hown hK.1 hP hD hS 0 rfl rfl 11 (by decide) (hts (.fieldLink RX11 91 "CutAtlas" "finding" "I") (by decide +kernel)) (fun _ h9 => h9) rfl (by decide +kernel) rfl rfl (Nat.le_of_ble_eq_true rfl) dX11_copy_29 (fun H locs hP hD hS => ?_)
        have hP : va_P D vwCl [(xo, .inr (11, [.ref xk, .ref xn, .ref xc, .ref xh, .ref xt, .ref xw, .ref xm, .ref xp, .int 0, .int 0, .long 0, .int (-11)])), (xm, .inl (cy 4, 4, .inr (.inr (.inr (.inr (mf_ m0 m1 m2 m3)))))), (m0, .inr (4, [.int 0, .int (-9), .ref l0, .ref u0])), (m1, .inr (4, [.int 0, .int (-9), .ref l1, .ref u1])), (m2, .inr (4, [.int 0, .int (-9), .ref l2, .ref u2])), (m3, .inr (4, [.int 0, .int (-9), .ref l3, .ref u3]))] H := hP
        have hD : va_D A [(xo, .inr (11, [.ref xk, .ref xn, .ref xc, .ref xh, .ref xt, .ref xw, .ref xm, .ref xp, .int 0, .int 0, .long 0, .int (-11)])), (xm, .inl (cy 4, 4, .inr (.inr (.inr (.inr (mf_ m0 m1 m2 m3)))))), (m0, .inr (4, [.int 0, .int (-9), .ref l0, .ref u0])), (m1, .inr (4, [.int 0, .int (-9), .ref l1, .ref u1])), (m2, .inr (4, [.int 0, .int (-9), .ref l2, .ref u2])), (m3, .inr (4, [.int 0, .int (-9), .ref l3, .ref u3]))] := hD
        refine lv_aload_n hx hb dX11_copy_32 rfl (lv_at hl 0 rfl) ?_
        refine va_get (ci := 11) (v := .int (-11)) (C := RX11) (T := TX11) (N := 12) hx hb hts (fun _ h => List.mem_cons_of_mem _ (List.mem_append_left _ (List.mem_append_right _ h))) hown hK.1 hP 0 rfl rfl 11 (by decide) (hts (.fieldLink RX11 91 "CutAtlas" "finding" "I") (by decide +kernel)) (fun _ h9 => h9) rfl dX11_copy_33 ?_
        refine lv_if_eq (tgt := 44) hx hb dX11_copy_36 (by decide) (fun c_11 => ?_) (fun c_11 => ?_)
        · exact absurd c_11 (by decide)
        · have _ := c_11
          refine lv_aload_n hx hb dX11_copy_39 rfl (lv_at hl 0 rfl) ?_
          refine va_get (ci := 11) (v := .int (-11)) (C := RX11) (T := TX11) (N := 12) hx hb hts (fun _ h => List.mem_cons_of_mem _ (List.mem_append_left _ (List.mem_append_right _ h))) hown hK.1 hP 0 rfl rfl 11 (by decide) (hts (.fieldLink RX11 91 "CutAtlas" "finding" "I") (by decide +kernel)) (fun _ h9 => h9) rfl dX11_copy_40 ?_
          exact W.iret (v := (-11)) hx hb hr (fun t ht hW => ⟨⟨(-11), (), rfl, Or.inr (⟨by omega, rfl⟩), trivial⟩, hS.F ht⟩) hS.2.2 dX11_copy_43
  · have e_ := e_.symm
    subst e_
    refine lv_if_eq (tgt := 28) hx hb dX11_copy_5 (by decide) (fun c_12 => ?_) (fun c_12 => ?_)
    · have _ := c_12
      refine lv_iconst (v := (-1)) hx hb dX11_copy_28 (by decide) ?_
      refine va_put (ci := 11) (v := .int (-1)) (ty := .int) (C := RX11) (T := TX11) (N := 12) hx hb hts (fun _ h => List.mem_cons_of_mem _ (List.mem_append_left _ (List.mem_append_right _ h))) tyX11 tyX11_ok nmX11 hown hK.1 hP hD hS 0 rfl rfl 11 (by decide) (hts (.fieldLink RX11 91 "CutAtlas" "finding" "I") (by decide +kernel)) (fun _ h9 => h9) rfl (by decide +kernel) rfl rfl (Nat.le_of_ble_eq_true rfl) dX11_copy_29 (fun H locs hP hD hS => ?_)
      have hP : va_P D vwCl [(xo, .inr (11, [.ref xk, .ref xn, .ref xc, .ref xh, .ref xt, .ref xw, .ref xm, .ref xp, .int 0, .int 0, .long 0, .int (-1)])), (xm, .inl (cy 4, 4, .inr (.inr (.inr (.inr (mf_ m0 m1 m2 m3)))))), (m0, .inr (4, [.int 0, .int (-9), .ref l0, .ref u0])), (m1, .inr (4, [.int 0, .int (-9), .ref l1, .ref u1])), (m2, .inr (4, [.int 0, .int (-9), .ref l2, .ref u2])), (m3, .inr (4, [.int 0, .int (-9), .ref l3, .ref u3]))] H := hP
      have hD : va_D A [(xo, .inr (11, [.ref xk, .ref xn, .ref xc, .ref xh, .ref xt, .ref xw, .ref xm, .ref xp, .int 0, .int 0, .long 0, .int (-1)])), (xm, .inl (cy 4, 4, .inr (.inr (.inr (.inr (mf_ m0 m1 m2 m3)))))), (m0, .inr (4, [.int 0, .int (-9), .ref l0, .ref u0])), (m1, .inr (4, [.int 0, .int (-9), .ref l1, .ref u1])), (m2, .inr (4, [.int 0, .int (-9), .ref l2, .ref u2])), (m3, .inr (4, [.int 0, .int (-9), .ref l3, .ref u3]))] := hD
      refine lv_aload_n hx hb dX11_copy_32 rfl (lv_at hl 0 rfl) ?_
      refine va_get (ci := 11) (v := .int (-1)) (C := RX11) (T := TX11) (N := 12) hx hb hts (fun _ h => List.mem_cons_of_mem _ (List.mem_append_left _ (List.mem_append_right _ h))) hown hK.1 hP 0 rfl rfl 11 (by decide) (hts (.fieldLink RX11 91 "CutAtlas" "finding" "I") (by decide +kernel)) (fun _ h9 => h9) rfl dX11_copy_33 ?_
      refine lv_if_eq (tgt := 44) hx hb dX11_copy_36 (by decide) (fun c_13 => ?_) (fun c_13 => ?_)
      · exact absurd c_13 (by decide)
      · have _ := c_13
        refine lv_aload_n hx hb dX11_copy_39 rfl (lv_at hl 0 rfl) ?_
        refine va_get (ci := 11) (v := .int (-1)) (C := RX11) (T := TX11) (N := 12) hx hb hts (fun _ h => List.mem_cons_of_mem _ (List.mem_append_left _ (List.mem_append_right _ h))) hown hK.1 hP 0 rfl rfl 11 (by decide) (hts (.fieldLink RX11 91 "CutAtlas" "finding" "I") (by decide +kernel)) (fun _ h9 => h9) rfl dX11_copy_40 ?_
        exact W.iret (v := (-1)) hx hb hr (fun t ht hW => ⟨⟨(-1), (), rfl, Or.inl (⟨by omega, rfl⟩), trivial⟩, hS.F ht⟩) hS.2.2 dX11_copy_43
    · exact absurd c_12 (by decide)

set_option maxHeartbeats 4000000 in
set_option maxRecDepth 100000 in
theorem c_X11_read (l : Launch) (D : va_G) (cy : Nat → ClassId) (sz : Nat) (xo : Nat) (xk : Nat) (xn : Nat) (xc : Nat) (xh : Nat) (xt : Nat) (xw : Nat) (xm : Nat) (xp : Nat) (m0 : Nat) (m1 : Nat) (m2 : Nat) (m3 : Nat) (l0 : Nat) (l1 : Nat) (l2 : Nat) (l3 : Nat) (u0 : Nat) (u1 : Nat) (u2 : Nat) (u3 : Nat) (a1 : Int32) : Met l yX11_read wsX11_read ({ frames := 1, cells := 0, slots := 0, locals := 20 }) (va_Pc [.ref xo, .int a1] (fun U => U.heap.size = sz ∧ va_P D vwCl [(xo, .inr (11, [.ref xk, .ref xn, .ref xc, .ref xh, .ref xt, .ref xw, .ref xm, .ref xp, .int 0, .int 0, .long 0, .int 0])), (xm, .inl (cy 4, 4, .inr (.inr (.inr (.inr (mf_ m0 m1 m2 m3)))))), (m0, .inr (4, [.int 0, .int (-9), .ref l0, .ref u0])), (m1, .inr (4, [.int 0, .int (-9), .ref l1, .ref u1])), (m2, .inr (4, [.int 0, .int (-9), .ref l2, .ref u2])), (m3, .inr (4, [.int 0, .int (-9), .ref l3, .ref u3]))] U.heap ∧ kk_ D cy U ∧ va_D (fun _ => True) [(xo, .inr (11, [.ref xk, .ref xn, .ref xc, .ref xh, .ref xt, .ref xw, .ref xm, .ref xp, .int 0, .int 0, .long 0, .int 0])), (xm, .inl (cy 4, 4, .inr (.inr (.inr (.inr (mf_ m0 m1 m2 m3)))))), (m0, .inr (4, [.int 0, .int (-9), .ref l0, .ref u0])), (m1, .inr (4, [.int 0, .int (-9), .ref l1, .ref u1])), (m2, .inr (4, [.int 0, .int (-9), .ref l2, .ref u2])), (m3, .inr (4, [.int 0, .int (-9), .ref l3, .ref u3]))])) (va_Qi (fun (r : Int32) (_ : Unit) => ((¬ (0 ≤ a1.toInt ∧ a1.toInt < 4)) ∧ r = (-1)) ∨ ((0 ≤ a1.toInt ∧ a1.toInt < 4) ∧ r = 0)) (fun (_ : Unit) (_ : State) => True) (va_A [(xo, .inr (11, [.ref xk, .ref xn, .ref xc, .ref xh, .ref xt, .ref xw, .ref xm, .ref xp, .int 0, .int 0, .long 0, .int 0])), (xm, .inl (cy 4, 4, .inr (.inr (.inr (.inr (mf_ m0 m1 m2 m3)))))), (m0, .inr (4, [.int 0, .int (-9), .ref l0, .ref u0])), (m1, .inr (4, [.int 0, .int (-9), .ref l1, .ref u1])), (m2, .inr (4, [.int 0, .int (-9), .ref l2, .ref u2])), (m3, .inr (4, [.int 0, .int (-9), .ref l3, .ref u3]))] sz)) 0 0 (va_A [(xo, .inr (11, [.ref xk, .ref xn, .ref xc, .ref xh, .ref xt, .ref xw, .ref xm, .ref xp, .int 0, .int 0, .long 0, .int 0])), (xm, .inl (cy 4, 4, .inr (.inr (.inr (.inr (mf_ m0 m1 m2 m3)))))), (m0, .inr (4, [.int 0, .int (-9), .ref l0, .ref u0])), (m1, .inr (4, [.int 0, .int (-9), .ref l1, .ref u1])), (m2, .inr (4, [.int 0, .int (-9), .ref l2, .ref u2])), (m3, .inr (4, [.int 0, .int (-9), .ref l3, .ref u3]))] sz) := by
  refine Met.ofW (cc := cX11_read) (maxL := 5) (ret := (some .int)) (by decide) rfl ?_
  intro p e s m args below meth c s₁ B hml hv
  obtain ⟨rfl, hsz, hP, hK, hD0⟩ := hv
  have hx := B.exec
  have hb := B.bytes
  have hr := B.returns
  have hts := atoms_spec (ws := wsX11_read) B.pre
  have hown : s.vm.findClass RX11 = some m.cls := findClass_of_methodNamed B.named
  have hlocks := B.notSynchronized
  subst hsz
  have hD := hD0.self (sz := s.heap.size)
  generalize hAe : va_A [(xo, .inr (11, [.ref xk, .ref xn, .ref xc, .ref xh, .ref xt, .ref xw, .ref xm, .ref xp, .int 0, .int 0, .long 0, .int 0])), (xm, .inl (cy 4, 4, .inr (.inr (.inr (.inr (mf_ m0 m1 m2 m3)))))), (m0, .inr (4, [.int 0, .int (-9), .ref l0, .ref u0])), (m1, .inr (4, [.int 0, .int (-9), .ref l1, .ref u1])), (m2, .inr (4, [.int 0, .int (-9), .ref l2, .ref u2])), (m3, .inr (4, [.int 0, .int (-9), .ref l3, .ref u3]))] s.heap.size = A at hD ⊢
  have hA : ∀ q : Nat, s.heap.size ≤ q → A q := fun q h => by rw [← hAe]; exact Or.inr h
  have hS : va_S A s.heap s.heap [] := va_S.rf
  have hl := lv_entry ([.ref xo, .int a1]) (n := 5) (Nat.le_of_ble_eq_true rfl)
  rw [lg_entry_eq]
  generalize (lg_sl ([.ref xo, .int a1]) ++ List.replicate (5 - (lg_sl ([.ref xo, .int a1])).length) Slot.unset).toArray = ls at hl ⊢
  have hl : lv_has ls 5 [(0, .ref xo), (1, .int a1)] := hl
  refine lv_iload_n hx hb dX11_read_0 rfl (lv_at hl 1 rfl) ?_
  have hPc := hP.sub (ws' := []) [] rfl
  have hDc := hD.sub (ws' := []) [] (by decide) rfl
  have hDw : va_D (fun _ => True) [] := hDc.weaken (fun _ _ _ _ => trivial)
  have hFc := va_free (wc := []) hD hS hA [] rfl
  refine va_calli (va_runS (As := [.int a1]) (rest := []) ⟨hx, hb, hml, hown, hts⟩ (c_X11_isMapNumber l D cy s.heap.size a1) (va_cwS 1 hts gX11_read_X11_isMapNumber rfl rfl rfl (by decide +kernel) ⟨Nat.le_of_ble_eq_true rfl, Nat.le_of_ble_eq_true rfl⟩) ⟨bl_, fun U hU hW => ⟨rfl, by rw [hU], by rw [hU]; exact hPc, kk_mv hW hK, hDw⟩⟩ rfl rfl hl.1 rfl (lv_room (Nat.le_of_ble_eq_true rfl)) dX11_read_1 ⟨Nat.le_of_ble_eq_true rfl, Nat.le_of_ble_eq_true rfl⟩) hS (fun q _ h => hFc q h) hFc (fun r_1 u t H locs ht hvm hw hB hz1 hk1 hS => ?_)
  have hP := ro_keep hP hk1
  have hP : va_P D vwCl [(xo, .inr (11, [.ref xk, .ref xn, .ref xc, .ref xh, .ref xt, .ref xw, .ref xm, .ref xp, .int 0, .int 0, .long 0, .int 0])), (xm, .inl (cy 4, 4, .inr (.inr (.inr (.inr (mf_ m0 m1 m2 m3)))))), (m0, .inr (4, [.int 0, .int (-9), .ref l0, .ref u0])), (m1, .inr (4, [.int 0, .int (-9), .ref l1, .ref u1])), (m2, .inr (4, [.int 0, .int (-9), .ref l2, .ref u2])), (m3, .inr (4, [.int 0, .int (-9), .ref l3, .ref u3]))] H := hP
  rcases hw with ⟨w_2, e_⟩ | ⟨w_2, e_⟩
  · have e_ := e_.symm
    subst e_
    refine lv_if_ne (tgt := 14) hx hb dX11_read_4 (by decide) (fun c_3 => ?_) (fun c_3 => ?_)
    · have _ := c_3
      rcases sp_4 (x := a1) (by omega) with rfl | rfl | rfl | rfl
      · refine lv_aload_n hx hb dX11_read_14 rfl (lv_at hl 0 rfl) ?_
        refine va_get (ci := 11) (v := .ref xm) (C := RX11) (T := TX11) (N := 12) hx hb hts (fun _ h => List.mem_cons_of_mem _ (List.mem_append_left _ (List.mem_append_left _ (List.mem_append_right _ h)))) hown hK.1 hP 0 rfl rfl 6 (by decide) (hts (.fieldLink RX11 72 "CutAtlas" "maps" "[LCutAtlas$NumberMap;") (by decide +kernel)) (fun _ h9 => h9) rfl dX11_read_15 ?_
        refine lv_iload_n hx hb dX11_read_18 rfl (lv_at hl 1 rfl) ?_
        refine va_aldq hx hb hK.1 hP 1 4 rfl rfl (i := 0) (by unfold vp_in; decide) dX11_read_19 ?_
        refine lv_topv (v' := .ref m0) (by simp [va_up, va_rf, mf_, cl_0, cl_1, cl_2, cl_3, cl_4]) ?_
        refine lv_astore_n (lv' := [(2, .ref m0), (0, .ref xo), (1, .int 0)]) hx hb dX11_read_20 rfl hl (by decide) rfl (fun ls hl => ?_)
        refine lv_aload_n hx hb dX11_read_21 rfl (lv_at hl 1 rfl) ?_
        refine lv_aload_n hx hb dX11_read_22 rfl (lv_at hl 0 rfl) ?_
        have hPc := hP.sub (ws' := [(m0, .inr (4, [.int 0, .int (-9), .ref l0, .ref u0]))]) [2] rfl
        have hDc := hD.sub (ws' := [(m0, .inr (4, [.int 0, .int (-9), .ref l0, .ref u0]))]) [2] (by decide) rfl
        have hDw : va_D (fun _ => True) [(m0, .inr (4, [.int 0, .int (-9), .ref l0, .ref u0]))] := hDc.weaken (fun _ _ _ _ => trivial)
        have hFc := va_free (wc := []) hD hS hA [] rfl
        refine va_calli (va_runV (As := []) (rest := [.ref xo]) ⟨hx, hb, hml, hown, hts⟩ (c_X4_isThere l D cy H.size m0 l0 u0) (cwV 0 hts gX11_read_X4_isThere rfl rfl rfl (by decide +kernel) ⟨Nat.le_of_ble_eq_true rfl, Nat.le_of_ble_eq_true rfl⟩) ⟨bl_, va_recv hK.1 hPc (ci := 4) (q0 := 0) rfl rfl, fun U hU hW => ⟨rfl, by rw [hU], by rw [hU]; exact hPc, kk_mv hW hK, hDw⟩⟩ rfl rfl hl.1 rfl (lv_room (Nat.le_of_ble_eq_true rfl)) dX11_read_23 ⟨Nat.le_of_ble_eq_true rfl, Nat.le_of_ble_eq_true rfl⟩) hS (fun q _ h => hFc q h) hFc (fun r_4 u t H locs ht hvm hw hB hz1 hk1 hS => ?_)
        have hP := ro_keep hP hk1
        have hP : va_P D vwCl [(xo, .inr (11, [.ref xk, .ref xn, .ref xc, .ref xh, .ref xt, .ref xw, .ref xm, .ref xp, .int 0, .int 0, .long 0, .int 0])), (xm, .inl (cy 4, 4, .inr (.inr (.inr (.inr (mf_ m0 m1 m2 m3)))))), (m0, .inr (4, [.int 0, .int (-9), .ref l0, .ref u0])), (m1, .inr (4, [.int 0, .int (-9), .ref l1, .ref u1])), (m2, .inr (4, [.int 0, .int (-9), .ref l2, .ref u2])), (m3, .inr (4, [.int 0, .int (-9), .ref l3, .ref u3]))] H := hP
        have e_ := hw.symm
        subst e_
        refine lv_if_eq (tgt := 33) hx hb dX11_read_26 (by decide) (fun c_5 => ?_) (fun c_5 => ?_)
        · have _ := c_5
          refine lv_bipush (v := (-11)) hx hb dX11_read_33 (by decide) ?_
          refine va_put (ci := 11) (v := .int (-11)) (ty := .int) (C := RX11) (T := TX11) (N := 12) hx hb hts (fun _ h => List.mem_cons_of_mem _ (List.mem_append_left _ (List.mem_append_left _ (List.mem_append_right _ h)))) tyX11 tyX11_ok nmX11 hown hK.1 hP hD hS 0 rfl rfl 11 (by decide) (hts (.fieldLink RX11 91 "CutAtlas" "finding" "I") (by decide +kernel)) (fun _ h9 => h9) rfl (by decide +kernel) rfl rfl (Nat.le_of_ble_eq_true rfl) dX11_read_35 (fun H locs hP hD hS => ?_)
          have hP : va_P D vwCl [(xo, .inr (11, [.ref xk, .ref xn, .ref xc, .ref xh, .ref xt, .ref xw, .ref xm, .ref xp, .int 0, .int 0, .long 0, .int (-11)])), (xm, .inl (cy 4, 4, .inr (.inr (.inr (.inr (mf_ m0 m1 m2 m3)))))), (m0, .inr (4, [.int 0, .int (-9), .ref l0, .ref u0])), (m1, .inr (4, [.int 0, .int (-9), .ref l1, .ref u1])), (m2, .inr (4, [.int 0, .int (-9), .ref l2, .ref u2])), (m3, .inr (4, [.int 0, .int (-9), .ref l3, .ref u3]))] H := hP
          have hD : va_D A [(xo, .inr (11, [.ref xk, .ref xn, .ref xc, .ref xh, .ref xt, .ref xw, .ref xm, .ref xp, .int 0, .int 0, .long 0, .int (-11)])), (xm, .inl (cy 4, 4, .inr (.inr (.inr (.inr (mf_ m0 m1 m2 m3)))))), (m0, .inr (4, [.int 0, .int (-9), .ref l0, .ref u0])), (m1, .inr (4, [.int 0, .int (-9), .ref l1, .ref u1])), (m2, .inr (4, [.int 0, .int (-9), .ref l2, .ref u2])), (m3, .inr (4, [.int 0, .int (-9), .ref l3, .ref u3]))] := hD
          refine lv_iconst (v := 0) hx hb dX11_read_38 (by decide) ?_
          refine lv_istore_n (lv' := [(3, .int 0), (2, .ref m0), (0, .ref xo), (1, .int 0)]) hx hb dX11_read_39 rfl hl (by decide) rfl (fun ls hl => ?_)
          refine lv_iconst (v := 0) hx hb dX11_read_40 (by decide) ?_
          refine lv_istore (lv' := [(4, .int 0), (3, .int 0), (2, .ref m0), (0, .ref xo), (1, .int 0)]) hx hb dX11_read_41 hl (by decide) rfl (fun ls hl => ?_)
          refine lv_iload hx hb dX11_read_43 (lv_at hl 0 rfl) ?_
          refine lv_aload_n hx hb dX11_read_45 rfl (lv_at hl 2 rfl) ?_
          refine va_get (ci := 4) (v := .int (-9)) (C := RX4) (T := TX4) (N := 4) hx hb hts (fun _ h => List.mem_cons_of_mem _ (List.mem_append_left _ (List.mem_append_right _ h))) hown hK.1 hP 2 rfl rfl 1 (by decide) (hts (.fieldLink RX11 284 "CutAtlas$NumberMap" "rows" "I") (by decide +kernel)) (fun _ h9 => h9) rfl dX11_read_46 ?_
          refine lv_icmp_ge (tgt := 134) hx hb dX11_read_49 (by decide) (fun c_6 => ?_) (fun c_6 => ?_)
          · have _ := c_6
            refine lv_iload_n hx hb dX11_read_134 rfl (lv_at hl 1 rfl) ?_
            exact W.iret (v := 0) hx hb hr (fun t ht hW => ⟨⟨0, (), rfl, Or.inr (⟨by omega, rfl⟩), trivial⟩, hS.F ht⟩) hS.2.2 dX11_read_135
          · exact absurd c_6 (by decide)
        · exact absurd c_5 (by decide)
      · refine lv_aload_n hx hb dX11_read_14 rfl (lv_at hl 0 rfl) ?_
        refine va_get (ci := 11) (v := .ref xm) (C := RX11) (T := TX11) (N := 12) hx hb hts (fun _ h => List.mem_cons_of_mem _ (List.mem_append_left _ (List.mem_append_left _ (List.mem_append_right _ h)))) hown hK.1 hP 0 rfl rfl 6 (by decide) (hts (.fieldLink RX11 72 "CutAtlas" "maps" "[LCutAtlas$NumberMap;") (by decide +kernel)) (fun _ h9 => h9) rfl dX11_read_15 ?_
        refine lv_iload_n hx hb dX11_read_18 rfl (lv_at hl 1 rfl) ?_
        refine va_aldq hx hb hK.1 hP 1 4 rfl rfl (i := 1) (by unfold vp_in; decide) dX11_read_19 ?_
        refine lv_topv (v' := .ref m1) (by simp [va_up, va_rf, mf_, cl_0, cl_1, cl_2, cl_3, cl_4]) ?_
        refine lv_astore_n (lv' := [(2, .ref m1), (0, .ref xo), (1, .int 1)]) hx hb dX11_read_20 rfl hl (by decide) rfl (fun ls hl => ?_)
        refine lv_aload_n hx hb dX11_read_21 rfl (lv_at hl 1 rfl) ?_
        refine lv_aload_n hx hb dX11_read_22 rfl (lv_at hl 0 rfl) ?_
        have hPc := hP.sub (ws' := [(m1, .inr (4, [.int 0, .int (-9), .ref l1, .ref u1]))]) [3] rfl
        have hDc := hD.sub (ws' := [(m1, .inr (4, [.int 0, .int (-9), .ref l1, .ref u1]))]) [3] (by decide) rfl
        have hDw : va_D (fun _ => True) [(m1, .inr (4, [.int 0, .int (-9), .ref l1, .ref u1]))] := hDc.weaken (fun _ _ _ _ => trivial)
        have hFc := va_free (wc := []) hD hS hA [] rfl
        refine va_calli (va_runV (As := []) (rest := [.ref xo]) ⟨hx, hb, hml, hown, hts⟩ (c_X4_isThere l D cy H.size m1 l1 u1) (cwV 0 hts gX11_read_X4_isThere rfl rfl rfl (by decide +kernel) ⟨Nat.le_of_ble_eq_true rfl, Nat.le_of_ble_eq_true rfl⟩) ⟨bl_, va_recv hK.1 hPc (ci := 4) (q0 := 0) rfl rfl, fun U hU hW => ⟨rfl, by rw [hU], by rw [hU]; exact hPc, kk_mv hW hK, hDw⟩⟩ rfl rfl hl.1 rfl (lv_room (Nat.le_of_ble_eq_true rfl)) dX11_read_23 ⟨Nat.le_of_ble_eq_true rfl, Nat.le_of_ble_eq_true rfl⟩) hS (fun q _ h => hFc q h) hFc (fun r_7 u t H locs ht hvm hw hB hz1 hk1 hS => ?_)
        have hP := ro_keep hP hk1
        have hP : va_P D vwCl [(xo, .inr (11, [.ref xk, .ref xn, .ref xc, .ref xh, .ref xt, .ref xw, .ref xm, .ref xp, .int 0, .int 0, .long 0, .int 0])), (xm, .inl (cy 4, 4, .inr (.inr (.inr (.inr (mf_ m0 m1 m2 m3)))))), (m0, .inr (4, [.int 0, .int (-9), .ref l0, .ref u0])), (m1, .inr (4, [.int 0, .int (-9), .ref l1, .ref u1])), (m2, .inr (4, [.int 0, .int (-9), .ref l2, .ref u2])), (m3, .inr (4, [.int 0, .int (-9), .ref l3, .ref u3]))] H := hP
        have e_ := hw.symm
        subst e_
        refine lv_if_eq (tgt := 33) hx hb dX11_read_26 (by decide) (fun c_8 => ?_) (fun c_8 => ?_)
        · have _ := c_8
          refine lv_bipush (v := (-11)) hx hb dX11_read_33 (by decide) ?_
          refine va_put (ci := 11) (v := .int (-11)) (ty := .int) (C := RX11) (T := TX11) (N := 12) hx hb hts (fun _ h => List.mem_cons_of_mem _ (List.mem_append_left _ (List.mem_append_left _ (List.mem_append_right _ h)))) tyX11 tyX11_ok nmX11 hown hK.1 hP hD hS 0 rfl rfl 11 (by decide) (hts (.fieldLink RX11 91 "CutAtlas" "finding" "I") (by decide +kernel)) (fun _ h9 => h9) rfl (by decide +kernel) rfl rfl (Nat.le_of_ble_eq_true rfl) dX11_read_35 (fun H locs hP hD hS => ?_)
          have hP : va_P D vwCl [(xo, .inr (11, [.ref xk, .ref xn, .ref xc, .ref xh, .ref xt, .ref xw, .ref xm, .ref xp, .int 0, .int 0, .long 0, .int (-11)])), (xm, .inl (cy 4, 4, .inr (.inr (.inr (.inr (mf_ m0 m1 m2 m3)))))), (m0, .inr (4, [.int 0, .int (-9), .ref l0, .ref u0])), (m1, .inr (4, [.int 0, .int (-9), .ref l1, .ref u1])), (m2, .inr (4, [.int 0, .int (-9), .ref l2, .ref u2])), (m3, .inr (4, [.int 0, .int (-9), .ref l3, .ref u3]))] H := hP
          have hD : va_D A [(xo, .inr (11, [.ref xk, .ref xn, .ref xc, .ref xh, .ref xt, .ref xw, .ref xm, .ref xp, .int 0, .int 0, .long 0, .int (-11)])), (xm, .inl (cy 4, 4, .inr (.inr (.inr (.inr (mf_ m0 m1 m2 m3)))))), (m0, .inr (4, [.int 0, .int (-9), .ref l0, .ref u0])), (m1, .inr (4, [.int 0, .int (-9), .ref l1, .ref u1])), (m2, .inr (4, [.int 0, .int (-9), .ref l2, .ref u2])), (m3, .inr (4, [.int 0, .int (-9), .ref l3, .ref u3]))] := hD
          refine lv_iconst (v := 0) hx hb dX11_read_38 (by decide) ?_
          refine lv_istore_n (lv' := [(3, .int 0), (2, .ref m1), (0, .ref xo), (1, .int 1)]) hx hb dX11_read_39 rfl hl (by decide) rfl (fun ls hl => ?_)
          refine lv_iconst (v := 0) hx hb dX11_read_40 (by decide) ?_
          refine lv_istore (lv' := [(4, .int 0), (3, .int 0), (2, .ref m1), (0, .ref xo), (1, .int 1)]) hx hb dX11_read_41 hl (by decide) rfl (fun ls hl => ?_)
          refine lv_iload hx hb dX11_read_43 (lv_at hl 0 rfl) ?_
          refine lv_aload_n hx hb dX11_read_45 rfl (lv_at hl 2 rfl) ?_
          refine va_get (ci := 4) (v := .int (-9)) (C := RX4) (T := TX4) (N := 4) hx hb hts (fun _ h => List.mem_cons_of_mem _ (List.mem_append_left _ (List.mem_append_right _ h))) hown hK.1 hP 3 rfl rfl 1 (by decide) (hts (.fieldLink RX11 284 "CutAtlas$NumberMap" "rows" "I") (by decide +kernel)) (fun _ h9 => h9) rfl dX11_read_46 ?_
          refine lv_icmp_ge (tgt := 134) hx hb dX11_read_49 (by decide) (fun c_9 => ?_) (fun c_9 => ?_)
          · have _ := c_9
            refine lv_iload_n hx hb dX11_read_134 rfl (lv_at hl 1 rfl) ?_
            exact W.iret (v := 0) hx hb hr (fun t ht hW => ⟨⟨0, (), rfl, Or.inr (⟨by omega, rfl⟩), trivial⟩, hS.F ht⟩) hS.2.2 dX11_read_135
          · exact absurd c_9 (by decide)
        · exact absurd c_8 (by decide)
      · refine lv_aload_n hx hb dX11_read_14 rfl (lv_at hl 0 rfl) ?_
        refine va_get (ci := 11) (v := .ref xm) (C := RX11) (T := TX11) (N := 12) hx hb hts (fun _ h => List.mem_cons_of_mem _ (List.mem_append_left _ (List.mem_append_left _ (List.mem_append_right _ h)))) hown hK.1 hP 0 rfl rfl 6 (by decide) (hts (.fieldLink RX11 72 "CutAtlas" "maps" "[LCutAtlas$NumberMap;") (by decide +kernel)) (fun _ h9 => h9) rfl dX11_read_15 ?_
        refine lv_iload_n hx hb dX11_read_18 rfl (lv_at hl 1 rfl) ?_
        refine va_aldq hx hb hK.1 hP 1 4 rfl rfl (i := 2) (by unfold vp_in; decide) dX11_read_19 ?_
        refine lv_topv (v' := .ref m2) (by simp [va_up, va_rf, mf_, cl_0, cl_1, cl_2, cl_3, cl_4]) ?_
        refine lv_astore_n (lv' := [(2, .ref m2), (0, .ref xo), (1, .int 2)]) hx hb dX11_read_20 rfl hl (by decide) rfl (fun ls hl => ?_)
        refine lv_aload_n hx hb dX11_read_21 rfl (lv_at hl 1 rfl) ?_
        refine lv_aload_n hx hb dX11_read_22 rfl (lv_at hl 0 rfl) ?_
        have hPc := hP.sub (ws' := [(m2, .inr (4, [.int 0, .int (-9), .ref l2, .ref u2]))]) [4] rfl
        have hDc := hD.sub (ws' := [(m2, .inr (4, [.int 0, .int (-9), .ref l2, .ref u2]))]) [4] (by decide) rfl
        have hDw : va_D (fun _ => True) [(m2, .inr (4, [.int 0, .int (-9), .ref l2, .ref u2]))] := hDc.weaken (fun _ _ _ _ => trivial)
        have hFc := va_free (wc := []) hD hS hA [] rfl
        refine va_calli (va_runV (As := []) (rest := [.ref xo]) ⟨hx, hb, hml, hown, hts⟩ (c_X4_isThere l D cy H.size m2 l2 u2) (cwV 0 hts gX11_read_X4_isThere rfl rfl rfl (by decide +kernel) ⟨Nat.le_of_ble_eq_true rfl, Nat.le_of_ble_eq_true rfl⟩) ⟨bl_, va_recv hK.1 hPc (ci := 4) (q0 := 0) rfl rfl, fun U hU hW => ⟨rfl, by rw [hU], by rw [hU]; exact hPc, kk_mv hW hK, hDw⟩⟩ rfl rfl hl.1 rfl (lv_room (Nat.le_of_ble_eq_true rfl)) dX11_read_23 ⟨Nat.le_of_ble_eq_true rfl, Nat.le_of_ble_eq_true rfl⟩) hS (fun q _ h => hFc q h) hFc (fun r_10 u t H locs ht hvm hw hB hz1 hk1 hS => ?_)
        have hP := ro_keep hP hk1
        have hP : va_P D vwCl [(xo, .inr (11, [.ref xk, .ref xn, .ref xc, .ref xh, .ref xt, .ref xw, .ref xm, .ref xp, .int 0, .int 0, .long 0, .int 0])), (xm, .inl (cy 4, 4, .inr (.inr (.inr (.inr (mf_ m0 m1 m2 m3)))))), (m0, .inr (4, [.int 0, .int (-9), .ref l0, .ref u0])), (m1, .inr (4, [.int 0, .int (-9), .ref l1, .ref u1])), (m2, .inr (4, [.int 0, .int (-9), .ref l2, .ref u2])), (m3, .inr (4, [.int 0, .int (-9), .ref l3, .ref u3]))] H := hP
        have e_ := hw.symm
        subst e_
        refine lv_if_eq (tgt := 33) hx hb dX11_read_26 (by decide) (fun c_11 => ?_) (fun c_11 => ?_)
        · have _ := c_11
          refine lv_bipush (v := (-11)) hx hb dX11_read_33 (by decide) ?_
          refine va_put (ci := 11) (v := .int (-11)) (ty := .int) (C := RX11) (T := TX11) (N := 12) hx hb hts (fun _ h => List.mem_cons_of_mem _ (List.mem_append_left _ (List.mem_append_left _ (List.mem_append_right _ h)))) tyX11 tyX11_ok nmX11 hown hK.1 hP hD hS 0 rfl rfl 11 (by decide) (hts (.fieldLink RX11 91 "CutAtlas" "finding" "I") (by decide +kernel)) (fun _ h9 => h9) rfl (by decide +kernel) rfl rfl (Nat.le_of_ble_eq_true rfl) dX11_read_35 (fun H locs hP hD hS => ?_)
          have hP : va_P D vwCl [(xo, .inr (11, [.ref xk, .ref xn, .ref xc, .ref xh, .ref xt, .ref xw, .ref xm, .ref xp, .int 0, .int 0, .long 0, .int (-11)])), (xm, .inl (cy 4, 4, .inr (.inr (.inr (.inr (mf_ m0 m1 m2 m3)))))), (m0, .inr (4, [.int 0, .int (-9), .ref l0, .ref u0])), (m1, .inr (4, [.int 0, .int (-9), .ref l1, .ref u1])), (m2, .inr (4, [.int 0, .int (-9), .ref l2, .ref u2])), (m3, .inr (4, [.int 0, .int (-9), .ref l3, .ref u3]))] H := hP
          have hD : va_D A [(xo, .inr (11, [.ref xk, .ref xn, .ref xc, .ref xh, .ref xt, .ref xw, .ref xm, .ref xp, .int 0, .int 0, .long 0, .int (-11)])), (xm, .inl (cy 4, 4, .inr (.inr (.inr (.inr (mf_ m0 m1 m2 m3)))))), (m0, .inr (4, [.int 0, .int (-9), .ref l0, .ref u0])), (m1, .inr (4, [.int 0, .int (-9), .ref l1, .ref u1])), (m2, .inr (4, [.int 0, .int (-9), .ref l2, .ref u2])), (m3, .inr (4, [.int 0, .int (-9), .ref l3, .ref u3]))] := hD
          refine lv_iconst (v := 0) hx hb dX11_read_38 (by decide) ?_
          refine lv_istore_n (lv' := [(3, .int 0), (2, .ref m2), (0, .ref xo), (1, .int 2)]) hx hb dX11_read_39 rfl hl (by decide) rfl (fun ls hl => ?_)
          refine lv_iconst (v := 0) hx hb dX11_read_40 (by decide) ?_
          refine lv_istore (lv' := [(4, .int 0), (3, .int 0), (2, .ref m2), (0, .ref xo), (1, .int 2)]) hx hb dX11_read_41 hl (by decide) rfl (fun ls hl => ?_)
          refine lv_iload hx hb dX11_read_43 (lv_at hl 0 rfl) ?_
          refine lv_aload_n hx hb dX11_read_45 rfl (lv_at hl 2 rfl) ?_
          refine va_get (ci := 4) (v := .int (-9)) (C := RX4) (T := TX4) (N := 4) hx hb hts (fun _ h => List.mem_cons_of_mem _ (List.mem_append_left _ (List.mem_append_right _ h))) hown hK.1 hP 4 rfl rfl 1 (by decide) (hts (.fieldLink RX11 284 "CutAtlas$NumberMap" "rows" "I") (by decide +kernel)) (fun _ h9 => h9) rfl dX11_read_46 ?_
          refine lv_icmp_ge (tgt := 134) hx hb dX11_read_49 (by decide) (fun c_12 => ?_) (fun c_12 => ?_)
          · have _ := c_12
            refine lv_iload_n hx hb dX11_read_134 rfl (lv_at hl 1 rfl) ?_
            exact W.iret (v := 0) hx hb hr (fun t ht hW => ⟨⟨0, (), rfl, Or.inr (⟨by omega, rfl⟩), trivial⟩, hS.F ht⟩) hS.2.2 dX11_read_135
          · exact absurd c_12 (by decide)
        · exact absurd c_11 (by decide)
      · refine lv_aload_n hx hb dX11_read_14 rfl (lv_at hl 0 rfl) ?_
        refine va_get (ci := 11) (v := .ref xm) (C := RX11) (T := TX11) (N := 12) hx hb hts (fun _ h => List.mem_cons_of_mem _ (List.mem_append_left _ (List.mem_append_left _ (List.mem_append_right _ h)))) hown hK.1 hP 0 rfl rfl 6 (by decide) (hts (.fieldLink RX11 72 "CutAtlas" "maps" "[LCutAtlas$NumberMap;") (by decide +kernel)) (fun _ h9 => h9) rfl dX11_read_15 ?_
        refine lv_iload_n hx hb dX11_read_18 rfl (lv_at hl 1 rfl) ?_
        refine va_aldq hx hb hK.1 hP 1 4 rfl rfl (i := 3) (by unfold vp_in; decide) dX11_read_19 ?_
        refine lv_topv (v' := .ref m3) (by simp [va_up, va_rf, mf_, cl_0, cl_1, cl_2, cl_3, cl_4]) ?_
        refine lv_astore_n (lv' := [(2, .ref m3), (0, .ref xo), (1, .int 3)]) hx hb dX11_read_20 rfl hl (by decide) rfl (fun ls hl => ?_)
        refine lv_aload_n hx hb dX11_read_21 rfl (lv_at hl 1 rfl) ?_
        refine lv_aload_n hx hb dX11_read_22 rfl (lv_at hl 0 rfl) ?_
        have hPc := hP.sub (ws' := [(m3, .inr (4, [.int 0, .int (-9), .ref l3, .ref u3]))]) [5] rfl
        have hDc := hD.sub (ws' := [(m3, .inr (4, [.int 0, .int (-9), .ref l3, .ref u3]))]) [5] (by decide) rfl
        have hDw : va_D (fun _ => True) [(m3, .inr (4, [.int 0, .int (-9), .ref l3, .ref u3]))] := hDc.weaken (fun _ _ _ _ => trivial)
        have hFc := va_free (wc := []) hD hS hA [] rfl
        refine va_calli (va_runV (As := []) (rest := [.ref xo]) ⟨hx, hb, hml, hown, hts⟩ (c_X4_isThere l D cy H.size m3 l3 u3) (cwV 0 hts gX11_read_X4_isThere rfl rfl rfl (by decide +kernel) ⟨Nat.le_of_ble_eq_true rfl, Nat.le_of_ble_eq_true rfl⟩) ⟨bl_, va_recv hK.1 hPc (ci := 4) (q0 := 0) rfl rfl, fun U hU hW => ⟨rfl, by rw [hU], by rw [hU]; exact hPc, kk_mv hW hK, hDw⟩⟩ rfl rfl hl.1 rfl (lv_room (Nat.le_of_ble_eq_true rfl)) dX11_read_23 ⟨Nat.le_of_ble_eq_true rfl, Nat.le_of_ble_eq_true rfl⟩) hS (fun q _ h => hFc q h) hFc (fun r_13 u t H locs ht hvm hw hB hz1 hk1 hS => ?_)
        have hP := ro_keep hP hk1
        have hP : va_P D vwCl [(xo, .inr (11, [.ref xk, .ref xn, .ref xc, .ref xh, .ref xt, .ref xw, .ref xm, .ref xp, .int 0, .int 0, .long 0, .int 0])), (xm, .inl (cy 4, 4, .inr (.inr (.inr (.inr (mf_ m0 m1 m2 m3)))))), (m0, .inr (4, [.int 0, .int (-9), .ref l0, .ref u0])), (m1, .inr (4, [.int 0, .int (-9), .ref l1, .ref u1])), (m2, .inr (4, [.int 0, .int (-9), .ref l2, .ref u2])), (m3, .inr (4, [.int 0, .int (-9), .ref l3, .ref u3]))] H := hP
        have e_ := hw.symm
        subst e_
        refine lv_if_eq (tgt := 33) hx hb dX11_read_26 (by decide) (fun c_14 => ?_) (fun c_14 => ?_)
        · have _ := c_14
          refine lv_bipush (v := (-11)) hx hb dX11_read_33 (by decide) ?_
          refine va_put (ci := 11) (v := .int (-11)) (ty := .int) (C := RX11) (T := TX11) (N := 12) hx hb hts (fun _ h => List.mem_cons_of_mem _ (List.mem_append_left _ (List.mem_append_left _ (List.mem_append_right _ h)))) tyX11 tyX11_ok nmX11 hown hK.1 hP hD hS 0 rfl rfl 11 (by decide) (hts (.fieldLink RX11 91 "CutAtlas" "finding" "I") (by decide +kernel)) (fun _ h9 => h9) rfl (by decide +kernel) rfl rfl (Nat.le_of_ble_eq_true rfl) dX11_read_35 (fun H locs hP hD hS => ?_)
          have hP : va_P D vwCl [(xo, .inr (11, [.ref xk, .ref xn, .ref xc, .ref xh, .ref xt, .ref xw, .ref xm, .ref xp, .int 0, .int 0, .long 0, .int (-11)])), (xm, .inl (cy 4, 4, .inr (.inr (.inr (.inr (mf_ m0 m1 m2 m3)))))), (m0, .inr (4, [.int 0, .int (-9), .ref l0, .ref u0])), (m1, .inr (4, [.int 0, .int (-9), .ref l1, .ref u1])), (m2, .inr (4, [.int 0, .int (-9), .ref l2, .ref u2])), (m3, .inr (4, [.int 0, .int (-9), .ref l3, .ref u3]))] H := hP
          have hD : va_D A [(xo, .inr (11, [.ref xk, .ref xn, .ref xc, .ref xh, .ref xt, .ref xw, .ref xm, .ref xp, .int 0, .int 0, .long 0, .int (-11)])), (xm, .inl (cy 4, 4, .inr (.inr (.inr (.inr (mf_ m0 m1 m2 m3)))))), (m0, .inr (4, [.int 0, .int (-9), .ref l0, .ref u0])), (m1, .inr (4, [.int 0, .int (-9), .ref l1, .ref u1])), (m2, .inr (4, [.int 0, .int (-9), .ref l2, .ref u2])), (m3, .inr (4, [.int 0, .int (-9), .ref l3, .ref u3]))] := hD
          refine lv_iconst (v := 0) hx hb dX11_read_38 (by decide) ?_
          refine lv_istore_n (lv' := [(3, .int 0), (2, .ref m3), (0, .ref xo), (1, .int 3)]) hx hb dX11_read_39 rfl hl (by decide) rfl (fun ls hl => ?_)
          refine lv_iconst (v := 0) hx hb dX11_read_40 (by decide) ?_
          refine lv_istore (lv' := [(4, .int 0), (3, .int 0), (2, .ref m3), (0, .ref xo), (1, .int 3)]) hx hb dX11_read_41 hl (by decide) rfl (fun ls hl => ?_)
          refine lv_iload hx hb dX11_read_43 (lv_at hl 0 rfl) ?_
          refine lv_aload_n hx hb dX11_read_45 rfl (lv_at hl 2 rfl) ?_
          refine va_get (ci := 4) (v := .int (-9)) (C := RX4) (T := TX4) (N := 4) hx hb hts (fun _ h => List.mem_cons_of_mem _ (List.mem_append_left _ (List.mem_append_right _ h))) hown hK.1 hP 5 rfl rfl 1 (by decide) (hts (.fieldLink RX11 284 "CutAtlas$NumberMap" "rows" "I") (by decide +kernel)) (fun _ h9 => h9) rfl dX11_read_46 ?_
          refine lv_icmp_ge (tgt := 134) hx hb dX11_read_49 (by decide) (fun c_15 => ?_) (fun c_15 => ?_)
          · have _ := c_15
            refine lv_iload_n hx hb dX11_read_134 rfl (lv_at hl 1 rfl) ?_
            exact W.iret (v := 0) hx hb hr (fun t ht hW => ⟨⟨0, (), rfl, Or.inr (⟨by omega, rfl⟩), trivial⟩, hS.F ht⟩) hS.2.2 dX11_read_135
          · exact absurd c_15 (by decide)
        · exact absurd c_14 (by decide)
    · exact absurd c_3 (by decide)
  · have e_ := e_.symm
    subst e_
    refine lv_if_ne (tgt := 14) hx hb dX11_read_4 (by decide) (fun c_16 => ?_) (fun c_16 => ?_)
    · exact absurd c_16 (by decide)
    · have _ := c_16
      refine lv_aload_n hx hb dX11_read_7 rfl (lv_at hl 0 rfl) ?_
      refine lv_iconst (v := (-1)) hx hb dX11_read_8 (by decide) ?_
      refine va_put (ci := 11) (v := .int (-1)) (ty := .int) (C := RX11) (T := TX11) (N := 12) hx hb hts (fun _ h => List.mem_cons_of_mem _ (List.mem_append_left _ (List.mem_append_left _ (List.mem_append_right _ h)))) tyX11 tyX11_ok nmX11 hown hK.1 hP hD hS 0 rfl rfl 11 (by decide) (hts (.fieldLink RX11 91 "CutAtlas" "finding" "I") (by decide +kernel)) (fun _ h9 => h9) rfl (by decide +kernel) rfl rfl (Nat.le_of_ble_eq_true rfl) dX11_read_9 (fun H locs hP hD hS => ?_)
      have hP : va_P D vwCl [(xo, .inr (11, [.ref xk, .ref xn, .ref xc, .ref xh, .ref xt, .ref xw, .ref xm, .ref xp, .int 0, .int 0, .long 0, .int (-1)])), (xm, .inl (cy 4, 4, .inr (.inr (.inr (.inr (mf_ m0 m1 m2 m3)))))), (m0, .inr (4, [.int 0, .int (-9), .ref l0, .ref u0])), (m1, .inr (4, [.int 0, .int (-9), .ref l1, .ref u1])), (m2, .inr (4, [.int 0, .int (-9), .ref l2, .ref u2])), (m3, .inr (4, [.int 0, .int (-9), .ref l3, .ref u3]))] H := hP
      have hD : va_D A [(xo, .inr (11, [.ref xk, .ref xn, .ref xc, .ref xh, .ref xt, .ref xw, .ref xm, .ref xp, .int 0, .int 0, .long 0, .int (-1)])), (xm, .inl (cy 4, 4, .inr (.inr (.inr (.inr (mf_ m0 m1 m2 m3)))))), (m0, .inr (4, [.int 0, .int (-9), .ref l0, .ref u0])), (m1, .inr (4, [.int 0, .int (-9), .ref l1, .ref u1])), (m2, .inr (4, [.int 0, .int (-9), .ref l2, .ref u2])), (m3, .inr (4, [.int 0, .int (-9), .ref l3, .ref u3]))] := hD
      refine lv_iconst (v := (-1)) hx hb dX11_read_12 (by decide) ?_
      exact W.iret (v := (-1)) hx hb hr (fun t ht hW => ⟨⟨(-1), (), rfl, Or.inl (⟨by omega, rfl⟩), trivial⟩, hS.F ht⟩) hS.2.2 dX11_read_13
end
section
set_option maxHeartbeats 4000000 in
set_option maxRecDepth 100000 in
theorem c_X3_become (l : Launch) (D : va_G) (cy : Nat → ClassId) (sz : Nat) (h0 : Nat) (k1 : Nat) (k2 : Nat) (k3 : Nat) (k4 : Nat) (k5 : Nat) (xn : Nat) (n1 : Nat) (n2 : Nat) (n3 : Nat) (n4 : Nat) (n5 : Nat) : Met l yX3_become wsX3_become ({ frames := 1, cells := 0, slots := 0, locals := 40 }) (va_Pc [.ref h0, .ref xn] (fun U => U.heap.size = sz ∧ va_P D vwCl [(h0, .inr (3, [.int 0, .int 0, .ref k1, .ref k2, .ref k3, .ref k4, .ref k5])), (k1, .inl (cy 0, 40, .inl (fun _ => 0))), (k2, .inl (cy 0, 40, .inl (fun _ => 0))), (k3, .inl (cy 0, 40, .inl (fun _ => 0))), (k4, .inl (cy 0, 40, .inl (fun _ => 0))), (k5, .inl (cy 0, 40, .inl (fun _ => 0))), (xn, .inr (3, [.int 0, .int 0, .ref n1, .ref n2, .ref n3, .ref n4, .ref n5])), (n1, .inl (cy 0, 40, .inl (fun _ => 0))), (n2, .inl (cy 0, 40, .inl (fun _ => 0))), (n3, .inl (cy 0, 40, .inl (fun _ => 0))), (n4, .inl (cy 0, 40, .inl (fun _ => 0))), (n5, .inl (cy 0, 40, .inl (fun _ => 0)))] U.heap ∧ kk_ D cy U ∧ va_D (fun _ => True) [(h0, .inr (3, [.int 0, .int 0, .ref k1, .ref k2, .ref k3, .ref k4, .ref k5])), (k1, .inl (cy 0, 40, .inl (fun _ => 0))), (k2, .inl (cy 0, 40, .inl (fun _ => 0))), (k3, .inl (cy 0, 40, .inl (fun _ => 0))), (k4, .inl (cy 0, 40, .inl (fun _ => 0))), (k5, .inl (cy 0, 40, .inl (fun _ => 0))), (xn, .inr (3, [.int 0, .int 0, .ref n1, .ref n2, .ref n3, .ref n4, .ref n5])), (n1, .inl (cy 0, 40, .inl (fun _ => 0))), (n2, .inl (cy 0, 40, .inl (fun _ => 0))), (n3, .inl (cy 0, 40, .inl (fun _ => 0))), (n4, .inl (cy 0, 40, .inl (fun _ => 0))), (n5, .inl (cy 0, 40, .inl (fun _ => 0)))])) (va_Qv (fun (_ : Unit) => True) (fun (_ : Unit) (t : State) => va_P D vwCl [(xn, .inr (3, [.int 0, .int 0, .ref n1, .ref n2, .ref n3, .ref n4, .ref n5]))] t.heap ∧ va_D (va_A [(h0, .inr (3, [.int 0, .int 0, .ref k1, .ref k2, .ref k3, .ref k4, .ref k5])), (k1, .inl (cy 0, 40, .inl (fun _ => 0))), (k2, .inl (cy 0, 40, .inl (fun _ => 0))), (k3, .inl (cy 0, 40, .inl (fun _ => 0))), (k4, .inl (cy 0, 40, .inl (fun _ => 0))), (k5, .inl (cy 0, 40, .inl (fun _ => 0))), (xn, .inr (3, [.int 0, .int 0, .ref n1, .ref n2, .ref n3, .ref n4, .ref n5])), (n1, .inl (cy 0, 40, .inl (fun _ => 0))), (n2, .inl (cy 0, 40, .inl (fun _ => 0))), (n3, .inl (cy 0, 40, .inl (fun _ => 0))), (n4, .inl (cy 0, 40, .inl (fun _ => 0))), (n5, .inl (cy 0, 40, .inl (fun _ => 0)))] sz) [(xn, .inr (3, [.int 0, .int 0, .ref n1, .ref n2, .ref n3, .ref n4, .ref n5]))]) (va_A [(h0, .inr (3, [.int 0, .int 0, .ref k1, .ref k2, .ref k3, .ref k4, .ref k5])), (k1, .inl (cy 0, 40, .inl (fun _ => 0))), (k2, .inl (cy 0, 40, .inl (fun _ => 0))), (k3, .inl (cy 0, 40, .inl (fun _ => 0))), (k4, .inl (cy 0, 40, .inl (fun _ => 0))), (k5, .inl (cy 0, 40, .inl (fun _ => 0))), (xn, .inr (3, [.int 0, .int 0, .ref n1, .ref n2, .ref n3, .ref n4, .ref n5])), (n1, .inl (cy 0, 40, .inl (fun _ => 0))), (n2, .inl (cy 0, 40, .inl (fun _ => 0))), (n3, .inl (cy 0, 40, .inl (fun _ => 0))), (n4, .inl (cy 0, 40, .inl (fun _ => 0))), (n5, .inl (cy 0, 40, .inl (fun _ => 0)))] sz)) 0 0 (va_A [(h0, .inr (3, [.int 0, .int 0, .ref k1, .ref k2, .ref k3, .ref k4, .ref k5])), (k1, .inl (cy 0, 40, .inl (fun _ => 0))), (k2, .inl (cy 0, 40, .inl (fun _ => 0))), (k3, .inl (cy 0, 40, .inl (fun _ => 0))), (k4, .inl (cy 0, 40, .inl (fun _ => 0))), (k5, .inl (cy 0, 40, .inl (fun _ => 0))), (xn, .inr (3, [.int 0, .int 0, .ref n1, .ref n2, .ref n3, .ref n4, .ref n5])), (n1, .inl (cy 0, 40, .inl (fun _ => 0))), (n2, .inl (cy 0, 40, .inl (fun _ => 0))), (n3, .inl (cy 0, 40, .inl (fun _ => 0))), (n4, .inl (cy 0, 40, .inl (fun _ => 0))), (n5, .inl (cy 0, 40, .inl (fun _ => 0)))] sz) := by
  refine Met.ofW (cc := cX3_become) (maxL := 2) (ret := none) (by decide) rfl ?_
  intro p e s m args below meth c s₁ B hml hv
  obtain ⟨rfl, hsz, hP, hK, hD0⟩ := hv
  have hx := B.exec
  have hb := B.bytes
  have hr := B.returns
  have hts := atoms_spec (ws := wsX3_become) B.pre
  have hown : s.vm.findClass RX3 = some m.cls := findClass_of_methodNamed B.named
  have hlocks := B.notSynchronized
  subst hsz
  have hD := hD0.self (sz := s.heap.size)
  generalize hAe : va_A [(h0, .inr (3, [.int 0, .int 0, .ref k1, .ref k2, .ref k3, .ref k4, .ref k5])), (k1, .inl (cy 0, 40, .inl (fun _ => 0))), (k2, .inl (cy 0, 40, .inl (fun _ => 0))), (k3, .inl (cy 0, 40, .inl (fun _ => 0))), (k4, .inl (cy 0, 40, .inl (fun _ => 0))), (k5, .inl (cy 0, 40, .inl (fun _ => 0))), (xn, .inr (3, [.int 0, .int 0, .ref n1, .ref n2, .ref n3, .ref n4, .ref n5])), (n1, .inl (cy 0, 40, .inl (fun _ => 0))), (n2, .inl (cy 0, 40, .inl (fun _ => 0))), (n3, .inl (cy 0, 40, .inl (fun _ => 0))), (n4, .inl (cy 0, 40, .inl (fun _ => 0))), (n5, .inl (cy 0, 40, .inl (fun _ => 0)))] s.heap.size = A at hD ⊢
  have hA : ∀ q : Nat, s.heap.size ≤ q → A q := fun q h => by rw [← hAe]; exact Or.inr h
  have hS : va_S A s.heap s.heap [] := va_S.rf
  have hl := lv_entry ([.ref h0, .ref xn]) (n := 2) (Nat.le_of_ble_eq_true rfl)
  rw [lg_entry_eq]
  generalize (lg_sl ([.ref h0, .ref xn]) ++ List.replicate (2 - (lg_sl ([.ref h0, .ref xn])).length) Slot.unset).toArray = ls at hl ⊢
  have hl : lv_has ls 2 [(0, .ref h0), (1, .ref xn)] := hl
  refine lv_aload_n hx hb dX3_become_0 rfl (lv_at hl 0 rfl) ?_
  refine lv_aload_n hx hb dX3_become_1 rfl (lv_at hl 1 rfl) ?_
  refine va_get (ci := 3) (v := .int 0) (C := RX3) (T := TX3) (N := 7) hx hb hts (fun _ h => List.mem_cons_of_mem _ (List.mem_append_right _ h)) hown hK.1 hP 6 rfl rfl 0 (by decide) (hts (.fieldLink RX3 9 "CutAtlas$Net" "places" "I") (by decide +kernel)) (fun _ h9 => h9) rfl dX3_become_2 ?_
  refine va_put (ci := 3) (v := .int 0) (ty := .int) (C := RX3) (T := TX3) (N := 7) hx hb hts (fun _ h => List.mem_cons_of_mem _ (List.mem_append_right _ h)) tyX3 tyX3_ok nmX3 hown hK.1 hP hD hS 0 rfl rfl 0 (by decide) (hts (.fieldLink RX3 9 "CutAtlas$Net" "places" "I") (by decide +kernel)) (fun _ h9 => h9) rfl (by decide +kernel) rfl rfl (Nat.le_of_ble_eq_true rfl) dX3_become_5 (fun H locs hP hD hS => ?_)
  have hP : va_P D vwCl [(h0, .inr (3, [.int 0, .int 0, .ref k1, .ref k2, .ref k3, .ref k4, .ref k5])), (k1, .inl (cy 0, 40, .inl (fun _ => 0))), (k2, .inl (cy 0, 40, .inl (fun _ => 0))), (k3, .inl (cy 0, 40, .inl (fun _ => 0))), (k4, .inl (cy 0, 40, .inl (fun _ => 0))), (k5, .inl (cy 0, 40, .inl (fun _ => 0))), (xn, .inr (3, [.int 0, .int 0, .ref n1, .ref n2, .ref n3, .ref n4, .ref n5])), (n1, .inl (cy 0, 40, .inl (fun _ => 0))), (n2, .inl (cy 0, 40, .inl (fun _ => 0))), (n3, .inl (cy 0, 40, .inl (fun _ => 0))), (n4, .inl (cy 0, 40, .inl (fun _ => 0))), (n5, .inl (cy 0, 40, .inl (fun _ => 0)))] H := hP
  have hD : va_D A [(h0, .inr (3, [.int 0, .int 0, .ref k1, .ref k2, .ref k3, .ref k4, .ref k5])), (k1, .inl (cy 0, 40, .inl (fun _ => 0))), (k2, .inl (cy 0, 40, .inl (fun _ => 0))), (k3, .inl (cy 0, 40, .inl (fun _ => 0))), (k4, .inl (cy 0, 40, .inl (fun _ => 0))), (k5, .inl (cy 0, 40, .inl (fun _ => 0))), (xn, .inr (3, [.int 0, .int 0, .ref n1, .ref n2, .ref n3, .ref n4, .ref n5])), (n1, .inl (cy 0, 40, .inl (fun _ => 0))), (n2, .inl (cy 0, 40, .inl (fun _ => 0))), (n3, .inl (cy 0, 40, .inl (fun _ => 0))), (n4, .inl (cy 0, 40, .inl (fun _ => 0))), (n5, .inl (cy 0, 40, .inl (fun _ => 0)))] := hD
  refine lv_aload_n hx hb dX3_become_8 rfl (lv_at hl 0 rfl) ?_
  refine lv_aload_n hx hb dX3_become_9 rfl (lv_at hl 1 rfl) ?_
  refine va_get (ci := 3) (v := .int 0) (C := RX3) (T := TX3) (N := 7) hx hb hts (fun _ h => List.mem_cons_of_mem _ (List.mem_append_right _ h)) hown hK.1 hP 6 rfl rfl 1 (by decide) (hts (.fieldLink RX3 15 "CutAtlas$Net" "lines" "I") (by decide +kernel)) (fun _ h9 => h9) rfl dX3_become_10 ?_
  refine va_put (ci := 3) (v := .int 0) (ty := .int) (C := RX3) (T := TX3) (N := 7) hx hb hts (fun _ h => List.mem_cons_of_mem _ (List.mem_append_right _ h)) tyX3 tyX3_ok nmX3 hown hK.1 hP hD hS 0 rfl rfl 1 (by decide) (hts (.fieldLink RX3 15 "CutAtlas$Net" "lines" "I") (by decide +kernel)) (fun _ h9 => h9) rfl (by decide +kernel) rfl rfl (Nat.le_of_ble_eq_true rfl) dX3_become_13 (fun H locs hP hD hS => ?_)
  have hP : va_P D vwCl [(h0, .inr (3, [.int 0, .int 0, .ref k1, .ref k2, .ref k3, .ref k4, .ref k5])), (k1, .inl (cy 0, 40, .inl (fun _ => 0))), (k2, .inl (cy 0, 40, .inl (fun _ => 0))), (k3, .inl (cy 0, 40, .inl (fun _ => 0))), (k4, .inl (cy 0, 40, .inl (fun _ => 0))), (k5, .inl (cy 0, 40, .inl (fun _ => 0))), (xn, .inr (3, [.int 0, .int 0, .ref n1, .ref n2, .ref n3, .ref n4, .ref n5])), (n1, .inl (cy 0, 40, .inl (fun _ => 0))), (n2, .inl (cy 0, 40, .inl (fun _ => 0))), (n3, .inl (cy 0, 40, .inl (fun _ => 0))), (n4, .inl (cy 0, 40, .inl (fun _ => 0))), (n5, .inl (cy 0, 40, .inl (fun _ => 0)))] H := hP
  have hD : va_D A [(h0, .inr (3, [.int 0, .int 0, .ref k1, .ref k2, .ref k3, .ref k4, .ref k5])), (k1, .inl (cy 0, 40, .inl (fun _ => 0))), (k2, .inl (cy 0, 40, .inl (fun _ => 0))), (k3, .inl (cy 0, 40, .inl (fun _ => 0))), (k4, .inl (cy 0, 40, .inl (fun _ => 0))), (k5, .inl (cy 0, 40, .inl (fun _ => 0))), (xn, .inr (3, [.int 0, .int 0, .ref n1, .ref n2, .ref n3, .ref n4, .ref n5])), (n1, .inl (cy 0, 40, .inl (fun _ => 0))), (n2, .inl (cy 0, 40, .inl (fun _ => 0))), (n3, .inl (cy 0, 40, .inl (fun _ => 0))), (n4, .inl (cy 0, 40, .inl (fun _ => 0))), (n5, .inl (cy 0, 40, .inl (fun _ => 0)))] := hD
  refine lv_aload_n hx hb dX3_become_16 rfl (lv_at hl 1 rfl) ?_
  refine va_get (ci := 3) (v := .ref n1) (C := RX3) (T := TX3) (N := 7) hx hb hts (fun _ h => List.mem_cons_of_mem _ (List.mem_append_right _ h)) hown hK.1 hP 6 rfl rfl 2 (by decide) (hts (.fieldLink RX3 18 "CutAtlas$Net" "kinds" "[I") (by decide +kernel)) (fun _ h9 => h9) rfl dX3_become_17 ?_
  refine lv_iconst (v := 0) hx hb dX3_become_20 (by decide) ?_
  refine lv_aload_n hx hb dX3_become_21 rfl (lv_at hl 0 rfl) ?_
  refine va_get (ci := 3) (v := .ref k1) (C := RX3) (T := TX3) (N := 7) hx hb hts (fun _ h => List.mem_cons_of_mem _ (List.mem_append_right _ h)) hown hK.1 hP 0 rfl rfl 2 (by decide) (hts (.fieldLink RX3 18 "CutAtlas$Net" "kinds" "[I") (by decide +kernel)) (fun _ h9 => h9) rfl dX3_become_22 ?_
  refine lv_iconst (v := 0) hx hb dX3_become_25 (by decide) ?_
  refine lv_aload_n hx hb dX3_become_26 rfl (lv_at hl 0 rfl) ?_
  refine va_get (ci := 3) (v := .int 0) (C := RX3) (T := TX3) (N := 7) hx hb hts (fun _ h => List.mem_cons_of_mem _ (List.mem_append_right _ h)) hown hK.1 hP 0 rfl rfl 1 (by decide) (hts (.fieldLink RX3 15 "CutAtlas$Net" "lines" "I") (by decide +kernel)) (fun _ h9 => h9) rfl dX3_become_27 ?_
  refine va_copyi hx hb (by rw [hml]; exact hl.1.symm) hown (hts (.methodLink RX3 46 arraycopyName) (by decide +kernel)) (hts (.native arraycopyName) (by decide +kernel)) (hts (.static arraycopyName) (by decide +kernel)) (hts (.initialized "java/lang/System") (by decide +kernel)) hK.1 hP hD hS 7 1 0 0 rfl rfl rfl rfl rfl (sp := 0) (dp := 0) (n := 0) (by decide) (by decide) (by decide) (by decide) (by decide) (fun i h => absurd h (Nat.not_lt_zero _)) (Nat.le_of_ble_eq_true rfl) (Nat.le_of_ble_eq_true rfl) dX3_become_30 (fun H locs hP hD hS => ?_)
  have hP : va_P D vwCl [(h0, .inr (3, [.int 0, .int 0, .ref k1, .ref k2, .ref k3, .ref k4, .ref k5])), (k1, .inl (cy 0, 40, .inl (va_cpy (fun _ => 0) (fun _ => 0) (0 : Int32).toNatClampNeg (0 : Int32).toNatClampNeg (0 : Int32).toNatClampNeg))), (k2, .inl (cy 0, 40, .inl (fun _ => 0))), (k3, .inl (cy 0, 40, .inl (fun _ => 0))), (k4, .inl (cy 0, 40, .inl (fun _ => 0))), (k5, .inl (cy 0, 40, .inl (fun _ => 0))), (xn, .inr (3, [.int 0, .int 0, .ref n1, .ref n2, .ref n3, .ref n4, .ref n5])), (n1, .inl (cy 0, 40, .inl (fun _ => 0))), (n2, .inl (cy 0, 40, .inl (fun _ => 0))), (n3, .inl (cy 0, 40, .inl (fun _ => 0))), (n4, .inl (cy 0, 40, .inl (fun _ => 0))), (n5, .inl (cy 0, 40, .inl (fun _ => 0)))] H := hP
  have hD : va_D A [(h0, .inr (3, [.int 0, .int 0, .ref k1, .ref k2, .ref k3, .ref k4, .ref k5])), (k1, .inl (cy 0, 40, .inl (va_cpy (fun _ => 0) (fun _ => 0) (0 : Int32).toNatClampNeg (0 : Int32).toNatClampNeg (0 : Int32).toNatClampNeg))), (k2, .inl (cy 0, 40, .inl (fun _ => 0))), (k3, .inl (cy 0, 40, .inl (fun _ => 0))), (k4, .inl (cy 0, 40, .inl (fun _ => 0))), (k5, .inl (cy 0, 40, .inl (fun _ => 0))), (xn, .inr (3, [.int 0, .int 0, .ref n1, .ref n2, .ref n3, .ref n4, .ref n5])), (n1, .inl (cy 0, 40, .inl (fun _ => 0))), (n2, .inl (cy 0, 40, .inl (fun _ => 0))), (n3, .inl (cy 0, 40, .inl (fun _ => 0))), (n4, .inl (cy 0, 40, .inl (fun _ => 0))), (n5, .inl (cy 0, 40, .inl (fun _ => 0)))] := hD
  refine lv_aload_n hx hb dX3_become_33 rfl (lv_at hl 1 rfl) ?_
  refine va_get (ci := 3) (v := .ref n2) (C := RX3) (T := TX3) (N := 7) hx hb hts (fun _ h => List.mem_cons_of_mem _ (List.mem_append_right _ h)) hown hK.1 hP 6 rfl rfl 3 (by decide) (hts (.fieldLink RX3 22 "CutAtlas$Net" "starts" "[I") (by decide +kernel)) (fun _ h9 => h9) rfl dX3_become_34 ?_
  refine lv_iconst (v := 0) hx hb dX3_become_37 (by decide) ?_
  refine lv_aload_n hx hb dX3_become_38 rfl (lv_at hl 0 rfl) ?_
  refine va_get (ci := 3) (v := .ref k2) (C := RX3) (T := TX3) (N := 7) hx hb hts (fun _ h => List.mem_cons_of_mem _ (List.mem_append_right _ h)) hown hK.1 hP 0 rfl rfl 3 (by decide) (hts (.fieldLink RX3 22 "CutAtlas$Net" "starts" "[I") (by decide +kernel)) (fun _ h9 => h9) rfl dX3_become_39 ?_
  refine lv_iconst (v := 0) hx hb dX3_become_42 (by decide) ?_
  refine lv_aload_n hx hb dX3_become_43 rfl (lv_at hl 0 rfl) ?_
  refine va_get (ci := 3) (v := .int 0) (C := RX3) (T := TX3) (N := 7) hx hb hts (fun _ h => List.mem_cons_of_mem _ (List.mem_append_right _ h)) hown hK.1 hP 0 rfl rfl 1 (by decide) (hts (.fieldLink RX3 15 "CutAtlas$Net" "lines" "I") (by decide +kernel)) (fun _ h9 => h9) rfl dX3_become_44 ?_
  refine va_copyi hx hb (by rw [hml]; exact hl.1.symm) hown (hts (.methodLink RX3 46 arraycopyName) (by decide +kernel)) (hts (.native arraycopyName) (by decide +kernel)) (hts (.static arraycopyName) (by decide +kernel)) (hts (.initialized "java/lang/System") (by decide +kernel)) hK.1 hP hD hS 8 2 0 0 rfl rfl rfl rfl rfl (sp := 0) (dp := 0) (n := 0) (by decide) (by decide) (by decide) (by decide) (by decide) (fun i h => absurd h (Nat.not_lt_zero _)) (Nat.le_of_ble_eq_true rfl) (Nat.le_of_ble_eq_true rfl) dX3_become_47 (fun H locs hP hD hS => ?_)
  have hP : va_P D vwCl [(h0, .inr (3, [.int 0, .int 0, .ref k1, .ref k2, .ref k3, .ref k4, .ref k5])), (k1, .inl (cy 0, 40, .inl (va_cpy (fun _ => 0) (fun _ => 0) (0 : Int32).toNatClampNeg (0 : Int32).toNatClampNeg (0 : Int32).toNatClampNeg))), (k2, .inl (cy 0, 40, .inl (va_cpy (fun _ => 0) (fun _ => 0) (0 : Int32).toNatClampNeg (0 : Int32).toNatClampNeg (0 : Int32).toNatClampNeg))), (k3, .inl (cy 0, 40, .inl (fun _ => 0))), (k4, .inl (cy 0, 40, .inl (fun _ => 0))), (k5, .inl (cy 0, 40, .inl (fun _ => 0))), (xn, .inr (3, [.int 0, .int 0, .ref n1, .ref n2, .ref n3, .ref n4, .ref n5])), (n1, .inl (cy 0, 40, .inl (fun _ => 0))), (n2, .inl (cy 0, 40, .inl (fun _ => 0))), (n3, .inl (cy 0, 40, .inl (fun _ => 0))), (n4, .inl (cy 0, 40, .inl (fun _ => 0))), (n5, .inl (cy 0, 40, .inl (fun _ => 0)))] H := hP
  have hD : va_D A [(h0, .inr (3, [.int 0, .int 0, .ref k1, .ref k2, .ref k3, .ref k4, .ref k5])), (k1, .inl (cy 0, 40, .inl (va_cpy (fun _ => 0) (fun _ => 0) (0 : Int32).toNatClampNeg (0 : Int32).toNatClampNeg (0 : Int32).toNatClampNeg))), (k2, .inl (cy 0, 40, .inl (va_cpy (fun _ => 0) (fun _ => 0) (0 : Int32).toNatClampNeg (0 : Int32).toNatClampNeg (0 : Int32).toNatClampNeg))), (k3, .inl (cy 0, 40, .inl (fun _ => 0))), (k4, .inl (cy 0, 40, .inl (fun _ => 0))), (k5, .inl (cy 0, 40, .inl (fun _ => 0))), (xn, .inr (3, [.int 0, .int 0, .ref n1, .ref n2, .ref n3, .ref n4, .ref n5])), (n1, .inl (cy 0, 40, .inl (fun _ => 0))), (n2, .inl (cy 0, 40, .inl (fun _ => 0))), (n3, .inl (cy 0, 40, .inl (fun _ => 0))), (n4, .inl (cy 0, 40, .inl (fun _ => 0))), (n5, .inl (cy 0, 40, .inl (fun _ => 0)))] := hD
  refine lv_aload_n hx hb dX3_become_50 rfl (lv_at hl 1 rfl) ?_
  refine va_get (ci := 3) (v := .ref n3) (C := RX3) (T := TX3) (N := 7) hx hb hts (fun _ h => List.mem_cons_of_mem _ (List.mem_append_right _ h)) hown hK.1 hP 6 rfl rfl 4 (by decide) (hts (.fieldLink RX3 25 "CutAtlas$Net" "ends" "[I") (by decide +kernel)) (fun _ h9 => h9) rfl dX3_become_51 ?_
  refine lv_iconst (v := 0) hx hb dX3_become_54 (by decide) ?_
  refine lv_aload_n hx hb dX3_become_55 rfl (lv_at hl 0 rfl) ?_
  refine va_get (ci := 3) (v := .ref k3) (C := RX3) (T := TX3) (N := 7) hx hb hts (fun _ h => List.mem_cons_of_mem _ (List.mem_append_right _ h)) hown hK.1 hP 0 rfl rfl 4 (by decide) (hts (.fieldLink RX3 25 "CutAtlas$Net" "ends" "[I") (by decide +kernel)) (fun _ h9 => h9) rfl dX3_become_56 ?_
  refine lv_iconst (v := 0) hx hb dX3_become_59 (by decide) ?_
  refine lv_aload_n hx hb dX3_become_60 rfl (lv_at hl 0 rfl) ?_
  refine va_get (ci := 3) (v := .int 0) (C := RX3) (T := TX3) (N := 7) hx hb hts (fun _ h => List.mem_cons_of_mem _ (List.mem_append_right _ h)) hown hK.1 hP 0 rfl rfl 1 (by decide) (hts (.fieldLink RX3 15 "CutAtlas$Net" "lines" "I") (by decide +kernel)) (fun _ h9 => h9) rfl dX3_become_61 ?_
  refine va_copyi hx hb (by rw [hml]; exact hl.1.symm) hown (hts (.methodLink RX3 46 arraycopyName) (by decide +kernel)) (hts (.native arraycopyName) (by decide +kernel)) (hts (.static arraycopyName) (by decide +kernel)) (hts (.initialized "java/lang/System") (by decide +kernel)) hK.1 hP hD hS 9 3 0 0 rfl rfl rfl rfl rfl (sp := 0) (dp := 0) (n := 0) (by decide) (by decide) (by decide) (by decide) (by decide) (fun i h => absurd h (Nat.not_lt_zero _)) (Nat.le_of_ble_eq_true rfl) (Nat.le_of_ble_eq_true rfl) dX3_become_64 (fun H locs hP hD hS => ?_)
  have hP : va_P D vwCl [(h0, .inr (3, [.int 0, .int 0, .ref k1, .ref k2, .ref k3, .ref k4, .ref k5])), (k1, .inl (cy 0, 40, .inl (va_cpy (fun _ => 0) (fun _ => 0) (0 : Int32).toNatClampNeg (0 : Int32).toNatClampNeg (0 : Int32).toNatClampNeg))), (k2, .inl (cy 0, 40, .inl (va_cpy (fun _ => 0) (fun _ => 0) (0 : Int32).toNatClampNeg (0 : Int32).toNatClampNeg (0 : Int32).toNatClampNeg))), (k3, .inl (cy 0, 40, .inl (va_cpy (fun _ => 0) (fun _ => 0) (0 : Int32).toNatClampNeg (0 : Int32).toNatClampNeg (0 : Int32).toNatClampNeg))), (k4, .inl (cy 0, 40, .inl (fun _ => 0))), (k5, .inl (cy 0, 40, .inl (fun _ => 0))), (xn, .inr (3, [.int 0, .int 0, .ref n1, .ref n2, .ref n3, .ref n4, .ref n5])), (n1, .inl (cy 0, 40, .inl (fun _ => 0))), (n2, .inl (cy 0, 40, .inl (fun _ => 0))), (n3, .inl (cy 0, 40, .inl (fun _ => 0))), (n4, .inl (cy 0, 40, .inl (fun _ => 0))), (n5, .inl (cy 0, 40, .inl (fun _ => 0)))] H := hP
  have hD : va_D A [(h0, .inr (3, [.int 0, .int 0, .ref k1, .ref k2, .ref k3, .ref k4, .ref k5])), (k1, .inl (cy 0, 40, .inl (va_cpy (fun _ => 0) (fun _ => 0) (0 : Int32).toNatClampNeg (0 : Int32).toNatClampNeg (0 : Int32).toNatClampNeg))), (k2, .inl (cy 0, 40, .inl (va_cpy (fun _ => 0) (fun _ => 0) (0 : Int32).toNatClampNeg (0 : Int32).toNatClampNeg (0 : Int32).toNatClampNeg))), (k3, .inl (cy 0, 40, .inl (va_cpy (fun _ => 0) (fun _ => 0) (0 : Int32).toNatClampNeg (0 : Int32).toNatClampNeg (0 : Int32).toNatClampNeg))), (k4, .inl (cy 0, 40, .inl (fun _ => 0))), (k5, .inl (cy 0, 40, .inl (fun _ => 0))), (xn, .inr (3, [.int 0, .int 0, .ref n1, .ref n2, .ref n3, .ref n4, .ref n5])), (n1, .inl (cy 0, 40, .inl (fun _ => 0))), (n2, .inl (cy 0, 40, .inl (fun _ => 0))), (n3, .inl (cy 0, 40, .inl (fun _ => 0))), (n4, .inl (cy 0, 40, .inl (fun _ => 0))), (n5, .inl (cy 0, 40, .inl (fun _ => 0)))] := hD
  refine lv_aload_n hx hb dX3_become_67 rfl (lv_at hl 1 rfl) ?_
  refine va_get (ci := 3) (v := .ref n4) (C := RX3) (T := TX3) (N := 7) hx hb hts (fun _ h => List.mem_cons_of_mem _ (List.mem_append_right _ h)) hown hK.1 hP 6 rfl rfl 5 (by decide) (hts (.fieldLink RX3 28 "CutAtlas$Net" "widths" "[I") (by decide +kernel)) (fun _ h9 => h9) rfl dX3_become_68 ?_
  refine lv_iconst (v := 0) hx hb dX3_become_71 (by decide) ?_
  refine lv_aload_n hx hb dX3_become_72 rfl (lv_at hl 0 rfl) ?_
  refine va_get (ci := 3) (v := .ref k4) (C := RX3) (T := TX3) (N := 7) hx hb hts (fun _ h => List.mem_cons_of_mem _ (List.mem_append_right _ h)) hown hK.1 hP 0 rfl rfl 5 (by decide) (hts (.fieldLink RX3 28 "CutAtlas$Net" "widths" "[I") (by decide +kernel)) (fun _ h9 => h9) rfl dX3_become_73 ?_
  refine lv_iconst (v := 0) hx hb dX3_become_76 (by decide) ?_
  refine lv_aload_n hx hb dX3_become_77 rfl (lv_at hl 0 rfl) ?_
  refine va_get (ci := 3) (v := .int 0) (C := RX3) (T := TX3) (N := 7) hx hb hts (fun _ h => List.mem_cons_of_mem _ (List.mem_append_right _ h)) hown hK.1 hP 0 rfl rfl 1 (by decide) (hts (.fieldLink RX3 15 "CutAtlas$Net" "lines" "I") (by decide +kernel)) (fun _ h9 => h9) rfl dX3_become_78 ?_
  refine va_copyi hx hb (by rw [hml]; exact hl.1.symm) hown (hts (.methodLink RX3 46 arraycopyName) (by decide +kernel)) (hts (.native arraycopyName) (by decide +kernel)) (hts (.static arraycopyName) (by decide +kernel)) (hts (.initialized "java/lang/System") (by decide +kernel)) hK.1 hP hD hS 10 4 0 0 rfl rfl rfl rfl rfl (sp := 0) (dp := 0) (n := 0) (by decide) (by decide) (by decide) (by decide) (by decide) (fun i h => absurd h (Nat.not_lt_zero _)) (Nat.le_of_ble_eq_true rfl) (Nat.le_of_ble_eq_true rfl) dX3_become_81 (fun H locs hP hD hS => ?_)
  have hP : va_P D vwCl [(h0, .inr (3, [.int 0, .int 0, .ref k1, .ref k2, .ref k3, .ref k4, .ref k5])), (k1, .inl (cy 0, 40, .inl (va_cpy (fun _ => 0) (fun _ => 0) (0 : Int32).toNatClampNeg (0 : Int32).toNatClampNeg (0 : Int32).toNatClampNeg))), (k2, .inl (cy 0, 40, .inl (va_cpy (fun _ => 0) (fun _ => 0) (0 : Int32).toNatClampNeg (0 : Int32).toNatClampNeg (0 : Int32).toNatClampNeg))), (k3, .inl (cy 0, 40, .inl (va_cpy (fun _ => 0) (fun _ => 0) (0 : Int32).toNatClampNeg (0 : Int32).toNatClampNeg (0 : Int32).toNatClampNeg))), (k4, .inl (cy 0, 40, .inl (va_cpy (fun _ => 0) (fun _ => 0) (0 : Int32).toNatClampNeg (0 : Int32).toNatClampNeg (0 : Int32).toNatClampNeg))), (k5, .inl (cy 0, 40, .inl (fun _ => 0))), (xn, .inr (3, [.int 0, .int 0, .ref n1, .ref n2, .ref n3, .ref n4, .ref n5])), (n1, .inl (cy 0, 40, .inl (fun _ => 0))), (n2, .inl (cy 0, 40, .inl (fun _ => 0))), (n3, .inl (cy 0, 40, .inl (fun _ => 0))), (n4, .inl (cy 0, 40, .inl (fun _ => 0))), (n5, .inl (cy 0, 40, .inl (fun _ => 0)))] H := hP
  have hD : va_D A [(h0, .inr (3, [.int 0, .int 0, .ref k1, .ref k2, .ref k3, .ref k4, .ref k5])), (k1, .inl (cy 0, 40, .inl (va_cpy (fun _ => 0) (fun _ => 0) (0 : Int32).toNatClampNeg (0 : Int32).toNatClampNeg (0 : Int32).toNatClampNeg))), (k2, .inl (cy 0, 40, .inl (va_cpy (fun _ => 0) (fun _ => 0) (0 : Int32).toNatClampNeg (0 : Int32).toNatClampNeg (0 : Int32).toNatClampNeg))), (k3, .inl (cy 0, 40, .inl (va_cpy (fun _ => 0) (fun _ => 0) (0 : Int32).toNatClampNeg (0 : Int32).toNatClampNeg (0 : Int32).toNatClampNeg))), (k4, .inl (cy 0, 40, .inl (va_cpy (fun _ => 0) (fun _ => 0) (0 : Int32).toNatClampNeg (0 : Int32).toNatClampNeg (0 : Int32).toNatClampNeg))), (k5, .inl (cy 0, 40, .inl (fun _ => 0))), (xn, .inr (3, [.int 0, .int 0, .ref n1, .ref n2, .ref n3, .ref n4, .ref n5])), (n1, .inl (cy 0, 40, .inl (fun _ => 0))), (n2, .inl (cy 0, 40, .inl (fun _ => 0))), (n3, .inl (cy 0, 40, .inl (fun _ => 0))), (n4, .inl (cy 0, 40, .inl (fun _ => 0))), (n5, .inl (cy 0, 40, .inl (fun _ => 0)))] := hD
  refine lv_aload_n hx hb dX3_become_84 rfl (lv_at hl 1 rfl) ?_
  refine va_get (ci := 3) (v := .ref n5) (C := RX3) (T := TX3) (N := 7) hx hb hts (fun _ h => List.mem_cons_of_mem _ (List.mem_append_right _ h)) hown hK.1 hP 6 rfl rfl 6 (by decide) (hts (.fieldLink RX3 31 "CutAtlas$Net" "prices" "[I") (by decide +kernel)) (fun _ h9 => h9) rfl dX3_become_85 ?_
  refine lv_iconst (v := 0) hx hb dX3_become_88 (by decide) ?_
  refine lv_aload_n hx hb dX3_become_89 rfl (lv_at hl 0 rfl) ?_
  refine va_get (ci := 3) (v := .ref k5) (C := RX3) (T := TX3) (N := 7) hx hb hts (fun _ h => List.mem_cons_of_mem _ (List.mem_append_right _ h)) hown hK.1 hP 0 rfl rfl 6 (by decide) (hts (.fieldLink RX3 31 "CutAtlas$Net" "prices" "[I") (by decide +kernel)) (fun _ h9 => h9) rfl dX3_become_90 ?_
  refine lv_iconst (v := 0) hx hb dX3_become_93 (by decide) ?_
  refine lv_aload_n hx hb dX3_become_94 rfl (lv_at hl 0 rfl) ?_
  refine va_get (ci := 3) (v := .int 0) (C := RX3) (T := TX3) (N := 7) hx hb hts (fun _ h => List.mem_cons_of_mem _ (List.mem_append_right _ h)) hown hK.1 hP 0 rfl rfl 1 (by decide) (hts (.fieldLink RX3 15 "CutAtlas$Net" "lines" "I") (by decide +kernel)) (fun _ h9 => h9) rfl dX3_become_95 ?_
  refine va_copyi hx hb (by rw [hml]; exact hl.1.symm) hown (hts (.methodLink RX3 46 arraycopyName) (by decide +kernel)) (hts (.native arraycopyName) (by decide +kernel)) (hts (.static arraycopyName) (by decide +kernel)) (hts (.initialized "java/lang/System") (by decide +kernel)) hK.1 hP hD hS 11 5 0 0 rfl rfl rfl rfl rfl (sp := 0) (dp := 0) (n := 0) (by decide) (by decide) (by decide) (by decide) (by decide) (fun i h => absurd h (Nat.not_lt_zero _)) (Nat.le_of_ble_eq_true rfl) (Nat.le_of_ble_eq_true rfl) dX3_become_98 (fun H locs hP hD hS => ?_)
  have hP : va_P D vwCl [(h0, .inr (3, [.int 0, .int 0, .ref k1, .ref k2, .ref k3, .ref k4, .ref k5])), (k1, .inl (cy 0, 40, .inl (va_cpy (fun _ => 0) (fun _ => 0) (0 : Int32).toNatClampNeg (0 : Int32).toNatClampNeg (0 : Int32).toNatClampNeg))), (k2, .inl (cy 0, 40, .inl (va_cpy (fun _ => 0) (fun _ => 0) (0 : Int32).toNatClampNeg (0 : Int32).toNatClampNeg (0 : Int32).toNatClampNeg))), (k3, .inl (cy 0, 40, .inl (va_cpy (fun _ => 0) (fun _ => 0) (0 : Int32).toNatClampNeg (0 : Int32).toNatClampNeg (0 : Int32).toNatClampNeg))), (k4, .inl (cy 0, 40, .inl (va_cpy (fun _ => 0) (fun _ => 0) (0 : Int32).toNatClampNeg (0 : Int32).toNatClampNeg (0 : Int32).toNatClampNeg))), (k5, .inl (cy 0, 40, .inl (va_cpy (fun _ => 0) (fun _ => 0) (0 : Int32).toNatClampNeg (0 : Int32).toNatClampNeg (0 : Int32).toNatClampNeg))), (xn, .inr (3, [.int 0, .int 0, .ref n1, .ref n2, .ref n3, .ref n4, .ref n5])), (n1, .inl (cy 0, 40, .inl (fun _ => 0))), (n2, .inl (cy 0, 40, .inl (fun _ => 0))), (n3, .inl (cy 0, 40, .inl (fun _ => 0))), (n4, .inl (cy 0, 40, .inl (fun _ => 0))), (n5, .inl (cy 0, 40, .inl (fun _ => 0)))] H := hP
  have hD : va_D A [(h0, .inr (3, [.int 0, .int 0, .ref k1, .ref k2, .ref k3, .ref k4, .ref k5])), (k1, .inl (cy 0, 40, .inl (va_cpy (fun _ => 0) (fun _ => 0) (0 : Int32).toNatClampNeg (0 : Int32).toNatClampNeg (0 : Int32).toNatClampNeg))), (k2, .inl (cy 0, 40, .inl (va_cpy (fun _ => 0) (fun _ => 0) (0 : Int32).toNatClampNeg (0 : Int32).toNatClampNeg (0 : Int32).toNatClampNeg))), (k3, .inl (cy 0, 40, .inl (va_cpy (fun _ => 0) (fun _ => 0) (0 : Int32).toNatClampNeg (0 : Int32).toNatClampNeg (0 : Int32).toNatClampNeg))), (k4, .inl (cy 0, 40, .inl (va_cpy (fun _ => 0) (fun _ => 0) (0 : Int32).toNatClampNeg (0 : Int32).toNatClampNeg (0 : Int32).toNatClampNeg))), (k5, .inl (cy 0, 40, .inl (va_cpy (fun _ => 0) (fun _ => 0) (0 : Int32).toNatClampNeg (0 : Int32).toNatClampNeg (0 : Int32).toNatClampNeg))), (xn, .inr (3, [.int 0, .int 0, .ref n1, .ref n2, .ref n3, .ref n4, .ref n5])), (n1, .inl (cy 0, 40, .inl (fun _ => 0))), (n2, .inl (cy 0, 40, .inl (fun _ => 0))), (n3, .inl (cy 0, 40, .inl (fun _ => 0))), (n4, .inl (cy 0, 40, .inl (fun _ => 0))), (n5, .inl (cy 0, 40, .inl (fun _ => 0)))] := hD
  have hP9 := hP.sub (ws' := [(xn, .inr (3, [.int 0, .int 0, .ref n1, .ref n2, .ref n3, .ref n4, .ref n5]))]) [6] rfl
  have hD9 := hD.sub (ws' := [(xn, .inr (3, [.int 0, .int 0, .ref n1, .ref n2, .ref n3, .ref n4, .ref n5]))]) [6] (by decide) rfl
  exact W.vret hx hb hr (fun t ht hW => ⟨⟨(), rfl, trivial, by rw [ht]; exact hP9, hD9⟩, hS.F ht⟩) hS.2.2 dX3_become_101

set_option maxHeartbeats 4000000 in
set_option maxRecDepth 100000 in
theorem c_X11_remember (l : Launch) (D : va_G) (cy : Nat → ClassId) (sz : Nat) (xo : Nat) (xk : Nat) (xn : Nat) (xc : Nat) (xh : Nat) (xt : Nat) (xw : Nat) (xm : Nat) (xp : Nat) (n1 : Nat) (n2 : Nat) (n3 : Nat) (n4 : Nat) (n5 : Nat) : Met l yX11_remember wsX11_remember ({ frames := 2, cells := 6, slots := 207, locals := 61 }) (va_Pc [.ref xo] (fun U => U.heap.size = sz ∧ va_P D vwCl [(xo, .inr (11, [.ref xk, .ref xn, .ref xc, .ref xh, .ref xt, .ref xw, .ref xm, .ref xp, .int 0, .int 0, .long 0, .int 0])), (xn, .inr (3, [.int 0, .int 0, .ref n1, .ref n2, .ref n3, .ref n4, .ref n5])), (n1, .inl (cy 0, 40, .inl (fun _ => 0))), (n2, .inl (cy 0, 40, .inl (fun _ => 0))), (n3, .inl (cy 0, 40, .inl (fun _ => 0))), (n4, .inl (cy 0, 40, .inl (fun _ => 0))), (n5, .inl (cy 0, 40, .inl (fun _ => 0))), (xp, .inl (cy 5, 30, .inr (.inr (.inr (.inr (fun _ => none))))))] U.heap ∧ kk_ D cy U ∧ va_D (fun _ => True) [(xo, .inr (11, [.ref xk, .ref xn, .ref xc, .ref xh, .ref xt, .ref xw, .ref xm, .ref xp, .int 0, .int 0, .long 0, .int 0])), (xn, .inr (3, [.int 0, .int 0, .ref n1, .ref n2, .ref n3, .ref n4, .ref n5])), (n1, .inl (cy 0, 40, .inl (fun _ => 0))), (n2, .inl (cy 0, 40, .inl (fun _ => 0))), (n3, .inl (cy 0, 40, .inl (fun _ => 0))), (n4, .inl (cy 0, 40, .inl (fun _ => 0))), (n5, .inl (cy 0, 40, .inl (fun _ => 0))), (xp, .inl (cy 5, 30, .inr (.inr (.inr (.inr (fun _ => none))))))])) (va_Qv (fun (_ : Unit) => True) (fun (_ : Unit) (t : State) => va_P D vwCl [(xo, .inr (11, [.ref xk, .ref xn, .ref xc, .ref xh, .ref xt, .ref xw, .ref xm, .ref xp, .int 0, .int 1, .long 0, .int 0])), (xn, .inr (3, [.int 0, .int 0, .ref n1, .ref n2, .ref n3, .ref n4, .ref n5]))] t.heap ∧ va_D (va_A [(xo, .inr (11, [.ref xk, .ref xn, .ref xc, .ref xh, .ref xt, .ref xw, .ref xm, .ref xp, .int 0, .int 0, .long 0, .int 0])), (xn, .inr (3, [.int 0, .int 0, .ref n1, .ref n2, .ref n3, .ref n4, .ref n5])), (n1, .inl (cy 0, 40, .inl (fun _ => 0))), (n2, .inl (cy 0, 40, .inl (fun _ => 0))), (n3, .inl (cy 0, 40, .inl (fun _ => 0))), (n4, .inl (cy 0, 40, .inl (fun _ => 0))), (n5, .inl (cy 0, 40, .inl (fun _ => 0))), (xp, .inl (cy 5, 30, .inr (.inr (.inr (.inr (fun _ => none))))))] sz) [(xo, .inr (11, [.ref xk, .ref xn, .ref xc, .ref xh, .ref xt, .ref xw, .ref xm, .ref xp, .int 0, .int 1, .long 0, .int 0])), (xn, .inr (3, [.int 0, .int 0, .ref n1, .ref n2, .ref n3, .ref n4, .ref n5]))]) (va_A [(xo, .inr (11, [.ref xk, .ref xn, .ref xc, .ref xh, .ref xt, .ref xw, .ref xm, .ref xp, .int 0, .int 0, .long 0, .int 0])), (xn, .inr (3, [.int 0, .int 0, .ref n1, .ref n2, .ref n3, .ref n4, .ref n5])), (n1, .inl (cy 0, 40, .inl (fun _ => 0))), (n2, .inl (cy 0, 40, .inl (fun _ => 0))), (n3, .inl (cy 0, 40, .inl (fun _ => 0))), (n4, .inl (cy 0, 40, .inl (fun _ => 0))), (n5, .inl (cy 0, 40, .inl (fun _ => 0))), (xp, .inl (cy 5, 30, .inr (.inr (.inr (.inr (fun _ => none))))))] sz)) 6 207 (va_A [(xo, .inr (11, [.ref xk, .ref xn, .ref xc, .ref xh, .ref xt, .ref xw, .ref xm, .ref xp, .int 0, .int 0, .long 0, .int 0])), (xn, .inr (3, [.int 0, .int 0, .ref n1, .ref n2, .ref n3, .ref n4, .ref n5])), (n1, .inl (cy 0, 40, .inl (fun _ => 0))), (n2, .inl (cy 0, 40, .inl (fun _ => 0))), (n3, .inl (cy 0, 40, .inl (fun _ => 0))), (n4, .inl (cy 0, 40, .inl (fun _ => 0))), (n5, .inl (cy 0, 40, .inl (fun _ => 0))), (xp, .inl (cy 5, 30, .inr (.inr (.inr (.inr (fun _ => none))))))] sz) := by
  refine Met.ofW (cc := cX11_remember) (maxL := 2) (ret := none) (by decide) rfl ?_
  intro p e s m args below meth c s₁ B hml hv
  obtain ⟨rfl, hsz, hP, hK, hD0⟩ := hv
  have hx := B.exec
  have hb := B.bytes
  have hr := B.returns
  have hts := atoms_spec (ws := wsX11_remember) B.pre
  have hown : s.vm.findClass RX11 = some m.cls := findClass_of_methodNamed B.named
  have hlocks := B.notSynchronized
  subst hsz
  have hD := hD0.self (sz := s.heap.size)
  generalize hAe : va_A [(xo, .inr (11, [.ref xk, .ref xn, .ref xc, .ref xh, .ref xt, .ref xw, .ref xm, .ref xp, .int 0, .int 0, .long 0, .int 0])), (xn, .inr (3, [.int 0, .int 0, .ref n1, .ref n2, .ref n3, .ref n4, .ref n5])), (n1, .inl (cy 0, 40, .inl (fun _ => 0))), (n2, .inl (cy 0, 40, .inl (fun _ => 0))), (n3, .inl (cy 0, 40, .inl (fun _ => 0))), (n4, .inl (cy 0, 40, .inl (fun _ => 0))), (n5, .inl (cy 0, 40, .inl (fun _ => 0))), (xp, .inl (cy 5, 30, .inr (.inr (.inr (.inr (fun _ => none))))))] s.heap.size = A at hD ⊢
  have hA : ∀ q : Nat, s.heap.size ≤ q → A q := fun q h => by rw [← hAe]; exact Or.inr h
  have hS : va_S A s.heap s.heap [] := va_S.rf
  have hl := lv_entry ([.ref xo]) (n := 2) (Nat.le_of_ble_eq_true rfl)
  rw [lg_entry_eq]
  generalize (lg_sl ([.ref xo]) ++ List.replicate (2 - (lg_sl ([.ref xo])).length) Slot.unset).toArray = ls at hl ⊢
  have hl : lv_has ls 2 [(0, .ref xo)] := hl
  refine lv_aload_n hx hb dX11_remember_0 rfl (lv_at hl 0 rfl) ?_
  refine va_get (ci := 11) (v := .int 0) (C := RX11) (T := TX11) (N := 12) hx hb hts (fun _ h => List.mem_cons_of_mem _ (List.mem_append_left _ (List.mem_append_right _ h))) hown hK.1 hP 0 rfl rfl 8 (by decide) (hts (.fieldLink RX11 80 "CutAtlas" "pastFirst" "I") (by decide +kernel)) (fun _ h9 => h9) rfl dX11_remember_1 ?_
  refine lv_aload_n hx hb dX11_remember_4 rfl (lv_at hl 0 rfl) ?_
  refine va_get (ci := 11) (v := .int 0) (C := RX11) (T := TX11) (N := 12) hx hb hts (fun _ h => List.mem_cons_of_mem _ (List.mem_append_left _ (List.mem_append_right _ h))) hown hK.1 hP 0 rfl rfl 9 (by decide) (hts (.fieldLink RX11 84 "CutAtlas" "pastHeld" "I") (by decide +kernel)) (fun _ h9 => h9) rfl dX11_remember_5 ?_
  refine lv_iadd hx hb dX11_remember_8 ?_
  refine lv_topi (fun y_ ey_ => ?_)
  have ey_ := (ey_.trans (show _ = (0 : Int32) by decide)).symm
  subst ey_
  refine lv_bipush (v := 30) hx hb dX11_remember_9 (by decide) ?_
  refine lv_irem hx hb dX11_remember_11 (by decide) ?_
  refine lv_topi (fun y_ ey_ => ?_)
  have ey_ := (ey_.trans (show _ = (0 : Int32) by decide)).symm
  subst ey_
  refine lv_istore_n (lv' := [(1, .int 0), (0, .ref xo)]) hx hb dX11_remember_12 rfl hl (by decide) rfl (fun ls hl => ?_)
  refine lv_aload_n hx hb dX11_remember_13 rfl (lv_at hl 1 rfl) ?_
  refine va_get (ci := 11) (v := .int 0) (C := RX11) (T := TX11) (N := 12) hx hb hts (fun _ h => List.mem_cons_of_mem _ (List.mem_append_left _ (List.mem_append_right _ h))) hown hK.1 hP 0 rfl rfl 9 (by decide) (hts (.fieldLink RX11 84 "CutAtlas" "pastHeld" "I") (by decide +kernel)) (fun _ h9 => h9) rfl dX11_remember_14 ?_
  refine lv_bipush (v := 30) hx hb dX11_remember_17 (by decide) ?_
  refine lv_icmp_ge (tgt := 35) hx hb dX11_remember_19 (by decide) (fun c_1 => ?_) (fun c_1 => ?_)
  · exact absurd c_1 (by decide)
  · have _ := c_1
    refine lv_aload_n hx hb dX11_remember_22 rfl (lv_at hl 1 rfl) ?_
    refine lv_dup hx hb dX11_remember_23 rfl ?_
    refine va_get (ci := 11) (v := .int 0) (C := RX11) (T := TX11) (N := 12) hx hb hts (fun _ h => List.mem_cons_of_mem _ (List.mem_append_left _ (List.mem_append_right _ h))) hown hK.1 hP 0 rfl rfl 9 (by decide) (hts (.fieldLink RX11 84 "CutAtlas" "pastHeld" "I") (by decide +kernel)) (fun _ h9 => h9) rfl dX11_remember_24 ?_
    refine lv_iconst (v := 1) hx hb dX11_remember_27 (by decide) ?_
    refine lv_iadd hx hb dX11_remember_28 ?_
    refine lv_topi (fun y_ ey_ => ?_)
    have ey_ := (ey_.trans (show _ = (1 : Int32) by decide)).symm
    subst ey_
    refine va_put (ci := 11) (v := .int 1) (ty := .int) (C := RX11) (T := TX11) (N := 12) hx hb hts (fun _ h => List.mem_cons_of_mem _ (List.mem_append_left _ (List.mem_append_right _ h))) tyX11 tyX11_ok nmX11 hown hK.1 hP hD hS 0 rfl rfl 9 (by decide) (hts (.fieldLink RX11 84 "CutAtlas" "pastHeld" "I") (by decide +kernel)) (fun _ h9 => h9) rfl (by decide +kernel) rfl rfl (Nat.le_of_ble_eq_true rfl) dX11_remember_29 (fun H locs hP hD hS => ?_)
    have hP : va_P D vwCl [(xo, .inr (11, [.ref xk, .ref xn, .ref xc, .ref xh, .ref xt, .ref xw, .ref xm, .ref xp, .int 0, .int 1, .long 0, .int 0])), (xn, .inr (3, [.int 0, .int 0, .ref n1, .ref n2, .ref n3, .ref n4, .ref n5])), (n1, .inl (cy 0, 40, .inl (fun _ => 0))), (n2, .inl (cy 0, 40, .inl (fun _ => 0))), (n3, .inl (cy 0, 40, .inl (fun _ => 0))), (n4, .inl (cy 0, 40, .inl (fun _ => 0))), (n5, .inl (cy 0, 40, .inl (fun _ => 0))), (xp, .inl (cy 5, 30, .inr (.inr (.inr (.inr (fun _ => none))))))] H := hP
    have hD : va_D A [(xo, .inr (11, [.ref xk, .ref xn, .ref xc, .ref xh, .ref xt, .ref xw, .ref xm, .ref xp, .int 0, .int 1, .long 0, .int 0])), (xn, .inr (3, [.int 0, .int 0, .ref n1, .ref n2, .ref n3, .ref n4, .ref n5])), (n1, .inl (cy 0, 40, .inl (fun _ => 0))), (n2, .inl (cy 0, 40, .inl (fun _ => 0))), (n3, .inl (cy 0, 40, .inl (fun _ => 0))), (n4, .inl (cy 0, 40, .inl (fun _ => 0))), (n5, .inl (cy 0, 40, .inl (fun _ => 0))), (xp, .inl (cy 5, 30, .inr (.inr (.inr (.inr (fun _ => none))))))] := hD
    refine lv_goto (tgt := 48) hx hb dX11_remember_32 (by decide) ?_
    refine lv_aload_n hx hb dX11_remember_48 rfl (lv_at hl 1 rfl) ?_
    refine va_get (ci := 11) (v := .ref xp) (C := RX11) (T := TX11) (N := 12) hx hb hts (fun _ h => List.mem_cons_of_mem _ (List.mem_append_left _ (List.mem_append_right _ h))) hown hK.1 hP 0 rfl rfl 7 (by decide) (hts (.fieldLink RX11 76 "CutAtlas" "past" "[LCutAtlas$Net;") (by decide +kernel)) (fun _ h9 => h9) rfl dX11_remember_49 ?_
    refine lv_iload_n hx hb dX11_remember_52 rfl (lv_at hl 0 rfl) ?_
    refine va_aldq hx hb hK.1 hP 7 5 rfl rfl (i := 0) (by unfold vp_in; decide) dX11_remember_53 ?_
    refine lv_topv (v' := .null) (by simp [va_up, va_rf, mf_, cl_0, cl_1, cl_2, cl_3, cl_4]) ?_
    refine lv_ifnonnullN hx hb dX11_remember_54 ?_
    refine lv_aload_n hx hb dX11_remember_57 rfl (lv_at hl 1 rfl) ?_
    refine va_get (ci := 11) (v := .ref xp) (C := RX11) (T := TX11) (N := 12) hx hb hts (fun _ h => List.mem_cons_of_mem _ (List.mem_append_left _ (List.mem_append_right _ h))) hown hK.1 hP 0 rfl rfl 7 (by decide) (hts (.fieldLink RX11 76 "CutAtlas" "past" "[LCutAtlas$Net;") (by decide +kernel)) (fun _ h9 => h9) rfl dX11_remember_58 ?_
    refine lv_iload_n hx hb dX11_remember_61 rfl (lv_at hl 0 rfl) ?_
    refine va_new (ci := 3) (fs := [.int 0, .int 0, .null, .null, .null, .null, .null]) (C := RX3) (T := TX3) (N := 7) hx hb hts (fun _ h => List.mem_cons_of_mem _ (List.mem_append_right _ h)) tyX3 tyX3_ok hown (hts (.classLink RX11 28 RX3) (by decide +kernel)) (hts (.instantiable RX3 7) (by decide +kernel)) (hts (.initialized RX3) (by decide +kernel)) hK.1 hP hD hS hA rfl (by decide +kernel) (Nat.le_of_ble_eq_true rfl) (Nat.le_of_ble_eq_true rfl) dX11_remember_62 (fun q_2 H hP hD hS => ?_)
    have hP : va_P D vwCl [(xo, .inr (11, [.ref xk, .ref xn, .ref xc, .ref xh, .ref xt, .ref xw, .ref xm, .ref xp, .int 0, .int 1, .long 0, .int 0])), (xn, .inr (3, [.int 0, .int 0, .ref n1, .ref n2, .ref n3, .ref n4, .ref n5])), (n1, .inl (cy 0, 40, .inl (fun _ => 0))), (n2, .inl (cy 0, 40, .inl (fun _ => 0))), (n3, .inl (cy 0, 40, .inl (fun _ => 0))), (n4, .inl (cy 0, 40, .inl (fun _ => 0))), (n5, .inl (cy 0, 40, .inl (fun _ => 0))), (xp, .inl (cy 5, 30, .inr (.inr (.inr (.inr (fun _ => none)))))), (q_2, .inr (3, [.int 0, .int 0, .null, .null, .null, .null, .null]))] H := hP
    have hD : va_D A [(xo, .inr (11, [.ref xk, .ref xn, .ref xc, .ref xh, .ref xt, .ref xw, .ref xm, .ref xp, .int 0, .int 1, .long 0, .int 0])), (xn, .inr (3, [.int 0, .int 0, .ref n1, .ref n2, .ref n3, .ref n4, .ref n5])), (n1, .inl (cy 0, 40, .inl (fun _ => 0))), (n2, .inl (cy 0, 40, .inl (fun _ => 0))), (n3, .inl (cy 0, 40, .inl (fun _ => 0))), (n4, .inl (cy 0, 40, .inl (fun _ => 0))), (n5, .inl (cy 0, 40, .inl (fun _ => 0))), (xp, .inl (cy 5, 30, .inr (.inr (.inr (.inr (fun _ => none)))))), (q_2, .inr (3, [.int 0, .int 0, .null, .null, .null, .null, .null]))] := hD
    refine lv_dup hx hb dX11_remember_65 rfl ?_
    have hPc := hP.sub (ws' := [(q_2, .inr (3, [.int 0, .int 0, .null, .null, .null, .null, .null]))]) [8] rfl
    have hDc := hD.sub (ws' := [(q_2, .inr (3, [.int 0, .int 0, .null, .null, .null, .null, .null]))]) [8] (by decide) rfl
    have hDw : va_D (fun _ => True) [(q_2, .inr (3, [.int 0, .int 0, .null, .null, .null, .null, .null]))] := hDc.weaken (fun _ _ _ _ => trivial)
    have hFc := va_free (wc := [(q_2, .inr (3, [.int 0, .int 0, .null, .null, .null, .null, .null]))]) hD hS hA [8] rfl
    refine va_callv (va_runIN (As := []) (rest := [.ref q_2, .int 0, .ref xp]) ⟨hx, hb, hml, hown, hts⟩ (c_X3_init l D cy H.size q_2) ⟨va_cnB 0 hts gX11_remember_X3_init_n30 rfl rfl rfl (kk_nX11_30 hK) (hts (.initialized RX3) (by decide +kernel)) (by decide +kernel) ⟨Nat.le_of_ble_eq_true rfl, Nat.le_of_ble_eq_true rfl⟩, rfl, (hts (.instanceMethod yX3_init) (by decide +kernel))⟩ ⟨bl_, fun U hU hW => ⟨rfl, by rw [hU], by rw [hU]; exact hPc, kk_mv hW hK, hDw⟩⟩ rfl rfl hl.1 rfl (lv_room (Nat.le_of_ble_eq_true rfl)) dX11_remember_66 ⟨Nat.le_of_ble_eq_true rfl, Nat.le_of_ble_eq_true rfl⟩) hS (fun q _ h => hFc q h) hFc (fun u t H locs ht hvm hw hB hz1 hk1 hS => ?_)
    obtain ⟨n1_4, n2_5, n3_6, n4_7, n5_8, hP1, hD1⟩ := hB
    rw [ht] at hP1
    obtain ⟨hP, hD⟩ := va_join (wr := [(xo, .inr (11, [.ref xk, .ref xn, .ref xc, .ref xh, .ref xt, .ref xw, .ref xm, .ref xp, .int 0, .int 1, .long 0, .int 0])), (xn, .inr (3, [.int 0, .int 0, .ref n1, .ref n2, .ref n3, .ref n4, .ref n5])), (n1, .inl (cy 0, 40, .inl (fun _ => 0))), (n2, .inl (cy 0, 40, .inl (fun _ => 0))), (n3, .inl (cy 0, 40, .inl (fun _ => 0))), (n4, .inl (cy 0, 40, .inl (fun _ => 0))), (n5, .inl (cy 0, 40, .inl (fun _ => 0))), (xp, .inl (cy 5, 30, .inr (.inr (.inr (.inr (fun _ => none))))))]) (w1 := [(q_2, .inr (3, [.int 0, .int 0, .ref n1_4, .ref n2_5, .ref n3_6, .ref n4_7, .ref n5_8])), (n1_4, .inl (cy 0, 40, .inl (fun _ => 0))), (n2_5, .inl (cy 0, 40, .inl (fun _ => 0))), (n3_6, .inl (cy 0, 40, .inl (fun _ => 0))), (n4_7, .inl (cy 0, 40, .inl (fun _ => 0))), (n5_8, .inl (cy 0, 40, .inl (fun _ => 0)))]) hP hD [8] [0, 1, 2, 3, 4, 5, 6, 7] rfl rfl (by decide) (by decide) hk1 hFc hP1 hD1
    have hP : va_P D vwCl [(xo, .inr (11, [.ref xk, .ref xn, .ref xc, .ref xh, .ref xt, .ref xw, .ref xm, .ref xp, .int 0, .int 1, .long 0, .int 0])), (xn, .inr (3, [.int 0, .int 0, .ref n1, .ref n2, .ref n3, .ref n4, .ref n5])), (n1, .inl (cy 0, 40, .inl (fun _ => 0))), (n2, .inl (cy 0, 40, .inl (fun _ => 0))), (n3, .inl (cy 0, 40, .inl (fun _ => 0))), (n4, .inl (cy 0, 40, .inl (fun _ => 0))), (n5, .inl (cy 0, 40, .inl (fun _ => 0))), (xp, .inl (cy 5, 30, .inr (.inr (.inr (.inr (fun _ => none)))))), (q_2, .inr (3, [.int 0, .int 0, .ref n1_4, .ref n2_5, .ref n3_6, .ref n4_7, .ref n5_8])), (n1_4, .inl (cy 0, 40, .inl (fun _ => 0))), (n2_5, .inl (cy 0, 40, .inl (fun _ => 0))), (n3_6, .inl (cy 0, 40, .inl (fun _ => 0))), (n4_7, .inl (cy 0, 40, .inl (fun _ => 0))), (n5_8, .inl (cy 0, 40, .inl (fun _ => 0)))] H := hP
    have hD : va_D A [(xo, .inr (11, [.ref xk, .ref xn, .ref xc, .ref xh, .ref xt, .ref xw, .ref xm, .ref xp, .int 0, .int 1, .long 0, .int 0])), (xn, .inr (3, [.int 0, .int 0, .ref n1, .ref n2, .ref n3, .ref n4, .ref n5])), (n1, .inl (cy 0, 40, .inl (fun _ => 0))), (n2, .inl (cy 0, 40, .inl (fun _ => 0))), (n3, .inl (cy 0, 40, .inl (fun _ => 0))), (n4, .inl (cy 0, 40, .inl (fun _ => 0))), (n5, .inl (cy 0, 40, .inl (fun _ => 0))), (xp, .inl (cy 5, 30, .inr (.inr (.inr (.inr (fun _ => none)))))), (q_2, .inr (3, [.int 0, .int 0, .ref n1_4, .ref n2_5, .ref n3_6, .ref n4_7, .ref n5_8])), (n1_4, .inl (cy 0, 40, .inl (fun _ => 0))), (n2_5, .inl (cy 0, 40, .inl (fun _ => 0))), (n3_6, .inl (cy 0, 40, .inl (fun _ => 0))), (n4_7, .inl (cy 0, 40, .inl (fun _ => 0))), (n5_8, .inl (cy 0, 40, .inl (fun _ => 0)))] := hD
    refine va_astq hx hb hK.1 hP hD hS 7 5 8 3 rfl rfl rfl rfl (i := 0) (by unfold vp_in; decide) dX11_remember_69 (fun H locs hP hD hS => ?_)
    have hP : va_P D vwCl [(xo, .inr (11, [.ref xk, .ref xn, .ref xc, .ref xh, .ref xt, .ref xw, .ref xm, .ref xp, .int 0, .int 1, .long 0, .int 0])), (xn, .inr (3, [.int 0, .int 0, .ref n1, .ref n2, .ref n3, .ref n4, .ref n5])), (n1, .inl (cy 0, 40, .inl (fun _ => 0))), (n2, .inl (cy 0, 40, .inl (fun _ => 0))), (n3, .inl (cy 0, 40, .inl (fun _ => 0))), (n4, .inl (cy 0, 40, .inl (fun _ => 0))), (n5, .inl (cy 0, 40, .inl (fun _ => 0))), (xp, .inl (cy 5, 30, .inr (.inr (.inr (.inr (va_up (fun _ => none) (0 : Int32).toNatClampNeg (some q_2))))))), (q_2, .inr (3, [.int 0, .int 0, .ref n1_4, .ref n2_5, .ref n3_6, .ref n4_7, .ref n5_8])), (n1_4, .inl (cy 0, 40, .inl (fun _ => 0))), (n2_5, .inl (cy 0, 40, .inl (fun _ => 0))), (n3_6, .inl (cy 0, 40, .inl (fun _ => 0))), (n4_7, .inl (cy 0, 40, .inl (fun _ => 0))), (n5_8, .inl (cy 0, 40, .inl (fun _ => 0)))] H := hP
    have hD : va_D A [(xo, .inr (11, [.ref xk, .ref xn, .ref xc, .ref xh, .ref xt, .ref xw, .ref xm, .ref xp, .int 0, .int 1, .long 0, .int 0])), (xn, .inr (3, [.int 0, .int 0, .ref n1, .ref n2, .ref n3, .ref n4, .ref n5])), (n1, .inl (cy 0, 40, .inl (fun _ => 0))), (n2, .inl (cy 0, 40, .inl (fun _ => 0))), (n3, .inl (cy 0, 40, .inl (fun _ => 0))), (n4, .inl (cy 0, 40, .inl (fun _ => 0))), (n5, .inl (cy 0, 40, .inl (fun _ => 0))), (xp, .inl (cy 5, 30, .inr (.inr (.inr (.inr (va_up (fun _ => none) (0 : Int32).toNatClampNeg (some q_2))))))), (q_2, .inr (3, [.int 0, .int 0, .ref n1_4, .ref n2_5, .ref n3_6, .ref n4_7, .ref n5_8])), (n1_4, .inl (cy 0, 40, .inl (fun _ => 0))), (n2_5, .inl (cy 0, 40, .inl (fun _ => 0))), (n3_6, .inl (cy 0, 40, .inl (fun _ => 0))), (n4_7, .inl (cy 0, 40, .inl (fun _ => 0))), (n5_8, .inl (cy 0, 40, .inl (fun _ => 0)))] := hD
    refine lv_aload_n hx hb dX11_remember_70 rfl (lv_at hl 1 rfl) ?_
    refine va_get (ci := 11) (v := .ref xp) (C := RX11) (T := TX11) (N := 12) hx hb hts (fun _ h => List.mem_cons_of_mem _ (List.mem_append_left _ (List.mem_append_right _ h))) hown hK.1 hP 0 rfl rfl 7 (by decide) (hts (.fieldLink RX11 76 "CutAtlas" "past" "[LCutAtlas$Net;") (by decide +kernel)) (fun _ h9 => h9) rfl dX11_remember_71 ?_
    refine lv_iload_n hx hb dX11_remember_74 rfl (lv_at hl 0 rfl) ?_
    refine va_aldq hx hb hK.1 hP 7 5 rfl rfl (i := 0) (by unfold vp_in; decide) dX11_remember_75 ?_
    refine lv_topv (v' := .ref q_2) (by simp [va_up, va_rf, mf_, cl_0, cl_1, cl_2, cl_3, cl_4]) ?_
    refine lv_aload_n hx hb dX11_remember_76 rfl (lv_at hl 1 rfl) ?_
    refine va_get (ci := 11) (v := .ref xn) (C := RX11) (T := TX11) (N := 12) hx hb hts (fun _ h => List.mem_cons_of_mem _ (List.mem_append_left _ (List.mem_append_right _ h))) hown hK.1 hP 0 rfl rfl 1 (by decide) (hts (.fieldLink RX11 31 "CutAtlas" "net" "LCutAtlas$Net;") (by decide +kernel)) (fun _ h9 => h9) rfl dX11_remember_77 ?_
    have hPc := hP.sub (ws' := [(q_2, .inr (3, [.int 0, .int 0, .ref n1_4, .ref n2_5, .ref n3_6, .ref n4_7, .ref n5_8])), (n1_4, .inl (cy 0, 40, .inl (fun _ => 0))), (n2_5, .inl (cy 0, 40, .inl (fun _ => 0))), (n3_6, .inl (cy 0, 40, .inl (fun _ => 0))), (n4_7, .inl (cy 0, 40, .inl (fun _ => 0))), (n5_8, .inl (cy 0, 40, .inl (fun _ => 0))), (xn, .inr (3, [.int 0, .int 0, .ref n1, .ref n2, .ref n3, .ref n4, .ref n5])), (n1, .inl (cy 0, 40, .inl (fun _ => 0))), (n2, .inl (cy 0, 40, .inl (fun _ => 0))), (n3, .inl (cy 0, 40, .inl (fun _ => 0))), (n4, .inl (cy 0, 40, .inl (fun _ => 0))), (n5, .inl (cy 0, 40, .inl (fun _ => 0)))]) [8, 9, 10, 11, 12, 13, 1, 2, 3, 4, 5, 6] rfl
    have hDc := hD.sub (ws' := [(q_2, .inr (3, [.int 0, .int 0, .ref n1_4, .ref n2_5, .ref n3_6, .ref n4_7, .ref n5_8])), (n1_4, .inl (cy 0, 40, .inl (fun _ => 0))), (n2_5, .inl (cy 0, 40, .inl (fun _ => 0))), (n3_6, .inl (cy 0, 40, .inl (fun _ => 0))), (n4_7, .inl (cy 0, 40, .inl (fun _ => 0))), (n5_8, .inl (cy 0, 40, .inl (fun _ => 0))), (xn, .inr (3, [.int 0, .int 0, .ref n1, .ref n2, .ref n3, .ref n4, .ref n5])), (n1, .inl (cy 0, 40, .inl (fun _ => 0))), (n2, .inl (cy 0, 40, .inl (fun _ => 0))), (n3, .inl (cy 0, 40, .inl (fun _ => 0))), (n4, .inl (cy 0, 40, .inl (fun _ => 0))), (n5, .inl (cy 0, 40, .inl (fun _ => 0)))]) [8, 9, 10, 11, 12, 13, 1, 2, 3, 4, 5, 6] (by decide) rfl
    have hDw : va_D (fun _ => True) [(q_2, .inr (3, [.int 0, .int 0, .ref n1_4, .ref n2_5, .ref n3_6, .ref n4_7, .ref n5_8])), (n1_4, .inl (cy 0, 40, .inl (fun _ => 0))), (n2_5, .inl (cy 0, 40, .inl (fun _ => 0))), (n3_6, .inl (cy 0, 40, .inl (fun _ => 0))), (n4_7, .inl (cy 0, 40, .inl (fun _ => 0))), (n5_8, .inl (cy 0, 40, .inl (fun _ => 0))), (xn, .inr (3, [.int 0, .int 0, .ref n1, .ref n2, .ref n3, .ref n4, .ref n5])), (n1, .inl (cy 0, 40, .inl (fun _ => 0))), (n2, .inl (cy 0, 40, .inl (fun _ => 0))), (n3, .inl (cy 0, 40, .inl (fun _ => 0))), (n4, .inl (cy 0, 40, .inl (fun _ => 0))), (n5, .inl (cy 0, 40, .inl (fun _ => 0)))] := hDc.weaken (fun _ _ _ _ => trivial)
    have hFc := va_free (wc := [(q_2, .inr (3, [.int 0, .int 0, .ref n1_4, .ref n2_5, .ref n3_6, .ref n4_7, .ref n5_8])), (n1_4, .inl (cy 0, 40, .inl (fun _ => 0))), (n2_5, .inl (cy 0, 40, .inl (fun _ => 0))), (n3_6, .inl (cy 0, 40, .inl (fun _ => 0))), (n4_7, .inl (cy 0, 40, .inl (fun _ => 0))), (n5_8, .inl (cy 0, 40, .inl (fun _ => 0))), (xn, .inr (3, [.int 0, .int 0, .ref n1, .ref n2, .ref n3, .ref n4, .ref n5])), (n1, .inl (cy 0, 40, .inl (fun _ => 0))), (n2, .inl (cy 0, 40, .inl (fun _ => 0))), (n3, .inl (cy 0, 40, .inl (fun _ => 0))), (n4, .inl (cy 0, 40, .inl (fun _ => 0))), (n5, .inl (cy 0, 40, .inl (fun _ => 0)))]) hD hS hA [8, 9, 10, 11, 12, 13, 1, 2, 3, 4, 5, 6] rfl
    refine va_callv (va_runV (As := [.ref xn]) (rest := []) ⟨hx, hb, hml, hown, hts⟩ (c_X3_become l D cy H.size q_2 n1_4 n2_5 n3_6 n4_7 n5_8 xn n1 n2 n3 n4 n5) (cwV 1 hts gX11_remember_X3_become rfl rfl rfl (by decide +kernel) ⟨Nat.le_of_ble_eq_true rfl, Nat.le_of_ble_eq_true rfl⟩) ⟨bl_, va_recv hK.1 hPc (ci := 3) (q0 := 0) rfl rfl, fun U hU hW => ⟨rfl, by rw [hU], by rw [hU]; exact hPc, kk_mv hW hK, hDw⟩⟩ rfl rfl hl.1 rfl (lv_room (Nat.le_of_ble_eq_true rfl)) dX11_remember_80 ⟨Nat.le_of_ble_eq_true rfl, Nat.le_of_ble_eq_true rfl⟩) hS (fun q _ h => hFc q h) hFc (fun u t H locs ht hvm hw hB hz1 hk1 hS => ?_)
    obtain ⟨hP1, hD1⟩ := hB
    rw [ht] at hP1
    obtain ⟨hP, hD⟩ := va_join (wr := [(xo, .inr (11, [.ref xk, .ref xn, .ref xc, .ref xh, .ref xt, .ref xw, .ref xm, .ref xp, .int 0, .int 1, .long 0, .int 0])), (xp, .inl (cy 5, 30, .inr (.inr (.inr (.inr (va_up (fun _ => none) (0 : Int32).toNatClampNeg (some q_2)))))))]) (w1 := [(xn, .inr (3, [.int 0, .int 0, .ref n1, .ref n2, .ref n3, .ref n4, .ref n5]))]) hP hD [8, 9, 10, 11, 12, 13, 1, 2, 3, 4, 5, 6] [0, 7] rfl rfl (by decide) (by decide) hk1 hFc hP1 hD1
    have hP : va_P D vwCl [(xo, .inr (11, [.ref xk, .ref xn, .ref xc, .ref xh, .ref xt, .ref xw, .ref xm, .ref xp, .int 0, .int 1, .long 0, .int 0])), (xp, .inl (cy 5, 30, .inr (.inr (.inr (.inr (va_up (fun _ => none) (0 : Int32).toNatClampNeg (some q_2))))))), (xn, .inr (3, [.int 0, .int 0, .ref n1, .ref n2, .ref n3, .ref n4, .ref n5]))] H := hP
    have hD : va_D A [(xo, .inr (11, [.ref xk, .ref xn, .ref xc, .ref xh, .ref xt, .ref xw, .ref xm, .ref xp, .int 0, .int 1, .long 0, .int 0])), (xp, .inl (cy 5, 30, .inr (.inr (.inr (.inr (va_up (fun _ => none) (0 : Int32).toNatClampNeg (some q_2))))))), (xn, .inr (3, [.int 0, .int 0, .ref n1, .ref n2, .ref n3, .ref n4, .ref n5]))] := hD
    have hP9 := hP.sub (ws' := [(xo, .inr (11, [.ref xk, .ref xn, .ref xc, .ref xh, .ref xt, .ref xw, .ref xm, .ref xp, .int 0, .int 1, .long 0, .int 0])), (xn, .inr (3, [.int 0, .int 0, .ref n1, .ref n2, .ref n3, .ref n4, .ref n5]))]) [0, 2] rfl
    have hD9 := hD.sub (ws' := [(xo, .inr (11, [.ref xk, .ref xn, .ref xc, .ref xh, .ref xt, .ref xw, .ref xm, .ref xp, .int 0, .int 1, .long 0, .int 0])), (xn, .inr (3, [.int 0, .int 0, .ref n1, .ref n2, .ref n3, .ref n4, .ref n5]))]) [0, 2] (by decide) rfl
    exact W.vret hx hb hr (fun t ht hW => ⟨⟨(), rfl, trivial, by rw [ht]; exact hP9, hD9⟩, hS.F ht⟩) hS.2.2 dX11_remember_83

set_option maxHeartbeats 4000000 in
set_option maxRecDepth 100000 in
theorem c_X11_place (l : Launch) (D : va_G) (cy : Nat → ClassId) (sz : Nat) (xo : Nat) (xk : Nat) (xn : Nat) (xc : Nat) (xh : Nat) (xt : Nat) (xw : Nat) (xm : Nat) (xp : Nat) (n1 : Nat) (n2 : Nat) (n3 : Nat) (n4 : Nat) (n5 : Nat) : Met l yX11_place wsX11_place ({ frames := 3, cells := 6, slots := 207, locals := 82 }) (va_Pc [.ref xo] (fun U => U.heap.size = sz ∧ va_P D vwCl [(xo, .inr (11, [.ref xk, .ref xn, .ref xc, .ref xh, .ref xt, .ref xw, .ref xm, .ref xp, .int 0, .int 0, .long 0, .int 0])), (xn, .inr (3, [.int 0, .int 0, .ref n1, .ref n2, .ref n3, .ref n4, .ref n5])), (n1, .inl (cy 0, 40, .inl (fun _ => 0))), (n2, .inl (cy 0, 40, .inl (fun _ => 0))), (n3, .inl (cy 0, 40, .inl (fun _ => 0))), (n4, .inl (cy 0, 40, .inl (fun _ => 0))), (n5, .inl (cy 0, 40, .inl (fun _ => 0))), (xp, .inl (cy 5, 30, .inr (.inr (.inr (.inr (fun _ => none))))))] U.heap ∧ kk_ D cy U ∧ va_D (fun _ => True) [(xo, .inr (11, [.ref xk, .ref xn, .ref xc, .ref xh, .ref xt, .ref xw, .ref xm, .ref xp, .int 0, .int 0, .long 0, .int 0])), (xn, .inr (3, [.int 0, .int 0, .ref n1, .ref n2, .ref n3, .ref n4, .ref n5])), (n1, .inl (cy 0, 40, .inl (fun _ => 0))), (n2, .inl (cy 0, 40, .inl (fun _ => 0))), (n3, .inl (cy 0, 40, .inl (fun _ => 0))), (n4, .inl (cy 0, 40, .inl (fun _ => 0))), (n5, .inl (cy 0, 40, .inl (fun _ => 0))), (xp, .inl (cy 5, 30, .inr (.inr (.inr (.inr (fun _ => none))))))])) (va_Qi (fun (r : Int32) (_ : Unit) => r = 0) (fun (_ : Unit) (_ : State) => True) (va_A [(xo, .inr (11, [.ref xk, .ref xn, .ref xc, .ref xh, .ref xt, .ref xw, .ref xm, .ref xp, .int 0, .int 0, .long 0, .int 0])), (xn, .inr (3, [.int 0, .int 0, .ref n1, .ref n2, .ref n3, .ref n4, .ref n5])), (n1, .inl (cy 0, 40, .inl (fun _ => 0))), (n2, .inl (cy 0, 40, .inl (fun _ => 0))), (n3, .inl (cy 0, 40, .inl (fun _ => 0))), (n4, .inl (cy 0, 40, .inl (fun _ => 0))), (n5, .inl (cy 0, 40, .inl (fun _ => 0))), (xp, .inl (cy 5, 30, .inr (.inr (.inr (.inr (fun _ => none))))))] sz)) 6 207 (va_A [(xo, .inr (11, [.ref xk, .ref xn, .ref xc, .ref xh, .ref xt, .ref xw, .ref xm, .ref xp, .int 0, .int 0, .long 0, .int 0])), (xn, .inr (3, [.int 0, .int 0, .ref n1, .ref n2, .ref n3, .ref n4, .ref n5])), (n1, .inl (cy 0, 40, .inl (fun _ => 0))), (n2, .inl (cy 0, 40, .inl (fun _ => 0))), (n3, .inl (cy 0, 40, .inl (fun _ => 0))), (n4, .inl (cy 0, 40, .inl (fun _ => 0))), (n5, .inl (cy 0, 40, .inl (fun _ => 0))), (xp, .inl (cy 5, 30, .inr (.inr (.inr (.inr (fun _ => none))))))] sz) := by
  refine Met.ofW (cc := cX11_place) (maxL := 1) (ret := (some .int)) (by decide) rfl ?_
  intro p e s m args below meth c s₁ B hml hv
  obtain ⟨rfl, hsz, hP, hK, hD0⟩ := hv
  have hx := B.exec
  have hb := B.bytes
  have hr := B.returns
  have hts := atoms_spec (ws := wsX11_place) B.pre
  have hown : s.vm.findClass RX11 = some m.cls := findClass_of_methodNamed B.named
  have hlocks := B.notSynchronized
  subst hsz
  have hD := hD0.self (sz := s.heap.size)
  generalize hAe : va_A [(xo, .inr (11, [.ref xk, .ref xn, .ref xc, .ref xh, .ref xt, .ref xw, .ref xm, .ref xp, .int 0, .int 0, .long 0, .int 0])), (xn, .inr (3, [.int 0, .int 0, .ref n1, .ref n2, .ref n3, .ref n4, .ref n5])), (n1, .inl (cy 0, 40, .inl (fun _ => 0))), (n2, .inl (cy 0, 40, .inl (fun _ => 0))), (n3, .inl (cy 0, 40, .inl (fun _ => 0))), (n4, .inl (cy 0, 40, .inl (fun _ => 0))), (n5, .inl (cy 0, 40, .inl (fun _ => 0))), (xp, .inl (cy 5, 30, .inr (.inr (.inr (.inr (fun _ => none))))))] s.heap.size = A at hD ⊢
  have hA : ∀ q : Nat, s.heap.size ≤ q → A q := fun q h => by rw [← hAe]; exact Or.inr h
  have hS : va_S A s.heap s.heap [] := va_S.rf
  have hl := lv_entry ([.ref xo]) (n := 1) (Nat.le_of_ble_eq_true rfl)
  rw [lg_entry_eq]
  generalize (lg_sl ([.ref xo]) ++ List.replicate (1 - (lg_sl ([.ref xo])).length) Slot.unset).toArray = ls at hl ⊢
  have hl : lv_has ls 1 [(0, .ref xo)] := hl
  refine lv_aload_n hx hb dX11_place_0 rfl (lv_at hl 0 rfl) ?_
  refine va_get (ci := 11) (v := .ref xn) (C := RX11) (T := TX11) (N := 12) hx hb hts (fun _ h => List.mem_cons_of_mem _ (List.mem_append_left _ (List.mem_append_right _ h))) hown hK.1 hP 0 rfl rfl 1 (by decide) (hts (.fieldLink RX11 31 "CutAtlas" "net" "LCutAtlas$Net;") (by decide +kernel)) (fun _ h9 => h9) rfl dX11_place_1 ?_
  refine va_get (ci := 3) (v := .int 0) (C := RX3) (T := TX3) (N := 7) hx hb hts (fun _ h => List.mem_cons_of_mem _ (List.mem_append_right _ h)) hown hK.1 hP 1 rfl rfl 0 (by decide) (hts (.fieldLink RX11 94 "CutAtlas$Net" "places" "I") (by decide +kernel)) (fun _ h9 => h9) rfl dX11_place_4 ?_
  refine lv_bipush (v := 12) hx hb dX11_place_7 (by decide) ?_
  refine lv_icmp_lt (tgt := 15) hx hb dX11_place_9 (by decide) (fun c_1 => ?_) (fun c_1 => ?_)
  · have _ := c_1
    refine lv_aload_n hx hb dX11_place_15 rfl (lv_at hl 0 rfl) ?_
    have hPc := hP.sub (ws' := [(xo, .inr (11, [.ref xk, .ref xn, .ref xc, .ref xh, .ref xt, .ref xw, .ref xm, .ref xp, .int 0, .int 0, .long 0, .int 0])), (xn, .inr (3, [.int 0, .int 0, .ref n1, .ref n2, .ref n3, .ref n4, .ref n5])), (n1, .inl (cy 0, 40, .inl (fun _ => 0))), (n2, .inl (cy 0, 40, .inl (fun _ => 0))), (n3, .inl (cy 0, 40, .inl (fun _ => 0))), (n4, .inl (cy 0, 40, .inl (fun _ => 0))), (n5, .inl (cy 0, 40, .inl (fun _ => 0))), (xp, .inl (cy 5, 30, .inr (.inr (.inr (.inr (fun _ => none))))))]) [0, 1, 2, 3, 4, 5, 6, 7] rfl
    have hDc := hD.sub (ws' := [(xo, .inr (11, [.ref xk, .ref xn, .ref xc, .ref xh, .ref xt, .ref xw, .ref xm, .ref xp, .int 0, .int 0, .long 0, .int 0])), (xn, .inr (3, [.int 0, .int 0, .ref n1, .ref n2, .ref n3, .ref n4, .ref n5])), (n1, .inl (cy 0, 40, .inl (fun _ => 0))), (n2, .inl (cy 0, 40, .inl (fun _ => 0))), (n3, .inl (cy 0, 40, .inl (fun _ => 0))), (n4, .inl (cy 0, 40, .inl (fun _ => 0))), (n5, .inl (cy 0, 40, .inl (fun _ => 0))), (xp, .inl (cy 5, 30, .inr (.inr (.inr (.inr (fun _ => none))))))]) [0, 1, 2, 3, 4, 5, 6, 7] (by decide) rfl
    have hDw : va_D (fun _ => True) [(xo, .inr (11, [.ref xk, .ref xn, .ref xc, .ref xh, .ref xt, .ref xw, .ref xm, .ref xp, .int 0, .int 0, .long 0, .int 0])), (xn, .inr (3, [.int 0, .int 0, .ref n1, .ref n2, .ref n3, .ref n4, .ref n5])), (n1, .inl (cy 0, 40, .inl (fun _ => 0))), (n2, .inl (cy 0, 40, .inl (fun _ => 0))), (n3, .inl (cy 0, 40, .inl (fun _ => 0))), (n4, .inl (cy 0, 40, .inl (fun _ => 0))), (n5, .inl (cy 0, 40, .inl (fun _ => 0))), (xp, .inl (cy 5, 30, .inr (.inr (.inr (.inr (fun _ => none))))))] := hDc.weaken (fun _ _ _ _ => trivial)
    have hFc := va_free (wc := [(xo, .inr (11, [.ref xk, .ref xn, .ref xc, .ref xh, .ref xt, .ref xw, .ref xm, .ref xp, .int 0, .int 0, .long 0, .int 0])), (xn, .inr (3, [.int 0, .int 0, .ref n1, .ref n2, .ref n3, .ref n4, .ref n5])), (n1, .inl (cy 0, 40, .inl (fun _ => 0))), (n2, .inl (cy 0, 40, .inl (fun _ => 0))), (n3, .inl (cy 0, 40, .inl (fun _ => 0))), (n4, .inl (cy 0, 40, .inl (fun _ => 0))), (n5, .inl (cy 0, 40, .inl (fun _ => 0))), (xp, .inl (cy 5, 30, .inr (.inr (.inr (.inr (fun _ => none))))))]) hD hS hA [0, 1, 2, 3, 4, 5, 6, 7] rfl
    refine va_callv (va_runV (As := []) (rest := []) ⟨hx, hb, hml, hown, hts⟩ (c_X11_remember l D cy s.heap.size xo xk xn xc xh xt xw xm xp n1 n2 n3 n4 n5) (cwV 0 hts gX11_place_X11_remember rfl rfl rfl (by decide +kernel) ⟨Nat.le_of_ble_eq_true rfl, Nat.le_of_ble_eq_true rfl⟩) ⟨bl_, va_recv hK.1 hPc (ci := 11) (q0 := 0) rfl rfl, fun U hU hW => ⟨rfl, by rw [hU], by rw [hU]; exact hPc, kk_mv hW hK, hDw⟩⟩ rfl rfl hl.1 rfl (lv_room (Nat.le_of_ble_eq_true rfl)) dX11_place_16 ⟨Nat.le_of_ble_eq_true rfl, Nat.le_of_ble_eq_true rfl⟩) hS (fun q _ h => hFc q h) hFc (fun u t H locs ht hvm hw hB hz1 hk1 hS => ?_)
    obtain ⟨hP1, hD1⟩ := hB
    rw [ht] at hP1
    obtain ⟨hP, hD⟩ := va_join (wr := []) (w1 := [(xo, .inr (11, [.ref xk, .ref xn, .ref xc, .ref xh, .ref xt, .ref xw, .ref xm, .ref xp, .int 0, .int 1, .long 0, .int 0])), (xn, .inr (3, [.int 0, .int 0, .ref n1, .ref n2, .ref n3, .ref n4, .ref n5]))]) hP hD [0, 1, 2, 3, 4, 5, 6, 7] [] rfl rfl (by decide) (by decide) hk1 hFc hP1 hD1
    have hP : va_P D vwCl [(xo, .inr (11, [.ref xk, .ref xn, .ref xc, .ref xh, .ref xt, .ref xw, .ref xm, .ref xp, .int 0, .int 1, .long 0, .int 0])), (xn, .inr (3, [.int 0, .int 0, .ref n1, .ref n2, .ref n3, .ref n4, .ref n5]))] H := hP
    have hD : va_D A [(xo, .inr (11, [.ref xk, .ref xn, .ref xc, .ref xh, .ref xt, .ref xw, .ref xm, .ref xp, .int 0, .int 1, .long 0, .int 0])), (xn, .inr (3, [.int 0, .int 0, .ref n1, .ref n2, .ref n3, .ref n4, .ref n5]))] := hD
    refine lv_aload_n hx hb dX11_place_19 rfl (lv_at hl 0 rfl) ?_
    refine va_get (ci := 11) (v := .ref xn) (C := RX11) (T := TX11) (N := 12) hx hb hts (fun _ h => List.mem_cons_of_mem _ (List.mem_append_left _ (List.mem_append_right _ h))) hown hK.1 hP 0 rfl rfl 1 (by decide) (hts (.fieldLink RX11 31 "CutAtlas" "net" "LCutAtlas$Net;") (by decide +kernel)) (fun _ h9 => h9) rfl dX11_place_20 ?_
    refine lv_dup hx hb dX11_place_23 rfl ?_
    refine va_get (ci := 3) (v := .int 0) (C := RX3) (T := TX3) (N := 7) hx hb hts (fun _ h => List.mem_cons_of_mem _ (List.mem_append_right _ h)) hown hK.1 hP 1 rfl rfl 0 (by decide) (hts (.fieldLink RX11 94 "CutAtlas$Net" "places" "I") (by decide +kernel)) (fun _ h9 => h9) rfl dX11_place_24 ?_
    refine lv_iconst (v := 1) hx hb dX11_place_27 (by decide) ?_
    refine lv_iadd hx hb dX11_place_28 ?_
    refine lv_topi (fun y_ ey_ => ?_)
    have ey_ := (ey_.trans (show _ = (1 : Int32) by decide)).symm
    subst ey_
    refine va_put (ci := 3) (v := .int 1) (ty := .int) (C := RX3) (T := TX3) (N := 7) hx hb hts (fun _ h => List.mem_cons_of_mem _ (List.mem_append_right _ h)) tyX3 tyX3_ok nmX3 hown hK.1 hP hD hS 1 rfl rfl 0 (by decide) (hts (.fieldLink RX11 94 "CutAtlas$Net" "places" "I") (by decide +kernel)) (fun _ h9 => h9) rfl (by decide +kernel) rfl rfl (Nat.le_of_ble_eq_true rfl) dX11_place_29 (fun H locs hP hD hS => ?_)
    have hP : va_P D vwCl [(xo, .inr (11, [.ref xk, .ref xn, .ref xc, .ref xh, .ref xt, .ref xw, .ref xm, .ref xp, .int 0, .int 1, .long 0, .int 0])), (xn, .inr (3, [.int 1, .int 0, .ref n1, .ref n2, .ref n3, .ref n4, .ref n5]))] H := hP
    have hD : va_D A [(xo, .inr (11, [.ref xk, .ref xn, .ref xc, .ref xh, .ref xt, .ref xw, .ref xm, .ref xp, .int 0, .int 1, .long 0, .int 0])), (xn, .inr (3, [.int 1, .int 0, .ref n1, .ref n2, .ref n3, .ref n4, .ref n5]))] := hD
    refine lv_aload_n hx hb dX11_place_32 rfl (lv_at hl 0 rfl) ?_
    refine va_get (ci := 11) (v := .ref xn) (C := RX11) (T := TX11) (N := 12) hx hb hts (fun _ h => List.mem_cons_of_mem _ (List.mem_append_left _ (List.mem_append_right _ h))) hown hK.1 hP 0 rfl rfl 1 (by decide) (hts (.fieldLink RX11 31 "CutAtlas" "net" "LCutAtlas$Net;") (by decide +kernel)) (fun _ h9 => h9) rfl dX11_place_33 ?_
    refine va_get (ci := 3) (v := .int 1) (C := RX3) (T := TX3) (N := 7) hx hb hts (fun _ h => List.mem_cons_of_mem _ (List.mem_append_right _ h)) hown hK.1 hP 1 rfl rfl 0 (by decide) (hts (.fieldLink RX11 94 "CutAtlas$Net" "places" "I") (by decide +kernel)) (fun _ h9 => h9) rfl dX11_place_36 ?_
    refine lv_iconst (v := 1) hx hb dX11_place_39 (by decide) ?_
    refine lv_isub hx hb dX11_place_40 ?_
    refine lv_topi (fun y_ ey_ => ?_)
    have ey_ := (ey_.trans (show _ = (0 : Int32) by decide)).symm
    subst ey_
    exact W.iret (v := 0) hx hb hr (fun t ht hW => ⟨⟨0, (), rfl, rfl, trivial⟩, hS.F ht⟩) hS.2.2 dX11_place_41
  · exact absurd c_1 (by decide)
end
