section
-- ===== PART A: goes FIRST, ahead of the names: the tables' words, and 'selects' of the private methods out of them =====
/-- a private method of a class that the tables say can be made, by its rows of tables_1 -/
noncomputable def lw_okq (q : MethodName × Nat) : Prop := (q.1.cls ≠ "java/lang/invoke/MethodHandle" ∧ q.1.cls ≠ "java/lang/invoke/VarHandle") ∧ Cond.instantiable q.1.cls q.2 ∈ tables_1 ∧ Cond.privateMethod q.1 ∈ tables_1 ∧ Cond.instanceMethod q.1 ∈ tables_1
theorem lw_p0 : lw_okq (⟨"CutAtlas", "remember", "()V"⟩, 12) := ⟨⟨by decide +kernel, by decide +kernel⟩, (by first | exact List.mem_append_left _ (List.mem_of_getElem? (i := 19) rfl) | exact List.mem_of_getElem? (i := 19) (by decide +kernel)), (by first | exact List.mem_append_right _ (List.mem_append_left _ (List.mem_of_getElem? (i := 58) rfl)) | exact List.mem_of_getElem? (i := 298) (by decide +kernel)), (by first | exact List.mem_append_right _ (List.mem_append_left _ (List.mem_of_getElem? (i := 59) rfl)) | exact List.mem_of_getElem? (i := 299) (by decide +kernel))⟩
theorem lw_p1 : lw_okq (⟨"CutAtlas", "lineRefusal", "(JJJJJ)I"⟩, 12) := ⟨⟨by decide +kernel, by decide +kernel⟩, (by first | exact List.mem_append_left _ (List.mem_of_getElem? (i := 19) rfl) | exact List.mem_of_getElem? (i := 19) (by decide +kernel)), (by first | exact List.mem_append_right _ (List.mem_append_left _ (List.mem_of_getElem? (i := 73) rfl)) | exact List.mem_of_getElem? (i := 313) (by decide +kernel)), (by first | exact List.mem_append_right _ (List.mem_append_left _ (List.mem_of_getElem? (i := 74) rfl)) | exact List.mem_of_getElem? (i := 314) (by decide +kernel))⟩
theorem lw_p2 : lw_okq (⟨"CutAtlas", "addLine", "(IIIII)I"⟩, 12) := ⟨⟨by decide +kernel, by decide +kernel⟩, (by first | exact List.mem_append_left _ (List.mem_of_getElem? (i := 19) rfl) | exact List.mem_of_getElem? (i := 19) (by decide +kernel)), (by first | exact List.mem_append_right _ (List.mem_append_left _ (List.mem_of_getElem? (i := 100) rfl)) | exact List.mem_of_getElem? (i := 340) (by decide +kernel)), (by first | exact List.mem_append_right _ (List.mem_append_left _ (List.mem_of_getElem? (i := 101) rfl)) | exact List.mem_of_getElem? (i := 341) (by decide +kernel))⟩
theorem lw_p3 : lw_okq (⟨"CutAtlas", "mostNow", "(II)I"⟩, 12) := ⟨⟨by decide +kernel, by decide +kernel⟩, (by first | exact List.mem_append_left _ (List.mem_of_getElem? (i := 19) rfl) | exact List.mem_of_getElem? (i := 19) (by decide +kernel)), (by first | exact List.mem_append_right _ (List.mem_append_left _ (List.mem_of_getElem? (i := 226) rfl)) | exact List.mem_of_getElem? (i := 466) (by decide +kernel)), (by first | exact List.mem_append_right _ (List.mem_append_left _ (List.mem_of_getElem? (i := 227) rfl)) | exact List.mem_of_getElem? (i := 467) (by decide +kernel))⟩
theorem lw_p4 : lw_okq (⟨"CutAtlas$Current", "reachedFrom", "(II)I"⟩, 9) := ⟨⟨by decide +kernel, by decide +kernel⟩, (by first | exact List.mem_append_left _ (List.mem_of_getElem? (i := 113) rfl) | exact List.mem_of_getElem? (i := 113) (by decide +kernel)), (by first | exact List.mem_append_right _ (List.mem_append_right _ (List.mem_append_left _ (List.mem_of_getElem? (i := 8) rfl))) | exact List.mem_of_getElem? (i := 488) (by decide +kernel)), (by first | exact List.mem_append_right _ (List.mem_append_right _ (List.mem_append_left _ (List.mem_of_getElem? (i := 9) rfl))) | exact List.mem_of_getElem? (i := 489) (by decide +kernel))⟩
theorem lw_p5 : lw_okq (⟨"CutAtlas$Current", "findWay", "(II)Z"⟩, 9) := ⟨⟨by decide +kernel, by decide +kernel⟩, (by first | exact List.mem_append_left _ (List.mem_of_getElem? (i := 113) rfl) | exact List.mem_of_getElem? (i := 113) (by decide +kernel)), (by first | exact List.mem_append_right _ (List.mem_append_right _ (List.mem_append_left _ (List.mem_of_getElem? (i := 12) rfl))) | exact List.mem_of_getElem? (i := 492) (by decide +kernel)), (by first | exact List.mem_append_right _ (List.mem_append_right _ (List.mem_append_left _ (List.mem_of_getElem? (i := 13) rfl))) | exact List.mem_of_getElem? (i := 493) (by decide +kernel))⟩
theorem lw_p6 : lw_okq (⟨"CutAtlas$Current", "sendAlongWay", "(II)I"⟩, 9) := ⟨⟨by decide +kernel, by decide +kernel⟩, (by first | exact List.mem_append_left _ (List.mem_of_getElem? (i := 113) rfl) | exact List.mem_of_getElem? (i := 113) (by decide +kernel)), (by first | exact List.mem_append_right _ (List.mem_append_right _ (List.mem_append_left _ (List.mem_of_getElem? (i := 16) rfl))) | exact List.mem_of_getElem? (i := 496) (by decide +kernel)), (by first | exact List.mem_append_right _ (List.mem_append_right _ (List.mem_append_left _ (List.mem_of_getElem? (i := 17) rfl))) | exact List.mem_of_getElem? (i := 497) (by decide +kernel))⟩
theorem lw_p7 : lw_okq (⟨"CutAtlas$Current", "sendOver", "(III)V"⟩, 9) := ⟨⟨by decide +kernel, by decide +kernel⟩, (by first | exact List.mem_append_left _ (List.mem_of_getElem? (i := 113) rfl) | exact List.mem_of_getElem? (i := 113) (by decide +kernel)), (by first | exact List.mem_append_right _ (List.mem_append_right _ (List.mem_append_left _ (List.mem_of_getElem? (i := 22) rfl))) | exact List.mem_of_getElem? (i := 502) (by decide +kernel)), (by first | exact List.mem_append_right _ (List.mem_append_right _ (List.mem_append_left _ (List.mem_of_getElem? (i := 23) rfl))) | exact List.mem_of_getElem? (i := 503) (by decide +kernel))⟩
theorem lw_p8 : lw_okq (⟨"CutAtlas$Current", "reaching", "(I)I"⟩, 9) := ⟨⟨by decide +kernel, by decide +kernel⟩, (by first | exact List.mem_append_left _ (List.mem_of_getElem? (i := 113) rfl) | exact List.mem_of_getElem? (i := 113) (by decide +kernel)), (by first | exact List.mem_append_right _ (List.mem_append_right _ (List.mem_append_left _ (List.mem_of_getElem? (i := 43) rfl))) | exact List.mem_of_getElem? (i := 523) (by decide +kernel)), (by first | exact List.mem_append_right _ (List.mem_append_right _ (List.mem_append_left _ (List.mem_of_getElem? (i := 44) rfl))) | exact List.mem_of_getElem? (i := 524) (by decide +kernel))⟩
theorem lw_p9 : lw_okq (⟨"CutAtlas$SetHunt", "hunt", "(IIII)V"⟩, 9) := ⟨⟨by decide +kernel, by decide +kernel⟩, (by first | exact List.mem_append_left _ (List.mem_of_getElem? (i := 155) rfl) | exact List.mem_of_getElem? (i := 155) (by decide +kernel)), (by first | exact List.mem_append_right _ (List.mem_append_right _ (List.mem_append_left _ (List.mem_of_getElem? (i := 56) rfl))) | exact List.mem_of_getElem? (i := 536) (by decide +kernel)), (by first | exact List.mem_append_right _ (List.mem_append_right _ (List.mem_append_left _ (List.mem_of_getElem? (i := 57) rfl))) | exact List.mem_of_getElem? (i := 537) (by decide +kernel))⟩
theorem lw_p10 : lw_okq (⟨"CutAtlas$SetHunt", "chooseForCut", "(III)V"⟩, 9) := ⟨⟨by decide +kernel, by decide +kernel⟩, (by first | exact List.mem_append_left _ (List.mem_of_getElem? (i := 155) rfl) | exact List.mem_of_getElem? (i := 155) (by decide +kernel)), (by first | exact List.mem_append_right _ (List.mem_append_right _ (List.mem_append_left _ (List.mem_of_getElem? (i := 60) rfl))) | exact List.mem_of_getElem? (i := 540) (by decide +kernel)), (by first | exact List.mem_append_right _ (List.mem_append_right _ (List.mem_append_left _ (List.mem_of_getElem? (i := 61) rfl))) | exact List.mem_of_getElem? (i := 541) (by decide +kernel))⟩
theorem lw_p11 : lw_okq (⟨"CutAtlas$SetHunt", "meet", "(II)V"⟩, 9) := ⟨⟨by decide +kernel, by decide +kernel⟩, (by first | exact List.mem_append_left _ (List.mem_of_getElem? (i := 155) rfl) | exact List.mem_of_getElem? (i := 155) (by decide +kernel)), (by first | exact List.mem_append_right _ (List.mem_append_right _ (List.mem_append_left _ (List.mem_of_getElem? (i := 64) rfl))) | exact List.mem_of_getElem? (i := 544) (by decide +kernel)), (by first | exact List.mem_append_right _ (List.mem_append_right _ (List.mem_append_left _ (List.mem_of_getElem? (i := 65) rfl))) | exact List.mem_of_getElem? (i := 545) (by decide +kernel))⟩
theorem lw_p12 : lw_okq (⟨"CutAtlas$SetHunt", "letIn", "(II)I"⟩, 9) := ⟨⟨by decide +kernel, by decide +kernel⟩, (by first | exact List.mem_append_left _ (List.mem_of_getElem? (i := 155) rfl) | exact List.mem_of_getElem? (i := 155) (by decide +kernel)), (by first | exact List.mem_append_right _ (List.mem_append_right _ (List.mem_append_left _ (List.mem_of_getElem? (i := 68) rfl))) | exact List.mem_of_getElem? (i := 548) (by decide +kernel)), (by first | exact List.mem_append_right _ (List.mem_append_right _ (List.mem_append_left _ (List.mem_of_getElem? (i := 69) rfl))) | exact List.mem_of_getElem? (i := 549) (by decide +kernel))⟩
theorem lw_p13 : lw_okq (⟨"CutAtlas$SetHunt", "letOut", "(II)I"⟩, 9) := ⟨⟨by decide +kernel, by decide +kernel⟩, (by first | exact List.mem_append_left _ (List.mem_of_getElem? (i := 155) rfl) | exact List.mem_of_getElem? (i := 155) (by decide +kernel)), (by first | exact List.mem_append_right _ (List.mem_append_right _ (List.mem_append_left _ (List.mem_of_getElem? (i := 72) rfl))) | exact List.mem_of_getElem? (i := 552) (by decide +kernel)), (by first | exact List.mem_append_right _ (List.mem_append_right _ (List.mem_append_left _ (List.mem_of_getElem? (i := 73) rfl))) | exact List.mem_of_getElem? (i := 553) (by decide +kernel))⟩
theorem lw_p14 : lw_okq (⟨"CutAtlas$Current", "betweenSets", "(II)I"⟩, 9) := ⟨⟨by decide +kernel, by decide +kernel⟩, (by first | exact List.mem_append_left _ (List.mem_of_getElem? (i := 113) rfl) | exact List.mem_of_getElem? (i := 113) (by decide +kernel)), (by first | exact List.mem_append_right _ (List.mem_append_right _ (List.mem_append_left _ (List.mem_of_getElem? (i := 92) rfl))) | exact List.mem_of_getElem? (i := 572) (by decide +kernel)), (by first | exact List.mem_append_right _ (List.mem_append_right _ (List.mem_append_left _ (List.mem_of_getElem? (i := 93) rfl))) | exact List.mem_of_getElem? (i := 573) (by decide +kernel))⟩
theorem lw_p15 : lw_okq (⟨"CutAtlas$Widening", "findPrices", "()V"⟩, 5) := ⟨⟨by decide +kernel, by decide +kernel⟩, (by first | exact List.mem_append_left _ (List.mem_of_getElem? (i := 209) rfl) | exact List.mem_of_getElem? (i := 209) (by decide +kernel)), (by first | exact List.mem_append_right _ (List.mem_append_right _ (List.mem_append_left _ (List.mem_of_getElem? (i := 109) rfl))) | exact List.mem_of_getElem? (i := 589) (by decide +kernel)), (by first | exact List.mem_append_right _ (List.mem_append_right _ (List.mem_append_left _ (List.mem_of_getElem? (i := 110) rfl))) | exact List.mem_of_getElem? (i := 590) (by decide +kernel))⟩
noncomputable def lw_privs_1 : List (MethodName × Nat) := [(⟨"CutAtlas", "remember", "()V"⟩, 12), (⟨"CutAtlas", "lineRefusal", "(JJJJJ)I"⟩, 12), (⟨"CutAtlas", "addLine", "(IIIII)I"⟩, 12), (⟨"CutAtlas", "mostNow", "(II)I"⟩, 12), (⟨"CutAtlas$Current", "reachedFrom", "(II)I"⟩, 9), (⟨"CutAtlas$Current", "findWay", "(II)Z"⟩, 9), (⟨"CutAtlas$Current", "sendAlongWay", "(II)I"⟩, 9), (⟨"CutAtlas$Current", "sendOver", "(III)V"⟩, 9), (⟨"CutAtlas$Current", "reaching", "(I)I"⟩, 9), (⟨"CutAtlas$SetHunt", "hunt", "(IIII)V"⟩, 9), (⟨"CutAtlas$SetHunt", "chooseForCut", "(III)V"⟩, 9), (⟨"CutAtlas$SetHunt", "meet", "(II)V"⟩, 9), (⟨"CutAtlas$SetHunt", "letIn", "(II)I"⟩, 9), (⟨"CutAtlas$SetHunt", "letOut", "(II)I"⟩, 9), (⟨"CutAtlas$Current", "betweenSets", "(II)I"⟩, 9), (⟨"CutAtlas$Widening", "findPrices", "()V"⟩, 5)]
theorem lw_r1 : ∀ q ∈ lw_privs_1, lw_okq q := List.forall_mem_cons.mpr ⟨lw_p0, List.forall_mem_cons.mpr ⟨lw_p1, List.forall_mem_cons.mpr ⟨lw_p2, List.forall_mem_cons.mpr ⟨lw_p3, List.forall_mem_cons.mpr ⟨lw_p4, List.forall_mem_cons.mpr ⟨lw_p5, List.forall_mem_cons.mpr ⟨lw_p6, List.forall_mem_cons.mpr ⟨lw_p7, List.forall_mem_cons.mpr ⟨lw_p8, List.forall_mem_cons.mpr ⟨lw_p9, List.forall_mem_cons.mpr ⟨lw_p10, List.forall_mem_cons.mpr ⟨lw_p11, List.forall_mem_cons.mpr ⟨lw_p12, List.forall_mem_cons.mpr ⟨lw_p13, List.forall_mem_cons.mpr ⟨lw_p14, List.forall_mem_cons.mpr ⟨lw_p15, fun _ h => absurd h List.not_mem_nil⟩⟩⟩⟩⟩⟩⟩⟩⟩⟩⟩⟩⟩⟩⟩⟩
theorem lw_p16 : lw_okq (⟨"CutAtlas$Widening", "findCosts", "(I)V"⟩, 5) := ⟨⟨by decide +kernel, by decide +kernel⟩, (by first | exact List.mem_append_left _ (List.mem_of_getElem? (i := 209) rfl) | exact List.mem_of_getElem? (i := 209) (by decide +kernel)), (by first | exact List.mem_append_right _ (List.mem_append_right _ (List.mem_append_left _ (List.mem_of_getElem? (i := 118) rfl))) | exact List.mem_of_getElem? (i := 598) (by decide +kernel)), (by first | exact List.mem_append_right _ (List.mem_append_right _ (List.mem_append_left _ (List.mem_of_getElem? (i := 119) rfl))) | exact List.mem_of_getElem? (i := 599) (by decide +kernel))⟩
theorem lw_p17 : lw_okq (⟨"CutAtlas$Widening", "lookFrom", "(I)Z"⟩, 5) := ⟨⟨by decide +kernel, by decide +kernel⟩, (by first | exact List.mem_append_left _ (List.mem_of_getElem? (i := 209) rfl) | exact List.mem_of_getElem? (i := 209) (by decide +kernel)), (by first | exact List.mem_append_right _ (List.mem_append_right _ (List.mem_append_left _ (List.mem_of_getElem? (i := 122) rfl))) | exact List.mem_of_getElem? (i := 602) (by decide +kernel)), (by first | exact List.mem_append_right _ (List.mem_append_right _ (List.mem_append_left _ (List.mem_of_getElem? (i := 123) rfl))) | exact List.mem_of_getElem? (i := 603) (by decide +kernel))⟩
theorem lw_p18 : lw_okq (⟨"CutAtlas$Widening", "stepCosts", "(II)I"⟩, 5) := ⟨⟨by decide +kernel, by decide +kernel⟩, (by first | exact List.mem_append_left _ (List.mem_of_getElem? (i := 209) rfl) | exact List.mem_of_getElem? (i := 209) (by decide +kernel)), (by first | exact List.mem_append_right _ (List.mem_append_right _ (List.mem_append_left _ (List.mem_of_getElem? (i := 126) rfl))) | exact List.mem_of_getElem? (i := 606) (by decide +kernel)), (by first | exact List.mem_append_right _ (List.mem_append_right _ (List.mem_append_left _ (List.mem_of_getElem? (i := 127) rfl))) | exact List.mem_of_getElem? (i := 607) (by decide +kernel))⟩
theorem lw_p19 : lw_okq (⟨"CutAtlas$Widening", "roomOfWay", "(III)I"⟩, 5) := ⟨⟨by decide +kernel, by decide +kernel⟩, (by first | exact List.mem_append_left _ (List.mem_of_getElem? (i := 209) rfl) | exact List.mem_of_getElem? (i := 209) (by decide +kernel)), (by first | exact List.mem_append_right _ (List.mem_append_right _ (List.mem_append_left _ (List.mem_of_getElem? (i := 130) rfl))) | exact List.mem_of_getElem? (i := 610) (by decide +kernel)), (by first | exact List.mem_append_right _ (List.mem_append_right _ (List.mem_append_left _ (List.mem_of_getElem? (i := 131) rfl))) | exact List.mem_of_getElem? (i := 611) (by decide +kernel))⟩
theorem lw_p20 : lw_okq (⟨"CutAtlas$Widening", "stepRoom", "(II)I"⟩, 5) := ⟨⟨by decide +kernel, by decide +kernel⟩, (by first | exact List.mem_append_left _ (List.mem_of_getElem? (i := 209) rfl) | exact List.mem_of_getElem? (i := 209) (by decide +kernel)), (by first | exact List.mem_append_right _ (List.mem_append_right _ (List.mem_append_left _ (List.mem_of_getElem? (i := 134) rfl))) | exact List.mem_of_getElem? (i := 614) (by decide +kernel)), (by first | exact List.mem_append_right _ (List.mem_append_right _ (List.mem_append_left _ (List.mem_of_getElem? (i := 135) rfl))) | exact List.mem_of_getElem? (i := 615) (by decide +kernel))⟩
theorem lw_p21 : lw_okq (⟨"CutAtlas$Widening", "sendAlongWay", "(III)V"⟩, 5) := ⟨⟨by decide +kernel, by decide +kernel⟩, (by first | exact List.mem_append_left _ (List.mem_of_getElem? (i := 209) rfl) | exact List.mem_of_getElem? (i := 209) (by decide +kernel)), (by first | exact List.mem_append_right _ (List.mem_append_right _ (List.mem_append_left _ (List.mem_of_getElem? (i := 138) rfl))) | exact List.mem_of_getElem? (i := 618) (by decide +kernel)), (by first | exact List.mem_append_right _ (List.mem_append_right _ (List.mem_append_left _ (List.mem_of_getElem? (i := 139) rfl))) | exact List.mem_of_getElem? (i := 619) (by decide +kernel))⟩
theorem lw_p22 : lw_okq (⟨"CutAtlas$CutTree", "hang", "(I)V"⟩, 3) := ⟨⟨by decide +kernel, by decide +kernel⟩, (by first | exact List.mem_append_left _ (List.mem_of_getElem? (i := 191) rfl) | exact List.mem_of_getElem? (i := 191) (by decide +kernel)), (by first | exact List.mem_append_right _ (List.mem_append_right _ (List.mem_append_left _ (List.mem_of_getElem? (i := 157) rfl))) | exact List.mem_of_getElem? (i := 637) (by decide +kernel)), (by first | exact List.mem_append_right _ (List.mem_append_right _ (List.mem_append_left _ (List.mem_of_getElem? (i := 158) rfl))) | exact List.mem_of_getElem? (i := 638) (by decide +kernel))⟩
theorem lw_p23 : lw_okq (⟨"CutAtlas$CutTree", "stepsToRoot", "(I)I"⟩, 3) := ⟨⟨by decide +kernel, by decide +kernel⟩, (by first | exact List.mem_append_left _ (List.mem_of_getElem? (i := 191) rfl) | exact List.mem_of_getElem? (i := 191) (by decide +kernel)), (by first | exact List.mem_append_right _ (List.mem_append_right _ (List.mem_append_left _ (List.mem_of_getElem? (i := 172) rfl))) | exact List.mem_of_getElem? (i := 652) (by decide +kernel)), (by first | exact List.mem_append_right _ (List.mem_append_right _ (List.mem_append_left _ (List.mem_of_getElem? (i := 173) rfl))) | exact List.mem_of_getElem? (i := 653) (by decide +kernel))⟩
theorem lw_p24 : lw_okq (⟨"CutAtlas$SetHunt", "chooseForDense", "(III)V"⟩, 9) := ⟨⟨by decide +kernel, by decide +kernel⟩, (by first | exact List.mem_append_left _ (List.mem_of_getElem? (i := 155) rfl) | exact List.mem_of_getElem? (i := 155) (by decide +kernel)), (by first | exact List.mem_append_right _ (List.mem_append_right _ (List.mem_append_left _ (List.mem_of_getElem? (i := 219) rfl))) | exact List.mem_of_getElem? (i := 699) (by decide +kernel)), (by first | exact List.mem_append_right _ (List.mem_append_right _ (List.mem_append_left _ (List.mem_of_getElem? (i := 220) rfl))) | exact List.mem_of_getElem? (i := 700) (by decide +kernel))⟩
theorem lw_p25 : lw_okq (⟨"CutAtlas$SetHunt", "compareDense", "(II)V"⟩, 9) := ⟨⟨by decide +kernel, by decide +kernel⟩, (by first | exact List.mem_append_left _ (List.mem_of_getElem? (i := 155) rfl) | exact List.mem_of_getElem? (i := 155) (by decide +kernel)), (by first | exact List.mem_append_right _ (List.mem_append_right _ (List.mem_append_left _ (List.mem_of_getElem? (i := 223) rfl))) | exact List.mem_of_getElem? (i := 703) (by decide +kernel)), (by first | exact List.mem_append_right _ (List.mem_append_right _ (List.mem_append_left _ (List.mem_of_getElem? (i := 224) rfl))) | exact List.mem_of_getElem? (i := 704) (by decide +kernel))⟩
theorem lw_p26 : lw_okq (⟨"CutAtlas", "rowRefusal", "(III)I"⟩, 12) := ⟨⟨by decide +kernel, by decide +kernel⟩, (by first | exact List.mem_append_left _ (List.mem_of_getElem? (i := 19) rfl) | exact List.mem_of_getElem? (i := 19) (by decide +kernel)), (by first | exact List.mem_append_right _ (List.mem_append_right _ (List.mem_append_right _ (List.mem_append_left _ (List.mem_of_getElem? (i := 16) rfl)))) | exact List.mem_of_getElem? (i := 736) (by decide +kernel)), (by first | exact List.mem_append_right _ (List.mem_append_right _ (List.mem_append_right _ (List.mem_append_left _ (List.mem_of_getElem? (i := 17) rfl)))) | exact List.mem_of_getElem? (i := 737) (by decide +kernel))⟩
theorem lw_p27 : lw_okq (⟨"CutAtlas", "numberRefusal", "(IIII)I"⟩, 12) := ⟨⟨by decide +kernel, by decide +kernel⟩, (by first | exact List.mem_append_left _ (List.mem_of_getElem? (i := 19) rfl) | exact List.mem_of_getElem? (i := 19) (by decide +kernel)), (by first | exact List.mem_append_right _ (List.mem_append_right _ (List.mem_append_right _ (List.mem_append_left _ (List.mem_of_getElem? (i := 36) rfl)))) | exact List.mem_of_getElem? (i := 756) (by decide +kernel)), (by first | exact List.mem_append_right _ (List.mem_append_right _ (List.mem_append_right _ (List.mem_append_left _ (List.mem_of_getElem? (i := 37) rfl)))) | exact List.mem_of_getElem? (i := 757) (by decide +kernel))⟩
theorem lw_p28 : lw_okq (⟨"CutAtlas$NumberMap", "hasNumbers", "(III)Z"⟩, 4) := ⟨⟨by decide +kernel, by decide +kernel⟩, (by first | exact List.mem_append_left _ (List.mem_of_getElem? (i := 233) rfl) | exact List.mem_of_getElem? (i := 233) (by decide +kernel)), (by first | exact List.mem_append_right _ (List.mem_append_right _ (List.mem_append_right _ (List.mem_append_left _ (List.mem_of_getElem? (i := 54) rfl)))) | exact List.mem_of_getElem? (i := 774) (by decide +kernel)), (by first | exact List.mem_append_right _ (List.mem_append_right _ (List.mem_append_right _ (List.mem_append_left _ (List.mem_of_getElem? (i := 55) rfl)))) | exact List.mem_of_getElem? (i := 775) (by decide +kernel))⟩
theorem lw_p29 : lw_okq (⟨"CutAtlas", "readRefusal", "(LCutAtlas$NumberMap;I)I"⟩, 12) := ⟨⟨by decide +kernel, by decide +kernel⟩, (by first | exact List.mem_append_left _ (List.mem_of_getElem? (i := 19) rfl) | exact List.mem_of_getElem? (i := 19) (by decide +kernel)), (by first | exact List.mem_append_right _ (List.mem_append_right _ (List.mem_append_right _ (List.mem_append_left _ (List.mem_of_getElem? (i := 75) rfl)))) | exact List.mem_of_getElem? (i := 795) (by decide +kernel)), (by first | exact List.mem_append_right _ (List.mem_append_right _ (List.mem_append_right _ (List.mem_append_left _ (List.mem_of_getElem? (i := 76) rfl)))) | exact List.mem_of_getElem? (i := 796) (by decide +kernel))⟩
theorem lw_p30 : lw_okq (⟨"CutAtlasModel", "keeps", "()V"⟩, 34) := ⟨⟨by decide +kernel, by decide +kernel⟩, (by first | exact List.mem_append_right _ (List.mem_append_right _ (List.mem_append_right _ (List.mem_append_left _ (List.mem_of_getElem? (i := 100) rfl)))) | exact List.mem_of_getElem? (i := 820) (by decide +kernel)), (by first | exact List.mem_append_right _ (List.mem_append_right _ (List.mem_append_right _ (List.mem_append_left _ (List.mem_of_getElem? (i := 214) rfl)))) | exact List.mem_of_getElem? (i := 934) (by decide +kernel)), (by first | exact List.mem_append_right _ (List.mem_append_right _ (List.mem_append_right _ (List.mem_append_left _ (List.mem_of_getElem? (i := 215) rfl)))) | exact List.mem_of_getElem? (i := 935) (by decide +kernel))⟩
theorem lw_p31 : lw_okq (⟨"CutAtlasModel", "refused", "(JJJJJ)I"⟩, 34) := ⟨⟨by decide +kernel, by decide +kernel⟩, (by first | exact List.mem_append_right _ (List.mem_append_right _ (List.mem_append_right _ (List.mem_append_left _ (List.mem_of_getElem? (i := 100) rfl)))) | exact List.mem_of_getElem? (i := 820) (by decide +kernel)), (by first | exact List.mem_append_right _ (List.mem_append_right _ (List.mem_append_right _ (List.mem_append_left _ (List.mem_of_getElem? (i := 222) rfl)))) | exact List.mem_of_getElem? (i := 942) (by decide +kernel)), (by first | exact List.mem_append_right _ (List.mem_append_right _ (List.mem_append_right _ (List.mem_append_left _ (List.mem_of_getElem? (i := 223) rfl)))) | exact List.mem_of_getElem? (i := 943) (by decide +kernel))⟩
noncomputable def lw_privs_2 : List (MethodName × Nat) := [(⟨"CutAtlas$Widening", "findCosts", "(I)V"⟩, 5), (⟨"CutAtlas$Widening", "lookFrom", "(I)Z"⟩, 5), (⟨"CutAtlas$Widening", "stepCosts", "(II)I"⟩, 5), (⟨"CutAtlas$Widening", "roomOfWay", "(III)I"⟩, 5), (⟨"CutAtlas$Widening", "stepRoom", "(II)I"⟩, 5), (⟨"CutAtlas$Widening", "sendAlongWay", "(III)V"⟩, 5), (⟨"CutAtlas$CutTree", "hang", "(I)V"⟩, 3), (⟨"CutAtlas$CutTree", "stepsToRoot", "(I)I"⟩, 3), (⟨"CutAtlas$SetHunt", "chooseForDense", "(III)V"⟩, 9), (⟨"CutAtlas$SetHunt", "compareDense", "(II)V"⟩, 9), (⟨"CutAtlas", "rowRefusal", "(III)I"⟩, 12), (⟨"CutAtlas", "numberRefusal", "(IIII)I"⟩, 12), (⟨"CutAtlas$NumberMap", "hasNumbers", "(III)Z"⟩, 4), (⟨"CutAtlas", "readRefusal", "(LCutAtlas$NumberMap;I)I"⟩, 12), (⟨"CutAtlasModel", "keeps", "()V"⟩, 34), (⟨"CutAtlasModel", "refused", "(JJJJJ)I"⟩, 34)]
theorem lw_r2 : ∀ q ∈ lw_privs_2, lw_okq q := List.forall_mem_cons.mpr ⟨lw_p16, List.forall_mem_cons.mpr ⟨lw_p17, List.forall_mem_cons.mpr ⟨lw_p18, List.forall_mem_cons.mpr ⟨lw_p19, List.forall_mem_cons.mpr ⟨lw_p20, List.forall_mem_cons.mpr ⟨lw_p21, List.forall_mem_cons.mpr ⟨lw_p22, List.forall_mem_cons.mpr ⟨lw_p23, List.forall_mem_cons.mpr ⟨lw_p24, List.forall_mem_cons.mpr ⟨lw_p25, List.forall_mem_cons.mpr ⟨lw_p26, List.forall_mem_cons.mpr ⟨lw_p27, List.forall_mem_cons.mpr ⟨lw_p28, List.forall_mem_cons.mpr ⟨lw_p29, List.forall_mem_cons.mpr ⟨lw_p30, List.forall_mem_cons.mpr ⟨lw_p31, fun _ h => absurd h List.not_mem_nil⟩⟩⟩⟩⟩⟩⟩⟩⟩⟩⟩⟩⟩⟩⟩⟩
theorem lw_p32 : lw_okq (⟨"CutAtlasModel", "adds", "(IIIII)V"⟩, 34) := ⟨⟨by decide +kernel, by decide +kernel⟩, (by first | exact List.mem_append_right _ (List.mem_append_right _ (List.mem_append_right _ (List.mem_append_left _ (List.mem_of_getElem? (i := 100) rfl)))) | exact List.mem_of_getElem? (i := 820) (by decide +kernel)), (by first | exact List.mem_append_right _ (List.mem_append_right _ (List.mem_append_right _ (List.mem_append_left _ (List.mem_of_getElem? (i := 232) rfl)))) | exact List.mem_of_getElem? (i := 952) (by decide +kernel)), (by first | exact List.mem_append_right _ (List.mem_append_right _ (List.mem_append_right _ (List.mem_append_left _ (List.mem_of_getElem? (i := 233) rfl)))) | exact List.mem_of_getElem? (i := 953) (by decide +kernel))⟩
theorem lw_p33 : lw_okq (⟨"CutAtlasModel", "isLine", "(I)Z"⟩, 34) := ⟨⟨by decide +kernel, by decide +kernel⟩, (by first | exact List.mem_append_right _ (List.mem_append_right _ (List.mem_append_right _ (List.mem_append_left _ (List.mem_of_getElem? (i := 100) rfl)))) | exact List.mem_of_getElem? (i := 820) (by decide +kernel)), (by first | exact List.mem_append_right _ (List.mem_append_right _ (List.mem_append_right _ (List.mem_append_right _ (List.mem_append_left _ (List.mem_of_getElem? (i := 1) rfl))))) | exact List.mem_of_getElem? (i := 961) (by decide +kernel)), (by first | exact List.mem_append_right _ (List.mem_append_right _ (List.mem_append_right _ (List.mem_append_right _ (List.mem_append_left _ (List.mem_of_getElem? (i := 2) rfl))))) | exact List.mem_of_getElem? (i := 962) (by decide +kernel))⟩
theorem lw_p34 : lw_okq (⟨"CutAtlasModel", "costs", "(I)I"⟩, 34) := ⟨⟨by decide +kernel, by decide +kernel⟩, (by first | exact List.mem_append_right _ (List.mem_append_right _ (List.mem_append_right _ (List.mem_append_left _ (List.mem_of_getElem? (i := 100) rfl)))) | exact List.mem_of_getElem? (i := 820) (by decide +kernel)), (by first | exact List.mem_append_right _ (List.mem_append_right _ (List.mem_append_right _ (List.mem_append_right _ (List.mem_append_left _ (List.mem_of_getElem? (i := 5) rfl))))) | exact List.mem_of_getElem? (i := 965) (by decide +kernel)), (by first | exact List.mem_append_right _ (List.mem_append_right _ (List.mem_append_right _ (List.mem_append_right _ (List.mem_append_left _ (List.mem_of_getElem? (i := 6) rfl))))) | exact List.mem_of_getElem? (i := 966) (by decide +kernel))⟩
theorem lw_p35 : lw_okq (⟨"CutAtlasModel", "costsTrace", "(I)J"⟩, 34) := ⟨⟨by decide +kernel, by decide +kernel⟩, (by first | exact List.mem_append_right _ (List.mem_append_right _ (List.mem_append_right _ (List.mem_append_left _ (List.mem_of_getElem? (i := 100) rfl)))) | exact List.mem_of_getElem? (i := 820) (by decide +kernel)), (by first | exact List.mem_append_right _ (List.mem_append_right _ (List.mem_append_right _ (List.mem_append_right _ (List.mem_append_left _ (List.mem_of_getElem? (i := 9) rfl))))) | exact List.mem_of_getElem? (i := 969) (by decide +kernel)), (by first | exact List.mem_append_right _ (List.mem_append_right _ (List.mem_append_right _ (List.mem_append_right _ (List.mem_append_left _ (List.mem_of_getElem? (i := 10) rfl))))) | exact List.mem_of_getElem? (i := 970) (by decide +kernel))⟩
theorem lw_p36 : lw_okq (⟨"CutAtlasModel", "arePlaces", "(II)Z"⟩, 34) := ⟨⟨by decide +kernel, by decide +kernel⟩, (by first | exact List.mem_append_right _ (List.mem_append_right _ (List.mem_append_right _ (List.mem_append_left _ (List.mem_of_getElem? (i := 100) rfl)))) | exact List.mem_of_getElem? (i := 820) (by decide +kernel)), (by first | exact List.mem_append_right _ (List.mem_append_right _ (List.mem_append_right _ (List.mem_append_right _ (List.mem_append_left _ (List.mem_of_getElem? (i := 23) rfl))))) | exact List.mem_of_getElem? (i := 983) (by decide +kernel)), (by first | exact List.mem_append_right _ (List.mem_append_right _ (List.mem_append_right _ (List.mem_append_right _ (List.mem_append_left _ (List.mem_of_getElem? (i := 24) rfl))))) | exact List.mem_of_getElem? (i := 984) (by decide +kernel))⟩
theorem lw_p37 : lw_okq (⟨"CutAtlasModel", "isPlace", "(I)Z"⟩, 34) := ⟨⟨by decide +kernel, by decide +kernel⟩, (by first | exact List.mem_append_right _ (List.mem_append_right _ (List.mem_append_right _ (List.mem_append_left _ (List.mem_of_getElem? (i := 100) rfl)))) | exact List.mem_of_getElem? (i := 820) (by decide +kernel)), (by first | exact List.mem_append_right _ (List.mem_append_right _ (List.mem_append_right _ (List.mem_append_right _ (List.mem_append_left _ (List.mem_of_getElem? (i := 27) rfl))))) | exact List.mem_of_getElem? (i := 987) (by decide +kernel)), (by first | exact List.mem_append_right _ (List.mem_append_right _ (List.mem_append_right _ (List.mem_append_right _ (List.mem_append_left _ (List.mem_of_getElem? (i := 28) rfl))))) | exact List.mem_of_getElem? (i := 988) (by decide +kernel))⟩
theorem lw_p38 : lw_okq (⟨"CutAtlasModel", "lets", "(IZ)I"⟩, 34) := ⟨⟨by decide +kernel, by decide +kernel⟩, (by first | exact List.mem_append_right _ (List.mem_append_right _ (List.mem_append_right _ (List.mem_append_left _ (List.mem_of_getElem? (i := 100) rfl)))) | exact List.mem_of_getElem? (i := 820) (by decide +kernel)), (by first | exact List.mem_append_right _ (List.mem_append_right _ (List.mem_append_right _ (List.mem_append_right _ (List.mem_append_left _ (List.mem_of_getElem? (i := 47) rfl))))) | exact List.mem_of_getElem? (i := 1007) (by decide +kernel)), (by first | exact List.mem_append_right _ (List.mem_append_right _ (List.mem_append_right _ (List.mem_append_right _ (List.mem_append_left _ (List.mem_of_getElem? (i := 48) rfl))))) | exact List.mem_of_getElem? (i := 1008) (by decide +kernel))⟩
theorem lw_p39 : lw_okq (⟨"CutAtlasModel", "mostOf", "(II)I"⟩, 34) := ⟨⟨by decide +kernel, by decide +kernel⟩, (by first | exact List.mem_append_right _ (List.mem_append_right _ (List.mem_append_right _ (List.mem_append_left _ (List.mem_of_getElem? (i := 100) rfl)))) | exact List.mem_of_getElem? (i := 820) (by decide +kernel)), (by first | exact List.mem_append_right _ (List.mem_append_right _ (List.mem_append_right _ (List.mem_append_right _ (List.mem_append_left _ (List.mem_of_getElem? (i := 55) rfl))))) | exact List.mem_of_getElem? (i := 1015) (by decide +kernel)), (by first | exact List.mem_append_right _ (List.mem_append_right _ (List.mem_append_right _ (List.mem_append_right _ (List.mem_append_left _ (List.mem_of_getElem? (i := 56) rfl))))) | exact List.mem_of_getElem? (i := 1016) (by decide +kernel))⟩
theorem lw_p40 : lw_okq (⟨"CutAtlasModel", "sizeOf", "(I)I"⟩, 34) := ⟨⟨by decide +kernel, by decide +kernel⟩, (by first | exact List.mem_append_right _ (List.mem_append_right _ (List.mem_append_right _ (List.mem_append_left _ (List.mem_of_getElem? (i := 100) rfl)))) | exact List.mem_of_getElem? (i := 820) (by decide +kernel)), (by first | exact List.mem_append_right _ (List.mem_append_right _ (List.mem_append_right _ (List.mem_append_right _ (List.mem_append_left _ (List.mem_of_getElem? (i := 60) rfl))))) | exact List.mem_of_getElem? (i := 1020) (by decide +kernel)), (by first | exact List.mem_append_right _ (List.mem_append_right _ (List.mem_append_right _ (List.mem_append_right _ (List.mem_append_left _ (List.mem_of_getElem? (i := 61) rfl))))) | exact List.mem_of_getElem? (i := 1021) (by decide +kernel))⟩
theorem lw_p41 : lw_okq (⟨"CutAtlasModel", "room", "(IZ)I"⟩, 34) := ⟨⟨by decide +kernel, by decide +kernel⟩, (by first | exact List.mem_append_right _ (List.mem_append_right _ (List.mem_append_right _ (List.mem_append_left _ (List.mem_of_getElem? (i := 100) rfl)))) | exact List.mem_of_getElem? (i := 820) (by decide +kernel)), (by first | exact List.mem_append_right _ (List.mem_append_right _ (List.mem_append_right _ (List.mem_append_right _ (List.mem_append_left _ (List.mem_of_getElem? (i := 64) rfl))))) | exact List.mem_of_getElem? (i := 1024) (by decide +kernel)), (by first | exact List.mem_append_right _ (List.mem_append_right _ (List.mem_append_right _ (List.mem_append_right _ (List.mem_append_left _ (List.mem_of_getElem? (i := 65) rfl))))) | exact List.mem_of_getElem? (i := 1025) (by decide +kernel))⟩
theorem lw_p42 : lw_okq (⟨"CutAtlasModel", "flowOf", "(II)V"⟩, 34) := ⟨⟨by decide +kernel, by decide +kernel⟩, (by first | exact List.mem_append_right _ (List.mem_append_right _ (List.mem_append_right _ (List.mem_append_left _ (List.mem_of_getElem? (i := 100) rfl)))) | exact List.mem_of_getElem? (i := 820) (by decide +kernel)), (by first | exact List.mem_append_right _ (List.mem_append_right _ (List.mem_append_right _ (List.mem_append_right _ (List.mem_append_left _ (List.mem_of_getElem? (i := 76) rfl))))) | exact List.mem_of_getElem? (i := 1036) (by decide +kernel)), (by first | exact List.mem_append_right _ (List.mem_append_right _ (List.mem_append_right _ (List.mem_append_right _ (List.mem_append_left _ (List.mem_of_getElem? (i := 77) rfl))))) | exact List.mem_of_getElem? (i := 1037) (by decide +kernel))⟩
theorem lw_p43 : lw_okq (⟨"CutAtlasModel", "hasWay", "(II)Z"⟩, 34) := ⟨⟨by decide +kernel, by decide +kernel⟩, (by first | exact List.mem_append_right _ (List.mem_append_right _ (List.mem_append_right _ (List.mem_append_left _ (List.mem_of_getElem? (i := 100) rfl)))) | exact List.mem_of_getElem? (i := 820) (by decide +kernel)), (by first | exact List.mem_append_right _ (List.mem_append_right _ (List.mem_append_right _ (List.mem_append_right _ (List.mem_append_left _ (List.mem_of_getElem? (i := 80) rfl))))) | exact List.mem_of_getElem? (i := 1040) (by decide +kernel)), (by first | exact List.mem_append_right _ (List.mem_append_right _ (List.mem_append_right _ (List.mem_append_right _ (List.mem_append_left _ (List.mem_of_getElem? (i := 81) rfl))))) | exact List.mem_of_getElem? (i := 1041) (by decide +kernel))⟩
theorem lw_p44 : lw_okq (⟨"CutAtlasModel", "isMet", "(II)Z"⟩, 34) := ⟨⟨by decide +kernel, by decide +kernel⟩, (by first | exact List.mem_append_right _ (List.mem_append_right _ (List.mem_append_right _ (List.mem_append_left _ (List.mem_of_getElem? (i := 100) rfl)))) | exact List.mem_of_getElem? (i := 820) (by decide +kernel)), (by first | exact List.mem_append_right _ (List.mem_append_right _ (List.mem_append_right _ (List.mem_append_right _ (List.mem_append_left _ (List.mem_of_getElem? (i := 84) rfl))))) | exact List.mem_of_getElem? (i := 1044) (by decide +kernel)), (by first | exact List.mem_append_right _ (List.mem_append_right _ (List.mem_append_right _ (List.mem_append_right _ (List.mem_append_left _ (List.mem_of_getElem? (i := 85) rfl))))) | exact List.mem_of_getElem? (i := 1045) (by decide +kernel))⟩
theorem lw_p45 : lw_okq (⟨"CutAtlasModel", "leftOf", "(II)I"⟩, 34) := ⟨⟨by decide +kernel, by decide +kernel⟩, (by first | exact List.mem_append_right _ (List.mem_append_right _ (List.mem_append_right _ (List.mem_append_left _ (List.mem_of_getElem? (i := 100) rfl)))) | exact List.mem_of_getElem? (i := 820) (by decide +kernel)), (by first | exact List.mem_append_right _ (List.mem_append_right _ (List.mem_append_right _ (List.mem_append_right _ (List.mem_append_left _ (List.mem_of_getElem? (i := 88) rfl))))) | exact List.mem_of_getElem? (i := 1048) (by decide +kernel)), (by first | exact List.mem_append_right _ (List.mem_append_right _ (List.mem_append_right _ (List.mem_append_right _ (List.mem_append_left _ (List.mem_of_getElem? (i := 89) rfl))))) | exact List.mem_of_getElem? (i := 1049) (by decide +kernel))⟩
theorem lw_p46 : lw_okq (⟨"CutAtlasModel", "left", "(III)I"⟩, 34) := ⟨⟨by decide +kernel, by decide +kernel⟩, (by first | exact List.mem_append_right _ (List.mem_append_right _ (List.mem_append_right _ (List.mem_append_left _ (List.mem_of_getElem? (i := 100) rfl)))) | exact List.mem_of_getElem? (i := 820) (by decide +kernel)), (by first | exact List.mem_append_right _ (List.mem_append_right _ (List.mem_append_right _ (List.mem_append_right _ (List.mem_append_left _ (List.mem_of_getElem? (i := 92) rfl))))) | exact List.mem_of_getElem? (i := 1052) (by decide +kernel)), (by first | exact List.mem_append_right _ (List.mem_append_right _ (List.mem_append_right _ (List.mem_append_right _ (List.mem_append_left _ (List.mem_of_getElem? (i := 93) rfl))))) | exact List.mem_of_getElem? (i := 1053) (by decide +kernel))⟩
theorem lw_p47 : lw_okq (⟨"CutAtlasModel", "cutsOf", "(IIII)V"⟩, 34) := ⟨⟨by decide +kernel, by decide +kernel⟩, (by first | exact List.mem_append_right _ (List.mem_append_right _ (List.mem_append_right _ (List.mem_append_left _ (List.mem_of_getElem? (i := 100) rfl)))) | exact List.mem_of_getElem? (i := 820) (by decide +kernel)), (by first | exact List.mem_append_right _ (List.mem_append_right _ (List.mem_append_right _ (List.mem_append_right _ (List.mem_append_left _ (List.mem_of_getElem? (i := 101) rfl))))) | exact List.mem_of_getElem? (i := 1061) (by decide +kernel)), (by first | exact List.mem_append_right _ (List.mem_append_right _ (List.mem_append_right _ (List.mem_append_right _ (List.mem_append_left _ (List.mem_of_getElem? (i := 102) rfl))))) | exact List.mem_of_getElem? (i := 1062) (by decide +kernel))⟩
noncomputable def lw_privs_3 : List (MethodName × Nat) := [(⟨"CutAtlasModel", "adds", "(IIIII)V"⟩, 34), (⟨"CutAtlasModel", "isLine", "(I)Z"⟩, 34), (⟨"CutAtlasModel", "costs", "(I)I"⟩, 34), (⟨"CutAtlasModel", "costsTrace", "(I)J"⟩, 34), (⟨"CutAtlasModel", "arePlaces", "(II)Z"⟩, 34), (⟨"CutAtlasModel", "isPlace", "(I)Z"⟩, 34), (⟨"CutAtlasModel", "lets", "(IZ)I"⟩, 34), (⟨"CutAtlasModel", "mostOf", "(II)I"⟩, 34), (⟨"CutAtlasModel", "sizeOf", "(I)I"⟩, 34), (⟨"CutAtlasModel", "room", "(IZ)I"⟩, 34), (⟨"CutAtlasModel", "flowOf", "(II)V"⟩, 34), (⟨"CutAtlasModel", "hasWay", "(II)Z"⟩, 34), (⟨"CutAtlasModel", "isMet", "(II)Z"⟩, 34), (⟨"CutAtlasModel", "leftOf", "(II)I"⟩, 34), (⟨"CutAtlasModel", "left", "(III)I"⟩, 34), (⟨"CutAtlasModel", "cutsOf", "(IIII)V"⟩, 34)]
theorem lw_r3 : ∀ q ∈ lw_privs_3, lw_okq q := List.forall_mem_cons.mpr ⟨lw_p32, List.forall_mem_cons.mpr ⟨lw_p33, List.forall_mem_cons.mpr ⟨lw_p34, List.forall_mem_cons.mpr ⟨lw_p35, List.forall_mem_cons.mpr ⟨lw_p36, List.forall_mem_cons.mpr ⟨lw_p37, List.forall_mem_cons.mpr ⟨lw_p38, List.forall_mem_cons.mpr ⟨lw_p39, List.forall_mem_cons.mpr ⟨lw_p40, List.forall_mem_cons.mpr ⟨lw_p41, List.forall_mem_cons.mpr ⟨lw_p42, List.forall_mem_cons.mpr ⟨lw_p43, List.forall_mem_cons.mpr ⟨lw_p44, List.forall_mem_cons.mpr ⟨lw_p45, List.forall_mem_cons.mpr ⟨lw_p46, List.forall_mem_cons.mpr ⟨lw_p47, fun _ h => absurd h List.not_mem_nil⟩⟩⟩⟩⟩⟩⟩⟩⟩⟩⟩⟩⟩⟩⟩⟩
theorem lw_p48 : lw_okq (⟨"CutAtlasModel", "cheapWay", "(II)Z"⟩, 34) := ⟨⟨by decide +kernel, by decide +kernel⟩, (by first | exact List.mem_append_right _ (List.mem_append_right _ (List.mem_append_right _ (List.mem_append_left _ (List.mem_of_getElem? (i := 100) rfl)))) | exact List.mem_of_getElem? (i := 820) (by decide +kernel)), (by first | exact List.mem_append_right _ (List.mem_append_right _ (List.mem_append_right _ (List.mem_append_right _ (List.mem_append_left _ (List.mem_of_getElem? (i := 129) rfl))))) | exact List.mem_of_getElem? (i := 1089) (by decide +kernel)), (by first | exact List.mem_append_right _ (List.mem_append_right _ (List.mem_append_right _ (List.mem_append_right _ (List.mem_append_left _ (List.mem_of_getElem? (i := 130) rfl))))) | exact List.mem_of_getElem? (i := 1090) (by decide +kernel))⟩
theorem lw_p49 : lw_okq (⟨"CutAtlasModel", "step", "(IZ)J"⟩, 34) := ⟨⟨by decide +kernel, by decide +kernel⟩, (by first | exact List.mem_append_right _ (List.mem_append_right _ (List.mem_append_right _ (List.mem_append_left _ (List.mem_of_getElem? (i := 100) rfl)))) | exact List.mem_of_getElem? (i := 820) (by decide +kernel)), (by first | exact List.mem_append_right _ (List.mem_append_right _ (List.mem_append_right _ (List.mem_append_right _ (List.mem_append_left _ (List.mem_of_getElem? (i := 134) rfl))))) | exact List.mem_of_getElem? (i := 1094) (by decide +kernel)), (by first | exact List.mem_append_right _ (List.mem_append_right _ (List.mem_append_right _ (List.mem_append_right _ (List.mem_append_left _ (List.mem_of_getElem? (i := 135) rfl))))) | exact List.mem_of_getElem? (i := 1095) (by decide +kernel))⟩
theorem lw_p50 : lw_okq (⟨"CutAtlasModel", "amount", "(IZ)I"⟩, 34) := ⟨⟨by decide +kernel, by decide +kernel⟩, (by first | exact List.mem_append_right _ (List.mem_append_right _ (List.mem_append_right _ (List.mem_append_left _ (List.mem_of_getElem? (i := 100) rfl)))) | exact List.mem_of_getElem? (i := 820) (by decide +kernel)), (by first | exact List.mem_append_right _ (List.mem_append_right _ (List.mem_append_right _ (List.mem_append_right _ (List.mem_append_left _ (List.mem_of_getElem? (i := 138) rfl))))) | exact List.mem_of_getElem? (i := 1098) (by decide +kernel)), (by first | exact List.mem_append_right _ (List.mem_append_right _ (List.mem_append_right _ (List.mem_append_right _ (List.mem_append_left _ (List.mem_of_getElem? (i := 139) rfl))))) | exact List.mem_of_getElem? (i := 1099) (by decide +kernel))⟩
theorem lw_p51 : lw_okq (⟨"CutAtlasModel", "isWhole", "()Z"⟩, 34) := ⟨⟨by decide +kernel, by decide +kernel⟩, (by first | exact List.mem_append_right _ (List.mem_append_right _ (List.mem_append_right _ (List.mem_append_left _ (List.mem_of_getElem? (i := 100) rfl)))) | exact List.mem_of_getElem? (i := 820) (by decide +kernel)), (by first | exact List.mem_append_right _ (List.mem_append_right _ (List.mem_append_right _ (List.mem_append_right _ (List.mem_append_left _ (List.mem_of_getElem? (i := 146) rfl))))) | exact List.mem_of_getElem? (i := 1106) (by decide +kernel)), (by first | exact List.mem_append_right _ (List.mem_append_right _ (List.mem_append_right _ (List.mem_append_right _ (List.mem_append_left _ (List.mem_of_getElem? (i := 147) rfl))))) | exact List.mem_of_getElem? (i := 1107) (by decide +kernel))⟩
theorem lw_p52 : lw_okq (⟨"CutAtlasModel", "plants", "()V"⟩, 34) := ⟨⟨by decide +kernel, by decide +kernel⟩, (by first | exact List.mem_append_right _ (List.mem_append_right _ (List.mem_append_right _ (List.mem_append_left _ (List.mem_of_getElem? (i := 100) rfl)))) | exact List.mem_of_getElem? (i := 820) (by decide +kernel)), (by first | exact List.mem_append_right _ (List.mem_append_right _ (List.mem_append_right _ (List.mem_append_right _ (List.mem_append_left _ (List.mem_of_getElem? (i := 150) rfl))))) | exact List.mem_of_getElem? (i := 1110) (by decide +kernel)), (by first | exact List.mem_append_right _ (List.mem_append_right _ (List.mem_append_right _ (List.mem_append_right _ (List.mem_append_left _ (List.mem_of_getElem? (i := 151) rfl))))) | exact List.mem_of_getElem? (i := 1111) (by decide +kernel))⟩
theorem lw_p53 : lw_okq (⟨"CutAtlasModel", "leastOf", "()I"⟩, 34) := ⟨⟨by decide +kernel, by decide +kernel⟩, (by first | exact List.mem_append_right _ (List.mem_append_right _ (List.mem_append_right _ (List.mem_append_left _ (List.mem_of_getElem? (i := 100) rfl)))) | exact List.mem_of_getElem? (i := 820) (by decide +kernel)), (by first | exact List.mem_append_right _ (List.mem_append_right _ (List.mem_append_right _ (List.mem_append_right _ (List.mem_append_left _ (List.mem_of_getElem? (i := 162) rfl))))) | exact List.mem_of_getElem? (i := 1122) (by decide +kernel)), (by first | exact List.mem_append_right _ (List.mem_append_right _ (List.mem_append_right _ (List.mem_append_right _ (List.mem_append_left _ (List.mem_of_getElem? (i := 163) rfl))))) | exact List.mem_of_getElem? (i := 1123) (by decide +kernel))⟩
theorem lw_p54 : lw_okq (⟨"CutAtlasModel", "wholeCuts", "(I)V"⟩, 34) := ⟨⟨by decide +kernel, by decide +kernel⟩, (by first | exact List.mem_append_right _ (List.mem_append_right _ (List.mem_append_right _ (List.mem_append_left _ (List.mem_of_getElem? (i := 100) rfl)))) | exact List.mem_of_getElem? (i := 820) (by decide +kernel)), (by first | exact List.mem_append_right _ (List.mem_append_right _ (List.mem_append_right _ (List.mem_append_right _ (List.mem_append_left _ (List.mem_of_getElem? (i := 170) rfl))))) | exact List.mem_of_getElem? (i := 1130) (by decide +kernel)), (by first | exact List.mem_append_right _ (List.mem_append_right _ (List.mem_append_right _ (List.mem_append_right _ (List.mem_append_left _ (List.mem_of_getElem? (i := 171) rfl))))) | exact List.mem_of_getElem? (i := 1131) (by decide +kernel))⟩
theorem lw_p55 : lw_okq (⟨"CutAtlasModel", "no", "(I)I"⟩, 34) := ⟨⟨by decide +kernel, by decide +kernel⟩, (by first | exact List.mem_append_right _ (List.mem_append_right _ (List.mem_append_right _ (List.mem_append_left _ (List.mem_of_getElem? (i := 100) rfl)))) | exact List.mem_of_getElem? (i := 820) (by decide +kernel)), (by first | exact List.mem_append_right _ (List.mem_append_right _ (List.mem_append_right _ (List.mem_append_right _ (List.mem_append_left _ (List.mem_of_getElem? (i := 195) rfl))))) | exact List.mem_of_getElem? (i := 1155) (by decide +kernel)), (by first | exact List.mem_append_right _ (List.mem_append_right _ (List.mem_append_right _ (List.mem_append_right _ (List.mem_append_left _ (List.mem_of_getElem? (i := 196) rfl))))) | exact List.mem_of_getElem? (i := 1156) (by decide +kernel))⟩
theorem lw_p56 : lw_okq (⟨"CutAtlasModel", "wrong", "(IIII)I"⟩, 34) := ⟨⟨by decide +kernel, by decide +kernel⟩, (by first | exact List.mem_append_right _ (List.mem_append_right _ (List.mem_append_right _ (List.mem_append_left _ (List.mem_of_getElem? (i := 100) rfl)))) | exact List.mem_of_getElem? (i := 820) (by decide +kernel)), (by first | exact List.mem_append_right _ (List.mem_append_right _ (List.mem_append_right _ (List.mem_append_right _ (List.mem_append_left _ (List.mem_of_getElem? (i := 207) rfl))))) | exact List.mem_of_getElem? (i := 1167) (by decide +kernel)), (by first | exact List.mem_append_right _ (List.mem_append_right _ (List.mem_append_right _ (List.mem_append_right _ (List.mem_append_left _ (List.mem_of_getElem? (i := 208) rfl))))) | exact List.mem_of_getElem? (i := 1168) (by decide +kernel))⟩
noncomputable def lw_privs_4 : List (MethodName × Nat) := [(⟨"CutAtlasModel", "cheapWay", "(II)Z"⟩, 34), (⟨"CutAtlasModel", "step", "(IZ)J"⟩, 34), (⟨"CutAtlasModel", "amount", "(IZ)I"⟩, 34), (⟨"CutAtlasModel", "isWhole", "()Z"⟩, 34), (⟨"CutAtlasModel", "plants", "()V"⟩, 34), (⟨"CutAtlasModel", "leastOf", "()I"⟩, 34), (⟨"CutAtlasModel", "wholeCuts", "(I)V"⟩, 34), (⟨"CutAtlasModel", "no", "(I)I"⟩, 34), (⟨"CutAtlasModel", "wrong", "(IIII)I"⟩, 34)]
theorem lw_r4 : ∀ q ∈ lw_privs_4, lw_okq q := List.forall_mem_cons.mpr ⟨lw_p48, List.forall_mem_cons.mpr ⟨lw_p49, List.forall_mem_cons.mpr ⟨lw_p50, List.forall_mem_cons.mpr ⟨lw_p51, List.forall_mem_cons.mpr ⟨lw_p52, List.forall_mem_cons.mpr ⟨lw_p53, List.forall_mem_cons.mpr ⟨lw_p54, List.forall_mem_cons.mpr ⟨lw_p55, List.forall_mem_cons.mpr ⟨lw_p56, fun _ h => absurd h List.not_mem_nil⟩⟩⟩⟩⟩⟩⟩⟩⟩
noncomputable def lw_privs : List (MethodName × Nat) := lw_privs_1 ++ (lw_privs_2 ++ (lw_privs_3 ++ (lw_privs_4)))
noncomputable def lw_tbl : List Cond := k2_sels lw_privs ++ tables_1
theorem lw_privs_ok : ∀ q ∈ lw_privs, lw_okq q := by
  show ∀ q ∈ lw_privs_1 ++ (lw_privs_2 ++ (lw_privs_3 ++ (lw_privs_4))), lw_okq q
  exact List.forall_mem_append.mpr ⟨lw_r1, List.forall_mem_append.mpr ⟨lw_r2, List.forall_mem_append.mpr ⟨lw_r3, lw_r4⟩⟩⟩
end

section
/-! ===== BEGIN words of one list among another's, by their places ===== -/
theorem goodIn_r {big : List Cond} (ws : List Cond) (ps : List Nat) (hp : ws = ps.filterMap (fun i => big[i]?)) (h : ws.all goodWord = true) : GoodIn big ws := by
  intro w hw
  have h1 := List.all_eq_true.mp h w hw
  rw [hp] at hw
  obtain ⟨i, -, hi⟩ := List.mem_filterMap.mp hw
  have hm : w ∈ big := by first | exact List.mem_of_getElem? hi | exact List.getElem?_mem hi
  exact ⟨hm, good_of_word h1⟩
theorem goodIn_app {big a b : List Cond} (ha : GoodIn big a) (hb : GoodIn big b) : GoodIn big (a ++ b) := fun w h => (List.mem_append.mp h).elim (ha w) (hb w)
theorem goodIn_ca {big a b : List Cond} {c : Cond} (ha : GoodIn big (c :: a)) (hb : GoodIn big b) : GoodIn big (c :: (a ++ b)) := fun w h => (List.mem_cons.mp h).elim (fun e => ha w (List.mem_cons.mpr (Or.inl e))) (fun h => (List.mem_append.mp h).elim (fun h => ha w (List.mem_cons.mpr (Or.inr h))) (hb w))
theorem goodIn_sub {big ws : List Cond} (hm : ∀ w ∈ ws, w ∈ big) (h : ws.all goodWord = true) : GoodIn big ws := fun w hw => ⟨hm w hw, good_of_word (List.all_eq_true.mp h w hw)⟩
/-! ===== END ===== -/

noncomputable def va_AOA (t : FieldType) (U : State) : Prop := (Cond.arrayOver (.array t)).before #[] U = true
theorem va_AOA.use {t : FieldType} {A : Array Value} {U : State} (h : va_AOA t U) : (Cond.arrayOver (.array t)).before A U = true := h
theorem va_AOA.moved {t : FieldType} {u U : State} (hvm : u.vm.Alike U.vm) (h : va_AOA t u) : va_AOA t U := by
  obtain ⟨comp, c, k, h1, h2, h3, h4, h5⟩ := arrayOverA_spec h
  obtain ⟨k', hk', he⟩ := hvm.2.2 _ _ h3
  have hi : (U.vm.classes.findIdx? fun (x : Class) => match x.kind with | .array component _ => component == comp | _ => false) = some c := by
    have e1 := va_idx_bare U.vm comp
    have e2 := va_idx_bare u.vm comp
    have e3 : u.vm.bare = U.vm.bare := by first | exact hvm.bare_eq | exact hvm.bare_eq.symm
    rw [e3] at e2
    exact (e1.symm.trans e2).trans h2
  have hkind : k'.kind = .array comp (.array t) := by rw [he]; exact h4
  have f1 : U.vm.findClass (FieldType.array t).toString = some comp := by rw [hvm.findClass]; exact h1
  have f2 : U.vm.findClass ("[" ++ (FieldType.array t).toString) = some c := by rw [hvm.findClass]; exact h5
  unfold va_AOA Cond.before Cond.holds
  simp only [Cond.value]
  rw [f1, Option.bind_some]
  refine (congrArg (fun o : Option Nat => (o.bind (fun c => (U.vm.classes[c]?).map fun (k : Class) => match k.kind with | .array _ ty => decide (ty = FieldType.array t) && decide (U.vm.findClass ("[" ++ (FieldType.array t).toString) = some c) | _ => false) == some true)) hi).trans ?_
  simp [hk', hkind, f2]
/-! ===== BEGIN new T[n][m]: the outer array a place, the inner ones among the pooled ===== -/
/-- f, but v at every address of l -/
noncomputable def vr_up {α : Type} (f : Nat → α) (l : List Nat) (v : α) : Nat → α := fun a => if a ∈ l then v else f a
theorem vr_up_in {α : Type} {f : Nat → α} {l : List Nat} {v : α} {a : Nat} (h : a ∈ l) : vr_up f l v a = v := if_pos h
theorem vr_up_ne {α : Type} {f : Nat → α} {l : List Nat} {v : α} {a : Nat} (h : a ∉ l) : vr_up f l v a = f a := if_neg h
theorem vr_rows {L l : List Nat} {f : Nat → va_E} {e : va_E} (h : ∀ a, a ∈ l → a ∉ L) : va_pl L f ++ l.map (fun a => (a, e)) = va_pl (L ++ l) (vr_up f l e) := by
  unfold va_pl
  rw [List.map_append]
  congr 1
  · apply List.map_congr_left
    intro a ha
    rw [vr_up_ne (fun q => h a q ha)]
  · apply List.map_congr_left
    intro a ha
    rw [vr_up_in ha]
theorem vr_lay {X rows : va_W} {x : Nat × va_E} {pl : va_W} {D : va_G} {cl : List vw_C} {H : Heap} (hP : va_P D cl (((X ++ pl) ++ [x]) ++ rows) H) : va_P D cl ((X ++ [x]) ++ (pl ++ rows)) H := by
  rw [List.append_assoc (X ++ pl)] at hP
  have h := va_P.swap hP
  rw [← List.append_assoc X] at h
  have h2 := va_P.swap h
  rw [List.append_assoc (X ++ [x])] at h2
  exact h2
theorem vr_layD {X rows : va_W} {x : Nat × va_E} {pl : va_W} {A : Nat → Prop} (hD : va_D A (((X ++ pl) ++ [x]) ++ rows)) : va_D A ((X ++ [x]) ++ (pl ++ rows)) := by
  rw [List.append_assoc (X ++ pl)] at hD
  have h := va_D.swap hD
  rw [← List.append_assoc X] at h
  have h2 := va_D.swap h
  rw [List.append_assoc (X ++ [x])] at h2
  exact h2
theorem vr_outer (c : ClassId) (N h0 : Nat) : ∀ i : Nat, Jvm.Free.Multi.outerC c N h0 i = arrV c N (fun j => va_rf (if j < i then some (h0 + 1 + j) else none))
  | 0 => by
    show ({ cls := c, slots := Array.replicate N .null, vm := .none } : Cell) = _
    rw [arrV_new]
    refine congrArg (arrV c N) (funext fun j => ?_)
    simp [va_rf]
  | i + 1 => by
    show (Jvm.Free.Multi.outerC c N h0 i).setSlot i (.ref (h0 + 1 + i)) = _
    rw [vr_outer c N h0 i, arrV_store]
    refine congrArg (arrV c N) (funext fun j => ?_)
    by_cases e : j = i
    · subst e
      simp [updV, va_rf]
    · by_cases h : j < i
      · simp [updV, e, h, Nat.lt_succ_of_lt h]
      · simp [updV, e, h, show ¬ j < i + 1 by omega]
section VGM
variable {p : Program} {l : Launch} {e : Env} {R : Room} {s : State} {m : MethodId} {args : Array Value} {below : List Frame} {meth : Method} {c : Code} {H : Heap} {locs : List Loc} {cells slots : Nat} {Q : State → Prop}
variable {cc : ByteArray} {pc : Nat} {ls : Array Slot} {rest : List Value} {D : va_G} {cl : List vw_C} {A : Nat → Prop} {a : Nat} {tys : List (ClassId × FieldType)} {ws : va_W} {H0 : Heap}
theorem va_mna {X : va_W} {L : List Nat} {f : Nat → va_E} {cc : ByteArray} (hexec : p.tables.exec = Jvm.exec) (hb : c.code = cc) {own : String} {index : Nat} {ty : FieldType} {cy : ClassId} (hown : s.vm.findClass own = some m.cls) (hclink : (Cond.classLink own index ("[" ++ (FieldType.array ty).toString)).before args s = true) (hover : va_AOA ty s) (harr : (Cond.arrayClass ty).before args s = true) (hcy : s.vm.findClass (FieldType.array ty).toString = some cy)
    (hK : va_K D cl tys s) (hP : va_P D cl (X ++ va_pl L f) H) (hD : va_D A (X ++ va_pl L f)) (hS : va_S A H0 H locs) (hA : ∀ q, H0.size ≤ q → A q) {n k : Int32} {N' K' : Nat} {z : vp_A} (hn : ¬ n < 0) (hk : ¬ k < 0) (hN : n.toNatClampNeg = N') (hM : k.toNatClampNeg = K')
    (hb1 : N' * 4 ≤ 536870912) (hb2 : K' * componentBytes ty ≤ 536870912) (hb3 : K' ≤ 536870912) (hdf : fits ty (defaultValue ty) = true) (hdd : (defaultValue ty).isDefault = true) (hcells : cells + (1 + N') ≤ R.cells) (hslots : slots + (N' + N' * K') ≤ R.slots) (hz : ∀ c : ClassId, Jvm.Free.Multi.innerC c K' (defaultValue ty) = vp_cell c z) (hdg : decode cc pc = .ok (.multianewarray index 2, 4))
    (kk : ∀ (q : Nat) (r : Nat → Nat) (cA : ClassId) (H1 : Heap), (∀ i j : Nat, i < N' → j < N' → r i = r j → i = j) → (∀ i : Nat, i < N' → r i ∉ L) → va_K D cl (tys ++ [(cA, .array ty)]) s →
      va_P D cl ((X ++ [(q, .inl (cA, N', .inr (.inr (.inr (.inr (fun i => if i < N' then some (r i) else none))))))]) ++ va_pl (L ++ (List.range N').map r) (vr_up f ((List.range N').map r) (.inl (cy, z)))) H1 → va_D A ((X ++ [(q, .inl (cA, N', .inr (.inr (.inr (.inr (fun i => if i < N' then some (r i) else none))))))]) ++ va_pl (L ++ (List.range N').map r) (vr_up f ((List.range N').map r) (.inl (cy, z)))) → va_S A H0 H1 locs →
      W p l e R s m args below meth c H1 locs (cells + 1 + N') (slots + N' + N' * K') Q (F0 m (pc + 4) ls (.ref q :: rest))) : W p l e R s m args below meth c H locs cells slots Q (F0 m pc ls (.int k :: .int n :: rest)) := by
  subst hN
  subst hM
  intro T hT Xs
  obtain ⟨vm₁, cA, comp, -, fA, fC, hO, -, X', step⟩ := Xs.multianewarray2F hexec hown hclink (va_AOA.use hover) harr (g := F0 m pc ls (.int k :: .int n :: rest)) rfl (by rw [hb]; exact hdg) rfl hn hk hb1 hb2 hb3 hdf hdd hcells hslots
  have ec : some cy = some comp := hcy.symm.trans fC
  cases ec
  generalize hF : Jvm.Free.Multi.fill (T.setVm vm₁) cA cy n.toNatClampNeg k.toNatClampNeg (defaultValue ty) n.toNatClampNeg = F at X' step
  have hTh : (T.setVm vm₁).heap = H := hT
  obtain ⟨f1, f2, -, -⟩ := Jvm.Free.Multi.fill_facts (T.setVm vm₁) cA cy n.toNatClampNeg k.toNatClampNeg (defaultValue ty) n.toNatClampNeg
  rw [hF, hTh] at f1 f2
  have hold : ∀ x : Nat, x < H.size → F.heap[x]? = H[x]? := fun x hx => by
    have := Jvm.Free.Multi.fill_old (T.setVm vm₁) cA cy n.toNatClampNeg k.toNatClampNeg (defaultValue ty) (a := x) (by rw [hTh]; exact hx) n.toNatClampNeg
    rw [hF, hTh] at this
    exact this
  have hrow : ∀ j : Nat, j < n.toNatClampNeg → F.heap[H.size + 1 + j]? = some (vp_cell cy z) := fun j hj => by
    have := Jvm.Free.Multi.fill_inner (T.setVm vm₁) cA cy n.toNatClampNeg k.toNatClampNeg (defaultValue ty) n.toNatClampNeg j hj
    rw [hF, hTh, hz] at this
    exact this
  have hout : Jvm.Free.Multi.outerC cA n.toNatClampNeg H.size n.toNatClampNeg = vp_cell cA (n.toNatClampNeg, .inr (.inr (.inr (.inr (fun i => if i < n.toNatClampNeg then some (H.size + 1 + i) else none))))) := by
    rw [vp_cell_q]
    exact vr_outer cA n.toNatClampNeg H.size n.toNatClampNeg
  rw [hout] at f2
  have hlt : ∀ a, a ∈ L → a < H.size := fun a ha => by
    obtain ⟨k9, hk9⟩ := va_pl_get (X := X) (f := f) ha
    exact (hP k9 _ hk9).lt
  have hnl : ∀ i : Nat, i < n.toNatClampNeg → H.size + 1 + i ∉ L := fun i _ h => by
    have := hlt _ h
    omega
  have hnm : ∀ a, a ∈ (List.range n.toNatClampNeg).map (fun i => H.size + 1 + i) → a ∉ L := fun a ha h => by
    obtain ⟨i, -, rfl⟩ := List.mem_map.mp ha
    have := hlt _ h
    omega
  have hP0 : va_P D cl (X ++ va_pl L f) F.heap := hP.kept (fun k9 x hx => hold x.1 ((hP k9 x hx).lt))
  have hP1 : va_P D cl ((X ++ va_pl L f) ++ [(H.size, .inl (cA, n.toNatClampNeg, .inr (.inr (.inr (.inr (fun i => if i < n.toNatClampNeg then some (H.size + 1 + i) else none))))))]) F.heap := hP0.app (fun k9 x hx => by
    have h0 : k9 < 1 := (List.getElem?_eq_some_iff.mp hx).1
    rw [show k9 = 0 by omega] at hx
    cases hx
    exact f2)
  have hP2 : va_P D cl (((X ++ va_pl L f) ++ [(H.size, .inl (cA, n.toNatClampNeg, .inr (.inr (.inr (.inr (fun i => if i < n.toNatClampNeg then some (H.size + 1 + i) else none))))))]) ++ ((List.range n.toNatClampNeg).map (fun i => H.size + 1 + i)).map (fun a => (a, .inl (cy, z)))) F.heap := hP1.app (fun k9 x hx => by
    obtain ⟨a, ha, rfl⟩ := List.mem_map.mp (List.mem_of_getElem? hx)
    obtain ⟨i, hi, rfl⟩ := List.mem_map.mp ha
    exact hrow i (List.mem_range.mp hi))
  have hD2 : va_D A (((X ++ va_pl L f) ++ [(H.size, .inl (cA, n.toNatClampNeg, .inr (.inr (.inr (.inr (fun i => if i < n.toNatClampNeg then some (H.size + 1 + i) else none))))))]) ++ ((List.range n.toNatClampNeg).map (fun i => H.size + 1 + i)).map (fun a => (a, .inl (cy, z)))) := by
    have hD1 := hD.push (e := .inl (cA, n.toNatClampNeg, .inr (.inr (.inr (.inr (fun i => if i < n.toNatClampNeg then some (H.size + 1 + i) else none)))))) hP rfl (hA _ hS.1)
    generalize hW1 : (X ++ va_pl L f) ++ [(H.size, .inl (cA, n.toNatClampNeg, .inr (.inr (.inr (.inr (fun i => if i < n.toNatClampNeg then some (H.size + 1 + i) else none))))))] = W1 at hD1 hP1 ⊢
    have hle : ∀ (k9 : Nat) (x : Nat × va_E), W1[k9]? = some x → x.1 ≤ H.size := fun k9 x hx => by
      rw [← hW1] at hx
      by_cases hl : k9 < (X ++ va_pl L f).length
      · rw [List.getElem?_append_left hl] at hx
        exact Nat.le_of_lt ((hP k9 x hx).lt)
      · rw [List.getElem?_append_right (by omega)] at hx
        have h0 : k9 - (X ++ va_pl L f).length < 1 := (List.getElem?_eq_some_iff.mp hx).1
        rw [show k9 - (X ++ va_pl L f).length = 0 by omega] at hx
        cases hx
        exact Nat.le_refl _
    have hr : ∀ (k9 : Nat) (x : Nat × va_E), (((List.range n.toNatClampNeg).map (fun i => H.size + 1 + i)).map (fun a => ((a, .inl (cy, z)) : Nat × va_E)))[k9]? = some x → x.1 = H.size + 1 + k9 := fun k9 x hx => by
      rw [List.getElem?_map, List.getElem?_map] at hx
      by_cases h9 : k9 < n.toNatClampNeg
      · rw [List.getElem?_range h9] at hx
        cases hx
        rfl
      · have hn0 : (List.range n.toNatClampNeg)[k9]? = none := List.getElem?_eq_none (by rw [List.length_range]; omega)
        rw [hn0] at hx
        cases hx
    refine ⟨fun i j x y hi hj hxy => ?_, fun k9 x hx => ?_⟩
    · by_cases h1 : i < W1.length <;> by_cases h2 : j < W1.length
      · rw [List.getElem?_append_left h1] at hi
        rw [List.getElem?_append_left h2] at hj
        exact hD1.1 i j x y hi hj hxy
      · rw [List.getElem?_append_left h1] at hi
        rw [List.getElem?_append_right (by omega)] at hj
        have := hle _ _ hi
        have := hr _ _ hj
        omega
      · rw [List.getElem?_append_right (by omega)] at hi
        rw [List.getElem?_append_left h2] at hj
        have := hle _ _ hj
        have := hr _ _ hi
        omega
      · rw [List.getElem?_append_right (by omega)] at hi hj
        have := hr _ _ hi
        have := hr _ _ hj
        omega
    · by_cases h1 : k9 < W1.length
      · rw [List.getElem?_append_left h1] at hx
        exact hD1.2 k9 x hx
      · rw [List.getElem?_append_right (by omega)] at hx
        have := hr _ _ hx
        exact hA _ (by have := hS.1; omega)
  have hAr : ArrOfT s cA (.array ty) := fun N9 z9 => by
    obtain ⟨-, k9, hk9, cm9, hkk9⟩ := (hO 0 0 0).1
    exact ⟨(fun q hq => by cases hq), k9, hk9, cm9, hkk9⟩
  have hK2 : va_K D cl (tys ++ [(cA, .array ty)]) s := ⟨hK.1, fun k9 x hx => by
    by_cases hl : k9 < tys.length
    · rw [List.getElem?_append_left hl] at hx
      exact hK.2 k9 x hx
    · rw [List.getElem?_append_right (by omega)] at hx
      have h0 : k9 - tys.length < 1 := (List.getElem?_eq_some_iff.mp hx).1
      rw [show k9 - tys.length = 0 by omega] at hx
      cases hx
      exact ⟨hAr, fA⟩⟩
  obtain ⟨t, a1, b1⟩ := kk H.size (fun i => H.size + 1 + i) cA F.heap (fun i j _ _ h => by have h9 : H.size + 1 + i = H.size + 1 + j := h; omega) hnl hK2 (by rw [← vr_rows hnm]; exact vr_lay hP2) (by rw [← vr_rows hnm]; exact vr_layD hD2) ⟨by rw [f1]; have := hS.1; omega, fun x h1 h2 => (hold x (Nat.lt_of_lt_of_le h1 hS.1)).trans (hS.2.1 x h1 h2), hS.2.2⟩ F rfl X'
  refine ⟨t, step t ?_, b1⟩
  have e : T.heap.size = H.size := by rw [hT]
  rw [e]
  exact a1
end VGM
/-! ===== END ===== -/
end

section
noncomputable def RX0 : String := "CutAtlas$Current"
noncomputable def TX0 : u_T := fun k => match k with
  | 0 => ("CutAtlas$Current", "net", "LCutAtlas$Net;", true)
  | 1 => ("CutAtlas$Current", "kinds", "[LCutAtlas$PlainKind;", true)
  | 2 => ("CutAtlas$Current", "lets", "[[I", true)
  | 3 => ("CutAtlas$Current", "room", "[[I", true)
  | 4 => ("CutAtlas$Current", "flowing", "[I", true)
  | 5 => ("CutAtlas$Current", "letsForth", "[I", true)
  | 6 => ("CutAtlas$Current", "letsBack", "[I", true)
  | 7 => ("CutAtlas$Current", "queue", "[I", true)
  | _ => ("CutAtlas$Current", "cameFrom", "[I", true)
noncomputable def tyX0 : Nat → FieldType := fun k => match k with
  | 0 => .object "CutAtlas$Net"
  | 1 => .array (.object "CutAtlas$PlainKind")
  | 2 => .array (.array .int)
  | 3 => .array (.array .int)
  | 4 => .array .int
  | 5 => .array .int
  | 6 => .array .int
  | 7 => .array .int
  | _ => .array .int
noncomputable abbrev wsX00 : List Cond := u_ws RX0 TX0 9
theorem nmX0 : ∀ a, a < 9 → ∀ b, b < 9 → a ≠ b → (TX0 a).2.1 ≠ (TX0 b).2.1 := by decide +kernel
theorem tyX0_ok : ∀ k, k < 9 → parseFieldDescriptor (TX0 k).2.2.1 = some (tyX0 k) := by decide +kernel
noncomputable abbrev cX0_init : ByteArray := prog_2_method_1_code
noncomputable def yX0_init : MethodName := ⟨RX0, "<init>", "(LCutAtlas$Net;[LCutAtlas$PlainKind;)V"⟩
noncomputable abbrev cX0_load : ByteArray := prog_2_method_2_code
noncomputable def yX0_load : MethodName := ⟨RX0, "load", "(I)V"⟩
noncomputable abbrev cX0_asRoom : ByteArray := prog_2_method_3_code
noncomputable def yX0_asRoom : MethodName := ⟨RX0, "asRoom", "(I)I"⟩
noncomputable abbrev cX0_fill : ByteArray := prog_2_method_4_code
noncomputable def yX0_fill : MethodName := ⟨RX0, "fill", "(II)I"⟩
noncomputable abbrev cX0_findWay : ByteArray := prog_2_method_5_code
noncomputable def yX0_findWay : MethodName := ⟨RX0, "findWay", "(II)Z"⟩
noncomputable abbrev cX0_sendAlongWay : ByteArray := prog_2_method_6_code
noncomputable def yX0_sendAlongWay : MethodName := ⟨RX0, "sendAlongWay", "(II)I"⟩
noncomputable abbrev cX0_sendOver : ByteArray := prog_2_method_7_code
noncomputable def yX0_sendOver : MethodName := ⟨RX0, "sendOver", "(III)V"⟩
noncomputable abbrev cX0_nearCut : ByteArray := prog_2_method_8_code
noncomputable def yX0_nearCut : MethodName := ⟨RX0, "nearCut", "(I)I"⟩
noncomputable abbrev cX0_farCut : ByteArray := prog_2_method_9_code
noncomputable def yX0_farCut : MethodName := ⟨RX0, "farCut", "(I)I"⟩
noncomputable abbrev cX0_reachedFrom : ByteArray := prog_2_method_10_code
noncomputable def yX0_reachedFrom : MethodName := ⟨RX0, "reachedFrom", "(II)I"⟩
noncomputable abbrev cX0_reaching : ByteArray := prog_2_method_11_code
noncomputable def yX0_reaching : MethodName := ⟨RX0, "reaching", "(I)I"⟩
noncomputable abbrev cX0_leaving : ByteArray := prog_2_method_12_code
noncomputable def yX0_leaving : MethodName := ⟨RX0, "leaving", "(I)I"⟩
noncomputable abbrev cX0_betweenSets : ByteArray := prog_2_method_13_code
noncomputable def yX0_betweenSets : MethodName := ⟨RX0, "betweenSets", "(II)I"⟩
noncomputable def RX1 : String := "CutAtlas$CutTree"
noncomputable def TX1 : u_T := fun k => match k with
  | 0 => ("CutAtlas$CutTree", "current", "LCutAtlas$Current;", true)
  | 1 => ("CutAtlas$CutTree", "nexts", "[I", true)
  | _ => ("CutAtlas$CutTree", "numbers", "[I", true)
noncomputable def tyX1 : Nat → FieldType := fun k => match k with
  | 0 => .object "CutAtlas$Current"
  | 1 => .array .int
  | _ => .array .int
noncomputable abbrev wsX10 : List Cond := u_ws RX1 TX1 3
theorem nmX1 : ∀ a, a < 3 → ∀ b, b < 3 → a ≠ b → (TX1 a).2.1 ≠ (TX1 b).2.1 := by decide +kernel
theorem tyX1_ok : ∀ k, k < 3 → parseFieldDescriptor (TX1 k).2.2.1 = some (tyX1 k) := by decide +kernel
noncomputable abbrev cX1_init : ByteArray := prog_3_method_1_code
noncomputable def yX1_init : MethodName := ⟨RX1, "<init>", "(LCutAtlas$Current;)V"⟩
noncomputable abbrev cX1_grow : ByteArray := prog_3_method_2_code
noncomputable def yX1_grow : MethodName := ⟨RX1, "grow", "()V"⟩
noncomputable abbrev cX1_hang : ByteArray := prog_3_method_3_code
noncomputable def yX1_hang : MethodName := ⟨RX1, "hang", "(I)V"⟩
noncomputable abbrev cX1_leastOnWay : ByteArray := prog_3_method_4_code
noncomputable def yX1_leastOnWay : MethodName := ⟨RX1, "leastOnWay", "(II)I"⟩
noncomputable abbrev cX1_stepsToRoot : ByteArray := prog_3_method_5_code
noncomputable def yX1_stepsToRoot : MethodName := ⟨RX1, "stepsToRoot", "(I)I"⟩
noncomputable abbrev cX1_leastNumber : ByteArray := prog_3_method_6_code
noncomputable def yX1_leastNumber : MethodName := ⟨RX1, "leastNumber", "()I"⟩
noncomputable abbrev cX1_leastAlike : ByteArray := prog_3_method_7_code
noncomputable def yX1_leastAlike : MethodName := ⟨RX1, "leastAlike", "(II)I"⟩
noncomputable abbrev cX1_partsBelow : ByteArray := prog_3_method_8_code
noncomputable def yX1_partsBelow : MethodName := ⟨RX1, "partsBelow", "(II)I"⟩
noncomputable def RX2 : String := "CutAtlas$DearKind"
noncomputable def TX2 : u_T := fun k => match k with
  | _ => ("", "", "", false)
noncomputable def tyX2 : Nat → FieldType := fun k => match k with
  | _ => .int
noncomputable abbrev wsX20 : List Cond := u_ws RX2 TX2 0
theorem nmX2 : ∀ a, a < 0 → ∀ b, b < 0 → a ≠ b → (TX2 a).2.1 ≠ (TX2 b).2.1 := by decide +kernel
theorem tyX2_ok : ∀ k, k < 0 → parseFieldDescriptor (TX2 k).2.2.1 = some (tyX2 k) := by decide +kernel
noncomputable abbrev cX2_init : ByteArray := prog_4_method_1_code
noncomputable def yX2_init : MethodName := ⟨RX2, "<init>", "()V"⟩
noncomputable abbrev cX2_costs : ByteArray := prog_4_method_2_code
noncomputable def yX2_costs : MethodName := ⟨RX2, "costs", "(I)I"⟩
noncomputable abbrev cX2_costsMark : ByteArray := prog_4_method_3_code
noncomputable def yX2_costsMark : MethodName := ⟨RX2, "costsMark", "()I"⟩
noncomputable def RX3 : String := "CutAtlas$Net"
noncomputable def TX3 : u_T := fun k => match k with
  | 0 => ("CutAtlas$Net", "places", "I", false)
  | 1 => ("CutAtlas$Net", "lines", "I", false)
  | 2 => ("CutAtlas$Net", "kinds", "[I", true)
  | 3 => ("CutAtlas$Net", "starts", "[I", true)
  | 4 => ("CutAtlas$Net", "ends", "[I", true)
  | 5 => ("CutAtlas$Net", "widths", "[I", true)
  | _ => ("CutAtlas$Net", "prices", "[I", true)
noncomputable def tyX3 : Nat → FieldType := fun k => match k with
  | 0 => .int
  | 1 => .int
  | 2 => .array .int
  | 3 => .array .int
  | 4 => .array .int
  | 5 => .array .int
  | _ => .array .int
noncomputable abbrev wsX30 : List Cond := u_ws RX3 TX3 7
theorem nmX3 : ∀ a, a < 7 → ∀ b, b < 7 → a ≠ b → (TX3 a).2.1 ≠ (TX3 b).2.1 := by decide +kernel
theorem tyX3_ok : ∀ k, k < 7 → parseFieldDescriptor (TX3 k).2.2.1 = some (tyX3 k) := by decide +kernel
noncomputable abbrev cX3_init : ByteArray := prog_5_method_1_code
noncomputable def yX3_init : MethodName := ⟨RX3, "<init>", "()V"⟩
noncomputable abbrev cX3_hasPlace : ByteArray := prog_5_method_2_code
noncomputable def yX3_hasPlace : MethodName := ⟨RX3, "hasPlace", "(J)Z"⟩
noncomputable abbrev cX3_hasPair : ByteArray := prog_5_method_3_code
noncomputable def yX3_hasPair : MethodName := ⟨RX3, "hasPair", "(JJ)Z"⟩
noncomputable abbrev cX3_hasLine : ByteArray := prog_5_method_4_code
noncomputable def yX3_hasLine : MethodName := ⟨RX3, "hasLine", "(I)Z"⟩
noncomputable abbrev cX3_isMissing : ByteArray := prog_5_method_5_code
noncomputable def yX3_isMissing : MethodName := ⟨RX3, "isMissing", "(I)Z"⟩
noncomputable abbrev cX3_missingLines : ByteArray := prog_5_method_6_code
noncomputable def yX3_missingLines : MethodName := ⟨RX3, "missingLines", "()I"⟩
noncomputable abbrev cX3_isWhole : ByteArray := prog_5_method_7_code
noncomputable def yX3_isWhole : MethodName := ⟨RX3, "isWhole", "()Z"⟩
noncomputable abbrev cX3_append : ByteArray := prog_5_method_8_code
noncomputable def yX3_append : MethodName := ⟨RX3, "append", "(IIIII)I"⟩
noncomputable abbrev cX3_join : ByteArray := prog_5_method_9_code
noncomputable def yX3_join : MethodName := ⟨RX3, "join", "(II)I"⟩
noncomputable abbrev cX3_renumbered : ByteArray := prog_5_method_10_code
noncomputable def yX3_renumbered : MethodName := ⟨RX3, "renumbered", "(III)I"⟩
noncomputable abbrev cX3_become : ByteArray := prog_5_method_11_code
noncomputable def yX3_become : MethodName := ⟨RX3, "become", "(LCutAtlas$Net;)V"⟩
noncomputable def RX4 : String := "CutAtlas$NumberMap"
noncomputable def TX4 : u_T := fun k => match k with
  | 0 => ("CutAtlas$NumberMap", "kind", "I", false)
  | 1 => ("CutAtlas$NumberMap", "rows", "I", false)
  | 2 => ("CutAtlas$NumberMap", "lengths", "[I", true)
  | _ => ("CutAtlas$NumberMap", "numbers", "[J", true)
noncomputable def tyX4 : Nat → FieldType := fun k => match k with
  | 0 => .int
  | 1 => .int
  | 2 => .array .int
  | _ => .array .long
noncomputable abbrev wsX40 : List Cond := u_ws RX4 TX4 4
theorem nmX4 : ∀ a, a < 4 → ∀ b, b < 4 → a ≠ b → (TX4 a).2.1 ≠ (TX4 b).2.1 := by decide +kernel
theorem tyX4_ok : ∀ k, k < 4 → parseFieldDescriptor (TX4 k).2.2.1 = some (tyX4 k) := by decide +kernel
noncomputable abbrev cX4_init : ByteArray := prog_6_method_1_code
noncomputable def yX4_init : MethodName := ⟨RX4, "<init>", "()V"⟩
noncomputable abbrev cX4_isThere : ByteArray := prog_6_method_2_code
noncomputable def yX4_isThere : MethodName := ⟨RX4, "isThere", "()Z"⟩
noncomputable abbrev cX4_hasRow : ByteArray := prog_6_method_3_code
noncomputable def yX4_hasRow : MethodName := ⟨RX4, "hasRow", "(I)Z"⟩
noncomputable abbrev cX4_begin : ByteArray := prog_6_method_4_code
noncomputable def yX4_begin : MethodName := ⟨RX4, "begin", "(II)V"⟩
noncomputable abbrev cX4_beginRow : ByteArray := prog_6_method_5_code
noncomputable def yX4_beginRow : MethodName := ⟨RX4, "beginRow", "(II)V"⟩
noncomputable abbrev cX4_store : ByteArray := prog_6_method_6_code
noncomputable def yX4_store : MethodName := ⟨RX4, "store", "(IIJ)V"⟩
noncomputable abbrev cX4_number : ByteArray := prog_6_method_7_code
noncomputable def yX4_number : MethodName := ⟨RX4, "number", "(II)J"⟩
noncomputable abbrev cX4_whole : ByteArray := prog_6_method_8_code
noncomputable def yX4_whole : MethodName := ⟨RX4, "whole", "(II)I"⟩
noncomputable abbrev cX4_moveRefusal : ByteArray := prog_6_method_9_code
noncomputable def yX4_moveRefusal : MethodName := ⟨RX4, "moveRefusal", "(IIIII)I"⟩
noncomputable abbrev cX4_hasNumbers : ByteArray := prog_6_method_10_code
noncomputable def yX4_hasNumbers : MethodName := ⟨RX4, "hasNumbers", "(III)Z"⟩
noncomputable abbrev cX4_move : ByteArray := prog_6_method_11_code
noncomputable def yX4_move : MethodName := ⟨RX4, "move", "(IIIII)V"⟩
noncomputable def RX5 : String := "CutAtlas$OnewayKind"
noncomputable def TX5 : u_T := fun k => match k with
  | _ => ("", "", "", false)
noncomputable def tyX5 : Nat → FieldType := fun k => match k with
  | _ => .int
noncomputable abbrev wsX50 : List Cond := u_ws RX5 TX5 0
theorem nmX5 : ∀ a, a < 0 → ∀ b, b < 0 → a ≠ b → (TX5 a).2.1 ≠ (TX5 b).2.1 := by decide +kernel
theorem tyX5_ok : ∀ k, k < 0 → parseFieldDescriptor (TX5 k).2.2.1 = some (tyX5 k) := by decide +kernel
noncomputable abbrev cX5_init : ByteArray := prog_7_method_1_code
noncomputable def yX5_init : MethodName := ⟨RX5, "<init>", "()V"⟩
noncomputable abbrev cX5_lets : ByteArray := prog_7_method_2_code
noncomputable def yX5_lets : MethodName := ⟨RX5, "lets", "(IZ)I"⟩
noncomputable abbrev cX5_letsMark : ByteArray := prog_7_method_3_code
noncomputable def yX5_letsMark : MethodName := ⟨RX5, "letsMark", "(Z)I"⟩
noncomputable def RX6 : String := "CutAtlas$PlainKind"
noncomputable def TX6 : u_T := fun k => match k with
  | _ => ("", "", "", false)
noncomputable def tyX6 : Nat → FieldType := fun k => match k with
  | _ => .int
noncomputable abbrev wsX60 : List Cond := u_ws RX6 TX6 0
theorem nmX6 : ∀ a, a < 0 → ∀ b, b < 0 → a ≠ b → (TX6 a).2.1 ≠ (TX6 b).2.1 := by decide +kernel
theorem tyX6_ok : ∀ k, k < 0 → parseFieldDescriptor (TX6 k).2.2.1 = some (tyX6 k) := by decide +kernel
noncomputable abbrev cX6_init : ByteArray := prog_8_method_1_code
noncomputable def yX6_init : MethodName := ⟨RX6, "<init>", "()V"⟩
noncomputable abbrev cX6_lets : ByteArray := prog_8_method_2_code
noncomputable def yX6_lets : MethodName := ⟨RX6, "lets", "(IZ)I"⟩
noncomputable abbrev cX6_letsMark : ByteArray := prog_8_method_3_code
noncomputable def yX6_letsMark : MethodName := ⟨RX6, "letsMark", "(Z)I"⟩
noncomputable abbrev cX6_costs : ByteArray := prog_8_method_4_code
noncomputable def yX6_costs : MethodName := ⟨RX6, "costs", "(I)I"⟩
noncomputable abbrev cX6_costsMark : ByteArray := prog_8_method_5_code
noncomputable def yX6_costsMark : MethodName := ⟨RX6, "costsMark", "()I"⟩
noncomputable abbrev cX6_begins : ByteArray := prog_8_method_6_code
noncomputable def yX6_begins : MethodName := ⟨RX6, "begins", "(I)I"⟩
noncomputable abbrev cX6_beginsMark : ByteArray := prog_8_method_7_code
noncomputable def yX6_beginsMark : MethodName := ⟨RX6, "beginsMark", "()I"⟩
noncomputable def RX7 : String := "CutAtlas$SetHunt"
noncomputable def TX7 : u_T := fun k => match k with
  | 0 => ("CutAtlas$SetHunt", "current", "LCutAtlas$Current;", true)
  | 1 => ("CutAtlas$SetHunt", "must", "I", false)
  | 2 => ("CutAtlas$SetHunt", "mustNot", "I", false)
  | 3 => ("CutAtlas$SetHunt", "aim", "I", false)
  | 4 => ("CutAtlas$SetHunt", "wanted", "I", false)
  | 5 => ("CutAtlas$SetHunt", "met", "I", false)
  | 6 => ("CutAtlas$SetHunt", "found", "I", false)
  | 7 => ("CutAtlas$SetHunt", "denseSet", "I", false)
  | _ => ("CutAtlas$SetHunt", "denseSum", "I", false)
noncomputable def tyX7 : Nat → FieldType := fun k => match k with
  | 0 => .object "CutAtlas$Current"
  | 1 => .int
  | 2 => .int
  | 3 => .int
  | 4 => .int
  | 5 => .int
  | 6 => .int
  | 7 => .int
  | _ => .int
noncomputable abbrev wsX70 : List Cond := u_ws RX7 TX7 9
theorem nmX7 : ∀ a, a < 9 → ∀ b, b < 9 → a ≠ b → (TX7 a).2.1 ≠ (TX7 b).2.1 := by decide +kernel
theorem tyX7_ok : ∀ k, k < 9 → parseFieldDescriptor (TX7 k).2.2.1 = some (tyX7 k) := by decide +kernel
noncomputable abbrev cX7_init : ByteArray := prog_9_method_1_code
noncomputable def yX7_init : MethodName := ⟨RX7, "<init>", "(LCutAtlas$Current;)V"⟩
noncomputable abbrev cX7_countCuts : ByteArray := prog_9_method_2_code
noncomputable def yX7_countCuts : MethodName := ⟨RX7, "countCuts", "(III)I"⟩
noncomputable abbrev cX7_findCut : ByteArray := prog_9_method_3_code
noncomputable def yX7_findCut : MethodName := ⟨RX7, "findCut", "(IIII)I"⟩
noncomputable abbrev cX7_hunt : ByteArray := prog_9_method_4_code
noncomputable def yX7_hunt : MethodName := ⟨RX7, "hunt", "(IIII)V"⟩
noncomputable abbrev cX7_chooseForCut : ByteArray := prog_9_method_5_code
noncomputable def yX7_chooseForCut : MethodName := ⟨RX7, "chooseForCut", "(III)V"⟩
noncomputable abbrev cX7_meet : ByteArray := prog_9_method_6_code
noncomputable def yX7_meet : MethodName := ⟨RX7, "meet", "(II)V"⟩
noncomputable abbrev cX7_letIn : ByteArray := prog_9_method_7_code
noncomputable def yX7_letIn : MethodName := ⟨RX7, "letIn", "(II)I"⟩
noncomputable abbrev cX7_letOut : ByteArray := prog_9_method_8_code
noncomputable def yX7_letOut : MethodName := ⟨RX7, "letOut", "(II)I"⟩
noncomputable abbrev cX7_findDensest : ByteArray := prog_9_method_9_code
noncomputable def yX7_findDensest : MethodName := ⟨RX7, "findDensest", "()V"⟩
noncomputable abbrev cX7_chooseForDense : ByteArray := prog_9_method_10_code
noncomputable def yX7_chooseForDense : MethodName := ⟨RX7, "chooseForDense", "(III)V"⟩
noncomputable abbrev cX7_compareDense : ByteArray := prog_9_method_11_code
noncomputable def yX7_compareDense : MethodName := ⟨RX7, "compareDense", "(II)V"⟩
noncomputable def RX8 : String := "CutAtlas$ShutKind"
noncomputable def TX8 : u_T := fun k => match k with
  | _ => ("", "", "", false)
noncomputable def tyX8 : Nat → FieldType := fun k => match k with
  | _ => .int
noncomputable abbrev wsX80 : List Cond := u_ws RX8 TX8 0
theorem nmX8 : ∀ a, a < 0 → ∀ b, b < 0 → a ≠ b → (TX8 a).2.1 ≠ (TX8 b).2.1 := by decide +kernel
theorem tyX8_ok : ∀ k, k < 0 → parseFieldDescriptor (TX8 k).2.2.1 = some (tyX8 k) := by decide +kernel
noncomputable abbrev cX8_init : ByteArray := prog_10_method_1_code
noncomputable def yX8_init : MethodName := ⟨RX8, "<init>", "()V"⟩
noncomputable abbrev cX8_costs : ByteArray := prog_10_method_2_code
noncomputable def yX8_costs : MethodName := ⟨RX8, "costs", "(I)I"⟩
noncomputable abbrev cX8_costsMark : ByteArray := prog_10_method_3_code
noncomputable def yX8_costsMark : MethodName := ⟨RX8, "costsMark", "()I"⟩
noncomputable abbrev cX8_begins : ByteArray := prog_10_method_4_code
noncomputable def yX8_begins : MethodName := ⟨RX8, "begins", "(I)I"⟩
noncomputable abbrev cX8_beginsMark : ByteArray := prog_10_method_5_code
noncomputable def yX8_beginsMark : MethodName := ⟨RX8, "beginsMark", "()I"⟩
noncomputable def RX9 : String := "CutAtlas$StrongKind"
noncomputable def TX9 : u_T := fun k => match k with
  | _ => ("", "", "", false)
noncomputable def tyX9 : Nat → FieldType := fun k => match k with
  | _ => .int
noncomputable abbrev wsX90 : List Cond := u_ws RX9 TX9 0
theorem nmX9 : ∀ a, a < 0 → ∀ b, b < 0 → a ≠ b → (TX9 a).2.1 ≠ (TX9 b).2.1 := by decide +kernel
theorem tyX9_ok : ∀ k, k < 0 → parseFieldDescriptor (TX9 k).2.2.1 = some (tyX9 k) := by decide +kernel
noncomputable abbrev cX9_init : ByteArray := prog_11_method_1_code
noncomputable def yX9_init : MethodName := ⟨RX9, "<init>", "()V"⟩
noncomputable abbrev cX9_lets : ByteArray := prog_11_method_2_code
noncomputable def yX9_lets : MethodName := ⟨RX9, "lets", "(IZ)I"⟩
noncomputable abbrev cX9_letsMark : ByteArray := prog_11_method_3_code
noncomputable def yX9_letsMark : MethodName := ⟨RX9, "letsMark", "(Z)I"⟩
noncomputable def RX10 : String := "CutAtlas$Widening"
noncomputable def TX10 : u_T := fun k => match k with
  | 0 => ("CutAtlas$Widening", "current", "LCutAtlas$Current;", true)
  | 1 => ("CutAtlas$Widening", "kinds", "[LCutAtlas$PlainKind;", true)
  | 2 => ("CutAtlas$Widening", "prices", "[[I", true)
  | 3 => ("CutAtlas$Widening", "costs", "[I", true)
  | _ => ("CutAtlas$Widening", "cameFrom", "[I", true)
noncomputable def tyX10 : Nat → FieldType := fun k => match k with
  | 0 => .object "CutAtlas$Current"
  | 1 => .array (.object "CutAtlas$PlainKind")
  | 2 => .array (.array .int)
  | 3 => .array .int
  | _ => .array .int
noncomputable abbrev wsX100 : List Cond := u_ws RX10 TX10 5
theorem nmX10 : ∀ a, a < 5 → ∀ b, b < 5 → a ≠ b → (TX10 a).2.1 ≠ (TX10 b).2.1 := by decide +kernel
theorem tyX10_ok : ∀ k, k < 5 → parseFieldDescriptor (TX10 k).2.2.1 = some (tyX10 k) := by decide +kernel
noncomputable abbrev cX10_init : ByteArray := prog_12_method_1_code
noncomputable def yX10_init : MethodName := ⟨RX10, "<init>", "(LCutAtlas$Current;[LCutAtlas$PlainKind;)V"⟩
noncomputable abbrev cX10_pay : ByteArray := prog_12_method_2_code
noncomputable def yX10_pay : MethodName := ⟨RX10, "pay", "(III)I"⟩
noncomputable abbrev cX10_findPrices : ByteArray := prog_12_method_3_code
noncomputable def yX10_findPrices : MethodName := ⟨RX10, "findPrices", "()V"⟩
noncomputable abbrev cX10_findCosts : ByteArray := prog_12_method_4_code
noncomputable def yX10_findCosts : MethodName := ⟨RX10, "findCosts", "(I)V"⟩
noncomputable abbrev cX10_lookFrom : ByteArray := prog_12_method_5_code
noncomputable def yX10_lookFrom : MethodName := ⟨RX10, "lookFrom", "(I)Z"⟩
noncomputable abbrev cX10_stepCosts : ByteArray := prog_12_method_6_code
noncomputable def yX10_stepCosts : MethodName := ⟨RX10, "stepCosts", "(II)I"⟩
noncomputable abbrev cX10_stepRoom : ByteArray := prog_12_method_7_code
noncomputable def yX10_stepRoom : MethodName := ⟨RX10, "stepRoom", "(II)I"⟩
noncomputable abbrev cX10_roomOfWay : ByteArray := prog_12_method_8_code
noncomputable def yX10_roomOfWay : MethodName := ⟨RX10, "roomOfWay", "(III)I"⟩
noncomputable abbrev cX10_sendAlongWay : ByteArray := prog_12_method_9_code
noncomputable def yX10_sendAlongWay : MethodName := ⟨RX10, "sendAlongWay", "(III)V"⟩
noncomputable def RX11 : String := "CutAtlas"
noncomputable def TX11 : u_T := fun k => match k with
  | 0 => ("CutAtlas", "kinds", "[LCutAtlas$PlainKind;", true)
  | 1 => ("CutAtlas", "net", "LCutAtlas$Net;", true)
  | 2 => ("CutAtlas", "current", "LCutAtlas$Current;", true)
  | 3 => ("CutAtlas", "hunt", "LCutAtlas$SetHunt;", true)
  | 4 => ("CutAtlas", "cutTree", "LCutAtlas$CutTree;", true)
  | 5 => ("CutAtlas", "widening", "LCutAtlas$Widening;", true)
  | 6 => ("CutAtlas", "maps", "[LCutAtlas$NumberMap;", true)
  | 7 => ("CutAtlas", "past", "[LCutAtlas$Net;", true)
  | 8 => ("CutAtlas", "pastFirst", "I", false)
  | 9 => ("CutAtlas", "pastHeld", "I", false)
  | 10 => ("CutAtlas", "traced", "J", false)
  | _ => ("CutAtlas", "finding", "I", false)
noncomputable def tyX11 : Nat → FieldType := fun k => match k with
  | 0 => .array (.object "CutAtlas$PlainKind")
  | 1 => .object "CutAtlas$Net"
  | 2 => .object "CutAtlas$Current"
  | 3 => .object "CutAtlas$SetHunt"
  | 4 => .object "CutAtlas$CutTree"
  | 5 => .object "CutAtlas$Widening"
  | 6 => .array (.object "CutAtlas$NumberMap")
  | 7 => .array (.object "CutAtlas$Net")
  | 8 => .int
  | 9 => .int
  | 10 => .long
  | _ => .int
noncomputable abbrev wsX110 : List Cond := u_ws RX11 TX11 12
theorem nmX11 : ∀ a, a < 12 → ∀ b, b < 12 → a ≠ b → (TX11 a).2.1 ≠ (TX11 b).2.1 := by decide +kernel
theorem tyX11_ok : ∀ k, k < 12 → parseFieldDescriptor (TX11 k).2.2.1 = some (tyX11 k) := by decide +kernel
noncomputable abbrev cX11_init : ByteArray := prog_1_method_1_code
noncomputable def yX11_init : MethodName := ⟨RX11, "<init>", "()V"⟩
noncomputable abbrev cX11_place : ByteArray := prog_1_method_2_code
noncomputable def yX11_place : MethodName := ⟨RX11, "place", "()I"⟩
noncomputable abbrev cX11_line : ByteArray := prog_1_method_3_code
noncomputable def yX11_line : MethodName := ⟨RX11, "line", "(IIIII)I"⟩
noncomputable abbrev cX11_widen : ByteArray := prog_1_method_4_code
noncomputable def yX11_widen : MethodName := ⟨RX11, "widen", "(II)I"⟩
noncomputable abbrev cX11_width : ByteArray := prog_1_method_5_code
noncomputable def yX11_width : MethodName := ⟨RX11, "width", "(II)I"⟩
noncomputable abbrev cX11_merge : ByteArray := prog_1_method_6_code
noncomputable def yX11_merge : MethodName := ⟨RX11, "merge", "(II)I"⟩
noncomputable abbrev cX11_undo : ByteArray := prog_1_method_7_code
noncomputable def yX11_undo : MethodName := ⟨RX11, "undo", "()I"⟩
noncomputable abbrev cX11_told : ByteArray := prog_1_method_8_code
noncomputable def yX11_told : MethodName := ⟨RX11, "told", "(II)I"⟩
noncomputable abbrev cX11_ask : ByteArray := prog_1_method_9_code
noncomputable def yX11_ask : MethodName := ⟨RX11, "ask", "(II)I"⟩
noncomputable abbrev cX11_most : ByteArray := prog_1_method_10_code
noncomputable def yX11_most : MethodName := ⟨RX11, "most", "(II)I"⟩
noncomputable abbrev cX11_flow : ByteArray := prog_1_method_11_code
noncomputable def yX11_flow : MethodName := ⟨RX11, "flow", "(III)I"⟩
noncomputable abbrev cX11_cut : ByteArray := prog_1_method_12_code
noncomputable def yX11_cut : MethodName := ⟨RX11, "cut", "(III)I"⟩
noncomputable abbrev cX11_count : ByteArray := prog_1_method_13_code
noncomputable def yX11_count : MethodName := ⟨RX11, "count", "(II)I"⟩
noncomputable abbrev cX11_next : ByteArray := prog_1_method_14_code
noncomputable def yX11_next : MethodName := ⟨RX11, "next", "(III)I"⟩
noncomputable abbrev cX11_size : ByteArray := prog_1_method_15_code
noncomputable def yX11_size : MethodName := ⟨RX11, "size", "(III)I"⟩
noncomputable abbrev cX11_raise : ByteArray := prog_1_method_16_code
noncomputable def yX11_raise : MethodName := ⟨RX11, "raise", "(III)I"⟩
noncomputable abbrev cX11_cheapest : ByteArray := prog_1_method_17_code
noncomputable def yX11_cheapest : MethodName := ⟨RX11, "cheapest", "(III)I"⟩
noncomputable abbrev cX11_tree : ByteArray := prog_1_method_18_code
noncomputable def yX11_tree : MethodName := ⟨RX11, "tree", "(II)I"⟩
noncomputable abbrev cX11_between : ByteArray := prog_1_method_19_code
noncomputable def yX11_between : MethodName := ⟨RX11, "between", "(II)I"⟩
noncomputable abbrev cX11_least : ByteArray := prog_1_method_20_code
noncomputable def yX11_least : MethodName := ⟨RX11, "least", "()I"⟩
noncomputable abbrev cX11_cuts : ByteArray := prog_1_method_21_code
noncomputable def yX11_cuts : MethodName := ⟨RX11, "cuts", "()I"⟩
noncomputable abbrev cX11_cutAt : ByteArray := prog_1_method_22_code
noncomputable def yX11_cutAt : MethodName := ⟨RX11, "cutAt", "(I)I"⟩
noncomputable abbrev cX11_weak : ByteArray := prog_1_method_23_code
noncomputable def yX11_weak : MethodName := ⟨RX11, "weak", "(I)I"⟩
noncomputable abbrev cX11_part : ByteArray := prog_1_method_24_code
noncomputable def yX11_part : MethodName := ⟨RX11, "part", "(II)I"⟩
noncomputable abbrev cX11_dense : ByteArray := prog_1_method_25_code
noncomputable def yX11_dense : MethodName := ⟨RX11, "dense", "(I)I"⟩
noncomputable abbrev cX11_map : ByteArray := prog_1_method_26_code
noncomputable def yX11_map : MethodName := ⟨RX11, "map", "(III)I"⟩
noncomputable abbrev cX11_row : ByteArray := prog_1_method_27_code
noncomputable def yX11_row : MethodName := ⟨RX11, "row", "(III)I"⟩
noncomputable abbrev cX11_put : ByteArray := prog_1_method_28_code
noncomputable def yX11_put : MethodName := ⟨RX11, "put", "(IIIIJ)I"⟩
noncomputable abbrev cX11_copy : ByteArray := prog_1_method_29_code
noncomputable def yX11_copy : MethodName := ⟨RX11, "copy", "(IIIIII)I"⟩
noncomputable abbrev cX11_item : ByteArray := prog_1_method_30_code
noncomputable def yX11_item : MethodName := ⟨RX11, "item", "(IIII)J"⟩
noncomputable abbrev cX11_read : ByteArray := prog_1_method_31_code
noncomputable def yX11_read : MethodName := ⟨RX11, "read", "(I)I"⟩
noncomputable abbrev cX11_about : ByteArray := prog_1_method_32_code
noncomputable def yX11_about : MethodName := ⟨RX11, "about", "(I)I"⟩
noncomputable abbrev cX11_trace : ByteArray := prog_1_method_33_code
noncomputable def yX11_trace : MethodName := ⟨RX11, "trace", "()J"⟩
noncomputable abbrev cX11_status : ByteArray := prog_1_method_34_code
noncomputable def yX11_status : MethodName := ⟨RX11, "status", "()I"⟩
noncomputable abbrev cX11_remember : ByteArray := prog_1_method_35_code
end
