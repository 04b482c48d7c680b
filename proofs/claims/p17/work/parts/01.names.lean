section
-- ===== PART A: goes FIRST, ahead of the names: the tables' words, and 'selects' of the private methods out of them =====
/-- a private method of a class that the tables say can be made, by its rows of tables_1 -/
noncomputable def lw_okq (q : MethodName × Nat) : Prop := (q.1.cls ≠ "java/lang/invoke/MethodHandle" ∧ q.1.cls ≠ "java/lang/invoke/VarHandle") ∧ Cond.instantiable q.1.cls q.2 ∈ tables_1 ∧ Cond.privateMethod q.1 ∈ tables_1 ∧ Cond.instanceMethod q.1 ∈ tables_1
theorem lw_p0 : lw_okq (⟨"CutAtlas", "remember", "()V"⟩, 12) := ⟨⟨by decide +kernel, by decide +kernel⟩, (by first | exact List.mem_append_left _ (List.mem_of_getElem? (i := 19) rfl) | exact List.mem_of_getElem? (i := 19) (by decide +kernel)), (by first | exact List.mem_append_right _ (List.mem_append_left _ (List.mem_of_getElem? (i := 58) rfl)) | exact List.mem_of_getElem? (i := 298) (by decide +kernel)), (by first | exact List.mem_append_right _ (List.mem_append_left _ (List.mem_of_getElem? (i := 59) rfl)) | exact List.mem_of_getElem? (i := 299) (by decide +kernel))⟩
theorem lw_p1 : lw_okq (⟨"CutAtlas", "lineRefusal", "(JJJJJ)I"⟩, 12) := ⟨⟨by decide +kernel, by decide +kernel⟩, (by first | exact List.mem_append_left _ (List.mem_of_getElem? (i := 19) rfl) | exact List.mem_of_getElem? (i := 19) (by decide +kernel)), (by first | exact List.mem_append_right _ (List.mem_append_left _ (List.mem_of_getElem? (i := 73) rfl)) | exact List.mem_of_getElem? (i := 313) (by decide +kernel)), (by first | exact List.mem_append_right _ (List.mem_append_left _ (List.mem_of_getElem? (i := 74) rfl)) | exact List.mem_of_getElem? (i := 314) (by decide +kernel))⟩
theorem lw_p2 : lw_okq (⟨"CutAtlas", "addLine", "(IIIII)I"⟩, 12) := ⟨⟨by decide +kernel, by decide +kernel⟩, (by first | exact List.mem_append_left _ (List.mem_of_getElem? (i := 19) rfl) | exact List.mem_of_getElem? (i := 19) (by decide +kernel)), (by first | exact List.mem_append_right _ (List.mem_append_left _ (List.mem_of_getElem? (i := 100) rfl)) | exact List.mem_of_getElem? (i := 340) (by decide +kernel)), (by first | exact List.mem_append_right _ (List.mem_append_left _ (List.mem_of_getElem? (i := 101) rfl)) | exact List.mem_of_getElem? (i := 341) (by decide +kernel))⟩
theorem lw_p3 : lw_okq (⟨"CutAtlas", "mostNow", "(II)I"⟩, 12) := ⟨⟨by decide +kernel, by decide +kernel⟩, (by first | exact List.mem_append_left _ (List.mem_of_getElem? (i := 19) rfl) | exact List.mem_of_getElem? (i := 19) (by decide +kernel)), (by first | exact List.mem_append_right _ (List.mem_append_left _ (List.mem_of_getElem? (i := 226) rfl)) | exact List.mem_of_getElem? (i := 466) (by decide +kernel)), (by first | exact List.mem_append_right _ (List.mem_append_left _ (List.mem_of_getElem? (i := 227) rfl)) | exact List.mem_of_getElem? (i := 467) (by decide +kernel))⟩
theorem lw_p4 : lw_okq (⟨"CutAtlas$Current", "reachedFrom", "(II)I"⟩, 9) := ⟨⟨by decide +kernel, by decide +kernel⟩, (by first | exact List.mem_append_left _ (List.mem_of_getElem? (i := 113) rfl) | exact List.mem_of_getElem? (i := 113) (by decide +kernel)), (by first | exact List.mem_append_right _ (List.mem_append_right _ (List.mem_append_left _ (List.mem_of_getElem? (i := 8) rfl))) | exact List.mem_of_getElem? (i := 488) (by decide +kernel)), (by first | exact List.mem_append_right _ (List.mem_append_right _ (List.mem_append_left _ (List.mem_of_getElem? (i := 9) rfl))) | exact List.mem_of_getElem? (i := 489) (by decide +kernel))⟩
theorem lw_p5 : lw_okq (⟨"CutAtlas$Current", "findWay", "(II)Z"⟩, 9) := ⟨⟨by decide +kernel, by decide +kernel⟩, (by first | exact List.mem_append_left _ (List.mem_of_getElem? (i := 113) rfl) | exact List.mem_of_getElem? (i := 113) (by decide +kernel)), (by first | exact List.mem_append_right _ (List.mem_append_right _ (List.mem_append_left _ (List.mem_of_getElem? (i := 12) rfl))) | exact List.mem_of_getElem? (i := 492) (by decide +kernel)), (by first | exact List.mem_append_right _ (List.mem_append_right _ (List.mem_append_left _ (List.mem_of_getElem? (i := 13) rfl))) | exact List.mem_of_getElem? (i := 493) (by decide +kernel))⟩
theorem lw_p6 : lw_okq (⟨"CutAtlas$Current", "sendAlongWay", "(II)I"⟩, 9) := ⟨⟨by decide +kernel, by decide +kernel⟩, (by first | exact List.mem_append_left _ (List.mem_of_getElem? (i := 113) rfl) | exact List.mem_of_getElem? (i := 113) (by decide +kernel)), (by first | exact List.mem_append_right _ (List.mem_append_right _ (List.mem_append_left _ (List.mem_of_getElem? (i := 16) rfl))) | exact List.mem_of_getElem? (i := 496) (by decide +kernel)), (by first | exact List.mem_append_right _ (List.mem_append_right _ (List.mem_append_left _ (List.mem_of_getElem? (i := 17) rfl))) | exact List.mem_of_getElem? (i := 497) (by decide +kernel))⟩
theorem lw_p7 : lw_okq (⟨"CutAtlas$Current", "sendOver", "(III)V"⟩, 9) := ⟨⟨by decide +kernel, by decide +kernel⟩, (by first | exact List.mem_append_left _ (List.mem_of_getElem? (i := 113) rfl) | exact List.mem_of_getElem? (i := 113) (by decide +kernel)), (by first | exact List.mem_append_right _ (List.mem_append_right _ (List.mem_append_left _ (List.mem_of_getElem? (i := 22) rfl))) | exact List.mem_of_getElem? (i := 502) (by decide +kernel)), (by first | exact List.mem_append_right _ (List.mem_append_right _ (List.mem_append_left _ (List.mem_of_getElem? (i := 23) rfl))) | exact List.mem_of_getElem? (i := 503) (by decide +kernel))⟩
theorem lw_p8 : lw_okq (⟨"CutAtlas$Current", "reaching", "(I)I"⟩, 9) := ⟨⟨by decide +kernel, by decide +kernel⟩, (by first | exact List.mem_append_left _ (List.mem_of_getElem? (i := 113) rfl) | exact List.mem_of_getElem? (i := 113) (by decide +kernel)), (by first | exact List.mem_append_right _ (List.mem_append_right _ (List.mem_append_left _ (List.mem_of_getElem? (i := 43) rfl))) | exact List.mem_of_getElem? (i := 523) (by decide +kernel)), (by first | exact List.mem_append_right _ (List.mem_append_right _ (List.mem_append_left _ (List.mem_of_getElem? (i := 44) rfl))) | exact List.mem_of_getElem? (i := 524) (by decide +kernel))⟩
theorem lw_p9 : lw_okq (⟨"CutAtlas$SetHunt", "hunt", "(IIII)V"⟩, 9) := ⟨⟨by decide +kernel, by decide +kernel⟩, (by first | exact List.mem_append_left _ (List.mem_of_getElem? (i := 155) rfl) | exact List.mem_of_getElem? (i := 155) (by decide +kernel)), (by first | exact List.mem_append_right _ (List.mem_append_right _ (List.mem_append_left _ (List.mem_of_getElem? (i := 56) rfl))) | exact List.mem_of_getElem? (i := 536) (by decide +kernel)), (by first | exact List.mem_append_right _ (List.mem_append_right _ (List.mem_append_left _ (List.mem_of_getElem? (i := 57) rfl))) | exact List.mem_of_getElem? (i := 537) (by decide +kernel))⟩
theorem lw_p10 : lw_okq (⟨"CutAtlas$SetHunt", "chooseForCut", "(III)V"⟩, 9) := ⟨⟨by decide +kernel, by decide +kernel⟩, (by first | exact List.mem_append_left _ (List.mem_of_getElem? (i := 155) rfl) | exact List.mem_of_getElem? (i := 155) (by decide +kernel)), (by first | exact List.mem_append_right _ (List.mem_append_right _ (List.mem_append_left _ (List.mem_of_getElem? (i := 60) rfl))) | exact List.mem_of_getElem? (i := 540) (by decide +kernel)), (by first | exact List.mem_append_right _ (List.mem_append_right _ (List.mem_append_left _ (List.mem_of_getElem? (i := 61) rfl))) | exact List.mem_of_getElem? (i := 541) (by decide +kernel))⟩
theorem lw_p11 : lw_okq (⟨"CutAtlas$SetHunt", "meet", "(II)V"⟩, 9) := ⟨⟨by decide +kernel, by decide +kernel⟩, (by first | exact List.mem_append_left _ (List.mem_of_getElem? (i := 155) rfl) | exact List.mem_of_getElem? (i := 155) (by decide +kernel)), (by first | exact List.mem_append_right _ (List.mem_append_right _ (List.mem_append_left _ (List.mem_of_getElem? (i := 64) rfl))) | exact List.mem_of_getElem? (i := 544) (by decide +kernel)), (by first | exact List.mem_append_right _ (List.mem_append_right _ (List.mem_append_left _ (List.mem_of_getElem? (i := 65) rfl))) | exact List.mem_of_getElem? (i := 545) (by decide +kernel))⟩
theorem lw_p12 : lw_okq (⟨"CutAtlas$SetHunt", "letIn", "(II)I"⟩, 9) := ⟨⟨by decide +kernel, by decide +kernel⟩, (by first | exact List.mem_append_left _ (List.mem_of_getElem? (i := 155) rfl) | exact List.mem_of_getElem? (i := 155) (by decide +kernel)), (by first | exact List.mem_append_right _ (List.mem_append_right _ (List.mem_append_left _ (List.mem_of_getElem? (i := 68) rfl))) | exact List.mem_of_getElem? (i := 548) (by decide +kernel)), (by first | exact List.mem_append_right _ (List.mem_append_right _ (List.mem_append_left _ (List.mem_of_getElem? (i := 69) rfl))) | exact List.mem_of_getElem? (i := 549) (by decide +kernel))⟩
theorem lw_p13 : lw_okq (⟨"CutAtlas$SetHunt", "letOut", "(II)I"⟩, 9) := ⟨⟨by decide +kernel, by decide +kernel⟩, (by first | exact List.mem_append_left _ (List.mem_of_getElem? (i := 155) rfl) | exact List.mem_of_getElem? (i := 155) (by decide +kernel)), (by first | exact List.mem_append_right _ (List.mem_append_right _ (List.mem_append_left _ (List.mem_of_getElem? (i := 72) rfl))) | exact List.mem_of_getElem? (i := 552) (by decide +kernel)), (by first | exact List.mem_append_right _ (List.mem_append_right _ (List.mem_append_left _ (List.mem_of_getElem? (i := 73) rfl))) | exact List.mem_of_getElem? (i := 553) (by decide +kernel))⟩
theorem lw_p14 : lw_okq (⟨"CutAtlas$Current", "betweenSets", "(II)I"⟩, 9) := ⟨⟨by decide +kernel, by decide +kernel⟩, (by first | exact List.mem_append_left _ (List.mem_of_getElem? (i := 113) rfl) | exact List.mem_of_getElem? (i := 113) (by decide +kernel)), (by first | exact List.mem_append_right _ (List.mem_append_right _ (List.mem_append_left _ (List.mem_of_getElem? (i := 92) rfl))) | exact List.mem_of_getElem? (i := 572) (by decide +kernel)), (by first | exact List.mem_append_right _ (List.mem_append_right _ (List.mem_append_left _ (List.mem_of_getElem? (i := 93) rfl))) | exact List.mem_of_getElem? (i := 573) (by decide +kernel))⟩
theorem lw_p15 : lw_okq (⟨"CutAtlas$Widening", "findPrices", "()V"⟩, 5) := ⟨⟨by decide +kernel, by decide +kernel⟩, (by first | exact List.mem_append_left _ (List.mem_of_getElem? (i := 209) rfl) | exact List.mem_of_getElem? (i := 209) (by decide +kernel)), (by first | exact List.mem_append_right _ (List.mem_append_right _ (List.mem_append_left _ (List.mem_of_getElem? (i := 109) rfl))) | exact List.mem_of_getElem? (i := 589) (by decide +kernel)), (by first | exact List.mem_append_right _ (List.mem_append_right _ (List.mem_append_left _ (List.mem_of_getElem? (i := 110) rfl))) | exact List.mem_of_getElem? (i := 590) (by decide +kernel))⟩
noncomputable def lw_privs_1 : List (MethodName × Nat) := [(⟨"CutAtlas", "remember", "()V"⟩, 12), (⟨"CutAtlas", "lineRefusal", "(JJJJJ)I"⟩, 12), (⟨"CutAtlas", "addLine", "(IIIII)I"⟩, 12), (⟨"CutAtlas", "mostNow", "(II)I"⟩, 12), (⟨"CutAtlas$Current", "reachedFrom", "(II)I"⟩, 9), (⟨"CutAtlas$Current", "findWay", "(II)Z"⟩, 9), (⟨"CutAtlas$Current", "sendAlongWay", "(II)I"⟩, 9), (⟨"CutAtlas$Current", "sendOver", "(III)V"⟩, 9), (⟨"CutAtlas$Current", "reaching", "(I)I"⟩, 9), (⟨"CutAtlas$SetHunt", "hunt", "(IIII)V"⟩, 9), (⟨"CutAtlas$SetHunt", "chooseForCut", "(III)V"⟩, 9), (⟨"CutAtlas$SetHunt", "meet", "(II)V"⟩, 9), (⟨"CutAtlas$SetHunt", "letIn", "(II)I"⟩, 9), (⟨"CutAtlas$SetHunt", "letOut", "(II)I"⟩, 9), (⟨"CutAtlas$Current", "betweenSets", "(II)I"⟩, 9), (⟨"CutAtlas$Widening", "findPrices", "()V"⟩, 5)]
theorem lw_r1 : ∀ q ∈ lw_privs_1, lw_okq q := List.forall_mem_cons.mpr ⟨lw_p0, List.forall_mem_cons.mpr ⟨lw_p1, List.forall_mem_cons.mpr ⟨lw_p2, List.forall_mem_cons.mpr ⟨lw_p3, List.forall_mem_cons.mpr ⟨lw_p4, List.forall_mem_cons.mpr ⟨lw_p5, List.forall_mem_cons.mpr ⟨lw_p6, List.forall_mem_cons.mpr ⟨lw_p7, List.forall_mem_cons.mpr ⟨lw_p8, List.forall_mem_cons.mpr ⟨lw_p9, List.forall_mem_cons.mpr ⟨lw_p10, List.forall_mem_cons.mpr ⟨lw_p11, List.forall_mem_cons.mpr ⟨lw_p12, List.forall_mem_cons.mpr ⟨lw_p13, List.forall_mem_cons.mpr ⟨lw_p14, List.forall_mem_cons.mpr ⟨lw_p15, fun _ h => absurd h List.not_mem_nil⟩⟩⟩⟩⟩⟩⟩⟩⟩⟩⟩⟩⟩⟩⟩⟩
theorem lw_p16 : lw_okq (⟨"CutAtlas$Widening", "findCosts", "(I)V"⟩, 5) := ⟨⟨by decide +kernel, by decide +kernel⟩, (by first | exact List.mem_append_left _ (List.mem_of_getElem? (i := 209) rfl) | exact List.mem_of_getElem? (i := 209) (by decide +kernel)), (by first | exact List.mem_append_right _ (List.mem_append_right _ (List.mem_append_left _ (List.mem_of_getElem? (i := 118) rfl))) | exact List.mem_of_getElem? (i := 598) (by decide +kernel)), (by first | exact List.mem_append_right _ (List.mem_append_right _ (List.mem_append_left _ (List.mem_of_getElem? (i := 119) rfl))) | exact List.mem_of_getElem? (i := 599) (by decide +kernel))⟩
theorem lw_p17 : lw_okq (⟨"CutAtlas$Widening", "lookFrom", "(I)Z"⟩, 5) := ⟨⟨by decide +kernel, by decide +kernel⟩, (by first | exact List.mem_append_left _ (List.mem_of_getElem? (i := 209) rfl) | exact List.mem_of_getElem? (i := 209) (by decide +kernel)), (by first | exact List.mem_append_right _ (List.mem_append_right _ (List.mem_append_left _ (List.mem_of_getElem? (i := 122) rfl))) | exact List.mem_of_getElem? (i := 602) (by decide +kernel)), (by first | exact List.mem_append_right _ (List.mem_append_right _ (List.mem_append_left _ (List.mem_of_getElem? (i := 123) rfl))) | exact List.mem_of_getElem? (i := 603) (by decide +kernel))⟩
theorem lw_p18 : lw_okq (⟨"CutAtlas$Widening", "stepCosts", "(II)I"⟩, 5) := ⟨⟨by decide +kernel, by decide +kernel⟩, (by first | exact List.mem_append_left _ (List.mem_of_getElem? (i := 209) rfl) | exact List.mem_of_getElem? (i := 209) (by decide +kernel)), (by first | exact List.mem_append_right _ (List.mem_append_right _ (List.mem_append_left _ (List.mem_of_getElem? (i := 126) rfl))) | exact List.mem_of_getElem? (i := 606) (by decide +kernel)), (by first | exact List.mem_append_right _ (List.mem_append_right _ (List.mem_append_left _ (List.mem_of_getElem? (i := 127) rfl))) | exact List.mem_of_getElem? (i := 607) (by decide +kernel))⟩
theorem lw_p19 : lw_okq (⟨"CutAtlas$Widening", "roomOfWay", "(III)I"⟩, 5) := ⟨⟨by decide +kernel, by decide +kernel⟩, (by first | exact List.mem_append_left _ (List.mem_of_getElem? (i := 209) rfl) | exact List.mem_of_getElem? (i := 209) (by decide +kernel)), (by first | exact List.mem_append_right _ (List.mem_append_right _ (List.mem_append_left _ (List.mem_of_getElem? (i := 130) rfl))) | exact List.mem_of_getElem? (i := 610) (by decide +kernel)), (by first | exact List.mem_append_right _ (List.mem_append_right _ (List.mem_append_left _ (List.mem_of_getElem? (i := 131) rfl))) | exact List.mem_of_getElem? (i := 611) (by decide +kernel))⟩
theorem lw_p20 : lw_okq (⟨"CutAtlas$Widening", "stepRoom", "(II)I"⟩, 5) := ⟨⟨by decide +kernel, by decide +kernel⟩, (by first | exact List.mem_append_left _ (List.mem_of_getElem? (i := 209) rfl) | exact List.mem_of_getElem? (i := 209) (by decide +kernel)), (by first | exact List.mem_append_right _ (List.mem_append_right _ (List.mem_append_left _ (List.mem_of_getElem? (i := 134) rfl))) | exact List.mem_of_getElem? (i := 614) (by decide +kernel)), (by first | exact List.mem_append_right _ (List.mem_append_right _ (List.mem_append_left _ (List.mem_of_getElem? (i := 135) rfl))) | exact List.mem_of_getElem? (i := 615) (by decide +kernel))⟩
theorem lw_p21 : lw_okq (⟨"CutAtlas$Widening", "sendAlongWay", "(III)V"⟩, 5) := ⟨⟨by decide +kernel, by decide +kernel⟩, (by first | exact List.mem_append_left _ (List.mem_of_getElem? (i := 209) rfl) | exact List.mem_of_getElem? (i := 209) (by decide +kernel)), (by first | exact List.mem_append_right _ (List.mem_append_right _ (List.mem_append_left _ (List.mem_of_getElem? (i := 138) rfl))) | exact List.mem_of_getElem? (i := 618) (by decide +kernel)), (by first | exact List.mem_append_right _ (List.mem_append_right _ (List.mem_append_left _ (List.mem_of_getElem? (i := 139) rfl))) | exact List.mem_of_getElem? (i := 619) (by decide +kernel))⟩
theorem lw_p22 : lw_okq (⟨"CutAtlas$CutTree", "hang", "(I)V"⟩, 3) := ⟨⟨by decide +kernel, by decide +kernel⟩, (by first | exact List.mem_append_left _ (List.mem_of_getElem? (i := 191) rfl) | exact List.mem_of_getElem? (i := 191) (by decide +kernel)), (by first | exact List.mem_append_right _ (List.mem_append_right _ (List.mem_append_left _ (List.mem_of_getElem? (i := 157) rfl))) | exact List.mem_of_getElem? (i := 637) (by decide +kernel)), (by first | exact List.mem_append_right _ (List.mem_append_right _ (List.mem_append_left _ (List.mem_of_getElem? (i := 158) rfl))) | exact List.mem_of_getElem? (i := 638) (by decide +kernel))⟩
theorem lw_p23 : lw_okq (⟨"CutAtlas$CutTree", "stepsToRoot", "(I)I"⟩, 3) := ⟨⟨by decide +kernel, by decide +kernel⟩, (by first | exact List.mem_append_left _ (List.mem_of_getElem? (i := 191) rfl) | exact List.mem_of_getElem? (i := 191) (by decide +kernel)), (by first | exact List.mem_append_right _ (List.mem_append_right _ (List.mem_append_left _ (List.mem_of_getElem? (i := 172) rfl))) | exact List.mem_of_getElem? (i := 652) (by decide +kernel)), (by first | exact List.mem_append_right _ (List.mem_append_right _ (List.mem_append_left _ (List.mem_of_getElem? (i := 173) rfl))) | exact List.mem_of_getElem? (i := 653) (by decide +kernel))⟩
theorem lw_p24 : lw_okq (⟨"CutAtlas$SetHunt", "chooseForDense", "(III)V"⟩, 9) := ⟨⟨by decide +kernel, by decide +kernel⟩, (by first | exact List.mem_append_left _ (List.mem_of_getElem? (i := 155) rfl) | exact List.mem_of_getElem? (i := 155) (by decide +kernel)), (by first | exact List.mem_append_right _ (List.mem_append_right _ (List.mem_append_left _ (List.mem_of_getElem? (i := 219) rfl))) | exact List.mem_of_getElem? (i := 699) (by decide +kernel)), (by first | exact List.mem_append_right _ (List.mem_append_right _ (List.mem_append_left _ (List.mem_of_getElem? (i := 220) rfl))) | exact List.mem_of_getElem? (i := 700) (by decide +kernel))⟩
theorem lw_p25 : lw_okq (⟨"CutAtlas$SetHunt", "compareDense", "(II)V"⟩, 9) := ⟨⟨by decide +kernel, by decide +kernel⟩, (by first | exact List.mem_append_left _ (List.mem_of_getElem? (i := 155) rfl) | exact List.mem_of_getElem? (i := 155) (by decide +kernel)), (by first | exact List.mem_append_right _ (List.mem_append_right _ (List.mem_append_left _ (List.mem_of_getElem? (i := 223) rfl))) | exact List.mem_of_getElem? (i := 703) (by decide +kernel)), (by first | exact List.mem_append_right _ (List.mem_append_right _ (List.mem_append_left _ (List.mem_of_getElem? (i := 224) rfl))) | exact List.mem_of_getElem? (i := 704) (by decide +kernel))⟩
theorem lw_p26 : lw_okq (⟨"CutAtlas", "rowRefusal", "(III)I"⟩, 12) := ⟨⟨by decide +kernel, by decide +kernel⟩, (by first | exact List.mem_append_left _ (List.mem_of_getElem? (i := 19) rfl) | exact List.mem_of_getElem? (i := 19) (by decide +kernel)), (by first | exact List.mem_append_right _ (List.mem_append_right _ (List.mem_append_right _ (List.mem_append_left _ (List.mem_of_getElem? (i := 16) rfl)))) | exact List.mem_of_getElem? (i := 736) (by decide +kernel)), (by first | exact List.mem_append_right _ (List.mem_append_right _ (List.mem_append_right _ (List.mem_append_left _ (List.mem_of_getElem? (i := 17) rfl)))) | exact List.mem_of_getElem? (i := 737) (by decide +kernel))⟩
theorem lw_p27 : lw_okq (⟨"CutAtlas", "numberRefusal", "(IIII)I"⟩, 12) := ⟨⟨by decide +kernel, by decide +kernel⟩, (by first | exact List.mem_append_left _ (List.mem_of_getElem? (i := 19) rfl) | exact List.mem_of_getElem? (i := 19) (by decide +kernel)), (by first | exact List.mem_append_right _ (List.mem_append_right _ (List.mem_append_right _ (List.mem_append_left _ (List.mem_of_getElem? (i := 36) rfl)))) | exact List.mem_of_getElem? (i := 756) (by decide +kernel)), (by first | exact List.mem_append_right _ (List.mem_append_right _ (List.mem_append_right _ (List.mem_append_left _ (List.mem_of_getElem? (i := 37) rfl)))) | exact List.mem_of_getElem? (i := 757) (by decide +kernel))⟩
theorem lw_p28 : lw_okq (⟨"CutAtlas$NumberMap", "hasNumbers", "(III)Z"⟩, 4) := ⟨⟨by decide +kernel, by decide +kernel⟩, (by first | exact List.mem_append_left _ (List.mem_of_getElem? (i := 233) rfl) | exact List.mem_of_getElem? (i := 233) (by decide +kernel)), (by first | exact List.mem_append_right _ (List.mem_append_right _ (List.mem_append_right _ (List.mem_append_left _ (List.mem_of_getElem? (i := 54) rfl)))) | exact List.mem_of_getElem? (i := 774) (by decide +kernel)), (by first | exact List.mem_append_right _ (List.mem_append_right _ (List.mem_append_right _ (List.mem_append_left _ (List.mem_of_getElem? (i := 55) rfl)))) | exact List.mem_of_getElem? (i := 775) (by decide +kernel))⟩
theorem lw_p29 : lw_okq (⟨"CutAtlas", "readRefusal", "(LCutAtlas$NumberMap;I)I"⟩, 12) := ⟨⟨by decide +kernel, by decide +kernel⟩, (by first | exact List.mem_append_left _ (List.mem_of_getElem? (i := 19) rfl) | exact List.mem_of_getElem? (i := 19) (by decide +kernel)), (by first | exact List.mem_append_right _ (List.mem_append_right _ (List.mem_append_right _ (List.mem_append_left _ (List.mem_of_getElem? (i := 75) rfl)))) | exact List.mem_of_getElem? (i := 795) (by decide +kernel)), (by first | exact List.mem_append_right _ (List.mem_append_right _ (List.mem_append_right _ (List.mem_append_left _ (List.mem_of_getElem? (i := 76) rfl)))) | exact List.mem_of_getElem? (i := 796) (by decide +kernel))⟩
theorem lw_p30 : lw_okq (⟨"CutAtlasModel", "keeps", "()V"⟩, 34) := ⟨⟨by decide +kernel, by decide +kernel⟩, (by first | exact List.mem_append_right _ (List.mem_append_right _ (List.mem_append_right _ (List.mem_append_left _ (List.mem_of_getElem? (i := 100) rfl)))) | exact List.mem_of_getElem? (i := 820) (by decide +kernel)), (by first | exact List.mem_append_right _ (List.mem_append_right _ (List.mem_append_right _ (List.mem_append_left _ (List.mem_of_getElem? (i := 214) rfl)))) | exact List.mem_of_getElem? (i := 934) (by decide +kernel)), (by first | exact List.mem_append_right _ (List.mem_append_right _ (List.mem_append_right _ (List.mem_append_left _ (List.mem_of_getElem? (i := 215) rfl)))) | exact List.mem_of_getElem? (i := 935) (by decide +kernel))⟩
theorem lw_p31 : lw_okq (⟨"CutAtlasModel", "refused", "(JJJJJ)I"⟩, 34) := ⟨⟨by decide +kernel, by decide +kernel⟩, (by first | exact List.mem_append_right _ (List.mem_append_right _ (List.mem_append_right _ (List.mem_append_left _ (List.mem_of_getElem? (i := 100) rfl)))) | exact List.mem_of_getElem? (i := 820) (by decide +kernel)), (by first | exact List.mem_append_right _ (List.mem_append_right _ (List.mem_append_right _ (List.mem_append_left _ (List.mem_of_getElem? (i := 222) rfl)))) | exact List.mem_of_getElem? (i := 942) (by decide +kernel)), (by first | exact List.mem_append_right _ (List.mem_append_right _ (List.mem_append_right _ (List.mem_append_left _ (List.mem_of_getElem? (i := 223) rfl)))) | exact List.mem_of_getElem? (i := 943) (by decide +kernel))⟩
noncomputable def lw_privs_2 : List (MethodName × Nat) := [(⟨"CutAtlas$Widening", "findCosts", "(I)V"⟩, 5), (⟨"CutAtlas$Widening", "lookFrom", "(I)Z"⟩, 5), (⟨"CutAtlas$Widening", "stepCosts", "(II)I"⟩, 5), (⟨"CutAtlas$Widening", "roomOfWay", "(III)I"⟩, 5), (⟨"CutAtlas$Widening", "stepRoom", "(II)I"⟩, 5), (⟨"CutAtlas$Widening", "sendAlongWay", "(III)V"⟩, 5), (⟨"CutAtlas$CutTree", "hang", "(I)V"⟩, 3), (⟨"CutAtlas$CutTree", "stepsToRoot", "(I)I"⟩, 3), (⟨"CutAtlas$SetHunt", "chooseForDense", "(III)V"⟩, 9), (⟨"CutAtlas$SetHunt", "compareDense", "(II)V"⟩, 9), (⟨"CutAtlas", "rowRefusal", "(III)I"⟩, 12), (⟨"CutAtlas", "numberRefusal", "(IIII)I"⟩, 12), (⟨"CutAtlas$NumberMap", "hasNumbers", "(III)Z"⟩, 4), (⟨"CutAtlas", "readRefusal", "(LCutAtlas$NumberMap;I)I"⟩, 12), (⟨"CutAtlasModel", "keeps", "()V"⟩, 34), (⟨"CutAtlasModel", "refused", "(JJJJJ)I"⟩, 34)]
theorem lw_r2 : ∀ q ∈ lw_privs_2, lw_okq q := List.forall_mem_cons.mpr ⟨lw_p16, List.forall_mem_cons.mpr ⟨lw_p17, List.forall_mem_cons.mpr ⟨lw_p18, List.forall_mem_cons.mpr ⟨lw_p19, List.forall_mem_cons.mpr ⟨lw_p20, List.forall_mem_cons.mpr ⟨lw_p21, List.forall_mem_cons.mpr ⟨lw_p22, List.forall_mem_cons.mpr ⟨lw_p23, List.forall_mem_cons.mpr ⟨lw_p24, List.forall_mem_cons.mpr ⟨lw_p25, List.forall_mem_cons.mpr ⟨lw_p26, List.forall_mem_cons.mpr ⟨lw_p27, List.forall_mem_cons.mpr ⟨lw_p28, List.forall_mem_cons.mpr ⟨lw_p29, List.forall_mem_cons.mpr ⟨lw_p30, List.forall_mem_cons.mpr ⟨lw_p31, fun _ h => absurd h List.not_mem_nil⟩⟩⟩⟩⟩⟩⟩⟩⟩⟩⟩⟩⟩⟩⟩⟩
theorem lw_p32 : lw_okq (⟨"CutAtlasModel", "adds", "(IIIII)V"⟩, 34) := ⟨⟨by decide +kernel, by decide +kernel⟩, (by first | exact List.mem_append_right _ (List.mem_append_right _ (List.mem_append_right _ (List.mem_append_left _ (List.mem_of_getElem? (i := 100) rfl)))) | exact List.mem_of_getElem? (i := 820) (by decide +kernel)), (by first | exact List.mem_append_right _ (List.mem_append_right _ (List.mem_append_right _ (List.mem_append_left _ (List.mem_of_getElem? (i := 232) rfl)))) | exact List.mem_of_getElem? (i := 952) (by decide +kernel)), (by first | exact List.mem_append_right _ (List.mem_append_right _ (List.mem_append_right _ (List.mem_append_left _ (List.mem_of_getElem? (i := 233) rfl)))) | exact List.mem_of_getElem? (i := 953) (by decide +kernel))⟩
theorem lw_p33 : lw_okq (⟨"CutAtlasModel", "isLine", "(I)Z"⟩, 34) := ⟨⟨by decide +kernel, by decide +kernel⟩, (by first | exact List.mem_append_right _ (List.mem_append_right _ (List.mem_append_right _ (List.mem_append_left _ (List.mem_of_getElem? (i := 100) rfl)))) | exact List.mem_of_getElem? (i := 820) (by decide +kernel)), (by first | exact List.mem_append_right _ (List.mem_append_right _ (List.mem_append_right _ (List.mem_append_right _ (List.mem_append_left _ (List.mem_of_getElem? (i := 1) rfl))))) | exact List.mem_of_getElem? (i := 961) (by decide +kernel)), (by first | exact List.mem_append_right _ (List.mem_append_right _ (List.mem_append_right _ (List.mem_append_right _ (List.mem_append_left _ (List.mem_of_getElem? (i := 2) rfl))))) | exact List.mem_of_getElem? (i := 962) (by decide +kernel))⟩
theorem lw_p34 : lw_okq (⟨"CutAtlasModel", "costs", "(I)I"⟩, 34) := ⟨⟨by decide +kernel, by decide +kernel⟩, (by first | exact List.mem_append_right _ (List.mem_append_right _ (List.mem_append_right _ (List.mem_append_left _ (List.mem_of_getElem? (i := 100) rfl)))) | exact List.mem_of_getElem? (i := 820) (by decide +kernel)), (by first | exact List.mem_append_right _ (List.mem_append_right _ (List.mem_append_right _ (List.mem_append_right _ (List.mem_append_left _ (List.mem_of_getElem? (i := 5) rfl))))) | exact List.mem_of_getElem? (i := 965) (by decide +kernel)), (by first | exact List.mem_append_right _ (List.mem_append_right _ (List.mem_append_right _ (List.mem_append_right _ (List.mem_append_left _ (List.mem_of_getElem? (i := 6) rfl))))) | exact List.mem_of_getElem? (i := 966) (by decide +kernel))⟩
theorem lw_p35 : lw_okq (⟨"CutAtlasModel", "costsTrace", "(I)J"⟩, 34) := ⟨⟨by decide +kernel, by decide +kernel⟩, (by first | exact List.mem_append_right _ (List.mem_append_right _ (List.mem_append_right _ (List.mem_append_left _ (List.mem_of_getElem? (i := 100) rfl)))) | exact List.mem_of_getElem? (i := 820) (by decide +kernel)), (by first | exact List.mem_append_right _ (List.mem_append_right _ (List.mem_append_right _ (List.mem_append_right _ (List.mem_append_left _ (List.mem_of_getElem? (i := 9) rfl))))) | exact List.mem_of_getElem? (i := 969) (by decide +kernel)), (by first | exact List.mem_append_right _ (List.mem_append_right _ (List.mem_append_right _ (List.mem_append_right _ (List.mem_append_left _ (List.mem_of_getElem? (i := 10) rfl))))) | exact List.mem_of_getElem? (i := 970) (by decide +kernel))⟩
theorem lw_p36 : lw_okq (⟨"CutAtlasModel", "arePlaces", "(II)Z"⟩, 34) := ⟨⟨by decide +kernel, by decide +kernel⟩, (by first | exact List.mem_append_right _ (List.mem_append_right _ (List.mem_append_right _ (List.mem_append_left _ (List.mem_of_getElem? (i := 100) rfl)))) | exact List.mem_of_getElem? (i := 820) (by decide +kernel)), (by first | exact List.mem_append_right _ (List.mem_append_right _ (List.mem_append_right _ (List.mem_append_right _ (List.mem_append_left _ (List.mem_of_getElem? (i := 23) rfl))))) | exact List.mem_of_getElem? (i := 983) (by decide +kernel)), (by first | exact List.mem_append_right _ (List.mem_append_right _ (List.mem_append_right _ (List.mem_append_right _ (List.mem_append_left _ (List.mem_of_getElem? (i := 24) rfl))))) | exact List.mem_of_getElem? (i := 984) (by decide +kernel))⟩
theorem lw_p37 : lw_okq (⟨"CutAtlasModel", "isPlace", "(I)Z"⟩, 34) := ⟨⟨by decide +kernel, by decide +kernel⟩, (by first | exact List.mem_append_right _ (List.mem_append_right _ (List.mem_append_right _ (List.mem_append_left _ (List.mem_of_getElem? (i := 100) rfl)))) | exact List.mem_of_getElem? (i := 820) (by decide +kernel)), (by first | exact List.mem_append_right _ (List.mem_append_right _ (List.mem_append_right _ (List.mem_append_right _ (List.mem_append_left _ (List.mem_of_getElem? (i := 27) rfl))))) | exact List.mem_of_getElem? (i := 987) (by decide +kernel)), (by first | exact List.mem_append_right _ (List.mem_append_right _ (List.mem_append_right _ (List.mem_append_right _ (List.mem_append_left _ (List.mem_of_getElem? (i := 28) rfl))))) | exact List.mem_of_getElem? (i := 988) (by decide +kernel))⟩
theorem lw_p38 : lw_okq (⟨"CutAtlasModel", "lets", "(IZ)I"⟩, 34) := ⟨⟨by decide +kernel, by decide +kernel⟩, (by first | exact List.mem_append_right _ (List.mem_append_right _ (List.mem_append_right _ (List.mem_append_left _ (List.mem_of_getElem? (i := 100) rfl)))) | exact List.mem_of_getElem? (i := 820) (by decide +kernel)), (by first | exact List.mem_append_right _ (List.mem_append_right _ (List.mem_append_right _ (List.mem_append_right _ (List.mem_append_left _ (List.mem_of_getElem? (i := 47) rfl))))) | exact List.mem_of_getElem? (i := 1007) (by decide +kernel)), (by first | exact List.mem_append_right _ (List.mem_append_right _ (List.mem_append_right _ (List.mem_append_right _ (List.mem_append_left _ (List.mem_of_getElem? (i := 48) rfl))))) | exact List.mem_of_getElem? (i := 1008) (by decide +kernel))⟩
theorem lw_p39 : lw_okq (⟨"CutAtlasModel", "mostOf", "(II)I"⟩, 34) := ⟨⟨by decide +kernel, by decide +kernel⟩, (by first | exact List.mem_append_right _ (List.mem_append_right _ (List.mem_append_right _ (List.mem_append_left _ (List.mem_of_getElem? (i := 100) rfl)))) | exact List.mem_of_getElem? (i := 820) (by decide +kernel)), (by first | exact List.mem_append_right _ (List.mem_append_right _ (List.mem_append_right _ (List.mem_append_right _ (List.mem_append_left _ (List.mem_of_getElem? (i := 55) rfl))))) | exact List.mem_of_getElem? (i := 1015) (by decide +kernel)), (by first | exact List.mem_append_right _ (List.mem_append_right _ (List.mem_append_right _ (List.mem_append_right _ (List.mem_append_left _ (List.mem_of_getElem? (i := 56) rfl))))) | exact List.mem_of_getElem? (i := 1016) (by decide +kernel))⟩
theorem lw_p40 : lw_okq (⟨"CutAtlasModel", "sizeOf", "(I)I"⟩, 34) := ⟨⟨by decide +kernel, by decide +kernel⟩, (by first | exact List.mem_append_right _ (List.mem_append_right _ (List.mem_append_right _ (List.mem_append_left _ (List.mem_of_getElem? (i := 100) rfl)))) | exact List.mem_of_getElem? (i := 820) (by decide +kernel)), (by first | exact List.mem_append_right _ (List.mem_append_right _ (List.mem_append_right _ (List.mem_append_right _ (List.mem_append_left _ (List.mem_of_getElem? (i := 60) rfl))))) | exact List.mem_of_getElem? (i := 1020) (by decide +kernel)), (by first | exact List.mem_append_right _ (List.mem_append_right _ (List.mem_append_right _ (List.mem_append_right _ (List.mem_append_left _ (List.mem_of_getElem? (i := 61) rfl))))) | exact List.mem_of_getElem? (i := 1021) (by decide +kernel))⟩
theorem lw_p41 : lw_okq (⟨"CutAtlasModel", "room", "(IZ)I"⟩, 34) := ⟨⟨by decide +kernel, by decide +kernel⟩, (by first | exact List.mem_append_right _ (List.mem_append_right _ (List.mem_append_right _ (List.mem_append_left _ (List.mem_of_getElem? (i := 100) rfl)))) | exact List.mem_of_getElem? (i := 820) (by decide +kernel)), (by first | exact List.mem_append_right _ (List.mem_append_right _ (List.mem_append_right _ (List.mem_append_right _ (List.mem_append_left _ (List.mem_of_getElem? (i := 64) rfl))))) | exact List.mem_of_getElem? (i := 1024) (by decide +kernel)), (by first | exact List.mem_append_right _ (List.mem_append_right _ (List.mem_append_right _ (List.mem_append_right _ (List.mem_append_left _ (List.mem_of_getElem? (i := 65) rfl))))) | exact List.mem_of_getElem? (i := 1025) (by decide +kernel))⟩
theorem lw_p42 : lw_okq (⟨"CutAtlasModel", "flowOf", "(II)V"⟩, 34) := ⟨⟨by decide +kernel, by decide +kernel⟩, (by first | exact List.mem_append_right _ (List.mem_append_right _ (List.mem_append_right _ (List.mem_append_left _ (List.mem_of_getElem? (i := 100) rfl)))) | exact List.mem_of_getElem? (i := 820) (by decide +kernel)), (by first | exact List.mem_append_right _ (List.mem_append_right _ (List.mem_append_right _ (List.mem_append_right _ (List.mem_append_left _ (List.mem_of_getElem? (i := 76) rfl))))) | exact List.mem_of_getElem? (i := 1036) (by decide +kernel)), (by first | exact List.mem_append_right _ (List.mem_append_right _ (List.mem_append_right _ (List.mem_append_right _ (List.mem_append_left _ (List.mem_of_getElem? (i := 77) rfl))))) | exact List.mem_of_getElem? (i := 1037) (by decide +kernel))⟩
theorem lw_p43 : lw_okq (⟨"CutAtlasModel", "hasWay", "(II)Z"⟩, 34) := ⟨⟨by decide +kernel, by decide +kernel⟩, (by first | exact List.mem_append_right _ (List.mem_append_right _ (List.mem_append_right _ (List.mem_append_left _ (List.mem_of_getElem? (i := 100) rfl)))) | exact List.mem_of_getElem? (i := 820) (by decide +kernel)), (by first | exact List.mem_append_right _ (List.mem_append_right _ (List.mem_append_right _ (List.mem_append_right _ (List.mem_append_left _ (List.mem_of_getElem? (i := 80) rfl))))) | exact List.mem_of_getElem? (i := 1040) (by decide +kernel)), (by first | exact List.mem_append_right _ (List.mem_append_right _ (List.mem_append_right _ (List.mem_append_right _ (List.mem_append_left _ (List.mem_of_getElem? (i := 81) rfl))))) | exact List.mem_of_getElem? (i := 1041) (by decide +kernel))⟩
theorem lw_p44 : lw_okq (⟨"CutAtlasModel", "isMet", "(II)Z"⟩, 34) := ⟨⟨by decide +kernel, by decide +kernel⟩, (by first | exact List.mem_append_right _ (List.mem_append_right _ (List.mem_append_right _ (List.mem_append_left _ (List.mem_of_getElem? (i := 100) rfl)))) | exact List.mem_of_getElem? (i := 820) (by decide +kernel)), (by first | exact List.mem_append_right _ (List.mem_append_right _ (List.mem_append_right _ (List.mem_append_right _ (List.mem_append_left _ (List.mem_of_getElem? (i := 84) rfl))))) | exact List.mem_of_getElem? (i := 1044) (by decide +kernel)), (by first | exact List.mem_append_right _ (List.mem_append_right _ (List.mem_append_right _ (List.mem_append_right _ (List.mem_append_left _ (List.mem_of_getElem? (i := 85) rfl))))) | exact List.mem_of_getElem? (i := 1045) (by decide +kernel))⟩
theorem lw_p45 : lw_okq (⟨"CutAtlasModel", "leftOf", "(II)I"⟩, 34) := ⟨⟨by decide +kernel, by decide +kernel⟩, (by first | exact List.mem_append_right _ (List.mem_append_right _ (List.mem_append_right _ (List.mem_append_left _ (List.mem_of_getElem? (i := 100) rfl)))) | exact List.mem_of_getElem? (i := 820) (by decide +kernel)), (by first | exact List.mem_append_right _ (List.mem_append_right _ (List.mem_append_right _ (List.mem_append_right _ (List.mem_append_left _ (List.mem_of_getElem? (i := 88) rfl))))) | exact List.mem_of_getElem? (i := 1048) (by decide +kernel)), (by first | exact List.mem_append_right _ (List.mem_append_right _ (List.mem_append_right _ (List.mem_append_right _ (List.mem_append_left _ (List.mem_of_getElem? (i := 89) rfl))))) | exact List.mem_of_getElem? (i := 1049) (by decide +kernel))⟩
theorem lw_p46 : lw_okq (⟨"CutAtlasModel", "left", "(III)I"⟩, 34) := ⟨⟨by decide +kernel, by decide +kernel⟩, (by first | exact List.mem_append_right _ (List.mem_append_right _ (List.mem_append_right _ (List.mem_append_left _ (List.mem_of_getElem? (i := 100) rfl)))) | exact List.mem_of_getElem? (i := 820) (by decide +kernel)), (by first | exact List.mem_append_right _ (List.mem_append_right _ (List.mem_append_right _ (List.mem_append_right _ (List.mem_append_left _ (List.mem_of_getElem? (i := 92) rfl))))) | exact List.mem_of_getElem? (i := 1052) (by decide +kernel)), (by first | exact List.mem_append_right _ (List.mem_append_right _ (List.mem_append_right _ (List.mem_append_right _ (List.mem_append_left _ (List.mem_of_getElem? (i := 93) rfl))))) | exact List.mem_of_getElem? (i := 1053) (by decide +kernel))⟩
theorem lw_p47 : lw_okq (⟨"CutAtlasModel", "cutsOf", "(IIII)V"⟩, 34) := ⟨⟨by decide +kernel, by decide +kernel⟩, (by first | exact List.mem_append_right _ (List.mem_append_right _ (List.mem_append_right _ (List.mem_append_left _ (List.mem_of_getElem? (i := 100) rfl)))) | exact List.mem_of_getElem? (i := 820) (by decide +kernel)), (by first | exact List.mem_append_right _ (List.mem_append_right _ (List.mem_append_right _ (List.mem_append_right _ (List.mem_append_left _ (List.mem_of_getElem? (i := 101) rfl))))) | exact List.mem_of_getElem? (i := 1061) (by decide +kernel)), (by first | exact List.mem_append_right _ (List.mem_append_right _ (List.mem_append_right _ (List.mem_append_right _ (List.mem_append_left _ (List.mem_of_getElem? (i := 102) rfl))))) | exact List.mem_of_getElem? (i := 1062) (by decide +kernel))⟩
noncomputable def lw_privs_3 : List (MethodName × Nat) := [(⟨"CutAtlasModel", "adds", "(IIIII)V"⟩, 34), (⟨"CutAtlasModel", "isLine", "(I)Z"⟩, 34), (⟨"CutAtlasModel", "costs", "(I)I"⟩, 34), (⟨"CutAtlasModel", "costsTrace", "(I)J"⟩, 34), (⟨"CutAtlasModel", "arePlaces", "(II)Z"⟩, 34), (⟨"CutAtlasModel", "isPlace", "(I)Z"⟩, 34), (⟨"CutAtlasModel", "lets", "(IZ)I"⟩, 34), (⟨"CutAtlasModel", "mostOf", "(II)I"⟩, 34), (⟨"CutAtlasModel", "sizeOf", "(I)I"⟩, 34), (⟨"CutAtlasModel", "room", "(IZ)I"⟩, 34), (⟨"CutAtlasModel", "flowOf", "(II)V"⟩, 34), (⟨"CutAtlasModel", "hasWay", "(II)Z"⟩, 34), (⟨"CutAtlasModel", "isMet", "(II)Z"⟩, 34), (⟨"CutAtlasModel", "leftOf", "(II)I"⟩, 34), (⟨"CutAtlasModel", "left", "(III)I"⟩, 34), (⟨"CutAtlasModel", "cutsOf", "(IIII)V"⟩, 34)]
theorem lw_r3 : ∀ q ∈ lw_privs_3, lw_okq q := List.forall_mem_cons.mpr ⟨lw_p32, List.forall_mem_cons.mpr ⟨lw_p33, List.forall_mem_cons.mpr ⟨lw_p34, List.forall_mem_cons.mpr ⟨lw_p35, List.forall_mem_cons.mpr ⟨lw_p36, List.forall_mem_cons.mpr ⟨lw_p37, List.forall_mem_cons.mpr ⟨lw_p38, List.forall_mem_cons.mpr ⟨lw_p39, List.forall_mem_cons.mpr ⟨lw_p40, List.forall_mem_cons.mpr ⟨lw_p41, List.forall_mem_cons.mpr ⟨lw_p42, List.forall_mem_cons.mpr ⟨lw_p43, List.forall_mem_cons.mpr ⟨lw_p44, List.forall_mem_cons.mpr ⟨lw_p45, List.forall_mem_cons.mpr ⟨lw_p46, List.forall_mem_cons.mpr ⟨lw_p47, fun _ h => absurd h List.not_mem_nil⟩⟩⟩⟩⟩⟩⟩⟩⟩⟩⟩⟩⟩⟩⟩⟩
theorem lw_p48 : lw_okq (⟨"CutAtlasModel", "cheapWay", "(II)Z"⟩, 34) := ⟨⟨by decide +kernel, by decide +kernel⟩, (by first | exact List.mem_append_right _ (List.mem_append_right _ (List.mem_append_right _ (List.mem_append_left _ (List.mem_of_getElem? (i := 100) rfl)))) | exact List.mem_of_getElem? (i := 820) (by decide +kernel)), (by first | exact List.mem_append_right _ (List.mem_append_right _ (List.mem_append_right _ (List.mem_append_right _ (List.mem_append_left _ (List.mem_of_getElem? (i := 129) rfl))))) | exact List.mem_of_getElem? (i := 1089) (by decide +kernel)), (by first | exact List.mem_append_right _ (List.mem_append_right _ (List.mem_append_right _ (List.mem_append_right _ (List.mem_append_left _ (List.mem_of_getElem? (i := 130) rfl))))) | exact List.mem_of_getElem? (i := 1090) (by decide +kernel))⟩
theorem lw_p49 : lw_okq (⟨"CutAtlasModel", "step", "(IZ)J"⟩, 34) := ⟨⟨by decide +kernel, by decide +kernel⟩, (by first | exact List.mem_append_right _ (List.mem_append_right _ (List.mem_append_right _ (List.mem_append_left _ (List.mem_of_getElem? (i := 100) rfl)))) | exact List.mem_of_getElem? (i := 820) (by decide +kernel)), (by first | exact List.mem_append_right _ (List.mem_append_right _ (List.mem_append_right _ (List.mem_append_right _ (List.mem_append_left _ (List.mem_of_getElem? (i := 134) rfl))))) | exact List.mem_of_getElem? (i := 1094) (by decide +kernel)), (by first | exact List.mem_append_right _ (List.mem_append_right _ (List.mem_append_right _ (List.mem_append_right _ (List.mem_append_left _ (List.mem_of_getElem? (i := 135) rfl))))) | exact List.mem_of_getElem? (i := 1095) (by decide +kernel))⟩
theorem lw_p50 : lw_okq (⟨"CutAtlasModel", "amount", "(IZ)I"⟩, 34) := ⟨⟨by decide +kernel, by decide +kernel⟩, (by first | exact List.mem_append_right _ (List.mem_append_right _ (List.mem_append_right _ (List.mem_append_left _ (List.mem_of_getElem? (i := 100) rfl)))) | exact List.mem_of_getElem? (i := 820) (by decide +kernel)), (by first | exact List.mem_append_right _ (List.mem_append_right _ (List.mem_append_right _ (List.mem_append_right _ (List.mem_append_left _ (List.mem_of_getElem? (i := 138) rfl))))) | exact List.mem_of_getElem? (i := 1098) (by decide +kernel)), (by first | exact List.mem_append_right _ (List.mem_append_right _ (List.mem_append_right _ (List.mem_append_right _ (List.mem_append_left _ (List.mem_of_getElem? (i := 139) rfl))))) | exact List.mem_of_getElem? (i := 1099) (by decide +kernel))⟩
theorem lw_p51 : lw_okq (⟨"CutAtlasModel", "isWhole", "()Z"⟩, 34) := ⟨⟨by decide +kernel, by decide +kernel⟩, (by first | exact List.mem_append_right _ (List.mem_append_right _ (List.mem_append_right _ (List.mem_append_left _ (List.mem_of_getElem? (i := 100) rfl)))) | exact List.mem_of_getElem? (i := 820) (by decide +kernel)), (by first | exact List.mem_append_right _ (List.mem_append_right _ (List.mem_append_right _ (List.mem_append_right _ (List.mem_append_left _ (List.mem_of_getElem? (i := 146) rfl))))) | exact List.mem_of_getElem? (i := 1106) (by decide +kernel)), (by first | exact List.mem_append_right _ (List.mem_append_right _ (List.mem_append_right _ (List.mem_append_right _ (List.mem_append_left _ (List.mem_of_getElem? (i := 147) rfl))))) | exact List.mem_of_getElem? (i := 1107) (by decide +kernel))⟩
theorem lw_p52 : lw_okq (⟨"CutAtlasModel", "plants", "()V"⟩, 34) := ⟨⟨by decide +kernel, by decide +kernel⟩, (by first | exact List.mem_append_right _ (List.mem_append_right _ (List.mem_append_right _ (List.mem_append_left _ (List.mem_of_getElem? (i := 100) rfl)))) | exact List.mem_of_getElem? (i := 820) (by decide +kernel)), (by first | exact List.mem_append_right _ (List.mem_append_right _ (List.mem_append_right _ (List.mem_append_right _ (List.mem_append_left _ (List.mem_of_getElem? (i := 150) rfl))))) | exact List.mem_of_getElem? (i := 1110) (by decide +kernel)), (by first | exact List.mem_append_right _ (List.mem_append_right _ (List.mem_append_right _ (List.mem_append_right _ (List.mem_append_left _ (List.mem_of_getElem? (i := 151) rfl))))) | exact List.mem_of_getElem? (i := 1111) (by decide +kernel))⟩
theorem lw_p53 : lw_okq (⟨"CutAtlasModel", "leastOf", "()I"⟩, 34) := ⟨⟨by decide +kernel, by decide +kernel⟩, (by first | exact List.mem_append_right _ (List.mem_append_right _ (List.mem_append_right _ (List.mem_append_left _ (List.mem_of_getElem? (i := 100) rfl)))) | exact List.mem_of_getElem? (i := 820) (by decide +kernel)), (by first | exact List.mem_append_right _ (List.mem_append_right _ (List.mem_append_right _ (List.mem_append_right _ (List.mem_append_left _ (List.mem_of_getElem? (i := 162) rfl))))) | exact List.mem_of_getElem? (i := 1122) (by decide +kernel)), (by first | exact List.mem_append_right _ (List.mem_append_right _ (List.mem_append_right _ (List.mem_append_right _ (List.mem_append_left _ (List.mem_of_getElem? (i := 163) rfl))))) | exact List.mem_of_getElem? (i := 1123) (by decide +kernel))⟩
theorem lw_p54 : lw_okq (⟨"CutAtlasModel", "wholeCuts", "(I)V"⟩, 34) := ⟨⟨by decide +kernel, by decide +kernel⟩, (by first | exact List.mem_append_right _ (List.mem_append_right _ (List.mem_append_right _ (List.mem_append_left _ (List.mem_of_getElem? (i := 100) rfl)))) | exact List.mem_of_getElem? (i := 820) (by decide +kernel)), (by first | exact List.mem_append_right _ (List.mem_append_right _ (List.mem_append_right _ (List.mem_append_right _ (List.mem_append_left _ (List.mem_of_getElem? (i := 170) rfl))))) | exact List.mem_of_getElem? (i := 1130) (by decide +kernel)), (by first | exact List.mem_append_right _ (List.mem_append_right _ (List.mem_append_right _ (List.mem_append_right _ (List.mem_append_left _ (List.mem_of_getElem? (i := 171) rfl))))) | exact List.mem_of_getElem? (i := 1131) (by decide +kernel))⟩
theorem lw_p55 : lw_okq (⟨"CutAtlasModel", "no", "(I)I"⟩, 34) := ⟨⟨by decide +kernel, by decide +kernel⟩, (by first | exact List.mem_append_right _ (List.mem_append_right _ (List.mem_append_right _ (List.mem_append_left _ (List.mem_of_getElem? (i := 100) rfl)))) | exact List.mem_of_getElem? (i := 820) (by decide +kernel)), (by first | exact List.mem_append_right _ (List.mem_append_right _ (List.mem_append_right _ (List.mem_append_right _ (List.mem_append_left _ (List.mem_of_getElem? (i := 195) rfl))))) | exact List.mem_of_getElem? (i := 1155) (by decide +kernel)), (by first | exact List.mem_append_right _ (List.mem_append_right _ (List.mem_append_right _ (List.mem_append_right _ (List.mem_append_left _ (List.mem_of_getElem? (i := 196) rfl))))) | exact List.mem_of_getElem? (i := 1156) (by decide +kernel))⟩
theorem lw_p56 : lw_okq (⟨"CutAtlasModel", "wrong", "(IIII)I"⟩, 34) := ⟨⟨by decide +kernel, by decide +kernel⟩, (by first | exact List.mem_append_right _ (List.mem_append_right _ (List.mem_append_right _ (List.mem_append_left _ (List.mem_of_getElem? (i := 100) rfl)))) | exact List.mem_of_getElem? (i := 820) (by decide +kernel)), (by first | exact List.mem_append_right _ (List.mem_append_right _ (List.mem_append_right _ (List.mem_append_right _ (List.mem_append_left _ (List.mem_of_getElem? (i := 207) rfl))))) | exact List.mem_of_getElem? (i := 1167) (by decide +kernel)), (by first | exact List.mem_append_right _ (List.mem_append_right _ (List.mem_append_right _ (List.mem_append_right _ (List.mem_append_left _ (List.mem_of_getElem? (i := 208) rfl))))) | exact List.mem_of_getElem? (i := 1168) (by decide +kernel))⟩
noncomputable def lw_privs_4 : List (MethodName × Nat) := [(⟨"CutAtlasModel", "cheapWay", "(II)Z"⟩, 34), (⟨"CutAtlasModel", "step", "(IZ)J"⟩, 34), (⟨"CutAtlasModel", "amount", "(IZ)I"⟩, 34), (⟨"CutAtlasModel", "isWhole", "()Z"⟩, 34), (⟨"CutAtlasModel", "plants", "()V"⟩, 34), (⟨"CutAtlasModel", "leastOf", "()I"⟩, 34), (⟨"CutAtlasModel", "wholeCuts", "(I)V"⟩, 34), (⟨"CutAtlasModel", "no", "(I)I"⟩, 34), (⟨"CutAtlasModel", "wrong", "(IIII)I"⟩, 34)]
theorem lw_r4 : ∀ q ∈ lw_privs_4, lw_okq q := List.forall_mem_cons.mpr ⟨lw_p48, List.forall_mem_cons.mpr ⟨lw_p49, List.forall_mem_cons.mpr ⟨lw_p50, List.forall_mem_cons.mpr ⟨lw_p51, List.forall_mem_cons.mpr ⟨lw_p52, List.forall_mem_cons.mpr ⟨lw_p53, List.forall_mem_cons.mpr ⟨lw_p54, List.forall_mem_cons.mpr ⟨lw_p55, List.forall_mem_cons.mpr ⟨lw_p56, fun _ h => absurd h List.not_mem_nil⟩⟩⟩⟩⟩⟩⟩⟩⟩
noncomputable def lw_privs : List (MethodName × Nat) := lw_privs_1 ++ (lw_privs_2 ++ (lw_privs_3 ++ (lw_privs_4)))
noncomputable def lw_tbl : List Cond := k2_sels lw_privs ++ tables_1
theorem lw_privs_ok : ∀ q ∈ lw_privs, lw_okq q := by
  show ∀ q ∈ lw_privs_1 ++ (lw_privs_2 ++ (lw_privs_3 ++ (lw_privs_4))), lw_okq q
  exact List.forall_mem_append.mpr ⟨lw_r1, List.forall_mem_append.mpr ⟨lw_r2, List.forall_mem_append.mpr ⟨lw_r3, lw_r4⟩⟩⟩
end

section
/-! ===== BEGIN words of one list among another's, by their places ===== -/
theorem goodIn_r {big : List Cond} (ws : List Cond) (ps : List Nat) (hp : ws = ps.filterMap (fun i => big[i]?)) (h : ws.all goodWord = true) : GoodIn big ws := by
  intro w hw
  have h1 := List.all_eq_true.mp h w hw
  rw [hp] at hw
  obtain ⟨i, -, hi⟩ := List.mem_filterMap.mp hw
  have hm : w ∈ big := by first | exact List.mem_of_getElem? hi | exact List.getElem?_mem hi
  exact ⟨hm, good_of_word h1⟩
theorem goodIn_app {big a b : List Cond} (ha : GoodIn big a) (hb : GoodIn big b) : GoodIn big (a ++ b) := fun w h => (List.mem_append.mp h).elim (ha w) (hb w)
theorem goodIn_ca {big a b : List Cond} {c : Cond} (ha : GoodIn big (c :: a)) (hb : GoodIn big b) : GoodIn big (c :: (a ++ b)) := fun w h => (List.mem_cons.mp h).elim (fun e => ha w (List.mem_cons.mpr (Or.inl e))) (fun h => (List.mem_append.mp h).elim (fun h => ha w (List.mem_cons.mpr (Or.inr h))) (hb w))
theorem goodIn_sub {big ws : List Cond} (hm : ∀ w ∈ ws, w ∈ big) (h : ws.all goodWord = true) : GoodIn big ws := fun w hw => ⟨hm w hw, good_of_word (List.all_eq_true.mp h w hw)⟩
/-! ===== END ===== -/

noncomputable def va_AOA (t : FieldType) (U : State) : Prop := (Cond.arrayOver (.array t)).before #[] U = true
theorem va_AOA.use {t : FieldType} {A : Array Value} {U : State} (h : va_AOA t U) : (Cond.arrayOver (.array t)).before A U = true := h
theorem va_AOA.moved {t : FieldType} {u U : State} (hvm : u.vm.Alike U.vm) (h : va_AOA t u) : va_AOA t U := by
  obtain ⟨comp, c, k, h1, h2, h3, h4, h5⟩ := arrayOverA_spec h
  obtain ⟨k', hk', he⟩ := hvm.2.2 _ _ h3
  have hi : (U.vm.classes.findIdx? fun (x : Class) => match x.kind with | .array component _ => component == comp | _ => false) = some c := by
    have e1 := va_idx_bare U.vm comp
    have e2 := va_idx_bare u.vm comp
    have e3 : u.vm.bare = U.vm.bare := by first | exact hvm.bare_eq | exact hvm.bare_eq.symm
    rw [e3] at e2
    exact (e1.symm.trans e2).trans h2
  have hkind : k'.kind = .array comp (.array t) := by rw [he]; exact h4
  have f1 : U.vm.findClass (FieldType.array t).toString = some comp := by rw [hvm.findClass]; exact h1
  have f2 : U.vm.findClass ("[" ++ (FieldType.array t).toString) = some c := by rw [hvm.findClass]; exact h5
  unfold va_AOA Cond.before Cond.holds
  simp only [Cond.value]
  rw [f1, Option.bind_some]
  refine (congrArg (fun o : Option Nat => (o.bind (fun c => (U.vm.classes[c]?).map fun (k : Class) => match k.kind with | .array _ ty => decide (ty = FieldType.array t) && decide (U.vm.findClass ("[" ++ (FieldType.array t).toString) = some c) | _ => false) == some true)) hi).trans ?_
  simp [hk', hkind, f2]
/-! ===== BEGIN new T[n][m]: the outer array a place, the inner ones among the pooled ===== -/
/-- f, but v at every address of l -/
noncomputable def vr_up {α : Type} (f : Nat → α) (l : List Nat) (v : α) : Nat → α := fun a => if a ∈ l then v else f a
theorem vr_up_in {α : Type} {f : Nat → α} {l : List Nat} {v : α} {a : Nat} (h : a ∈ l) : vr_up f l v a = v := if_pos h
theorem vr_up_ne {α : Type} {f : Nat → α} {l : List Nat} {v : α} {a : Nat} (h : a ∉ l) : vr_up f l v a = f a := if_neg h
theorem vr_rows {L l : List Nat} {f : Nat → va_E} {e : va_E} (h : ∀ a, a ∈ l → a ∉ L) : va_pl L f ++ l.map (fun a => (a, e)) = va_pl (L ++ l) (vr_up f l e) := by
  unfold va_pl
  rw [List.map_append]
  congr 1
  · apply List.map_congr_left
    intro a ha
    rw [vr_up_ne (fun q => h a q ha)]
  · apply List.map_congr_left
    intro a ha
    rw [vr_up_in ha]
theorem vr_lay {X rows : va_W} {x : Nat × va_E} {pl : va_W} {D : va_G} {cl : List vw_C} {H : Heap} (hP : va_P D cl (((X ++ pl) ++ [x]) ++ rows) H) : va_P D cl ((X ++ [x]) ++ (pl ++ rows)) H := by
  rw [List.append_assoc (X ++ pl)] at hP
  have h := va_P.swap hP
  rw [← List.append_assoc X] at h
  have h2 := va_P.swap h
  rw [List.append_assoc (X ++ [x])] at h2
  exact h2
theorem vr_layD {X rows : va_W} {x : Nat × va_E} {pl : va_W} {A : Nat → Prop} (hD : va_D A (((X ++ pl) ++ [x]) ++ rows)) : va_D A ((X ++ [x]) ++ (pl ++ rows)) := by
  rw [List.append_assoc (X ++ pl)] at hD
  have h := va_D.swap hD
  rw [← List.append_assoc X] at h
  have h2 := va_D.swap h
  rw [List.append_assoc (X ++ [x])] at h2
  exact h2
theorem vr_outer (c : ClassId) (N h0 : Nat) : ∀ i : Nat, Jvm.Free.Multi.outerC c N h0 i = arrV c N (fun j => va_rf (if j < i then some (h0 + 1 + j) else none))
  | 0 => by
    show ({ cls := c, slots := Array.replicate N .null, vm := .none } : Cell) = _
    rw [arrV_new]
    refine congrArg (arrV c N) (funext fun j => ?_)
    simp [va_rf]
  | i + 1 => by
    show (Jvm.Free.Multi.outerC c N h0 i).setSlot i (.ref (h0 + 1 + i)) = _
    rw [vr_outer c N h0 i, arrV_store]
    refine congrArg (arrV c N) (funext fun j => ?_)
    by_cases e : j = i
    · subst e
      simp [updV, va_rf]
    · by_cases h : j < i
      · simp [updV, e, h, Nat.lt_succ_of_lt h]
      · simp [updV, e, h, show ¬ j < i + 1 by omega]
section VGM
variable {p : Program} {l : Launch} {e : Env} {R : Room} {s : State} {m : MethodId} {args : Array Value} {below : List Frame} {meth : Method} {c : Code} {H : Heap} {locs : List Loc} {cells slots : Nat} {Q : State → Prop}
variable {cc : ByteArray} {pc : Nat} {ls : Array Slot} {rest : List Value} {D : va_G} {cl : List vw_C} {A : Nat → Prop} {a : Nat} {tys : List (ClassId × FieldType)} {ws : va_W} {H0 : Heap}
theorem va_mna {X : va_W} {L : List Nat} {f : Nat → va_E} {cc : ByteArray} (hexec : p.tables.exec = Jvm.exec) (hb : c.code = cc) {own : String} {index : Nat} {ty : FieldType} {cy : ClassId} (hown : s.vm.findClass own = some m.cls) (hclink : (Cond.classLink own index ("[" ++ (FieldType.array ty).toString)).before args s = true) (hover : va_AOA ty s) (harr : (Cond.arrayClass ty).before args s = true) (hcy : s.vm.findClass (FieldType.array ty).toString = some cy)
    (hK : va_K D cl tys s) (hP : va_P D cl (X ++ va_pl L f) H) (hD : va_D A (X ++ va_pl L f)) (hS : va_S A H0 H locs) (hA : ∀ q, H0.size ≤ q → A q) {n k : Int32} {N' K' : Nat} {z : vp_A} (hn : ¬ n < 0) (hk : ¬ k < 0) (hN : n.toNatClampNeg = N') (hM : k.toNatClampNeg = K')
    (hb1 : N' * 4 ≤ 536870912) (hb2 : K' * componentBytes ty ≤ 536870912) (hb3 : K' ≤ 536870912) (hdf : fits ty (defaultValue ty) = true) (hdd : (defaultValue ty).isDefault = true) (hcells : cells + (1 + N') ≤ R.cells) (hslots : slots + (N' + N' * K') ≤ R.slots) (hz : ∀ c : ClassId, Jvm.Free.Multi.innerC c K' (defaultValue ty) = vp_cell c z) (hdg : decode cc pc = .ok (.multianewarray index 2, 4))
    (kk : ∀ (q : Nat) (r : Nat → Nat) (cA : ClassId) (H1 : Heap), (∀ i j : Nat, i < N' → j < N' → r i = r j → i = j) → (∀ i : Nat, i < N' → r i ∉ L) → va_K D cl (tys ++ [(cA, .array ty)]) s →
      va_P D cl ((X ++ [(q, .inl (cA, N', .inr (.inr (.inr (.inr (fun i => if i < N' then some (r i) else none))))))]) ++ va_pl (L ++ (List.range N').map r) (vr_up f ((List.range N').map r) (.inl (cy, z)))) H1 → va_D A ((X ++ [(q, .inl (cA, N', .inr (.inr (.inr (.inr (fun i => if i < N' then some (r i) else none))))))]) ++ va_pl (L ++ (List.range N').map r) (vr_up f ((List.range N').map r) (.inl (cy, z)))) → va_S A H0 H1 locs →
      W p l e R s m args below meth c H1 locs (cells + 1 + N') (slots + N' + N' * K') Q (F0 m (pc + 4) ls (.ref q :: rest))) : W p l e R s m args below meth c H locs cells slots Q (F0 m pc ls (.int k :: .int n :: rest)) := by
  subst hN
  subst hM
  intro T hT Xs
  obtain ⟨vm₁, cA, comp, -, fA, fC, hO, -, X', step⟩ := Xs.multianewarray2F hexec hown hclink (va_AOA.use hover) harr (g := F0 m pc ls (.int k :: .int n :: rest)) rfl (by rw [hb]; exact hdg) rfl hn hk hb1 hb2 hb3 hdf hdd hcells hslots
  have ec : some cy = some comp := hcy.symm.trans fC
  cases ec
  generalize hF : Jvm.Free.Multi.fill (T.setVm vm₁) cA cy n.toNatClampNeg k.toNatClampNeg (defaultValue ty) n.toNatClampNeg = F at X' step
  have hTh : (T.setVm vm₁).heap = H := hT
  obtain ⟨f1, f2, -, -⟩ := Jvm.Free.Multi.fill_facts (T.setVm vm₁) cA cy n.toNatClampNeg k.toNatClampNeg (defaultValue ty) n.toNatClampNeg
  rw [hF, hTh] at f1 f2
  have hold : ∀ x : Nat, x < H.size → F.heap[x]? = H[x]? := fun x hx => by
    have := Jvm.Free.Multi.fill_old (T.setVm vm₁) cA cy n.toNatClampNeg k.toNatClampNeg (defaultValue ty) (a := x) (by rw [hTh]; exact hx) n.toNatClampNeg
    rw [hF, hTh] at this
    exact this
  have hrow : ∀ j : Nat, j < n.toNatClampNeg → F.heap[H.size + 1 + j]? = some (vp_cell cy z) := fun j hj => by
    have := Jvm.Free.Multi.fill_inner (T.setVm vm₁) cA cy n.toNatClampNeg k.toNatClampNeg (defaultValue ty) n.toNatClampNeg j hj
    rw [hF, hTh, hz] at this
    exact this
  have hout : Jvm.Free.Multi.outerC cA n.toNatClampNeg H.size n.toNatClampNeg = vp_cell cA (n.toNatClampNeg, .inr (.inr (.inr (.inr (fun i => if i < n.toNatClampNeg then some (H.size + 1 + i) else none))))) := by
    rw [vp_cell_q]
    exact vr_outer cA n.toNatClampNeg H.size n.toNatClampNeg
  rw [hout] at f2
  have hlt : ∀ a, a ∈ L → a < H.size := fun a ha => by
    obtain ⟨k9, hk9⟩ := va_pl_get (X := X) (f := f) ha
    exact (hP k9 _ hk9).lt
  have hnl : ∀ i : Nat, i < n.toNatClampNeg → H.size + 1 + i ∉ L := fun i _ h => by
    have := hlt _ h
    omega
  have hnm : ∀ a, a ∈ (List.range n.toNatClampNeg).map (fun i => H.size + 1 + i) → a ∉ L := fun a ha h => by
    obtain ⟨i, -, rfl⟩ := List.mem_map.mp ha
    have := hlt _ h
    omega
  have hP0 : va_P D cl (X ++ va_pl L f) F.heap := hP.kept (fun k9 x hx => hold x.1 ((hP k9 x hx).lt))
  have hP1 : va_P D cl ((X ++ va_pl L f) ++ [(H.size, .inl (cA, n.toNatClampNeg, .inr (.inr (.inr (.inr (fun i => if i < n.toNatClampNeg then some (H.size + 1 + i) else none))))))]) F.heap := hP0.app (fun k9 x hx => by
    have h0 : k9 < 1 := (List.getElem?_eq_some_iff.mp hx).1
    rw [show k9 = 0 by omega] at hx
    cases hx
    exact f2)
  have hP2 : va_P D cl (((X ++ va_pl L f) ++ [(H.size, .inl (cA, n.toNatClampNeg, .inr (.inr (.inr (.inr (fun i => if i < n.toNatClampNeg then some (H.size + 1 + i) else none))))))]) ++ ((List.range n.toNatClampNeg).map (fun i => H.size + 1 + i)).map (fun a => (a, .inl (cy, z)))) F.heap := hP1.app (fun k9 x hx => by
    obtain ⟨a, ha, rfl⟩ := List.mem_map.mp (List.mem_of_getElem? hx)
    obtain ⟨i, hi, rfl⟩ := List.mem_map.mp ha
    exact hrow i (List.mem_range.mp hi))
  have hD2 : va_D A (((X ++ va_pl L f) ++ [(H.size, .inl (cA, n.toNatClampNeg, .inr (.inr (.inr (.inr (fun i => if i < n.toNatClampNeg then some (H.size + 1 + i) else none))))))]) ++ ((List.range n.toNatClampNeg).map (fun i => H.size + 1 + i)).map (fun a => (a, .inl (cy, z)))) := by
    have hD1 := hD.push (e := .inl (cA, n.toNatClampNeg, .inr (.inr (.inr (.inr (fun i => if i < n.toNatClampNeg then some (H.size + 1 + i) else none)))))) hP rfl (hA _ hS.1)
    generalize hW1 : (X ++ va_pl L f) ++ [(H.size, .inl (cA, n.toNatClampNeg, .inr (.inr (.inr (.inr (fun i => if i < n.toNatClampNeg then some (H.size + 1 + i) else none))))))] = W1 at hD1 hP1 ⊢
    have hle : ∀ (k9 : Nat) (x : Nat × va_E), W1[k9]? = some x → x.1 ≤ H.size := fun k9 x hx => by
      rw [← hW1] at hx
      by_cases hl : k9 < (X ++ va_pl L f).length
      · rw [List.getElem?_append_left hl] at hx
        exact Nat.le_of_lt ((hP k9 x hx).lt)
      · rw [List.getElem?_append_right (by omega)] at hx
        have h0 : k9 - (X ++ va_pl L f).length < 1 := (List.getElem?_eq_some_iff.mp hx).1
        rw [show k9 - (X ++ va_pl L f).length = 0 by omega] at hx
        cases hx
        exact Nat.le_refl _
    have hr : ∀ (k9 : Nat) (x : Nat × va_E), (((List.range n.toNatClampNeg).map (fun i => H.size + 1 + i)).map (fun a => ((a, .inl (cy, z)) : Nat × va_E)))[k9]? = some x → x.1 = H.size + 1 + k9 := fun k9 x hx => by
      rw [List.getElem?_map, List.getElem?_map] at hx
      by_cases h9 : k9 < n.toNatClampNeg
      · rw [List.getElem?_range h9] at hx
        cases hx
        rfl
      · have hn0 : (List.range n.toNatClampNeg)[k9]? = none := List.getElem?_eq_none (by rw [List.length_range]; omega)
        rw [hn0] at hx
        cases hx
    refine ⟨fun i j x y hi hj hxy => ?_, fun k9 x hx => ?_⟩
    · by_cases h1 : i < W1.length <;> by_cases h2 : j < W1.length
      · rw [List.getElem?_append_left h1] at hi
        rw [List.getElem?_append_left h2] at hj
        exact hD1.1 i j x y hi hj hxy
      · rw [List.getElem?_append_left h1] at hi
        rw [List.getElem?_append_right (by omega)] at hj
        have := hle _ _ hi
        have := hr _ _ hj
        omega
      · rw [List.getElem?_append_right (by omega)] at hi
        rw [List.getElem?_append_left h2] at hj
        have := hle _ _ hj
        have := hr _ _ hi
        omega
      · rw [List.getElem?_append_right (by omega)] at hi hj
        have := hr _ _ hi
        have := hr _ _ hj
        omega
    · by_cases h1 : k9 < W1.length
      · rw [List.getElem?_append_left h1] at hx
        exact hD1.2 k9 x hx
      · rw [List.getElem?_append_right (by omega)] at hx
        have := hr _ _ hx
        exact hA _ (by have := hS.1; omega)
  have hAr : ArrOfT s cA (.array ty) := fun N9 z9 => by
    obtain ⟨-, k9, hk9, cm9, hkk9⟩ := (hO 0 0 0).1
    exact ⟨(fun q hq => by cases hq), k9, hk9, cm9, hkk9⟩
  have hK2 : va_K D cl (tys ++ [(cA, .array ty)]) s := ⟨hK.1, fun k9 x hx => by
    by_cases hl : k9 < tys.length
    · rw [List.getElem?_append_left hl] at hx
      exact hK.2 k9 x hx
    · rw [List.getElem?_append_right (by omega)] at hx
      have h0 : k9 - tys.length < 1 := (List.getElem?_eq_some_iff.mp hx).1
      rw [show k9 - tys.length = 0 by omega] at hx
      cases hx
      exact ⟨hAr, fA⟩⟩
  obtain ⟨t, a1, b1⟩ := kk H.size (fun i => H.size + 1 + i) cA F.heap (fun i j _ _ h => by have h9 : H.size + 1 + i = H.size + 1 + j := h; omega) hnl hK2 (by rw [← vr_rows hnm]; exact vr_lay hP2) (by rw [← vr_rows hnm]; exact vr_layD hD2) ⟨by rw [f1]; have := hS.1; omega, fun x h1 h2 => (hold x (Nat.lt_of_lt_of_le h1 hS.1)).trans (hS.2.1 x h1 h2), hS.2.2⟩ F rfl X'
  refine ⟨t, step t ?_, b1⟩
  have e : T.heap.size = H.size := by rw [hT]
  rw [e]
  exact a1
end VGM
/-! ===== END ===== -/
end

section
noncomputable def RX0 : String := "CutAtlas$Current"
noncomputable def TX0 : u_T := fun k => match k with
  | 0 => ("CutAtlas$Current", "net", "LCutAtlas$Net;", true)
  | 1 => ("CutAtlas$Current", "kinds", "[LCutAtlas$PlainKind;", true)
  | 2 => ("CutAtlas$Current", "lets", "[[I", true)
  | 3 => ("CutAtlas$Current", "room", "[[I", true)
  | 4 => ("CutAtlas$Current", "flowing", "[I", true)
  | 5 => ("CutAtlas$Current", "letsForth", "[I", true)
  | 6 => ("CutAtlas$Current", "letsBack", "[I", true)
  | 7 => ("CutAtlas$Current", "queue", "[I", true)
  | _ => ("CutAtlas$Current", "cameFrom", "[I", true)
noncomputable def tyX0 : Nat → FieldType := fun k => match k with
  | 0 => .object "CutAtlas$Net"
  | 1 => .array (.object "CutAtlas$PlainKind")
  | 2 => .array (.array .int)
  | 3 => .array (.array .int)
  | 4 => .array .int
  | 5 => .array .int
  | 6 => .array .int
  | 7 => .array .int
  | _ => .array .int
noncomputable abbrev wsX00 : List Cond := u_ws RX0 TX0 9
theorem nmX0 : ∀ a, a < 9 → ∀ b, b < 9 → a ≠ b → (TX0 a).2.1 ≠ (TX0 b).2.1 := by decide +kernel
theorem tyX0_ok : ∀ k, k < 9 → parseFieldDescriptor (TX0 k).2.2.1 = some (tyX0 k) := by decide +kernel
noncomputable abbrev cX0_init : ByteArray := prog_2_method_1_code
noncomputable def yX0_init : MethodName := ⟨RX0, "<init>", "(LCutAtlas$Net;[LCutAtlas$PlainKind;)V"⟩
noncomputable abbrev cX0_load : ByteArray := prog_2_method_2_code
noncomputable def yX0_load : MethodName := ⟨RX0, "load", "(I)V"⟩
noncomputable abbrev cX0_asRoom : ByteArray := prog_2_method_3_code
noncomputable def yX0_asRoom : MethodName := ⟨RX0, "asRoom", "(I)I"⟩
noncomputable abbrev cX0_fill : ByteArray := prog_2_method_4_code
noncomputable def yX0_fill : MethodName := ⟨RX0, "fill", "(II)I"⟩
noncomputable abbrev cX0_findWay : ByteArray := prog_2_method_5_code
noncomputable def yX0_findWay : MethodName := ⟨RX0, "findWay", "(II)Z"⟩
noncomputable abbrev cX0_sendAlongWay : ByteArray := prog_2_method_6_code
noncomputable def yX0_sendAlongWay : MethodName := ⟨RX0, "sendAlongWay", "(II)I"⟩
noncomputable abbrev cX0_sendOver : ByteArray := prog_2_method_7_code
noncomputable def yX0_sendOver : MethodName := ⟨RX0, "sendOver", "(III)V"⟩
noncomputable abbrev cX0_nearCut : ByteArray := prog_2_method_8_code
noncomputable def yX0_nearCut : MethodName := ⟨RX0, "nearCut", "(I)I"⟩
noncomputable abbrev cX0_farCut : ByteArray := prog_2_method_9_code
noncomputable def yX0_farCut : MethodName := ⟨RX0, "farCut", "(I)I"⟩
noncomputable abbrev cX0_reachedFrom : ByteArray := prog_2_method_10_code
noncomputable def yX0_reachedFrom : MethodName := ⟨RX0, "reachedFrom", "(II)I"⟩
noncomputable abbrev cX0_reaching : ByteArray := prog_2_method_11_code
noncomputable def yX0_reaching : MethodName := ⟨RX0, "reaching", "(I)I"⟩
noncomputable abbrev cX0_leaving : ByteArray := prog_2_method_12_code
noncomputable def yX0_leaving : MethodName := ⟨RX0, "leaving", "(I)I"⟩
noncomputable abbrev cX0_betweenSets : ByteArray := prog_2_method_13_code
noncomputable def yX0_betweenSets : MethodName := ⟨RX0, "betweenSets", "(II)I"⟩
noncomputable def RX1 : String := "CutAtlas$CutTree"
noncomputable def TX1 : u_T := fun k => match k with
  | 0 => ("CutAtlas$CutTree", "current", "LCutAtlas$Current;", true)
  | 1 => ("CutAtlas$CutTree", "nexts", "[I", true)
  | _ => ("CutAtlas$CutTree", "numbers", "[I", true)
noncomputable def tyX1 : Nat → FieldType := fun k => match k with
  | 0 => .object "CutAtlas$Current"
  | 1 => .array .int
  | _ => .array .int
noncomputable abbrev wsX10 : List Cond := u_ws RX1 TX1 3
theorem nmX1 : ∀ a, a < 3 → ∀ b, b < 3 → a ≠ b → (TX1 a).2.1 ≠ (TX1 b).2.1 := by decide +kernel
theorem tyX1_ok : ∀ k, k < 3 → parseFieldDescriptor (TX1 k).2.2.1 = some (tyX1 k) := by decide +kernel
noncomputable abbrev cX1_init : ByteArray := prog_3_method_1_code
noncomputable def yX1_init : MethodName := ⟨RX1, "<init>", "(LCutAtlas$Current;)V"⟩
noncomputable abbrev cX1_grow : ByteArray := prog_3_method_2_code
noncomputable def yX1_grow : MethodName := ⟨RX1, "grow", "()V"⟩
noncomputable abbrev cX1_hang : ByteArray := prog_3_method_3_code
noncomputable def yX1_hang : MethodName := ⟨RX1, "hang", "(I)V"⟩
noncomputable abbrev cX1_leastOnWay : ByteArray := prog_3_method_4_code
noncomputable def yX1_leastOnWay : MethodName := ⟨RX1, "leastOnWay", "(II)I"⟩
noncomputable abbrev cX1_stepsToRoot : ByteArray := prog_3_method_5_code
noncomputable def yX1_stepsToRoot : MethodName := ⟨RX1, "stepsToRoot", "(I)I"⟩
noncomputable abbrev cX1_leastNumber : ByteArray := prog_3_method_6_code
noncomputable def yX1_leastNumber : MethodName := ⟨RX1, "leastNumber", "()I"⟩
noncomputable abbrev cX1_leastAlike : ByteArray := prog_3_method_7_code
noncomputable def yX1_leastAlike : MethodName := ⟨RX1, "leastAlike", "(II)I"⟩
noncomputable abbrev cX1_partsBelow : ByteArray := prog_3_method_8_code
noncomputable def yX1_partsBelow : MethodName := ⟨RX1, "partsBelow", "(II)I"⟩
noncomputable def RX2 : String := "CutAtlas$DearKind"
noncomputable def TX2 : u_T := fun k => match k with
  | _ => ("", "", "", false)
noncomputable def tyX2 : Nat → FieldType := fun k => match k with
  | _ => .int
noncomputable abbrev wsX20 : List Cond := u_ws RX2 TX2 0
theorem nmX2 : ∀ a, a < 0 → ∀ b, b < 0 → a ≠ b → (TX2 a).2.1 ≠ (TX2 b).2.1 := by decide +kernel
theorem tyX2_ok : ∀ k, k < 0 → parseFieldDescriptor (TX2 k).2.2.1 = some (tyX2 k) := by decide +kernel
noncomputable abbrev cX2_init : ByteArray := prog_4_method_1_code
noncomputable def yX2_init : MethodName := ⟨RX2, "<init>", "()V"⟩
noncomputable abbrev cX2_costs : ByteArray := prog_4_method_2_code
noncomputable def yX2_costs : MethodName := ⟨RX2, "costs", "(I)I"⟩
noncomputable abbrev cX2_costsMark : ByteArray := prog_4_method_3_code
noncomputable def yX2_costsMark : MethodName := ⟨RX2, "costsMark", "()I"⟩
noncomputable def RX3 : String := "CutAtlas$Net"
noncomputable def TX3 : u_T := fun k => match k with
  | 0 => ("CutAtlas$Net", "places", "I", false)
  | 1 => ("CutAtlas$Net", "lines", "I", false)
  | 2 => ("CutAtlas$Net", "kinds", "[I", true)
  | 3 => ("CutAtlas$Net", "starts", "[I", true)
  | 4 => ("CutAtlas$Net", "ends", "[I", true)
  | 5 => ("CutAtlas$Net", "widths", "[I", true)
  | _ => ("CutAtlas$Net", "prices", "[I", true)
noncomputable def tyX3 : Nat → FieldType := fun k => match k with
  | 0 => .int
  | 1 => .int
  | 2 => .array .int
  | 3 => .array .int
  | 4 => .array .int
  | 5 => .array .int
  | _ => .array .int
noncomputable abbrev wsX30 : List Cond := u_ws RX3 TX3 7
theorem nmX3 : ∀ a, a < 7 → ∀ b, b < 7 → a ≠ b → (TX3 a).2.1 ≠ (TX3 b).2.1 := by decide +kernel
theorem tyX3_ok : ∀ k, k < 7 → parseFieldDescriptor (TX3 k).2.2.1 = some (tyX3 k) := by decide +kernel
noncomputable abbrev cX3_init : ByteArray := prog_5_method_1_code
noncomputable def yX3_init : MethodName := ⟨RX3, "<init>", "()V"⟩
noncomputable abbrev cX3_hasPlace : ByteArray := prog_5_method_2_code
noncomputable def yX3_hasPlace : MethodName := ⟨RX3, "hasPlace", "(J)Z"⟩
noncomputable abbrev cX3_hasPair : ByteArray := prog_5_method_3_code
noncomputable def yX3_hasPair : MethodName := ⟨RX3, "hasPair", "(JJ)Z"⟩
noncomputable abbrev cX3_hasLine : ByteArray := prog_5_method_4_code
noncomputable def yX3_hasLine : MethodName := ⟨RX3, "hasLine", "(I)Z"⟩
noncomputable abbrev cX3_isMissing : ByteArray := prog_5_method_5_code
noncomputable def yX3_isMissing : MethodName := ⟨RX3, "isMissing", "(I)Z"⟩
noncomputable abbrev cX3_missingLines : ByteArray := prog_5_method_6_code
noncomputable def yX3_missingLines : MethodName := ⟨RX3, "missingLines", "()I"⟩
noncomputable abbrev cX3_isWhole : ByteArray := prog_5_method_7_code
noncomputable def yX3_isWhole : MethodName := ⟨RX3, "isWhole", "()Z"⟩
noncomputable abbrev cX3_append : ByteArray := prog_5_method_8_code
noncomputable def yX3_append : MethodName := ⟨RX3, "append", "(IIIII)I"⟩
noncomputable abbrev cX3_join : ByteArray := prog_5_method_9_code
noncomputable def yX3_join : MethodName := ⟨RX3, "join", "(II)I"⟩
noncomputable abbrev cX3_renumbered : ByteArray := prog_5_method_10_code
noncomputable def yX3_renumbered : MethodName := ⟨RX3, "renumbered", "(III)I"⟩
noncomputable abbrev cX3_become : ByteArray := prog_5_method_11_code
noncomputable def yX3_become : MethodName := ⟨RX3, "become", "(LCutAtlas$Net;)V"⟩
noncomputable def RX4 : String := "CutAtlas$NumberMap"
noncomputable def TX4 : u_T := fun k => match k with
  | 0 => ("CutAtlas$NumberMap", "kind", "I", false)
  | 1 => ("CutAtlas$NumberMap", "rows", "I", false)
  | 2 => ("CutAtlas$NumberMap", "lengths", "[I", true)
  | _ => ("CutAtlas$NumberMap", "numbers", "[J", true)
noncomputable def tyX4 : Nat → FieldType := fun k => match k with
  | 0 => .int
  | 1 => .int
  | 2 => .array .int
  | _ => .array .long
noncomputable abbrev wsX40 : List Cond := u_ws RX4 TX4 4
theorem nmX4 : ∀ a, a < 4 → ∀ b, b < 4 → a ≠ b → (TX4 a).2.1 ≠ (TX4 b).2.1 := by decide +kernel
theorem tyX4_ok : ∀ k, k < 4 → parseFieldDescriptor (TX4 k).2.2.1 = some (tyX4 k) := by decide +kernel
noncomputable abbrev cX4_init : ByteArray := prog_6_method_1_code
noncomputable def yX4_init : MethodName := ⟨RX4, "<init>", "()V"⟩
noncomputable abbrev cX4_isThere : ByteArray := prog_6_method_2_code
noncomputable def yX4_isThere : MethodName := ⟨RX4, "isThere", "()Z"⟩
noncomputable abbrev cX4_hasRow : ByteArray := prog_6_method_3_code
noncomputable def yX4_hasRow : MethodName := ⟨RX4, "hasRow", "(I)Z"⟩
noncomputable abbrev cX4_begin : ByteArray := prog_6_method_4_code
noncomputable def yX4_begin : MethodName := ⟨RX4, "begin", "(II)V"⟩
noncomputable abbrev cX4_beginRow : ByteArray := prog_6_method_5_code
noncomputable def yX4_beginRow : MethodName := ⟨RX4, "beginRow", "(II)V"⟩
noncomputable abbrev cX4_store : ByteArray := prog_6_method_6_code
noncomputable def yX4_store : MethodName := ⟨RX4, "store", "(IIJ)V"⟩
noncomputable abbrev cX4_number : ByteArray := prog_6_method_7_code
noncomputable def yX4_number : MethodName := ⟨RX4, "number", "(II)J"⟩
noncomputable abbrev cX4_whole : ByteArray := prog_6_method_8_code
noncomputable def yX4_whole : MethodName := ⟨RX4, "whole", "(II)I"⟩
noncomputable abbrev cX4_moveRefusal : ByteArray := prog_6_method_9_code
noncomputable def yX4_moveRefusal : MethodName := ⟨RX4, "moveRefusal", "(IIIII)I"⟩
noncomputable abbrev cX4_hasNumbers : ByteArray := prog_6_method_10_code
noncomputable def yX4_hasNumbers : MethodName := ⟨RX4, "hasNumbers", "(III)Z"⟩
noncomputable abbrev cX4_move : ByteArray := prog_6_method_11_code
noncomputable def yX4_move : MethodName := ⟨RX4, "move", "(IIIII)V"⟩
noncomputable def RX5 : String := "CutAtlas$OnewayKind"
noncomputable def TX5 : u_T := fun k => match k with
  | _ => ("", "", "", false)
noncomputable def tyX5 : Nat → FieldType := fun k => match k with
  | _ => .int
noncomputable abbrev wsX50 : List Cond := u_ws RX5 TX5 0
theorem nmX5 : ∀ a, a < 0 → ∀ b, b < 0 → a ≠ b → (TX5 a).2.1 ≠ (TX5 b).2.1 := by decide +kernel
theorem tyX5_ok : ∀ k, k < 0 → parseFieldDescriptor (TX5 k).2.2.1 = some (tyX5 k) := by decide +kernel
noncomputable abbrev cX5_init : ByteArray := prog_7_method_1_code
noncomputable def yX5_init : MethodName := ⟨RX5, "<init>", "()V"⟩
noncomputable abbrev cX5_lets : ByteArray := prog_7_method_2_code
noncomputable def yX5_lets : MethodName := ⟨RX5, "lets", "(IZ)I"⟩
noncomputable abbrev cX5_letsMark : ByteArray := prog_7_method_3_code
noncomputable def yX5_letsMark : MethodName := ⟨RX5, "letsMark", "(Z)I"⟩
noncomputable def RX6 : String := "CutAtlas$PlainKind"
noncomputable def TX6 : u_T := fun k => match k with
  | _ => ("", "", "", false)
noncomputable def tyX6 : Nat → FieldType := fun k => match k with
  | _ => .int
noncomputable abbrev wsX60 : List Cond := u_ws RX6 TX6 0
theorem nmX6 : ∀ a, a < 0 → ∀ b, b < 0 → a ≠ b → (TX6 a).2.1 ≠ (TX6 b).2.1 := by decide +kernel
theorem tyX6_ok : ∀ k, k < 0 → parseFieldDescriptor (TX6 k).2.2.1 = some (tyX6 k) := by decide +kernel
noncomputable abbrev cX6_init : ByteArray := prog_8_method_1_code
noncomputable def yX6_init : MethodName := ⟨RX6, "<init>", "()V"⟩
noncomputable abbrev cX6_lets : ByteArray := prog_8_method_2_code
noncomputable def yX6_lets : MethodName := ⟨RX6, "lets", "(IZ)I"⟩
noncomputable abbrev cX6_letsMark : ByteArray := prog_8_method_3_code
noncomputable def yX6_letsMark : MethodName := ⟨RX6, "letsMark", "(Z)I"⟩
noncomputable abbrev cX6_costs : ByteArray := prog_8_method_4_code
noncomputable def yX6_costs : MethodName := ⟨RX6, "costs", "(I)I"⟩
noncomputable abbrev cX6_costsMark : ByteArray := prog_8_method_5_code
noncomputable def yX6_costsMark : MethodName := ⟨RX6, "costsMark", "()I"⟩
noncomputable abbrev cX6_begins : ByteArray := prog_8_method_6_code
noncomputable def yX6_begins : MethodName := ⟨RX6, "begins", "(I)I"⟩
noncomputable abbrev cX6_beginsMark : ByteArray := prog_8_method_7_code
noncomputable def yX6_beginsMark : MethodName := ⟨RX6, "beginsMark", "()I"⟩
noncomputable def RX7 : String := "CutAtlas$SetHunt"
noncomputable def TX7 : u_T := fun k => match k with
  | 0 => ("CutAtlas$SetHunt", "current", "LCutAtlas$Current;", true)
  | 1 => ("CutAtlas$SetHunt", "must", "I", false)
  | 2 => ("CutAtlas$SetHunt", "mustNot", "I", false)
  | 3 => ("CutAtlas$SetHunt", "aim", "I", false)
  | 4 => ("CutAtlas$SetHunt", "wanted", "I", false)
  | 5 => ("CutAtlas$SetHunt", "met", "I", false)
  | 6 => ("CutAtlas$SetHunt", "found", "I", false)
  | 7 => ("CutAtlas$SetHunt", "denseSet", "I", false)
  | _ => ("CutAtlas$SetHunt", "denseSum", "I", false)
noncomputable def tyX7 : Nat → FieldType := fun k => match k with
  | 0 => .object "CutAtlas$Current"
  | 1 => .int
  | 2 => .int
  | 3 => .int
  | 4 => .int
  | 5 => .int
  | 6 => .int
  | 7 => .int
  | _ => .int
noncomputable abbrev wsX70 : List Cond := u_ws RX7 TX7 9
theorem nmX7 : ∀ a, a < 9 → ∀ b, b < 9 → a ≠ b → (TX7 a).2.1 ≠ (TX7 b).2.1 := by decide +kernel
theorem tyX7_ok : ∀ k, k < 9 → parseFieldDescriptor (TX7 k).2.2.1 = some (tyX7 k) := by decide +kernel
noncomputable abbrev cX7_init : ByteArray := prog_9_method_1_code
noncomputable def yX7_init : MethodName := ⟨RX7, "<init>", "(LCutAtlas$Current;)V"⟩
noncomputable abbrev cX7_countCuts : ByteArray := prog_9_method_2_code
noncomputable def yX7_countCuts : MethodName := ⟨RX7, "countCuts", "(III)I"⟩
noncomputable abbrev cX7_findCut : ByteArray := prog_9_method_3_code
noncomputable def yX7_findCut : MethodName := ⟨RX7, "findCut", "(IIII)I"⟩
noncomputable abbrev cX7_hunt : ByteArray := prog_9_method_4_code
noncomputable def yX7_hunt : MethodName := ⟨RX7, "hunt", "(IIII)V"⟩
noncomputable abbrev cX7_chooseForCut : ByteArray := prog_9_method_5_code
noncomputable def yX7_chooseForCut : MethodName := ⟨RX7, "chooseForCut", "(III)V"⟩
noncomputable abbrev cX7_meet : ByteArray := prog_9_method_6_code
noncomputable def yX7_meet : MethodName := ⟨RX7, "meet", "(II)V"⟩
noncomputable abbrev cX7_letIn : ByteArray := prog_9_method_7_code
noncomputable def yX7_letIn : MethodName := ⟨RX7, "letIn", "(II)I"⟩
noncomputable abbrev cX7_letOut : ByteArray := prog_9_method_8_code
noncomputable def yX7_letOut : MethodName := ⟨RX7, "letOut", "(II)I"⟩
noncomputable abbrev cX7_findDensest : ByteArray := prog_9_method_9_code
noncomputable def yX7_findDensest : MethodName := ⟨RX7, "findDensest", "()V"⟩
noncomputable abbrev cX7_chooseForDense : ByteArray := prog_9_method_10_code
noncomputable def yX7_chooseForDense : MethodName := ⟨RX7, "chooseForDense", "(III)V"⟩
noncomputable abbrev cX7_compareDense : ByteArray := prog_9_method_11_code
noncomputable def yX7_compareDense : MethodName := ⟨RX7, "compareDense", "(II)V"⟩
noncomputable def RX8 : String := "CutAtlas$ShutKind"
noncomputable def TX8 : u_T := fun k => match k with
  | _ => ("", "", "", false)
noncomputable def tyX8 : Nat → FieldType := fun k => match k with
  | _ => .int
noncomputable abbrev wsX80 : List Cond := u_ws RX8 TX8 0
theorem nmX8 : ∀ a, a < 0 → ∀ b, b < 0 → a ≠ b → (TX8 a).2.1 ≠ (TX8 b).2.1 := by decide +kernel
theorem tyX8_ok : ∀ k, k < 0 → parseFieldDescriptor (TX8 k).2.2.1 = some (tyX8 k) := by decide +kernel
noncomputable abbrev cX8_init : ByteArray := prog_10_method_1_code
noncomputable def yX8_init : MethodName := ⟨RX8, "<init>", "()V"⟩
noncomputable abbrev cX8_costs : ByteArray := prog_10_method_2_code
noncomputable def yX8_costs : MethodName := ⟨RX8, "costs", "(I)I"⟩
noncomputable abbrev cX8_costsMark : ByteArray := prog_10_method_3_code
noncomputable def yX8_costsMark : MethodName := ⟨RX8, "costsMark", "()I"⟩
noncomputable abbrev cX8_begins : ByteArray := prog_10_method_4_code
noncomputable def yX8_begins : MethodName := ⟨RX8, "begins", "(I)I"⟩
noncomputable abbrev cX8_beginsMark : ByteArray := prog_10_method_5_code
noncomputable def yX8_beginsMark : MethodName := ⟨RX8, "beginsMark", "()I"⟩
noncomputable def RX9 : String := "CutAtlas$StrongKind"
noncomputable def TX9 : u_T := fun k => match k with
  | _ => ("", "", "", false)
noncomputable def tyX9 : Nat → FieldType := fun k => match k with
  | _ => .int
noncomputable abbrev wsX90 : List Cond := u_ws RX9 TX9 0
theorem nmX9 : ∀ a, a < 0 → ∀ b, b < 0 → a ≠ b → (TX9 a).2.1 ≠ (TX9 b).2.1 := by decide +kernel
theorem tyX9_ok : ∀ k, k < 0 → parseFieldDescriptor (TX9 k).2.2.1 = some (tyX9 k) := by decide +kernel
noncomputable abbrev cX9_init : ByteArray := prog_11_method_1_code
noncomputable def yX9_init : MethodName := ⟨RX9, "<init>", "()V"⟩
noncomputable abbrev cX9_lets : ByteArray := prog_11_method_2_code
noncomputable def yX9_lets : MethodName := ⟨RX9, "lets", "(IZ)I"⟩
noncomputable abbrev cX9_letsMark : ByteArray := prog_11_method_3_code
noncomputable def yX9_letsMark : MethodName := ⟨RX9, "letsMark", "(Z)I"⟩
noncomputable def RX10 : String := "CutAtlas$Widening"
noncomputable def TX10 : u_T := fun k => match k with
  | 0 => ("CutAtlas$Widening", "current", "LCutAtlas$Current;", true)
  | 1 => ("CutAtlas$Widening", "kinds", "[LCutAtlas$PlainKind;", true)
  | 2 => ("CutAtlas$Widening", "prices", "[[I", true)
  | 3 => ("CutAtlas$Widening", "costs", "[I", true)
  | _ => ("CutAtlas$Widening", "cameFrom", "[I", true)
noncomputable def tyX10 : Nat → FieldType := fun k => match k with
  | 0 => .object "CutAtlas$Current"
  | 1 => .array (.object "CutAtlas$PlainKind")
  | 2 => .array (.array .int)
  | 3 => .array .int
  | _ => .array .int
noncomputable abbrev wsX100 : List Cond := u_ws RX10 TX10 5
theorem nmX10 : ∀ a, a < 5 → ∀ b, b < 5 → a ≠ b → (TX10 a).2.1 ≠ (TX10 b).2.1 := by decide +kernel
theorem tyX10_ok : ∀ k, k < 5 → parseFieldDescriptor (TX10 k).2.2.1 = some (tyX10 k) := by decide +kernel
noncomputable abbrev cX10_init : ByteArray := prog_12_method_1_code
noncomputable def yX10_init : MethodName := ⟨RX10, "<init>", "(LCutAtlas$Current;[LCutAtlas$PlainKind;)V"⟩
noncomputable abbrev cX10_pay : ByteArray := prog_12_method_2_code
noncomputable def yX10_pay : MethodName := ⟨RX10, "pay", "(III)I"⟩
noncomputable abbrev cX10_findPrices : ByteArray := prog_12_method_3_code
noncomputable def yX10_findPrices : MethodName := ⟨RX10, "findPrices", "()V"⟩
noncomputable abbrev cX10_findCosts : ByteArray := prog_12_method_4_code
noncomputable def yX10_findCosts : MethodName := ⟨RX10, "findCosts", "(I)V"⟩
noncomputable abbrev cX10_lookFrom : ByteArray := prog_12_method_5_code
noncomputable def yX10_lookFrom : MethodName := ⟨RX10, "lookFrom", "(I)Z"⟩
noncomputable abbrev cX10_stepCosts : ByteArray := prog_12_method_6_code
noncomputable def yX10_stepCosts : MethodName := ⟨RX10, "stepCosts", "(II)I"⟩
noncomputable abbrev cX10_stepRoom : ByteArray := prog_12_method_7_code
noncomputable def yX10_stepRoom : MethodName := ⟨RX10, "stepRoom", "(II)I"⟩
noncomputable abbrev cX10_roomOfWay : ByteArray := prog_12_method_8_code
noncomputable def yX10_roomOfWay : MethodName := ⟨RX10, "roomOfWay", "(III)I"⟩
noncomputable abbrev cX10_sendAlongWay : ByteArray := prog_12_method_9_code
noncomputable def yX10_sendAlongWay : MethodName := ⟨RX10, "sendAlongWay", "(III)V"⟩
noncomputable def RX11 : String := "CutAtlas"
noncomputable def TX11 : u_T := fun k => match k with
  | 0 => ("CutAtlas", "kinds", "[LCutAtlas$PlainKind;", true)
  | 1 => ("CutAtlas", "net", "LCutAtlas$Net;", true)
  | 2 => ("CutAtlas", "current", "LCutAtlas$Current;", true)
  | 3 => ("CutAtlas", "hunt", "LCutAtlas$SetHunt;", true)
  | 4 => ("CutAtlas", "cutTree", "LCutAtlas$CutTree;", true)
  | 5 => ("CutAtlas", "widening", "LCutAtlas$Widening;", true)
  | 6 => ("CutAtlas", "maps", "[LCutAtlas$NumberMap;", true)
  | 7 => ("CutAtlas", "past", "[LCutAtlas$Net;", true)
  | 8 => ("CutAtlas", "pastFirst", "I", false)
  | 9 => ("CutAtlas", "pastHeld", "I", false)
  | 10 => ("CutAtlas", "traced", "J", false)
  | _ => ("CutAtlas", "finding", "I", false)
noncomputable def tyX11 : Nat → FieldType := fun k => match k with
  | 0 => .array (.object "CutAtlas$PlainKind")
  | 1 => .object "CutAtlas$Net"
  | 2 => .object "CutAtlas$Current"
  | 3 => .object "CutAtlas$SetHunt"
  | 4 => .object "CutAtlas$CutTree"
  | 5 => .object "CutAtlas$Widening"
  | 6 => .array (.object "CutAtlas$NumberMap")
  | 7 => .array (.object "CutAtlas$Net")
  | 8 => .int
  | 9 => .int
  | 10 => .long
  | _ => .int
noncomputable abbrev wsX110 : List Cond := u_ws RX11 TX11 12
theorem nmX11 : ∀ a, a < 12 → ∀ b, b < 12 → a ≠ b → (TX11 a).2.1 ≠ (TX11 b).2.1 := by decide +kernel
theorem tyX11_ok : ∀ k, k < 12 → parseFieldDescriptor (TX11 k).2.2.1 = some (tyX11 k) := by decide +kernel
noncomputable abbrev cX11_init : ByteArray := prog_1_method_1_code
noncomputable def yX11_init : MethodName := ⟨RX11, "<init>", "()V"⟩
noncomputable abbrev cX11_place : ByteArray := prog_1_method_2_code
noncomputable def yX11_place : MethodName := ⟨RX11, "place", "()I"⟩
noncomputable abbrev cX11_line : ByteArray := prog_1_method_3_code
noncomputable def yX11_line : MethodName := ⟨RX11, "line", "(IIIII)I"⟩
noncomputable abbrev cX11_widen : ByteArray := prog_1_method_4_code
noncomputable def yX11_widen : MethodName := ⟨RX11, "widen", "(II)I"⟩
noncomputable abbrev cX11_width : ByteArray := prog_1_method_5_code
noncomputable def yX11_width : MethodName := ⟨RX11, "width", "(II)I"⟩
noncomputable abbrev cX11_merge : ByteArray := prog_1_method_6_code
noncomputable def yX11_merge : MethodName := ⟨RX11, "merge", "(II)I"⟩
noncomputable abbrev cX11_undo : ByteArray := prog_1_method_7_code
noncomputable def yX11_undo : MethodName := ⟨RX11, "undo", "()I"⟩
noncomputable abbrev cX11_told : ByteArray := prog_1_method_8_code
noncomputable def yX11_told : MethodName := ⟨RX11, "told", "(II)I"⟩
noncomputable abbrev cX11_ask : ByteArray := prog_1_method_9_code
noncomputable def yX11_ask : MethodName := ⟨RX11, "ask", "(II)I"⟩
noncomputable abbrev cX11_most : ByteArray := prog_1_method_10_code
noncomputable def yX11_most : MethodName := ⟨RX11, "most", "(II)I"⟩
noncomputable abbrev cX11_flow : ByteArray := prog_1_method_11_code
noncomputable def yX11_flow : MethodName := ⟨RX11, "flow", "(III)I"⟩
noncomputable abbrev cX11_cut : ByteArray := prog_1_method_12_code
noncomputable def yX11_cut : MethodName := ⟨RX11, "cut", "(III)I"⟩
noncomputable abbrev cX11_count : ByteArray := prog_1_method_13_code
noncomputable def yX11_count : MethodName := ⟨RX11, "count", "(II)I"⟩
noncomputable abbrev cX11_next : ByteArray := prog_1_method_14_code
noncomputable def yX11_next : MethodName := ⟨RX11, "next", "(III)I"⟩
noncomputable abbrev cX11_size : ByteArray := prog_1_method_15_code
noncomputable def yX11_size : MethodName := ⟨RX11, "size", "(III)I"⟩
noncomputable abbrev cX11_raise : ByteArray := prog_1_method_16_code
noncomputable def yX11_raise : MethodName := ⟨RX11, "raise", "(III)I"⟩
noncomputable abbrev cX11_cheapest : ByteArray := prog_1_method_17_code
noncomputable def yX11_cheapest : MethodName := ⟨RX11, "cheapest", "(III)I"⟩
noncomputable abbrev cX11_tree : ByteArray := prog_1_method_18_code
noncomputable def yX11_tree : MethodName := ⟨RX11, "tree", "(II)I"⟩
noncomputable abbrev cX11_between : ByteArray := prog_1_method_19_code
noncomputable def yX11_between : MethodName := ⟨RX11, "between", "(II)I"⟩
noncomputable abbrev cX11_least : ByteArray := prog_1_method_20_code
noncomputable def yX11_least : MethodName := ⟨RX11, "least", "()I"⟩
noncomputable abbrev cX11_cuts : ByteArray := prog_1_method_21_code
noncomputable def yX11_cuts : MethodName := ⟨RX11, "cuts", "()I"⟩
noncomputable abbrev cX11_cutAt : ByteArray := prog_1_method_22_code
noncomputable def yX11_cutAt : MethodName := ⟨RX11, "cutAt", "(I)I"⟩
noncomputable abbrev cX11_weak : ByteArray := prog_1_method_23_code
noncomputable def yX11_weak : MethodName := ⟨RX11, "weak", "(I)I"⟩
noncomputable abbrev cX11_part : ByteArray := prog_1_method_24_code
noncomputable def yX11_part : MethodName := ⟨RX11, "part", "(II)I"⟩
noncomputable abbrev cX11_dense : ByteArray := prog_1_method_25_code
noncomputable def yX11_dense : MethodName := ⟨RX11, "dense", "(I)I"⟩
noncomputable abbrev cX11_map : ByteArray := prog_1_method_26_code
noncomputable def yX11_map : MethodName := ⟨RX11, "map", "(III)I"⟩
noncomputable abbrev cX11_row : ByteArray := prog_1_method_27_code
noncomputable def yX11_row : MethodName := ⟨RX11, "row", "(III)I"⟩
noncomputable abbrev cX11_put : ByteArray := prog_1_method_28_code
noncomputable def yX11_put : MethodName := ⟨RX11, "put", "(IIIIJ)I"⟩
noncomputable abbrev cX11_copy : ByteArray := prog_1_method_29_code
noncomputable def yX11_copy : MethodName := ⟨RX11, "copy", "(IIIIII)I"⟩
noncomputable abbrev cX11_item : ByteArray := prog_1_method_30_code
noncomputable def yX11_item : MethodName := ⟨RX11, "item", "(IIII)J"⟩
noncomputable abbrev cX11_read : ByteArray := prog_1_method_31_code
noncomputable def yX11_read : MethodName := ⟨RX11, "read", "(I)I"⟩
noncomputable abbrev cX11_about : ByteArray := prog_1_method_32_code
noncomputable def yX11_about : MethodName := ⟨RX11, "about", "(I)I"⟩
noncomputable abbrev cX11_trace : ByteArray := prog_1_method_33_code
noncomputable def yX11_trace : MethodName := ⟨RX11, "trace", "()J"⟩
noncomputable abbrev cX11_status : ByteArray := prog_1_method_34_code
noncomputable def yX11_status : MethodName := ⟨RX11, "status", "()I"⟩
noncomputable abbrev cX11_remember : ByteArray := prog_1_method_35_code
end

section
noncomputable def yX11_remember : MethodName := ⟨RX11, "remember", "()V"⟩
noncomputable abbrev cX11_lineRefusal : ByteArray := prog_1_method_36_code
noncomputable def yX11_lineRefusal : MethodName := ⟨RX11, "lineRefusal", "(JJJJJ)I"⟩
noncomputable abbrev cX11_addLine : ByteArray := prog_1_method_37_code
noncomputable def yX11_addLine : MethodName := ⟨RX11, "addLine", "(IIIII)I"⟩
noncomputable abbrev cX11_mostNow : ByteArray := prog_1_method_38_code
noncomputable def yX11_mostNow : MethodName := ⟨RX11, "mostNow", "(II)I"⟩
noncomputable abbrev cX11_isMapNumber : ByteArray := prog_1_method_39_code
noncomputable def yX11_isMapNumber : MethodName := ⟨RX11, "isMapNumber", "(I)Z"⟩
noncomputable abbrev cX11_isMapKind : ByteArray := prog_1_method_40_code
noncomputable def yX11_isMapKind : MethodName := ⟨RX11, "isMapKind", "(I)Z"⟩
noncomputable abbrev cX11_mapRefusal : ByteArray := prog_1_method_41_code
noncomputable def yX11_mapRefusal : MethodName := ⟨RX11, "mapRefusal", "(III)I"⟩
noncomputable abbrev cX11_rowRefusal : ByteArray := prog_1_method_42_code
noncomputable def yX11_rowRefusal : MethodName := ⟨RX11, "rowRefusal", "(III)I"⟩
noncomputable abbrev cX11_numberRefusal : ByteArray := prog_1_method_43_code
noncomputable def yX11_numberRefusal : MethodName := ⟨RX11, "numberRefusal", "(IIII)I"⟩
noncomputable abbrev cX11_readRefusal : ByteArray := prog_1_method_44_code
noncomputable def yX11_readRefusal : MethodName := ⟨RX11, "readRefusal", "(LCutAtlas$NumberMap;I)I"⟩
noncomputable def RX12 : String := "CutAtlasModel"
noncomputable def TX12 : u_T := fun k => match k with
  | 0 => ("CutAtlasModel", "thrown", "I", false)
  | 1 => ("CutAtlasModel", "status", "I", false)
  | 2 => ("CutAtlasModel", "trace", "J", false)
  | 3 => ("CutAtlasModel", "places", "I", false)
  | 4 => ("CutAtlasModel", "lines", "I", false)
  | 5 => ("CutAtlasModel", "kind", "[I", true)
  | 6 => ("CutAtlasModel", "from", "[I", true)
  | 7 => ("CutAtlasModel", "to", "[I", true)
  | 8 => ("CutAtlasModel", "width", "[I", true)
  | 9 => ("CutAtlasModel", "price", "[I", true)
  | 10 => ("CutAtlasModel", "isMissing", "[Z", true)
  | 11 => ("CutAtlasModel", "undone", "I", false)
  | 12 => ("CutAtlasModel", "oldPlaces", "[I", true)
  | 13 => ("CutAtlasModel", "oldLines", "[I", true)
  | 14 => ("CutAtlasModel", "old", "[I", true)
  | 15 => ("CutAtlasModel", "hasMap", "[Z", true)
  | 16 => ("CutAtlasModel", "mapKind", "[I", true)
  | 17 => ("CutAtlasModel", "mapRows", "[I", true)
  | 18 => ("CutAtlasModel", "rowSize", "[I", true)
  | 19 => ("CutAtlasModel", "cells", "[J", true)
  | 20 => ("CutAtlasModel", "copied", "[J", true)
  | 21 => ("CutAtlasModel", "raised", "I", false)
  | 22 => ("CutAtlasModel", "flows", "[I", true)
  | 23 => ("CutAtlasModel", "queue", "[I", true)
  | 24 => ("CutAtlasModel", "cameFrom", "[I", true)
  | 25 => ("CutAtlasModel", "cuts", "I", false)
  | 26 => ("CutAtlasModel", "near", "I", false)
  | 27 => ("CutAtlasModel", "far", "I", false)
  | 28 => ("CutAtlasModel", "chosen", "I", false)
  | 29 => ("CutAtlasModel", "paid", "[J", true)
  | 30 => ("CutAtlasModel", "byLine", "[I", true)
  | 31 => ("CutAtlasModel", "byPlace", "[I", true)
  | 32 => ("CutAtlasModel", "treeNext", "[I", true)
  | _ => ("CutAtlasModel", "treeNumber", "[I", true)
noncomputable def tyX12 : Nat → FieldType := fun k => match k with
  | 0 => .int
  | 1 => .int
  | 2 => .long
  | 3 => .int
  | 4 => .int
  | 5 => .array .int
  | 6 => .array .int
  | 7 => .array .int
  | 8 => .array .int
  | 9 => .array .int
  | 10 => .array .boolean
  | 11 => .int
  | 12 => .array .int
  | 13 => .array .int
  | 14 => .array .int
  | 15 => .array .boolean
  | 16 => .array .int
  | 17 => .array .int
  | 18 => .array .int
  | 19 => .array .long
  | 20 => .array .long
  | 21 => .int
  | 22 => .array .int
  | 23 => .array .int
  | 24 => .array .int
  | 25 => .int
  | 26 => .int
  | 27 => .int
  | 28 => .int
  | 29 => .array .long
  | 30 => .array .int
  | 31 => .array .int
  | 32 => .array .int
  | _ => .array .int
noncomputable abbrev wsX120 : List Cond := u_ws RX12 TX12 34
theorem nmX12 : ∀ a, a < 34 → ∀ b, b < 34 → a ≠ b → (TX12 a).2.1 ≠ (TX12 b).2.1 := by decide +kernel
theorem tyX12_ok : ∀ k, k < 34 → parseFieldDescriptor (TX12 k).2.2.1 = some (tyX12 k) := by decide +kernel
noncomputable abbrev cX12_init : ByteArray := prog_14_method_1_code
noncomputable def yX12_init : MethodName := ⟨RX12, "<init>", "()V"⟩
noncomputable abbrev cX12_in : ByteArray := prog_14_method_3_code
noncomputable def yX12_in : MethodName := ⟨RX12, "in", "(JJJ)Z"⟩
noncomputable abbrev cX12_isPlace : ByteArray := prog_14_method_4_code
noncomputable def yX12_isPlace : MethodName := ⟨RX12, "isPlace", "(I)Z"⟩
noncomputable abbrev cX12_isLine : ByteArray := prog_14_method_5_code
noncomputable def yX12_isLine : MethodName := ⟨RX12, "isLine", "(I)Z"⟩
noncomputable abbrev cX12_arePlaces : ByteArray := prog_14_method_6_code
noncomputable def yX12_arePlaces : MethodName := ⟨RX12, "arePlaces", "(II)Z"⟩
noncomputable abbrev cX12_keeps : ByteArray := prog_14_method_7_code
noncomputable def yX12_keeps : MethodName := ⟨RX12, "keeps", "()V"⟩
noncomputable abbrev cX12_place : ByteArray := prog_14_method_8_code
noncomputable def yX12_place : MethodName := ⟨RX12, "place", "()I"⟩
noncomputable abbrev cX12_refused : ByteArray := prog_14_method_9_code
noncomputable def yX12_refused : MethodName := ⟨RX12, "refused", "(JJJJJ)I"⟩
noncomputable abbrev cX12_adds : ByteArray := prog_14_method_10_code
noncomputable def yX12_adds : MethodName := ⟨RX12, "adds", "(IIIII)V"⟩
noncomputable abbrev cX12_line : ByteArray := prog_14_method_11_code
noncomputable def yX12_line : MethodName := ⟨RX12, "line", "(IIIII)I"⟩
noncomputable abbrev cX12_costs : ByteArray := prog_14_method_12_code
noncomputable def yX12_costs : MethodName := ⟨RX12, "costs", "(I)I"⟩
noncomputable abbrev cX12_costsTrace : ByteArray := prog_14_method_13_code
noncomputable def yX12_costsTrace : MethodName := ⟨RX12, "costsTrace", "(I)J"⟩
noncomputable abbrev cX12_widen : ByteArray := prog_14_method_14_code
noncomputable def yX12_widen : MethodName := ⟨RX12, "widen", "(II)I"⟩
noncomputable abbrev cX12_width : ByteArray := prog_14_method_15_code
noncomputable def yX12_width : MethodName := ⟨RX12, "width", "(II)I"⟩
noncomputable abbrev cX12_merge : ByteArray := prog_14_method_16_code
noncomputable def yX12_merge : MethodName := ⟨RX12, "merge", "(II)I"⟩
noncomputable abbrev cX12_undo : ByteArray := prog_14_method_17_code
noncomputable def yX12_undo : MethodName := ⟨RX12, "undo", "()I"⟩
noncomputable abbrev cX12_told : ByteArray := prog_14_method_18_code
noncomputable def yX12_told : MethodName := ⟨RX12, "told", "(II)I"⟩
noncomputable abbrev cX12_lets : ByteArray := prog_14_method_19_code
noncomputable def yX12_lets : MethodName := ⟨RX12, "lets", "(IZ)I"⟩
noncomputable abbrev cX12_ask : ByteArray := prog_14_method_20_code
noncomputable def yX12_ask : MethodName := ⟨RX12, "ask", "(II)I"⟩
noncomputable abbrev cX12_room : ByteArray := prog_14_method_21_code
noncomputable def yX12_room : MethodName := ⟨RX12, "room", "(IZ)I"⟩
noncomputable abbrev cX12_sizeOf : ByteArray := prog_14_method_22_code
noncomputable def yX12_sizeOf : MethodName := ⟨RX12, "sizeOf", "(I)I"⟩
noncomputable abbrev cX12_mostOf : ByteArray := prog_14_method_23_code
noncomputable def yX12_mostOf : MethodName := ⟨RX12, "mostOf", "(II)I"⟩
noncomputable abbrev cX12_asTold : ByteArray := prog_14_method_24_code
noncomputable def yX12_asTold : MethodName := ⟨RX12, "asTold", "(I)I"⟩
noncomputable abbrev cX12_most : ByteArray := prog_14_method_25_code
noncomputable def yX12_most : MethodName := ⟨RX12, "most", "(II)I"⟩
noncomputable abbrev cX12_left : ByteArray := prog_14_method_26_code
noncomputable def yX12_left : MethodName := ⟨RX12, "left", "(III)I"⟩
noncomputable abbrev cX12_leftOf : ByteArray := prog_14_method_27_code
noncomputable def yX12_leftOf : MethodName := ⟨RX12, "leftOf", "(II)I"⟩
noncomputable abbrev cX12_isMet : ByteArray := prog_14_method_28_code
noncomputable def yX12_isMet : MethodName := ⟨RX12, "isMet", "(II)Z"⟩
noncomputable abbrev cX12_hasWay : ByteArray := prog_14_method_29_code
noncomputable def yX12_hasWay : MethodName := ⟨RX12, "hasWay", "(II)Z"⟩
noncomputable abbrev cX12_flowOf : ByteArray := prog_14_method_30_code
noncomputable def yX12_flowOf : MethodName := ⟨RX12, "flowOf", "(II)V"⟩
noncomputable abbrev cX12_flow : ByteArray := prog_14_method_31_code
noncomputable def yX12_flow : MethodName := ⟨RX12, "flow", "(III)I"⟩
noncomputable abbrev cX12_bitsOf : ByteArray := prog_14_method_32_code
noncomputable def yX12_bitsOf : MethodName := ⟨RX12, "bitsOf", "(I)I"⟩
noncomputable abbrev cX12_cutsOf : ByteArray := prog_14_method_33_code
noncomputable def yX12_cutsOf : MethodName := ⟨RX12, "cutsOf", "(IIII)V"⟩
noncomputable abbrev cX12_cut : ByteArray := prog_14_method_34_code
noncomputable def yX12_cut : MethodName := ⟨RX12, "cut", "(III)I"⟩
noncomputable abbrev cX12_count : ByteArray := prog_14_method_35_code
noncomputable def yX12_count : MethodName := ⟨RX12, "count", "(II)I"⟩
noncomputable abbrev cX12_next : ByteArray := prog_14_method_36_code
noncomputable def yX12_next : MethodName := ⟨RX12, "next", "(III)I"⟩
noncomputable abbrev cX12_size : ByteArray := prog_14_method_37_code
noncomputable def yX12_size : MethodName := ⟨RX12, "size", "(III)I"⟩
noncomputable abbrev cX12_raise : ByteArray := prog_14_method_38_code
noncomputable def yX12_raise : MethodName := ⟨RX12, "raise", "(III)I"⟩
noncomputable abbrev cX12_step : ByteArray := prog_14_method_39_code
noncomputable def yX12_step : MethodName := ⟨RX12, "step", "(IZ)J"⟩
noncomputable abbrev cX12_amount : ByteArray := prog_14_method_40_code
noncomputable def yX12_amount : MethodName := ⟨RX12, "amount", "(IZ)I"⟩
noncomputable abbrev cX12_cheapWay : ByteArray := prog_14_method_41_code
noncomputable def yX12_cheapWay : MethodName := ⟨RX12, "cheapWay", "(II)Z"⟩
noncomputable abbrev cX12_cheapest : ByteArray := prog_14_method_42_code
noncomputable def yX12_cheapest : MethodName := ⟨RX12, "cheapest", "(III)I"⟩
noncomputable abbrev cX12_isWhole : ByteArray := prog_14_method_43_code
noncomputable def yX12_isWhole : MethodName := ⟨RX12, "isWhole", "()Z"⟩
noncomputable abbrev cX12_plants : ByteArray := prog_14_method_44_code
noncomputable def yX12_plants : MethodName := ⟨RX12, "plants", "()V"⟩
noncomputable abbrev cX12_tree : ByteArray := prog_14_method_45_code
noncomputable def yX12_tree : MethodName := ⟨RX12, "tree", "(II)I"⟩
noncomputable abbrev cX12_between : ByteArray := prog_14_method_46_code
noncomputable def yX12_between : MethodName := ⟨RX12, "between", "(II)I"⟩
noncomputable abbrev cX12_leastOf : ByteArray := prog_14_method_47_code
noncomputable def yX12_leastOf : MethodName := ⟨RX12, "leastOf", "()I"⟩
noncomputable abbrev cX12_least : ByteArray := prog_14_method_48_code
noncomputable def yX12_least : MethodName := ⟨RX12, "least", "()I"⟩
noncomputable abbrev cX12_wholeCuts : ByteArray := prog_14_method_49_code
noncomputable def yX12_wholeCuts : MethodName := ⟨RX12, "wholeCuts", "(I)V"⟩
noncomputable abbrev cX12_cuts : ByteArray := prog_14_method_50_code
noncomputable def yX12_cuts : MethodName := ⟨RX12, "cuts", "()I"⟩
noncomputable abbrev cX12_cutAt : ByteArray := prog_14_method_51_code
noncomputable def yX12_cutAt : MethodName := ⟨RX12, "cutAt", "(I)I"⟩
noncomputable abbrev cX12_weak : ByteArray := prog_14_method_52_code
noncomputable def yX12_weak : MethodName := ⟨RX12, "weak", "(I)I"⟩
noncomputable abbrev cX12_part : ByteArray := prog_14_method_53_code
noncomputable def yX12_part : MethodName := ⟨RX12, "part", "(II)I"⟩
noncomputable abbrev cX12_dense : ByteArray := prog_14_method_54_code
noncomputable def yX12_dense : MethodName := ⟨RX12, "dense", "(I)I"⟩
noncomputable abbrev cX12_no : ByteArray := prog_14_method_55_code
noncomputable def yX12_no : MethodName := ⟨RX12, "no", "(I)I"⟩
noncomputable abbrev cX12_map : ByteArray := prog_14_method_56_code
noncomputable def yX12_map : MethodName := ⟨RX12, "map", "(III)I"⟩
noncomputable abbrev cX12_row : ByteArray := prog_14_method_57_code
noncomputable def yX12_row : MethodName := ⟨RX12, "row", "(III)I"⟩
noncomputable abbrev cX12_wrong : ByteArray := prog_14_method_58_code
noncomputable def yX12_wrong : MethodName := ⟨RX12, "wrong", "(IIII)I"⟩
noncomputable abbrev cX12_put : ByteArray := prog_14_method_59_code
noncomputable def yX12_put : MethodName := ⟨RX12, "put", "(IIIIJ)I"⟩
noncomputable abbrev cX12_areThere : ByteArray := prog_14_method_60_code
noncomputable def yX12_areThere : MethodName := ⟨RX12, "areThere", "(III)Z"⟩
noncomputable abbrev cX12_copy : ByteArray := prog_14_method_61_code
noncomputable def yX12_copy : MethodName := ⟨RX12, "copy", "(IIIIII)I"⟩
noncomputable abbrev cX12_item : ByteArray := prog_14_method_62_code
noncomputable def yX12_item : MethodName := ⟨RX12, "item", "(IIII)J"⟩
noncomputable abbrev cX12_read : ByteArray := prog_14_method_63_code
noncomputable def yX12_read : MethodName := ⟨RX12, "read", "(I)I"⟩
noncomputable abbrev cX12_about : ByteArray := prog_14_method_64_code
noncomputable def yX12_about : MethodName := ⟨RX12, "about", "(I)I"⟩
noncomputable abbrev cX12_trace : ByteArray := prog_14_method_65_code
noncomputable def yX12_trace : MethodName := ⟨RX12, "trace", "()J"⟩
noncomputable abbrev cX12_status : ByteArray := prog_14_method_66_code
noncomputable def yX12_status : MethodName := ⟨RX12, "status", "()I"⟩
noncomputable def RJ6 : String := "java/lang/Integer"
noncomputable def TJ6 : u_T := fun k => match k with
  | _ => ("", "", "", false)
noncomputable def tyJ6 : Nat → FieldType := fun k => match k with
  | _ => .int
noncomputable abbrev wsJ60 : List Cond := u_ws RJ6 TJ6 0
theorem nmJ6 : ∀ a, a < 0 → ∀ b, b < 0 → a ≠ b → (TJ6 a).2.1 ≠ (TJ6 b).2.1 := by decide +kernel
theorem tyJ6_ok : ∀ k, k < 0 → parseFieldDescriptor (TJ6 k).2.2.1 = some (tyJ6 k) := by decide +kernel
noncomputable abbrev cJ6_bitCount_0f7a4 : ByteArray := prog_15_method_49_code
noncomputable def yJ6_bitCount_0f7a4 : MethodName := ⟨RJ6, "bitCount", "(I)I"⟩
noncomputable def RJ9 : String := "java/lang/Math"
noncomputable def TJ9 : u_T := fun k => match k with
  | _ => ("", "", "", false)
noncomputable def tyJ9 : Nat → FieldType := fun k => match k with
  | _ => .int
noncomputable abbrev wsJ90 : List Cond := u_ws RJ9 TJ9 0
theorem nmJ9 : ∀ a, a < 0 → ∀ b, b < 0 → a ≠ b → (TJ9 a).2.1 ≠ (TJ9 b).2.1 := by decide +kernel
theorem tyJ9_ok : ∀ k, k < 0 → parseFieldDescriptor (TJ9 k).2.2.1 = some (tyJ9 k) := by decide +kernel
noncomputable abbrev cJ9_max_7cf53 : ByteArray := prog_16_method_65_code
noncomputable def yJ9_max_7cf53 : MethodName := ⟨RJ9, "max", "(II)I"⟩
noncomputable abbrev cJ9_min_7cf53 : ByteArray := prog_16_method_69_code
noncomputable def yJ9_min_7cf53 : MethodName := ⟨RJ9, "min", "(II)I"⟩
noncomputable def RJ10 : String := "java/lang/System"
noncomputable def TJ10 : u_T := fun k => match k with
  | _ => ("", "", "", false)
noncomputable def tyJ10 : Nat → FieldType := fun k => match k with
  | _ => .int
noncomputable abbrev wsJ100 : List Cond := u_ws RJ10 TJ10 0
theorem nmJ10 : ∀ a, a < 0 → ∀ b, b < 0 → a ≠ b → (TJ10 a).2.1 ≠ (TJ10 b).2.1 := by decide +kernel
theorem tyJ10_ok : ∀ k, k < 0 → parseFieldDescriptor (TJ10 k).2.2.1 = some (tyJ10 k) := by decide +kernel
noncomputable def RJ7 : String := "java/util/Arrays"
noncomputable def TJ7 : u_T := fun k => match k with
  | _ => ("", "", "", false)
noncomputable def tyJ7 : Nat → FieldType := fun k => match k with
  | _ => .int
noncomputable abbrev wsJ70 : List Cond := u_ws RJ7 TJ7 0
theorem nmJ7 : ∀ a, a < 0 → ∀ b, b < 0 → a ≠ b → (TJ7 a).2.1 ≠ (TJ7 b).2.1 := by decide +kernel
theorem tyJ7_ok : ∀ k, k < 0 → parseFieldDescriptor (TJ7 k).2.2.1 = some (tyJ7 k) := by decide +kernel
noncomputable abbrev cJ7_fill_53178 : ByteArray := prog_18_method_103_code
noncomputable def yJ7_fill_53178 : MethodName := ⟨RJ7, "fill", "([II)V"⟩
noncomputable def RL : String := "CutAtlasLaw"
noncomputable abbrev cL_law : ByteArray := code
noncomputable def yL_law : MethodName := ⟨RL, "law", "([I)Z"⟩
noncomputable def wsX0_init : List Cond := .code yX0_init cX0_init 3 none :: (([.methodLink RX0 3 objectInit, .instanceMethod objectInit, .code objectInit ⟨#[0xb1]⟩ 1 none, .classLink RX0 9 "[[I", .arrayClass .int, .fieldLink RX0 11 "CutAtlas$Current" "lets" "[[I", .fieldLink RX0 16 "CutAtlas$Current" "room" "[[I", .fieldLink RX0 19 "CutAtlas$Current" "flowing" "[I", .fieldLink RX0 23 "CutAtlas$Current" "letsForth" "[I", .fieldLink RX0 26 "CutAtlas$Current" "letsBack" "[I", .fieldLink RX0 29 "CutAtlas$Current" "queue" "[I", .fieldLink RX0 32 "CutAtlas$Current" "cameFrom" "[I", .fieldLink RX0 35 "CutAtlas$Current" "net" "LCutAtlas$Net;", .fieldLink RX0 39 "CutAtlas$Current" "kinds" "[LCutAtlas$PlainKind;"] : List Cond) ++ wsX00)
noncomputable def wsJ7_fill_53178 : List Cond := .code yJ7_fill_53178 cJ7_fill_53178 4 none :: (([] : List Cond))
noncomputable def wsX3_isMissing : List Cond := .code yX3_isMissing cX3_isMissing 2 (some .boolean) :: (([.fieldLink RX3 22 "CutAtlas$Net" "starts" "[I"] : List Cond) ++ wsX30)
noncomputable def wsX6_lets : List Cond := .code yX6_lets cX6_lets 3 (some .int) :: (([] : List Cond))
noncomputable def wsX5_lets : List Cond := .code yX5_lets cX5_lets 3 (some .int) :: (([.methodLink RX5 7 yX6_lets, .sameMethod "CutAtlas$PlainKind" "CutAtlas$PlainKind" "lets" "(IZ)I", .superclass RX5 RX6, .instanceMethod yX6_lets, .initialized RX6, .code yX6_lets cX6_lets 3 (some .int)] : List Cond))
noncomputable def wsX9_lets : List Cond := .code yX9_lets cX9_lets 3 (some .int) :: (([] : List Cond))
noncomputable def wsX0_asRoom : List Cond := .code yX0_asRoom cX0_asRoom 1 (some .int) :: (([.constant RX0 82 (1000000)] : List Cond))
noncomputable def wsX0_load_r1 : List Cond := [Cond.fieldLink RX0 35 "CutAtlas$Current" "net" "LCutAtlas$Net;", Cond.fieldLink RX0 43 "CutAtlas$Net" "places" "I", Cond.fieldLink RX0 11 "CutAtlas$Current" "lets" "[[I", Cond.fieldLink RX0 55 "CutAtlas$Net" "lines" "I", Cond.fieldLink RX0 62 "CutAtlas$Net" "widths" "[I", Cond.fieldLink RX0 39 "CutAtlas$Current" "kinds" "[LCutAtlas$PlainKind;", Cond.fieldLink RX0 65 "CutAtlas$Net" "kinds" "[I", Cond.fieldLink RX0 23 "CutAtlas$Current" "letsForth" "[I", Cond.fieldLink RX0 26 "CutAtlas$Current" "letsBack" "[I", Cond.fieldLink RX0 76 "CutAtlas$Net" "starts" "[I", Cond.fieldLink RX0 79 "CutAtlas$Net" "ends" "[I", Cond.methodLink RX0 49 yJ7_fill_53178, Cond.static yJ7_fill_53178, Cond.initialized RJ7, Cond.code yJ7_fill_53178 cJ7_fill_53178 4 none, Cond.methodLink RX0 58 yX3_isMissing, Cond.instanceMethod yX3_isMissing, Cond.selects RX3 yX3_isMissing yX3_isMissing, Cond.initialized RX3, Cond.code yX3_isMissing cX3_isMissing 2 (some .boolean), Cond.fieldLink RX3 22 "CutAtlas$Net" "starts" "[I", Cond.methodLink RX0 67 ⟨"CutAtlas$PlainKind", "lets", "(IZ)I"⟩, Cond.sameMethod "CutAtlas$PlainKind" "CutAtlas$PlainKind" "lets" "(IZ)I", Cond.selects RX2 ⟨"CutAtlas$PlainKind", "lets", "(IZ)I"⟩ yX6_lets]
noncomputable def wsX0_load_r2 : List Cond := [Cond.instanceMethod yX6_lets, Cond.initialized RX6, Cond.code yX6_lets cX6_lets 3 (some .int), Cond.instanceMethod ⟨"CutAtlas$PlainKind", "lets", "(IZ)I"⟩, Cond.selects RX5 ⟨"CutAtlas$PlainKind", "lets", "(IZ)I"⟩ yX5_lets, Cond.instanceMethod yX5_lets, Cond.initialized RX5, Cond.code yX5_lets cX5_lets 3 (some .int), Cond.methodLink RX5 7 yX6_lets, Cond.superclass RX5 RX6, Cond.methodLink RX0 67 yX6_lets, Cond.selects RX6 yX6_lets yX6_lets, Cond.selects RX8 ⟨"CutAtlas$PlainKind", "lets", "(IZ)I"⟩ yX6_lets, Cond.selects RX9 ⟨"CutAtlas$PlainKind", "lets", "(IZ)I"⟩ yX9_lets, Cond.instanceMethod yX9_lets, Cond.initialized RX9, Cond.code yX9_lets cX9_lets 3 (some .int), Cond.methodLink RX0 72 yX0_asRoom, Cond.static yX0_asRoom, Cond.initialized RX0, Cond.code yX0_asRoom cX0_asRoom 1 (some .int), Cond.constant RX0 82 (1000000)]
noncomputable def wsX0_load : List Cond := .code yX0_load cX0_load 5 none :: ((wsX0_load_r1 ++ wsX0_load_r2) ++ wsX00 ++ wsX30)
noncomputable def wsX0_reachedFrom : List Cond := .code yX0_reachedFrom cX0_reachedFrom 7 (some .int) :: (([.fieldLink RX0 29 "CutAtlas$Current" "queue" "[I", .fieldLink RX0 35 "CutAtlas$Current" "net" "LCutAtlas$Net;", .fieldLink RX0 43 "CutAtlas$Net" "places" "I", .fieldLink RX0 16 "CutAtlas$Current" "room" "[[I"] : List Cond) ++ wsX00 ++ wsX30)
noncomputable def wsX0_findWay : List Cond := .code yX0_findWay cX0_findWay 8 (some .boolean) :: (([.fieldLink RX0 29 "CutAtlas$Current" "queue" "[I", .fieldLink RX0 35 "CutAtlas$Current" "net" "LCutAtlas$Net;", .fieldLink RX0 43 "CutAtlas$Net" "places" "I", .fieldLink RX0 16 "CutAtlas$Current" "room" "[[I", .fieldLink RX0 32 "CutAtlas$Current" "cameFrom" "[I"] : List Cond) ++ wsX00 ++ wsX30)
noncomputable def wsX0_sendOver : List Cond := .code yX0_sendOver cX0_sendOver 7 none :: (([.fieldLink RX0 16 "CutAtlas$Current" "room" "[[I", .fieldLink RX0 35 "CutAtlas$Current" "net" "LCutAtlas$Net;", .fieldLink RX0 55 "CutAtlas$Net" "lines" "I", .fieldLink RX0 76 "CutAtlas$Net" "starts" "[I", .fieldLink RX0 79 "CutAtlas$Net" "ends" "[I", .fieldLink RX0 23 "CutAtlas$Current" "letsForth" "[I", .fieldLink RX0 19 "CutAtlas$Current" "flowing" "[I", .methodLink RX0 101 Lib.Math.min.name, .static Lib.Math.min.name, .initialized "java/lang/Math", .code Lib.Math.min.name Lib.Math.min.code 2 (some .int), .fieldLink RX0 26 "CutAtlas$Current" "letsBack" "[I"] : List Cond) ++ wsX00 ++ wsX30)
noncomputable def wsX0_sendAlongWay : List Cond := .code yX0_sendAlongWay cX0_sendAlongWay 6 (some .int) :: (([.constant RX0 100 (1000000000), .fieldLink RX0 16 "CutAtlas$Current" "room" "[[I", .fieldLink RX0 32 "CutAtlas$Current" "cameFrom" "[I", .methodLink RX0 101 Lib.Math.min.name, .static Lib.Math.min.name, .initialized "java/lang/Math", .code Lib.Math.min.name Lib.Math.min.code 2 (some .int), .methodLink RX0 106 yX0_sendOver, .instanceMethod yX0_sendOver, .selects RX0 yX0_sendOver yX0_sendOver, .initialized RX0, .code yX0_sendOver cX0_sendOver 7 none, .fieldLink RX0 35 "CutAtlas$Current" "net" "LCutAtlas$Net;", .fieldLink RX0 55 "CutAtlas$Net" "lines" "I", .fieldLink RX0 76 "CutAtlas$Net" "starts" "[I", .fieldLink RX0 79 "CutAtlas$Net" "ends" "[I", .fieldLink RX0 23 "CutAtlas$Current" "letsForth" "[I", .fieldLink RX0 19 "CutAtlas$Current" "flowing" "[I", .fieldLink RX0 26 "CutAtlas$Current" "letsBack" "[I"] : List Cond) ++ wsX00 ++ wsX30)
noncomputable def wsX0_fill_r1 : List Cond := [Cond.fieldLink RX0 19 "CutAtlas$Current" "flowing" "[I", Cond.fieldLink RX0 35 "CutAtlas$Current" "net" "LCutAtlas$Net;", Cond.fieldLink RX0 43 "CutAtlas$Net" "places" "I", Cond.fieldLink RX0 11 "CutAtlas$Current" "lets" "[[I", Cond.fieldLink RX0 16 "CutAtlas$Current" "room" "[[I", Cond.methodLink RX0 83 arraycopyName, Cond.native arraycopyName, Cond.static arraycopyName, Cond.initialized "java/lang/System", Cond.constant RX0 82 (1000000), Cond.methodLink RX0 49 yJ7_fill_53178, Cond.static yJ7_fill_53178, Cond.initialized RJ7, Cond.code yJ7_fill_53178 cJ7_fill_53178 4 none, Cond.methodLink RX0 89 yX0_reachedFrom, Cond.instanceMethod yX0_reachedFrom, Cond.selects RX0 yX0_reachedFrom yX0_reachedFrom, Cond.initialized RX0, Cond.code yX0_reachedFrom cX0_reachedFrom 7 (some .int), Cond.fieldLink RX0 29 "CutAtlas$Current" "queue" "[I", Cond.methodLink RX0 93 yX0_findWay, Cond.instanceMethod yX0_findWay, Cond.selects RX0 yX0_findWay yX0_findWay, Cond.code yX0_findWay cX0_findWay 8 (some .boolean)]
noncomputable def wsX0_fill_r2 : List Cond := [Cond.fieldLink RX0 32 "CutAtlas$Current" "cameFrom" "[I", Cond.methodLink RX0 97 yX0_sendAlongWay, Cond.instanceMethod yX0_sendAlongWay, Cond.selects RX0 yX0_sendAlongWay yX0_sendAlongWay, Cond.code yX0_sendAlongWay cX0_sendAlongWay 6 (some .int), Cond.constant RX0 100 (1000000000), Cond.methodLink RX0 101 Lib.Math.min.name, Cond.static Lib.Math.min.name, Cond.initialized "java/lang/Math", Cond.code Lib.Math.min.name Lib.Math.min.code 2 (some .int), Cond.methodLink RX0 106 yX0_sendOver, Cond.instanceMethod yX0_sendOver, Cond.selects RX0 yX0_sendOver yX0_sendOver, Cond.code yX0_sendOver cX0_sendOver 7 none, Cond.fieldLink RX0 55 "CutAtlas$Net" "lines" "I", Cond.fieldLink RX0 76 "CutAtlas$Net" "starts" "[I", Cond.fieldLink RX0 79 "CutAtlas$Net" "ends" "[I", Cond.fieldLink RX0 23 "CutAtlas$Current" "letsForth" "[I", Cond.fieldLink RX0 26 "CutAtlas$Current" "letsBack" "[I"]
noncomputable def wsX0_fill : List Cond := .code yX0_fill cX0_fill 5 (some .int) :: ((wsX0_fill_r1 ++ wsX0_fill_r2) ++ wsX00 ++ wsX30)
noncomputable def wsX0_nearCut : List Cond := .code yX0_nearCut cX0_nearCut 2 (some .int) :: (([.methodLink RX0 89 yX0_reachedFrom, .instanceMethod yX0_reachedFrom, .selects RX0 yX0_reachedFrom yX0_reachedFrom, .initialized RX0, .code yX0_reachedFrom cX0_reachedFrom 7 (some .int), .fieldLink RX0 29 "CutAtlas$Current" "queue" "[I", .fieldLink RX0 35 "CutAtlas$Current" "net" "LCutAtlas$Net;", .fieldLink RX0 43 "CutAtlas$Net" "places" "I", .fieldLink RX0 16 "CutAtlas$Current" "room" "[[I"] : List Cond) ++ wsX00 ++ wsX30)
noncomputable def wsX0_reaching : List Cond := .code yX0_reaching cX0_reaching 6 (some .int) :: (([.fieldLink RX0 29 "CutAtlas$Current" "queue" "[I", .fieldLink RX0 35 "CutAtlas$Current" "net" "LCutAtlas$Net;", .fieldLink RX0 43 "CutAtlas$Net" "places" "I", .fieldLink RX0 16 "CutAtlas$Current" "room" "[[I"] : List Cond) ++ wsX00 ++ wsX30)
noncomputable def wsX0_farCut : List Cond := .code yX0_farCut cX0_farCut 2 (some .int) :: (([.fieldLink RX0 35 "CutAtlas$Current" "net" "LCutAtlas$Net;", .fieldLink RX0 43 "CutAtlas$Net" "places" "I", .methodLink RX0 110 yX0_reaching, .instanceMethod yX0_reaching, .selects RX0 yX0_reaching yX0_reaching, .initialized RX0, .code yX0_reaching cX0_reaching 6 (some .int), .fieldLink RX0 29 "CutAtlas$Current" "queue" "[I", .fieldLink RX0 16 "CutAtlas$Current" "room" "[[I"] : List Cond) ++ wsX00 ++ wsX30)
noncomputable def wsX0_betweenSets : List Cond := .code yX0_betweenSets cX0_betweenSets 5 (some .int) :: (([.fieldLink RX0 35 "CutAtlas$Current" "net" "LCutAtlas$Net;", .fieldLink RX0 43 "CutAtlas$Net" "places" "I", .fieldLink RX0 11 "CutAtlas$Current" "lets" "[[I"] : List Cond) ++ wsX00 ++ wsX30)
noncomputable def wsX0_leaving : List Cond := .code yX0_leaving cX0_leaving 4 (some .int) :: (([.fieldLink RX0 35 "CutAtlas$Current" "net" "LCutAtlas$Net;", .fieldLink RX0 43 "CutAtlas$Net" "places" "I", .methodLink RX0 113 yX0_betweenSets, .instanceMethod yX0_betweenSets, .selects RX0 yX0_betweenSets yX0_betweenSets, .initialized RX0, .code yX0_betweenSets cX0_betweenSets 5 (some .int), .fieldLink RX0 11 "CutAtlas$Current" "lets" "[[I"] : List Cond) ++ wsX00 ++ wsX30)
noncomputable def wsX1_init : List Cond := .code yX1_init cX1_init 2 none :: (([.methodLink RX1 3 objectInit, .instanceMethod objectInit, .code objectInit ⟨#[0xb1]⟩ 1 none, .arrayClass .int, .fieldLink RX1 9 "CutAtlas$CutTree" "nexts" "[I", .fieldLink RX1 15 "CutAtlas$CutTree" "numbers" "[I", .fieldLink RX1 18 "CutAtlas$CutTree" "current" "LCutAtlas$Current;"] : List Cond) ++ wsX10)
noncomputable def wsX1_hang_r1 : List Cond := [Cond.fieldLink RX1 9 "CutAtlas$CutTree" "nexts" "[I", Cond.fieldLink RX1 18 "CutAtlas$CutTree" "current" "LCutAtlas$Current;", Cond.fieldLink RX1 15 "CutAtlas$CutTree" "numbers" "[I", Cond.fieldLink RX1 34 "CutAtlas$Current" "net" "LCutAtlas$Net;", Cond.fieldLink RX1 38 "CutAtlas$Net" "places" "I", Cond.methodLink RX1 47 yX0_fill, Cond.instanceMethod yX0_fill, Cond.selects RX0 yX0_fill yX0_fill, Cond.initialized RX0, Cond.code yX0_fill cX0_fill 5 (some .int), Cond.fieldLink RX0 19 "CutAtlas$Current" "flowing" "[I", Cond.fieldLink RX0 35 "CutAtlas$Current" "net" "LCutAtlas$Net;", Cond.fieldLink RX0 43 "CutAtlas$Net" "places" "I", Cond.fieldLink RX0 11 "CutAtlas$Current" "lets" "[[I", Cond.fieldLink RX0 16 "CutAtlas$Current" "room" "[[I", Cond.methodLink RX0 83 arraycopyName, Cond.native arraycopyName, Cond.static arraycopyName, Cond.initialized "java/lang/System", Cond.constant RX0 82 (1000000), Cond.methodLink RX0 49 yJ7_fill_53178, Cond.static yJ7_fill_53178, Cond.initialized RJ7, Cond.code yJ7_fill_53178 cJ7_fill_53178 4 none]
noncomputable def wsX1_hang_r2 : List Cond := [Cond.methodLink RX0 89 yX0_reachedFrom, Cond.instanceMethod yX0_reachedFrom, Cond.selects RX0 yX0_reachedFrom yX0_reachedFrom, Cond.code yX0_reachedFrom cX0_reachedFrom 7 (some .int), Cond.fieldLink RX0 29 "CutAtlas$Current" "queue" "[I", Cond.methodLink RX0 93 yX0_findWay, Cond.instanceMethod yX0_findWay, Cond.selects RX0 yX0_findWay yX0_findWay, Cond.code yX0_findWay cX0_findWay 8 (some .boolean), Cond.fieldLink RX0 32 "CutAtlas$Current" "cameFrom" "[I", Cond.methodLink RX0 97 yX0_sendAlongWay, Cond.instanceMethod yX0_sendAlongWay, Cond.selects RX0 yX0_sendAlongWay yX0_sendAlongWay, Cond.code yX0_sendAlongWay cX0_sendAlongWay 6 (some .int), Cond.constant RX0 100 (1000000000), Cond.methodLink RX0 101 Lib.Math.min.name, Cond.static Lib.Math.min.name, Cond.initialized "java/lang/Math", Cond.code Lib.Math.min.name Lib.Math.min.code 2 (some .int), Cond.methodLink RX0 106 yX0_sendOver, Cond.instanceMethod yX0_sendOver, Cond.selects RX0 yX0_sendOver yX0_sendOver, Cond.code yX0_sendOver cX0_sendOver 7 none, Cond.fieldLink RX0 55 "CutAtlas$Net" "lines" "I"]
noncomputable def wsX1_hang_r3 : List Cond := [Cond.fieldLink RX0 76 "CutAtlas$Net" "starts" "[I", Cond.fieldLink RX0 79 "CutAtlas$Net" "ends" "[I", Cond.fieldLink RX0 23 "CutAtlas$Current" "letsForth" "[I", Cond.fieldLink RX0 26 "CutAtlas$Current" "letsBack" "[I", Cond.methodLink RX1 50 yX0_nearCut, Cond.instanceMethod yX0_nearCut, Cond.selects RX0 yX0_nearCut yX0_nearCut, Cond.code yX0_nearCut cX0_nearCut 2 (some .int)]
noncomputable def wsX1_hang : List Cond := .code yX1_hang cX1_hang 6 none :: ((wsX1_hang_r1 ++ (wsX1_hang_r2 ++ wsX1_hang_r3)) ++ wsX10 ++ wsX00 ++ wsX30)
noncomputable def wsX1_grow_r1 : List Cond := [Cond.fieldLink RX1 18 "CutAtlas$CutTree" "current" "LCutAtlas$Current;", Cond.fieldLink RX1 9 "CutAtlas$CutTree" "nexts" "[I", Cond.fieldLink RX1 15 "CutAtlas$CutTree" "numbers" "[I", Cond.fieldLink RX1 34 "CutAtlas$Current" "net" "LCutAtlas$Net;", Cond.fieldLink RX1 38 "CutAtlas$Net" "places" "I", Cond.methodLink RX1 22 yX0_load, Cond.instanceMethod yX0_load, Cond.selects RX0 yX0_load yX0_load, Cond.initialized RX0, Cond.code yX0_load cX0_load 5 none, Cond.fieldLink RX0 35 "CutAtlas$Current" "net" "LCutAtlas$Net;", Cond.fieldLink RX0 43 "CutAtlas$Net" "places" "I", Cond.fieldLink RX0 11 "CutAtlas$Current" "lets" "[[I", Cond.fieldLink RX0 55 "CutAtlas$Net" "lines" "I", Cond.fieldLink RX0 62 "CutAtlas$Net" "widths" "[I", Cond.fieldLink RX0 39 "CutAtlas$Current" "kinds" "[LCutAtlas$PlainKind;", Cond.fieldLink RX0 65 "CutAtlas$Net" "kinds" "[I", Cond.fieldLink RX0 23 "CutAtlas$Current" "letsForth" "[I", Cond.fieldLink RX0 26 "CutAtlas$Current" "letsBack" "[I", Cond.fieldLink RX0 76 "CutAtlas$Net" "starts" "[I", Cond.fieldLink RX0 79 "CutAtlas$Net" "ends" "[I", Cond.methodLink RX0 49 yJ7_fill_53178, Cond.static yJ7_fill_53178, Cond.initialized RJ7]
noncomputable def wsX1_grow_r2 : List Cond := [Cond.code yJ7_fill_53178 cJ7_fill_53178 4 none, Cond.methodLink RX0 58 yX3_isMissing, Cond.instanceMethod yX3_isMissing, Cond.selects RX3 yX3_isMissing yX3_isMissing, Cond.initialized RX3, Cond.code yX3_isMissing cX3_isMissing 2 (some .boolean), Cond.fieldLink RX3 22 "CutAtlas$Net" "starts" "[I", Cond.methodLink RX0 67 ⟨"CutAtlas$PlainKind", "lets", "(IZ)I"⟩, Cond.sameMethod "CutAtlas$PlainKind" "CutAtlas$PlainKind" "lets" "(IZ)I", Cond.selects RX2 ⟨"CutAtlas$PlainKind", "lets", "(IZ)I"⟩ yX6_lets, Cond.instanceMethod yX6_lets, Cond.initialized RX6, Cond.code yX6_lets cX6_lets 3 (some .int), Cond.instanceMethod ⟨"CutAtlas$PlainKind", "lets", "(IZ)I"⟩, Cond.selects RX5 ⟨"CutAtlas$PlainKind", "lets", "(IZ)I"⟩ yX5_lets, Cond.instanceMethod yX5_lets, Cond.initialized RX5, Cond.code yX5_lets cX5_lets 3 (some .int), Cond.methodLink RX5 7 yX6_lets, Cond.superclass RX5 RX6, Cond.methodLink RX0 67 yX6_lets, Cond.selects RX6 yX6_lets yX6_lets, Cond.selects RX8 ⟨"CutAtlas$PlainKind", "lets", "(IZ)I"⟩ yX6_lets, Cond.selects RX9 ⟨"CutAtlas$PlainKind", "lets", "(IZ)I"⟩ yX9_lets]
noncomputable def wsX1_grow_r3 : List Cond := [Cond.instanceMethod yX9_lets, Cond.initialized RX9, Cond.code yX9_lets cX9_lets 3 (some .int), Cond.methodLink RX0 72 yX0_asRoom, Cond.static yX0_asRoom, Cond.code yX0_asRoom cX0_asRoom 1 (some .int), Cond.constant RX0 82 (1000000), Cond.methodLink RX1 28 yJ7_fill_53178, Cond.methodLink RX1 44 yX1_hang, Cond.instanceMethod yX1_hang, Cond.selects RX1 yX1_hang yX1_hang, Cond.initialized RX1, Cond.code yX1_hang cX1_hang 6 none, Cond.methodLink RX1 47 yX0_fill, Cond.instanceMethod yX0_fill, Cond.selects RX0 yX0_fill yX0_fill, Cond.code yX0_fill cX0_fill 5 (some .int), Cond.fieldLink RX0 19 "CutAtlas$Current" "flowing" "[I", Cond.fieldLink RX0 16 "CutAtlas$Current" "room" "[[I", Cond.methodLink RX0 83 arraycopyName, Cond.native arraycopyName, Cond.static arraycopyName, Cond.initialized "java/lang/System", Cond.methodLink RX0 89 yX0_reachedFrom]
noncomputable def wsX1_grow_r4 : List Cond := [Cond.instanceMethod yX0_reachedFrom, Cond.selects RX0 yX0_reachedFrom yX0_reachedFrom, Cond.code yX0_reachedFrom cX0_reachedFrom 7 (some .int), Cond.fieldLink RX0 29 "CutAtlas$Current" "queue" "[I", Cond.methodLink RX0 93 yX0_findWay, Cond.instanceMethod yX0_findWay, Cond.selects RX0 yX0_findWay yX0_findWay, Cond.code yX0_findWay cX0_findWay 8 (some .boolean), Cond.fieldLink RX0 32 "CutAtlas$Current" "cameFrom" "[I", Cond.methodLink RX0 97 yX0_sendAlongWay, Cond.instanceMethod yX0_sendAlongWay, Cond.selects RX0 yX0_sendAlongWay yX0_sendAlongWay, Cond.code yX0_sendAlongWay cX0_sendAlongWay 6 (some .int), Cond.constant RX0 100 (1000000000), Cond.methodLink RX0 101 Lib.Math.min.name, Cond.static Lib.Math.min.name, Cond.initialized "java/lang/Math", Cond.code Lib.Math.min.name Lib.Math.min.code 2 (some .int), Cond.methodLink RX0 106 yX0_sendOver, Cond.instanceMethod yX0_sendOver, Cond.selects RX0 yX0_sendOver yX0_sendOver, Cond.code yX0_sendOver cX0_sendOver 7 none, Cond.methodLink RX1 50 yX0_nearCut, Cond.instanceMethod yX0_nearCut]
noncomputable def wsX1_grow_r5 : List Cond := [Cond.selects RX0 yX0_nearCut yX0_nearCut, Cond.code yX0_nearCut cX0_nearCut 2 (some .int)]
noncomputable def wsX1_grow : List Cond := .code yX1_grow cX1_grow 2 none :: ((wsX1_grow_r1 ++ (wsX1_grow_r2 ++ (wsX1_grow_r3 ++ (wsX1_grow_r4 ++ wsX1_grow_r5)))) ++ wsX10 ++ wsX00 ++ wsX30)
noncomputable def wsX1_stepsToRoot : List Cond := .code yX1_stepsToRoot cX1_stepsToRoot 4 (some .int) :: (([.fieldLink RX1 9 "CutAtlas$CutTree" "nexts" "[I"] : List Cond) ++ wsX10)
noncomputable def wsX1_leastOnWay : List Cond := .code yX1_leastOnWay cX1_leastOnWay 9 (some .int) :: (([.constant RX1 54 (1000000000), .fieldLink RX1 15 "CutAtlas$CutTree" "numbers" "[I", .methodLink RX1 58 Lib.Math.min.name, .static Lib.Math.min.name, .initialized "java/lang/Math", .code Lib.Math.min.name Lib.Math.min.code 2 (some .int), .fieldLink RX1 9 "CutAtlas$CutTree" "nexts" "[I", .methodLink RX1 55 yX1_stepsToRoot, .instanceMethod yX1_stepsToRoot, .selects RX1 yX1_stepsToRoot yX1_stepsToRoot, .initialized RX1, .code yX1_stepsToRoot cX1_stepsToRoot 4 (some .int)] : List Cond) ++ wsX10)
noncomputable def wsX1_leastNumber : List Cond := .code yX1_leastNumber cX1_leastNumber 3 (some .int) :: (([.constant RX1 54 (1000000000), .fieldLink RX1 18 "CutAtlas$CutTree" "current" "LCutAtlas$Current;", .fieldLink RX1 34 "CutAtlas$Current" "net" "LCutAtlas$Net;", .fieldLink RX1 38 "CutAtlas$Net" "places" "I", .fieldLink RX1 15 "CutAtlas$CutTree" "numbers" "[I", .methodLink RX1 58 Lib.Math.min.name, .static Lib.Math.min.name, .initialized "java/lang/Math", .code Lib.Math.min.name Lib.Math.min.code 2 (some .int)] : List Cond) ++ wsX10 ++ wsX00 ++ wsX30)
noncomputable def wsX1_leastAlike : List Cond := .code yX1_leastAlike cX1_leastAlike 4 (some .int) :: (([.methodLink RX1 63 yX1_leastOnWay, .instanceMethod yX1_leastOnWay, .selects RX1 yX1_leastOnWay yX1_leastOnWay, .initialized RX1, .code yX1_leastOnWay cX1_leastOnWay 9 (some .int), .constant RX1 54 (1000000000), .fieldLink RX1 15 "CutAtlas$CutTree" "numbers" "[I", .methodLink RX1 58 Lib.Math.min.name, .static Lib.Math.min.name, .initialized "java/lang/Math", .code Lib.Math.min.name Lib.Math.min.code 2 (some .int), .fieldLink RX1 9 "CutAtlas$CutTree" "nexts" "[I", .methodLink RX1 55 yX1_stepsToRoot, .instanceMethod yX1_stepsToRoot, .selects RX1 yX1_stepsToRoot yX1_stepsToRoot, .code yX1_stepsToRoot cX1_stepsToRoot 4 (some .int)] : List Cond) ++ wsX10)
noncomputable def wsX1_partsBelow : List Cond := .code yX1_partsBelow cX1_partsBelow 5 (some .int) :: (([.methodLink RX1 66 yX1_leastAlike, .instanceMethod yX1_leastAlike, .selects RX1 yX1_leastAlike yX1_leastAlike, .initialized RX1, .code yX1_leastAlike cX1_leastAlike 4 (some .int), .methodLink RX1 63 yX1_leastOnWay, .instanceMethod yX1_leastOnWay, .selects RX1 yX1_leastOnWay yX1_leastOnWay, .code yX1_leastOnWay cX1_leastOnWay 9 (some .int), .constant RX1 54 (1000000000), .fieldLink RX1 15 "CutAtlas$CutTree" "numbers" "[I", .methodLink RX1 58 Lib.Math.min.name, .static Lib.Math.min.name, .initialized "java/lang/Math", .code Lib.Math.min.name Lib.Math.min.code 2 (some .int), .fieldLink RX1 9 "CutAtlas$CutTree" "nexts" "[I", .methodLink RX1 55 yX1_stepsToRoot, .instanceMethod yX1_stepsToRoot, .selects RX1 yX1_stepsToRoot yX1_stepsToRoot, .code yX1_stepsToRoot cX1_stepsToRoot 4 (some .int)] : List Cond) ++ wsX10)
noncomputable def wsX6_init : List Cond := .code yX6_init cX6_init 1 none :: (([.methodLink RX6 3 objectInit, .instanceMethod objectInit, .code objectInit ⟨#[0xb1]⟩ 1 none] : List Cond))
noncomputable def wsX2_init : List Cond := .code yX2_init cX2_init 1 none :: (([.instanceMethod yX6_init, .initialized RX6, .code yX6_init cX6_init 1 none, .methodLink RX6 3 objectInit, .instanceMethod objectInit, .code objectInit ⟨#[0xb1]⟩ 1 none] : List Cond))
noncomputable def wsX2_costs : List Cond := .code yX2_costs cX2_costs 2 (some .int) :: (([] : List Cond))
noncomputable def wsX2_costsMark : List Cond := .code yX2_costsMark cX2_costsMark 1 (some .int) :: (([] : List Cond))
noncomputable def wsX3_init : List Cond := .code yX3_init cX3_init 1 none :: (([.methodLink RX3 3 objectInit, .instanceMethod objectInit, .code objectInit ⟨#[0xb1]⟩ 1 none, .fieldLink RX3 9 "CutAtlas$Net" "places" "I", .fieldLink RX3 15 "CutAtlas$Net" "lines" "I", .arrayClass .int, .fieldLink RX3 18 "CutAtlas$Net" "kinds" "[I", .fieldLink RX3 22 "CutAtlas$Net" "starts" "[I", .fieldLink RX3 25 "CutAtlas$Net" "ends" "[I", .fieldLink RX3 28 "CutAtlas$Net" "widths" "[I", .fieldLink RX3 31 "CutAtlas$Net" "prices" "[I"] : List Cond) ++ wsX30)
noncomputable def wsX3_hasPlace : List Cond := .code yX3_hasPlace cX3_hasPlace 3 (some .boolean) :: (([.fieldLink RX3 9 "CutAtlas$Net" "places" "I"] : List Cond) ++ wsX30)
noncomputable def wsX3_hasPair : List Cond := .code yX3_hasPair cX3_hasPair 5 (some .boolean) :: (([.methodLink RX3 34 yX3_hasPlace, .instanceMethod yX3_hasPlace, .selects RX3 yX3_hasPlace yX3_hasPlace, .initialized RX3, .code yX3_hasPlace cX3_hasPlace 3 (some .boolean), .fieldLink RX3 9 "CutAtlas$Net" "places" "I"] : List Cond) ++ wsX30)
noncomputable def wsX3_hasLine : List Cond := .code yX3_hasLine cX3_hasLine 2 (some .boolean) :: (([.fieldLink RX3 15 "CutAtlas$Net" "lines" "I"] : List Cond) ++ wsX30)
noncomputable def wsX3_missingLines : List Cond := .code yX3_missingLines cX3_missingLines 3 (some .int) :: (([.fieldLink RX3 15 "CutAtlas$Net" "lines" "I", .methodLink RX3 38 yX3_isMissing, .instanceMethod yX3_isMissing, .selects RX3 yX3_isMissing yX3_isMissing, .initialized RX3, .code yX3_isMissing cX3_isMissing 2 (some .boolean), .fieldLink RX3 22 "CutAtlas$Net" "starts" "[I"] : List Cond) ++ wsX30)
noncomputable def wsX3_isWhole : List Cond := .code yX3_isWhole cX3_isWhole 3 (some .boolean) :: (([.fieldLink RX3 15 "CutAtlas$Net" "lines" "I", .fieldLink RX3 18 "CutAtlas$Net" "kinds" "[I", .fieldLink RX3 9 "CutAtlas$Net" "places" "I", .methodLink RX3 38 yX3_isMissing, .instanceMethod yX3_isMissing, .selects RX3 yX3_isMissing yX3_isMissing, .initialized RX3, .code yX3_isMissing cX3_isMissing 2 (some .boolean), .fieldLink RX3 22 "CutAtlas$Net" "starts" "[I"] : List Cond) ++ wsX30)
noncomputable def wsX3_append : List Cond := .code yX3_append cX3_append 6 (some .int) :: (([.fieldLink RX3 18 "CutAtlas$Net" "kinds" "[I", .fieldLink RX3 15 "CutAtlas$Net" "lines" "I", .fieldLink RX3 22 "CutAtlas$Net" "starts" "[I", .fieldLink RX3 25 "CutAtlas$Net" "ends" "[I", .fieldLink RX3 28 "CutAtlas$Net" "widths" "[I", .fieldLink RX3 31 "CutAtlas$Net" "prices" "[I"] : List Cond) ++ wsX30)
noncomputable def wsX3_renumbered : List Cond := .code yX3_renumbered cX3_renumbered 3 (some .int) :: (([] : List Cond))
noncomputable def wsX3_join : List Cond := .code yX3_join cX3_join 5 (some .int) :: (([.fieldLink RX3 15 "CutAtlas$Net" "lines" "I", .fieldLink RX3 22 "CutAtlas$Net" "starts" "[I", .fieldLink RX3 25 "CutAtlas$Net" "ends" "[I", .fieldLink RX3 9 "CutAtlas$Net" "places" "I", .methodLink RX3 38 yX3_isMissing, .instanceMethod yX3_isMissing, .selects RX3 yX3_isMissing yX3_isMissing, .initialized RX3, .code yX3_isMissing cX3_isMissing 2 (some .boolean), .methodLink RX3 42 yX3_renumbered, .static yX3_renumbered, .code yX3_renumbered cX3_renumbered 3 (some .int)] : List Cond) ++ wsX30)
noncomputable def wsX3_become : List Cond := .code yX3_become cX3_become 2 none :: (([.fieldLink RX3 9 "CutAtlas$Net" "places" "I", .fieldLink RX3 15 "CutAtlas$Net" "lines" "I", .fieldLink RX3 18 "CutAtlas$Net" "kinds" "[I", .methodLink RX3 46 arraycopyName, .native arraycopyName, .static arraycopyName, .initialized "java/lang/System", .fieldLink RX3 22 "CutAtlas$Net" "starts" "[I", .fieldLink RX3 25 "CutAtlas$Net" "ends" "[I", .fieldLink RX3 28 "CutAtlas$Net" "widths" "[I", .fieldLink RX3 31 "CutAtlas$Net" "prices" "[I"] : List Cond) ++ wsX30)
noncomputable def wsX4_init : List Cond := .code yX4_init cX4_init 1 none :: (([.methodLink RX4 3 objectInit, .instanceMethod objectInit, .code objectInit ⟨#[0xb1]⟩ 1 none, .fieldLink RX4 9 "CutAtlas$NumberMap" "kind" "I", .fieldLink RX4 15 "CutAtlas$NumberMap" "rows" "I", .arrayClass .int, .fieldLink RX4 18 "CutAtlas$NumberMap" "lengths" "[I", .arrayClass .long, .fieldLink RX4 22 "CutAtlas$NumberMap" "numbers" "[J"] : List Cond) ++ wsX40)
noncomputable def wsX4_isThere : List Cond := .code yX4_isThere cX4_isThere 1 (some .boolean) :: (([.fieldLink RX4 15 "CutAtlas$NumberMap" "rows" "I"] : List Cond) ++ wsX40)
noncomputable def wsX4_hasRow : List Cond := .code yX4_hasRow cX4_hasRow 2 (some .boolean) :: (([.fieldLink RX4 15 "CutAtlas$NumberMap" "rows" "I"] : List Cond) ++ wsX40)
noncomputable def wsX4_begin : List Cond := .code yX4_begin cX4_begin 3 none :: (([.fieldLink RX4 9 "CutAtlas$NumberMap" "kind" "I", .fieldLink RX4 15 "CutAtlas$NumberMap" "rows" "I", .fieldLink RX4 18 "CutAtlas$NumberMap" "lengths" "[I", .methodLink RX4 26 yJ7_fill_53178, .static yJ7_fill_53178, .initialized RJ7, .code yJ7_fill_53178 cJ7_fill_53178 4 none] : List Cond) ++ wsX40)
noncomputable def wsX4_beginRow : List Cond := .code yX4_beginRow cX4_beginRow 4 none :: (([.fieldLink RX4 18 "CutAtlas$NumberMap" "lengths" "[I", .fieldLink RX4 22 "CutAtlas$NumberMap" "numbers" "[J"] : List Cond) ++ wsX40)
noncomputable def wsX4_store : List Cond := .code yX4_store cX4_store 7 none :: (([.fieldLink RX4 9 "CutAtlas$NumberMap" "kind" "I", .fieldLink RX4 22 "CutAtlas$NumberMap" "numbers" "[J"] : List Cond) ++ wsX40)
noncomputable def wsX4_number : List Cond := .code yX4_number cX4_number 3 (some .long) :: (([.fieldLink RX4 22 "CutAtlas$NumberMap" "numbers" "[J"] : List Cond) ++ wsX40)
noncomputable def wsX4_whole : List Cond := .code yX4_whole cX4_whole 3 (some .int) :: (([.methodLink RX4 32 yX4_number, .instanceMethod yX4_number, .selects RX4 yX4_number yX4_number, .initialized RX4, .code yX4_number cX4_number 3 (some .long), .fieldLink RX4 22 "CutAtlas$NumberMap" "numbers" "[J"] : List Cond) ++ wsX40)
noncomputable def wsX4_hasNumbers : List Cond := .code yX4_hasNumbers cX4_hasNumbers 4 (some .boolean) :: (([.fieldLink RX4 18 "CutAtlas$NumberMap" "lengths" "[I"] : List Cond) ++ wsX40)
noncomputable def wsX4_moveRefusal : List Cond := .code yX4_moveRefusal cX4_moveRefusal 6 (some .int) :: (([.fieldLink RX4 18 "CutAtlas$NumberMap" "lengths" "[I", .methodLink RX4 36 yX4_isThere, .instanceMethod yX4_isThere, .selects RX4 yX4_isThere yX4_isThere, .initialized RX4, .code yX4_isThere cX4_isThere 1 (some .boolean), .fieldLink RX4 15 "CutAtlas$NumberMap" "rows" "I", .methodLink RX4 40 yX4_hasRow, .instanceMethod yX4_hasRow, .selects RX4 yX4_hasRow yX4_hasRow, .code yX4_hasRow cX4_hasRow 2 (some .boolean), .methodLink RX4 44 yX4_hasNumbers, .instanceMethod yX4_hasNumbers, .selects RX4 yX4_hasNumbers yX4_hasNumbers, .code yX4_hasNumbers cX4_hasNumbers 4 (some .boolean)] : List Cond) ++ wsX40)
noncomputable def wsX4_move : List Cond := .code yX4_move cX4_move 6 none :: (([.fieldLink RX4 22 "CutAtlas$NumberMap" "numbers" "[J", .methodLink RX4 48 arraycopyName, .native arraycopyName, .static arraycopyName, .initialized "java/lang/System"] : List Cond) ++ wsX40)
noncomputable def wsX5_init : List Cond := .code yX5_init cX5_init 1 none :: (([.instanceMethod yX6_init, .initialized RX6, .code yX6_init cX6_init 1 none, .methodLink RX6 3 objectInit, .instanceMethod objectInit, .code objectInit ⟨#[0xb1]⟩ 1 none] : List Cond))
noncomputable def wsX6_letsMark : List Cond := .code yX6_letsMark cX6_letsMark 2 (some .int) :: (([] : List Cond))
noncomputable def wsX5_letsMark : List Cond := .code yX5_letsMark cX5_letsMark 2 (some .int) :: (([.methodLink RX5 11 yX6_letsMark, .sameMethod "CutAtlas$PlainKind" "CutAtlas$PlainKind" "letsMark" "(Z)I", .superclass RX5 RX6, .instanceMethod yX6_letsMark, .initialized RX6, .code yX6_letsMark cX6_letsMark 2 (some .int)] : List Cond))
noncomputable def wsX6_costs : List Cond := .code yX6_costs cX6_costs 2 (some .int) :: (([] : List Cond))
noncomputable def wsX6_costsMark : List Cond := .code yX6_costsMark cX6_costsMark 1 (some .int) :: (([] : List Cond))
noncomputable def wsX6_begins : List Cond := .code yX6_begins cX6_begins 2 (some .int) :: (([] : List Cond))
noncomputable def wsX6_beginsMark : List Cond := .code yX6_beginsMark cX6_beginsMark 1 (some .int) :: (([] : List Cond))
noncomputable def wsX7_init : List Cond := .code yX7_init cX7_init 2 none :: (([.methodLink RX7 3 objectInit, .instanceMethod objectInit, .code objectInit ⟨#[0xb1]⟩ 1 none, .fieldLink RX7 9 "CutAtlas$SetHunt" "current" "LCutAtlas$Current;"] : List Cond) ++ wsX70)
noncomputable def wsX7_meet : List Cond := .code yX7_meet cX7_meet 3 none :: (([.fieldLink RX7 33 "CutAtlas$SetHunt" "aim" "I", .fieldLink RX7 20 "CutAtlas$SetHunt" "met" "I", .fieldLink RX7 36 "CutAtlas$SetHunt" "wanted" "I", .fieldLink RX7 24 "CutAtlas$SetHunt" "found" "I"] : List Cond) ++ wsX70)
noncomputable def wsX7_letIn : List Cond := .code yX7_letIn cX7_letIn 5 (some .int) :: (([.fieldLink RX7 9 "CutAtlas$SetHunt" "current" "LCutAtlas$Current;", .fieldLink RX7 39 "CutAtlas$Current" "net" "LCutAtlas$Net;", .fieldLink RX7 45 "CutAtlas$Net" "places" "I", .fieldLink RX7 65 "CutAtlas$Current" "lets" "[[I"] : List Cond) ++ wsX70 ++ wsX00 ++ wsX30)
noncomputable def wsX7_letOut : List Cond := .code yX7_letOut cX7_letOut 5 (some .int) :: (([.fieldLink RX7 9 "CutAtlas$SetHunt" "current" "LCutAtlas$Current;", .fieldLink RX7 39 "CutAtlas$Current" "net" "LCutAtlas$Net;", .fieldLink RX7 45 "CutAtlas$Net" "places" "I", .fieldLink RX7 65 "CutAtlas$Current" "lets" "[[I"] : List Cond) ++ wsX70 ++ wsX00 ++ wsX30)
noncomputable def wsX7_chooseForCut_r1 : List Cond := [Cond.fieldLink RX7 33 "CutAtlas$SetHunt" "aim" "I", Cond.fieldLink RX7 24 "CutAtlas$SetHunt" "found" "I", Cond.fieldLink RX7 27 "CutAtlas$SetHunt" "must" "I", Cond.fieldLink RX7 30 "CutAtlas$SetHunt" "mustNot" "I", Cond.methodLink RX7 54 yX7_meet, Cond.instanceMethod yX7_meet, Cond.selects RX7 yX7_meet yX7_meet, Cond.initialized RX7, Cond.code yX7_meet cX7_meet 3 none, Cond.fieldLink RX7 20 "CutAtlas$SetHunt" "met" "I", Cond.fieldLink RX7 36 "CutAtlas$SetHunt" "wanted" "I", Cond.methodLink RX7 58 yX7_letIn, Cond.instanceMethod yX7_letIn, Cond.selects RX7 yX7_letIn yX7_letIn, Cond.code yX7_letIn cX7_letIn 5 (some .int), Cond.fieldLink RX7 9 "CutAtlas$SetHunt" "current" "LCutAtlas$Current;", Cond.fieldLink RX7 39 "CutAtlas$Current" "net" "LCutAtlas$Net;", Cond.fieldLink RX7 45 "CutAtlas$Net" "places" "I", Cond.fieldLink RX7 65 "CutAtlas$Current" "lets" "[[I", Cond.methodLink RX7 50 yX7_chooseForCut, Cond.instanceMethod yX7_chooseForCut, Cond.selects RX7 yX7_chooseForCut yX7_chooseForCut, Cond.methodLink RX7 62 yX7_letOut, Cond.instanceMethod yX7_letOut]
noncomputable def wsX7_chooseForCut_r2 : List Cond := [Cond.selects RX7 yX7_letOut yX7_letOut, Cond.code yX7_letOut cX7_letOut 5 (some .int)]
noncomputable def wsX7_chooseForCut : List Cond := .code yX7_chooseForCut cX7_chooseForCut 5 none :: ((wsX7_chooseForCut_r1 ++ wsX7_chooseForCut_r2) ++ wsX70 ++ wsX00 ++ wsX30)
noncomputable def wsX7_hunt_r1 : List Cond := [Cond.fieldLink RX7 27 "CutAtlas$SetHunt" "must" "I", Cond.fieldLink RX7 30 "CutAtlas$SetHunt" "mustNot" "I", Cond.fieldLink RX7 33 "CutAtlas$SetHunt" "aim" "I", Cond.fieldLink RX7 36 "CutAtlas$SetHunt" "wanted" "I", Cond.fieldLink RX7 20 "CutAtlas$SetHunt" "met" "I", Cond.fieldLink RX7 24 "CutAtlas$SetHunt" "found" "I", Cond.fieldLink RX7 9 "CutAtlas$SetHunt" "current" "LCutAtlas$Current;", Cond.fieldLink RX7 39 "CutAtlas$Current" "net" "LCutAtlas$Net;", Cond.fieldLink RX7 45 "CutAtlas$Net" "places" "I", Cond.methodLink RX7 50 yX7_chooseForCut, Cond.instanceMethod yX7_chooseForCut, Cond.selects RX7 yX7_chooseForCut yX7_chooseForCut, Cond.initialized RX7, Cond.code yX7_chooseForCut cX7_chooseForCut 5 none, Cond.methodLink RX7 54 yX7_meet, Cond.instanceMethod yX7_meet, Cond.selects RX7 yX7_meet yX7_meet, Cond.code yX7_meet cX7_meet 3 none, Cond.methodLink RX7 58 yX7_letIn, Cond.instanceMethod yX7_letIn, Cond.selects RX7 yX7_letIn yX7_letIn, Cond.code yX7_letIn cX7_letIn 5 (some .int), Cond.fieldLink RX7 65 "CutAtlas$Current" "lets" "[[I", Cond.methodLink RX7 62 yX7_letOut]
noncomputable def wsX7_hunt_r2 : List Cond := [Cond.instanceMethod yX7_letOut, Cond.selects RX7 yX7_letOut yX7_letOut, Cond.code yX7_letOut cX7_letOut 5 (some .int)]
noncomputable def wsX7_hunt : List Cond := .code yX7_hunt cX7_hunt 5 none :: ((wsX7_hunt_r1 ++ wsX7_hunt_r2) ++ wsX70 ++ wsX00 ++ wsX30)
noncomputable def wsX7_countCuts_r1 : List Cond := [Cond.constant RX7 15 (1000000000), Cond.fieldLink RX7 20 "CutAtlas$SetHunt" "met" "I", Cond.methodLink RX7 16 yX7_hunt, Cond.instanceMethod yX7_hunt, Cond.selects RX7 yX7_hunt yX7_hunt, Cond.initialized RX7, Cond.code yX7_hunt cX7_hunt 5 none, Cond.fieldLink RX7 27 "CutAtlas$SetHunt" "must" "I", Cond.fieldLink RX7 30 "CutAtlas$SetHunt" "mustNot" "I", Cond.fieldLink RX7 33 "CutAtlas$SetHunt" "aim" "I", Cond.fieldLink RX7 36 "CutAtlas$SetHunt" "wanted" "I", Cond.fieldLink RX7 24 "CutAtlas$SetHunt" "found" "I", Cond.fieldLink RX7 9 "CutAtlas$SetHunt" "current" "LCutAtlas$Current;", Cond.fieldLink RX7 39 "CutAtlas$Current" "net" "LCutAtlas$Net;", Cond.fieldLink RX7 45 "CutAtlas$Net" "places" "I", Cond.methodLink RX7 50 yX7_chooseForCut, Cond.instanceMethod yX7_chooseForCut, Cond.selects RX7 yX7_chooseForCut yX7_chooseForCut, Cond.code yX7_chooseForCut cX7_chooseForCut 5 none, Cond.methodLink RX7 54 yX7_meet, Cond.instanceMethod yX7_meet, Cond.selects RX7 yX7_meet yX7_meet, Cond.code yX7_meet cX7_meet 3 none, Cond.methodLink RX7 58 yX7_letIn]
noncomputable def wsX7_countCuts_r2 : List Cond := [Cond.instanceMethod yX7_letIn, Cond.selects RX7 yX7_letIn yX7_letIn, Cond.code yX7_letIn cX7_letIn 5 (some .int), Cond.fieldLink RX7 65 "CutAtlas$Current" "lets" "[[I", Cond.methodLink RX7 62 yX7_letOut, Cond.instanceMethod yX7_letOut, Cond.selects RX7 yX7_letOut yX7_letOut, Cond.code yX7_letOut cX7_letOut 5 (some .int)]
noncomputable def wsX7_countCuts : List Cond := .code yX7_countCuts cX7_countCuts 4 (some .int) :: ((wsX7_countCuts_r1 ++ wsX7_countCuts_r2) ++ wsX70 ++ wsX00 ++ wsX30)
noncomputable def wsX7_findCut_r1 : List Cond := [Cond.fieldLink RX7 24 "CutAtlas$SetHunt" "found" "I", Cond.methodLink RX7 16 yX7_hunt, Cond.instanceMethod yX7_hunt, Cond.selects RX7 yX7_hunt yX7_hunt, Cond.initialized RX7, Cond.code yX7_hunt cX7_hunt 5 none, Cond.fieldLink RX7 27 "CutAtlas$SetHunt" "must" "I", Cond.fieldLink RX7 30 "CutAtlas$SetHunt" "mustNot" "I", Cond.fieldLink RX7 33 "CutAtlas$SetHunt" "aim" "I", Cond.fieldLink RX7 36 "CutAtlas$SetHunt" "wanted" "I", Cond.fieldLink RX7 20 "CutAtlas$SetHunt" "met" "I", Cond.fieldLink RX7 9 "CutAtlas$SetHunt" "current" "LCutAtlas$Current;", Cond.fieldLink RX7 39 "CutAtlas$Current" "net" "LCutAtlas$Net;", Cond.fieldLink RX7 45 "CutAtlas$Net" "places" "I", Cond.methodLink RX7 50 yX7_chooseForCut, Cond.instanceMethod yX7_chooseForCut, Cond.selects RX7 yX7_chooseForCut yX7_chooseForCut, Cond.code yX7_chooseForCut cX7_chooseForCut 5 none, Cond.methodLink RX7 54 yX7_meet, Cond.instanceMethod yX7_meet, Cond.selects RX7 yX7_meet yX7_meet, Cond.code yX7_meet cX7_meet 3 none, Cond.methodLink RX7 58 yX7_letIn, Cond.instanceMethod yX7_letIn]
noncomputable def wsX7_findCut_r2 : List Cond := [Cond.selects RX7 yX7_letIn yX7_letIn, Cond.code yX7_letIn cX7_letIn 5 (some .int), Cond.fieldLink RX7 65 "CutAtlas$Current" "lets" "[[I", Cond.methodLink RX7 62 yX7_letOut, Cond.instanceMethod yX7_letOut, Cond.selects RX7 yX7_letOut yX7_letOut, Cond.code yX7_letOut cX7_letOut 5 (some .int)]
noncomputable def wsX7_findCut : List Cond := .code yX7_findCut cX7_findCut 5 (some .int) :: ((wsX7_findCut_r1 ++ wsX7_findCut_r2) ++ wsX70 ++ wsX00 ++ wsX30)
noncomputable def wsJ6_bitCount_0f7a4 : List Cond := .code yJ6_bitCount_0f7a4 cJ6_bitCount_0f7a4 1 (some .int) :: (([.constant RJ6 265 (1431655765), .constant RJ6 266 (858993459), .constant RJ6 267 (252645135)] : List Cond))
noncomputable def wsX7_compareDense : List Cond := .code yX7_compareDense cX7_compareDense 7 none :: (([.fieldLink RX7 69 "CutAtlas$SetHunt" "denseSet" "I", .fieldLink RX7 72 "CutAtlas$SetHunt" "denseSum" "I", .methodLink RX7 81 yJ6_bitCount_0f7a4, .static yJ6_bitCount_0f7a4, .initialized RJ6, .code yJ6_bitCount_0f7a4 cJ6_bitCount_0f7a4 1 (some .int), .constant RJ6 265 (1431655765), .constant RJ6 266 (858993459), .constant RJ6 267 (252645135)] : List Cond) ++ wsX70)
noncomputable def wsX7_chooseForDense_r1 : List Cond := [Cond.methodLink RX7 78 yX7_compareDense, Cond.instanceMethod yX7_compareDense, Cond.selects RX7 yX7_compareDense yX7_compareDense, Cond.initialized RX7, Cond.code yX7_compareDense cX7_compareDense 7 none, Cond.fieldLink RX7 69 "CutAtlas$SetHunt" "denseSet" "I", Cond.fieldLink RX7 72 "CutAtlas$SetHunt" "denseSum" "I", Cond.methodLink RX7 81 yJ6_bitCount_0f7a4, Cond.static yJ6_bitCount_0f7a4, Cond.initialized RJ6, Cond.code yJ6_bitCount_0f7a4 cJ6_bitCount_0f7a4 1 (some .int), Cond.constant RJ6 265 (1431655765), Cond.constant RJ6 266 (858993459), Cond.constant RJ6 267 (252645135), Cond.methodLink RX7 75 yX7_chooseForDense, Cond.instanceMethod yX7_chooseForDense, Cond.selects RX7 yX7_chooseForDense yX7_chooseForDense, Cond.methodLink RX7 58 yX7_letIn, Cond.instanceMethod yX7_letIn, Cond.selects RX7 yX7_letIn yX7_letIn, Cond.code yX7_letIn cX7_letIn 5 (some .int), Cond.fieldLink RX7 9 "CutAtlas$SetHunt" "current" "LCutAtlas$Current;", Cond.fieldLink RX7 39 "CutAtlas$Current" "net" "LCutAtlas$Net;", Cond.fieldLink RX7 45 "CutAtlas$Net" "places" "I"]
noncomputable def wsX7_chooseForDense_r2 : List Cond := [Cond.fieldLink RX7 65 "CutAtlas$Current" "lets" "[[I"]
noncomputable def wsX7_chooseForDense : List Cond := .code yX7_chooseForDense cX7_chooseForDense 4 none :: ((wsX7_chooseForDense_r1 ++ wsX7_chooseForDense_r2) ++ wsX70 ++ wsX00 ++ wsX30)
noncomputable def wsX7_findDensest_r1 : List Cond := [Cond.fieldLink RX7 69 "CutAtlas$SetHunt" "denseSet" "I", Cond.fieldLink RX7 72 "CutAtlas$SetHunt" "denseSum" "I", Cond.fieldLink RX7 9 "CutAtlas$SetHunt" "current" "LCutAtlas$Current;", Cond.fieldLink RX7 39 "CutAtlas$Current" "net" "LCutAtlas$Net;", Cond.fieldLink RX7 45 "CutAtlas$Net" "places" "I", Cond.methodLink RX7 75 yX7_chooseForDense, Cond.instanceMethod yX7_chooseForDense, Cond.selects RX7 yX7_chooseForDense yX7_chooseForDense, Cond.initialized RX7, Cond.code yX7_chooseForDense cX7_chooseForDense 4 none, Cond.methodLink RX7 78 yX7_compareDense, Cond.instanceMethod yX7_compareDense, Cond.selects RX7 yX7_compareDense yX7_compareDense, Cond.code yX7_compareDense cX7_compareDense 7 none, Cond.methodLink RX7 81 yJ6_bitCount_0f7a4, Cond.static yJ6_bitCount_0f7a4, Cond.initialized RJ6, Cond.code yJ6_bitCount_0f7a4 cJ6_bitCount_0f7a4 1 (some .int), Cond.constant RJ6 265 (1431655765), Cond.constant RJ6 266 (858993459), Cond.constant RJ6 267 (252645135), Cond.methodLink RX7 58 yX7_letIn, Cond.instanceMethod yX7_letIn, Cond.selects RX7 yX7_letIn yX7_letIn]
noncomputable def wsX7_findDensest_r2 : List Cond := [Cond.code yX7_letIn cX7_letIn 5 (some .int), Cond.fieldLink RX7 65 "CutAtlas$Current" "lets" "[[I"]
noncomputable def wsX7_findDensest : List Cond := .code yX7_findDensest cX7_findDensest 1 none :: ((wsX7_findDensest_r1 ++ wsX7_findDensest_r2) ++ wsX70 ++ wsX00 ++ wsX30)
noncomputable def wsX8_init : List Cond := .code yX8_init cX8_init 1 none :: (([.instanceMethod yX2_init, .initialized RX2, .code yX2_init cX2_init 1 none, .instanceMethod yX6_init, .initialized RX6, .code yX6_init cX6_init 1 none, .methodLink RX6 3 objectInit, .instanceMethod objectInit, .code objectInit ⟨#[0xb1]⟩ 1 none] : List Cond))
noncomputable def wsX8_costs : List Cond := .code yX8_costs cX8_costs 2 (some .int) :: (([.methodLink RX8 7 yX2_costs, .sameMethod "CutAtlas$DearKind" "CutAtlas$DearKind" "costs" "(I)I", .superclass RX8 RX2, .instanceMethod yX2_costs, .initialized RX2, .code yX2_costs cX2_costs 2 (some .int)] : List Cond))
noncomputable def wsX8_costsMark : List Cond := .code yX8_costsMark cX8_costsMark 1 (some .int) :: (([.constant RX8 11 (100000), .methodLink RX8 12 yX2_costsMark, .sameMethod "CutAtlas$DearKind" "CutAtlas$DearKind" "costsMark" "()I", .superclass RX8 RX2, .instanceMethod yX2_costsMark, .initialized RX2, .code yX2_costsMark cX2_costsMark 1 (some .int)] : List Cond))
noncomputable def wsX8_begins : List Cond := .code yX8_begins cX8_begins 2 (some .int) :: (([] : List Cond))
noncomputable def wsX8_beginsMark : List Cond := .code yX8_beginsMark cX8_beginsMark 1 (some .int) :: (([.constant RX8 16 (1000000)] : List Cond))
noncomputable def wsX9_init : List Cond := .code yX9_init cX9_init 1 none :: (([.instanceMethod yX6_init, .initialized RX6, .code yX6_init cX6_init 1 none, .methodLink RX6 3 objectInit, .instanceMethod objectInit, .code objectInit ⟨#[0xb1]⟩ 1 none] : List Cond))
noncomputable def wsX9_letsMark : List Cond := .code yX9_letsMark cX9_letsMark 2 (some .int) :: (([] : List Cond))
noncomputable def wsX10_init : List Cond := .code yX10_init cX10_init 3 none :: (([.methodLink RX10 3 objectInit, .instanceMethod objectInit, .code objectInit ⟨#[0xb1]⟩ 1 none, .classLink RX10 9 "[[I", .arrayClass .int, .fieldLink RX10 11 "CutAtlas$Widening" "prices" "[[I", .fieldLink RX10 16 "CutAtlas$Widening" "costs" "[I", .fieldLink RX10 20 "CutAtlas$Widening" "cameFrom" "[I", .fieldLink RX10 23 "CutAtlas$Widening" "current" "LCutAtlas$Current;", .fieldLink RX10 27 "CutAtlas$Widening" "kinds" "[LCutAtlas$PlainKind;"] : List Cond) ++ wsX100)
noncomputable def wsX10_findPrices_r1 : List Cond := [Cond.fieldLink RX10 23 "CutAtlas$Widening" "current" "LCutAtlas$Current;", Cond.fieldLink RX10 47 "CutAtlas$Current" "net" "LCutAtlas$Net;", Cond.fieldLink RX10 53 "CutAtlas$Net" "places" "I", Cond.fieldLink RX10 11 "CutAtlas$Widening" "prices" "[[I", Cond.constant RX10 38 (1000000000), Cond.fieldLink RX10 65 "CutAtlas$Net" "lines" "I", Cond.fieldLink RX10 27 "CutAtlas$Widening" "kinds" "[LCutAtlas$PlainKind;", Cond.fieldLink RX10 68 "CutAtlas$Net" "kinds" "[I", Cond.fieldLink RX10 70 "CutAtlas$Net" "prices" "[I", Cond.fieldLink RX10 81 "CutAtlas$Net" "starts" "[I", Cond.fieldLink RX10 84 "CutAtlas$Net" "ends" "[I", Cond.methodLink RX10 87 Lib.Math.min.name, Cond.static Lib.Math.min.name, Cond.initialized "java/lang/Math", Cond.code Lib.Math.min.name Lib.Math.min.code 2 (some .int), Cond.methodLink RX10 59 yJ7_fill_53178, Cond.static yJ7_fill_53178, Cond.initialized RJ7, Cond.code yJ7_fill_53178 cJ7_fill_53178 4 none, Cond.methodLink RX10 72 ⟨"CutAtlas$PlainKind", "costs", "(I)I"⟩, Cond.sameMethod "CutAtlas$PlainKind" "CutAtlas$PlainKind" "costs" "(I)I", Cond.instanceMethod ⟨"CutAtlas$PlainKind", "costs", "(I)I"⟩, Cond.selects RX2 ⟨"CutAtlas$PlainKind", "costs", "(I)I"⟩ yX2_costs, Cond.instanceMethod yX2_costs]
noncomputable def wsX10_findPrices_r2 : List Cond := [Cond.initialized RX2, Cond.code yX2_costs cX2_costs 2 (some .int), Cond.code yX6_costs cX6_costs 2 (some .int), Cond.selects RX5 ⟨"CutAtlas$PlainKind", "costs", "(I)I"⟩ yX6_costs, Cond.instanceMethod yX6_costs, Cond.initialized RX6, Cond.methodLink RX10 72 yX6_costs, Cond.selects RX6 yX6_costs yX6_costs, Cond.selects RX8 ⟨"CutAtlas$PlainKind", "costs", "(I)I"⟩ yX8_costs, Cond.instanceMethod yX8_costs, Cond.initialized RX8, Cond.code yX8_costs cX8_costs 2 (some .int), Cond.methodLink RX8 7 yX2_costs, Cond.sameMethod "CutAtlas$DearKind" "CutAtlas$DearKind" "costs" "(I)I", Cond.superclass RX8 RX2, Cond.selects RX9 ⟨"CutAtlas$PlainKind", "costs", "(I)I"⟩ yX6_costs, Cond.methodLink RX10 77 yX3_isMissing, Cond.instanceMethod yX3_isMissing, Cond.selects RX3 yX3_isMissing yX3_isMissing, Cond.initialized RX3, Cond.code yX3_isMissing cX3_isMissing 2 (some .boolean), Cond.fieldLink RX3 22 "CutAtlas$Net" "starts" "[I"]
noncomputable def wsX10_findPrices : List Cond := .code yX10_findPrices cX10_findPrices 6 none :: ((wsX10_findPrices_r1 ++ wsX10_findPrices_r2) ++ wsX100 ++ wsX00 ++ wsX30)
noncomputable def wsX10_stepCosts : List Cond := .code yX10_stepCosts cX10_stepCosts 3 (some .int) :: (([.fieldLink RX10 23 "CutAtlas$Widening" "current" "LCutAtlas$Current;", .fieldLink RX10 99 "CutAtlas$Current" "room" "[[I", .fieldLink RX10 11 "CutAtlas$Widening" "prices" "[[I"] : List Cond) ++ wsX100 ++ wsX00)
noncomputable def wsX10_lookFrom : List Cond := .code yX10_lookFrom cX10_lookFrom 5 (some .boolean) :: (([.fieldLink RX10 23 "CutAtlas$Widening" "current" "LCutAtlas$Current;", .fieldLink RX10 47 "CutAtlas$Current" "net" "LCutAtlas$Net;", .fieldLink RX10 53 "CutAtlas$Net" "places" "I", .constant RX10 38 (1000000000), .fieldLink RX10 16 "CutAtlas$Widening" "costs" "[I", .fieldLink RX10 20 "CutAtlas$Widening" "cameFrom" "[I", .methodLink RX10 96 yX10_stepCosts, .instanceMethod yX10_stepCosts, .selects RX10 yX10_stepCosts yX10_stepCosts, .initialized RX10, .code yX10_stepCosts cX10_stepCosts 3 (some .int), .fieldLink RX10 99 "CutAtlas$Current" "room" "[[I", .fieldLink RX10 11 "CutAtlas$Widening" "prices" "[[I"] : List Cond) ++ wsX100 ++ wsX00 ++ wsX30)
noncomputable def wsX10_findCosts : List Cond := .code yX10_findCosts cX10_findCosts 6 none :: (([.fieldLink RX10 23 "CutAtlas$Widening" "current" "LCutAtlas$Current;", .fieldLink RX10 47 "CutAtlas$Current" "net" "LCutAtlas$Net;", .fieldLink RX10 53 "CutAtlas$Net" "places" "I", .fieldLink RX10 16 "CutAtlas$Widening" "costs" "[I", .constant RX10 38 (1000000000), .methodLink RX10 59 yJ7_fill_53178, .static yJ7_fill_53178, .initialized RJ7, .code yJ7_fill_53178 cJ7_fill_53178 4 none, .methodLink RX10 93 yX10_lookFrom, .instanceMethod yX10_lookFrom, .selects RX10 yX10_lookFrom yX10_lookFrom, .initialized RX10, .code yX10_lookFrom cX10_lookFrom 5 (some .boolean), .fieldLink RX10 20 "CutAtlas$Widening" "cameFrom" "[I", .methodLink RX10 96 yX10_stepCosts, .instanceMethod yX10_stepCosts, .selects RX10 yX10_stepCosts yX10_stepCosts, .code yX10_stepCosts cX10_stepCosts 3 (some .int), .fieldLink RX10 99 "CutAtlas$Current" "room" "[[I", .fieldLink RX10 11 "CutAtlas$Widening" "prices" "[[I"] : List Cond) ++ wsX100 ++ wsX00 ++ wsX30)
noncomputable def wsX10_stepRoom : List Cond := .code yX10_stepRoom cX10_stepRoom 3 (some .int) :: (([.fieldLink RX10 23 "CutAtlas$Widening" "current" "LCutAtlas$Current;", .fieldLink RX10 99 "CutAtlas$Current" "room" "[[I", .constant RX10 38 (1000000000)] : List Cond) ++ wsX100 ++ wsX00)
noncomputable def wsX10_roomOfWay : List Cond := .code yX10_roomOfWay cX10_roomOfWay 7 (some .int) :: (([.fieldLink RX10 20 "CutAtlas$Widening" "cameFrom" "[I", .methodLink RX10 87 Lib.Math.min.name, .static Lib.Math.min.name, .initialized "java/lang/Math", .code Lib.Math.min.name Lib.Math.min.code 2 (some .int), .methodLink RX10 102 yX10_stepRoom, .instanceMethod yX10_stepRoom, .selects RX10 yX10_stepRoom yX10_stepRoom, .initialized RX10, .code yX10_stepRoom cX10_stepRoom 3 (some .int), .fieldLink RX10 23 "CutAtlas$Widening" "current" "LCutAtlas$Current;", .fieldLink RX10 99 "CutAtlas$Current" "room" "[[I", .constant RX10 38 (1000000000)] : List Cond) ++ wsX100 ++ wsX00)
noncomputable def wsX10_sendAlongWay : List Cond := .code yX10_sendAlongWay cX10_sendAlongWay 6 none :: (([.fieldLink RX10 23 "CutAtlas$Widening" "current" "LCutAtlas$Current;", .fieldLink RX10 99 "CutAtlas$Current" "room" "[[I", .fieldLink RX10 20 "CutAtlas$Widening" "cameFrom" "[I"] : List Cond) ++ wsX100 ++ wsX00)
noncomputable def wsX10_pay_r1 : List Cond := [Cond.fieldLink RX10 16 "CutAtlas$Widening" "costs" "[I", Cond.constant RX10 38 (1000000000), Cond.methodLink RX10 31 yX10_findPrices, Cond.instanceMethod yX10_findPrices, Cond.selects RX10 yX10_findPrices yX10_findPrices, Cond.initialized RX10, Cond.code yX10_findPrices cX10_findPrices 6 none, Cond.fieldLink RX10 23 "CutAtlas$Widening" "current" "LCutAtlas$Current;", Cond.fieldLink RX10 47 "CutAtlas$Current" "net" "LCutAtlas$Net;", Cond.fieldLink RX10 53 "CutAtlas$Net" "places" "I", Cond.fieldLink RX10 11 "CutAtlas$Widening" "prices" "[[I", Cond.fieldLink RX10 65 "CutAtlas$Net" "lines" "I", Cond.fieldLink RX10 27 "CutAtlas$Widening" "kinds" "[LCutAtlas$PlainKind;", Cond.fieldLink RX10 68 "CutAtlas$Net" "kinds" "[I", Cond.fieldLink RX10 70 "CutAtlas$Net" "prices" "[I", Cond.fieldLink RX10 81 "CutAtlas$Net" "starts" "[I", Cond.fieldLink RX10 84 "CutAtlas$Net" "ends" "[I", Cond.methodLink RX10 87 Lib.Math.min.name, Cond.static Lib.Math.min.name, Cond.initialized "java/lang/Math", Cond.code Lib.Math.min.name Lib.Math.min.code 2 (some .int), Cond.methodLink RX10 59 yJ7_fill_53178, Cond.static yJ7_fill_53178, Cond.initialized RJ7]
noncomputable def wsX10_pay_r2 : List Cond := [Cond.code yJ7_fill_53178 cJ7_fill_53178 4 none, Cond.methodLink RX10 72 ⟨"CutAtlas$PlainKind", "costs", "(I)I"⟩, Cond.sameMethod "CutAtlas$PlainKind" "CutAtlas$PlainKind" "costs" "(I)I", Cond.instanceMethod ⟨"CutAtlas$PlainKind", "costs", "(I)I"⟩, Cond.selects RX2 ⟨"CutAtlas$PlainKind", "costs", "(I)I"⟩ yX2_costs, Cond.instanceMethod yX2_costs, Cond.initialized RX2, Cond.code yX2_costs cX2_costs 2 (some .int), Cond.code yX6_costs cX6_costs 2 (some .int), Cond.selects RX5 ⟨"CutAtlas$PlainKind", "costs", "(I)I"⟩ yX6_costs, Cond.instanceMethod yX6_costs, Cond.initialized RX6, Cond.methodLink RX10 72 yX6_costs, Cond.selects RX6 yX6_costs yX6_costs, Cond.selects RX8 ⟨"CutAtlas$PlainKind", "costs", "(I)I"⟩ yX8_costs, Cond.instanceMethod yX8_costs, Cond.initialized RX8, Cond.code yX8_costs cX8_costs 2 (some .int), Cond.methodLink RX8 7 yX2_costs, Cond.sameMethod "CutAtlas$DearKind" "CutAtlas$DearKind" "costs" "(I)I", Cond.superclass RX8 RX2, Cond.selects RX9 ⟨"CutAtlas$PlainKind", "costs", "(I)I"⟩ yX6_costs, Cond.methodLink RX10 77 yX3_isMissing, Cond.instanceMethod yX3_isMissing]
noncomputable def wsX10_pay_r3 : List Cond := [Cond.selects RX3 yX3_isMissing yX3_isMissing, Cond.initialized RX3, Cond.code yX3_isMissing cX3_isMissing 2 (some .boolean), Cond.fieldLink RX3 22 "CutAtlas$Net" "starts" "[I", Cond.methodLink RX10 34 yX10_findCosts, Cond.instanceMethod yX10_findCosts, Cond.selects RX10 yX10_findCosts yX10_findCosts, Cond.code yX10_findCosts cX10_findCosts 6 none, Cond.methodLink RX10 93 yX10_lookFrom, Cond.instanceMethod yX10_lookFrom, Cond.selects RX10 yX10_lookFrom yX10_lookFrom, Cond.code yX10_lookFrom cX10_lookFrom 5 (some .boolean), Cond.fieldLink RX10 20 "CutAtlas$Widening" "cameFrom" "[I", Cond.methodLink RX10 96 yX10_stepCosts, Cond.instanceMethod yX10_stepCosts, Cond.selects RX10 yX10_stepCosts yX10_stepCosts, Cond.code yX10_stepCosts cX10_stepCosts 3 (some .int), Cond.fieldLink RX10 99 "CutAtlas$Current" "room" "[[I", Cond.methodLink RX10 39 yX10_roomOfWay, Cond.instanceMethod yX10_roomOfWay, Cond.selects RX10 yX10_roomOfWay yX10_roomOfWay, Cond.code yX10_roomOfWay cX10_roomOfWay 7 (some .int), Cond.methodLink RX10 102 yX10_stepRoom, Cond.instanceMethod yX10_stepRoom]
noncomputable def wsX10_pay_r4 : List Cond := [Cond.selects RX10 yX10_stepRoom yX10_stepRoom, Cond.code yX10_stepRoom cX10_stepRoom 3 (some .int), Cond.methodLink RX10 43 yX10_sendAlongWay, Cond.instanceMethod yX10_sendAlongWay, Cond.selects RX10 yX10_sendAlongWay yX10_sendAlongWay, Cond.code yX10_sendAlongWay cX10_sendAlongWay 6 none]
noncomputable def wsX10_pay : List Cond := .code yX10_pay cX10_pay 8 (some .int) :: ((wsX10_pay_r1 ++ (wsX10_pay_r2 ++ (wsX10_pay_r3 ++ wsX10_pay_r4))) ++ wsX100 ++ wsX00 ++ wsX30)
noncomputable def wsX11_init_r1 : List Cond := [Cond.methodLink RX11 1 objectInit, Cond.instanceMethod objectInit, Cond.code objectInit ⟨#[0xb1]⟩ 1 none, Cond.classLink RX11 7 RX6, Cond.instantiable RX6 0, Cond.initialized RX6, Cond.classLink RX11 10 RX5, Cond.instantiable RX5 0, Cond.initialized RX5, Cond.classLink RX11 13 RX9, Cond.instantiable RX9 0, Cond.initialized RX9, Cond.classLink RX11 16 RX2, Cond.instantiable RX2 0, Cond.initialized RX2, Cond.classLink RX11 19 RX8, Cond.instantiable RX8 0, Cond.initialized RX8, Cond.fieldLink RX11 22 "CutAtlas" "kinds" "[LCutAtlas$PlainKind;", Cond.classLink RX11 28 RX3, Cond.instantiable RX3 7, Cond.initialized RX3, Cond.fieldLink RX11 31 "CutAtlas" "net" "LCutAtlas$Net;", Cond.classLink RX11 35 RX0]
noncomputable def wsX11_init_r2 : List Cond := [Cond.instantiable RX0 9, Cond.initialized RX0, Cond.fieldLink RX11 40 "CutAtlas" "current" "LCutAtlas$Current;", Cond.classLink RX11 44 RX7, Cond.instantiable RX7 9, Cond.initialized RX7, Cond.fieldLink RX11 49 "CutAtlas" "hunt" "LCutAtlas$SetHunt;", Cond.classLink RX11 53 RX1, Cond.instantiable RX1 3, Cond.initialized RX1, Cond.fieldLink RX11 56 "CutAtlas" "cutTree" "LCutAtlas$CutTree;", Cond.classLink RX11 60 RX10, Cond.instantiable RX10 5, Cond.initialized RX10, Cond.fieldLink RX11 65 "CutAtlas" "widening" "LCutAtlas$Widening;", Cond.classLink RX11 69 RX4, Cond.instantiable RX4 4, Cond.initialized RX4, Cond.fieldLink RX11 72 "CutAtlas" "maps" "[LCutAtlas$NumberMap;", Cond.fieldLink RX11 76 "CutAtlas" "past" "[LCutAtlas$Net;", Cond.fieldLink RX11 80 "CutAtlas" "pastFirst" "I", Cond.fieldLink RX11 84 "CutAtlas" "pastHeld" "I", Cond.fieldLink RX11 87 "CutAtlas" "traced" "J", Cond.fieldLink RX11 91 "CutAtlas" "finding" "I"]
noncomputable def wsX11_init_r3 : List Cond := [Cond.instanceMethod yX6_init, Cond.code yX6_init cX6_init 1 none, Cond.methodLink RX6 3 objectInit, Cond.instanceMethod yX5_init, Cond.code yX5_init cX5_init 1 none, Cond.instanceMethod yX9_init, Cond.code yX9_init cX9_init 1 none, Cond.instanceMethod yX2_init, Cond.code yX2_init cX2_init 1 none, Cond.instanceMethod yX8_init, Cond.code yX8_init cX8_init 1 none, Cond.instanceMethod yX3_init, Cond.code yX3_init cX3_init 1 none, Cond.methodLink RX3 3 objectInit, Cond.fieldLink RX3 9 "CutAtlas$Net" "places" "I", Cond.fieldLink RX3 15 "CutAtlas$Net" "lines" "I", Cond.arrayClass .int, Cond.fieldLink RX3 18 "CutAtlas$Net" "kinds" "[I", Cond.fieldLink RX3 22 "CutAtlas$Net" "starts" "[I", Cond.fieldLink RX3 25 "CutAtlas$Net" "ends" "[I", Cond.fieldLink RX3 28 "CutAtlas$Net" "widths" "[I", Cond.fieldLink RX3 31 "CutAtlas$Net" "prices" "[I", Cond.methodLink RX11 37 yX0_init, Cond.instanceMethod yX0_init]
end
