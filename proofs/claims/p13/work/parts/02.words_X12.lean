/-! ===== words by pieces ===== -/
theorem pcs_nil {big : List Cond} : ∀ l ∈ ([] : List (List Cond)), ∀ w ∈ l, w ∈ big := by
  intro l h
  cases h
theorem pcs_cons {big l : List Cond} {ps : List (List Cond)} (h1 : ∀ w ∈ l, w ∈ big) (h2 : ∀ l' ∈ ps, ∀ w ∈ l', w ∈ big) : ∀ l' ∈ l :: ps, ∀ w ∈ l', w ∈ big := by
  intro l' h
  rcases List.mem_cons.mp h with e | h
  · rw [e]
    exact h1
  · exact h2 l' h
theorem gdp_In {big : List Cond} (ws : List Cond) (pcs : List (List Cond)) (hb : ∀ l ∈ pcs, ∀ w ∈ l, w ∈ big) (ps : List (Nat × Nat)) (hp : ws = ps.filterMap (fun q => (pcs[q.1]?).bind (fun l => l[q.2]?))) (h : ws.all goodWord = true) : GoodIn big ws := by
  intro w hw
  have h1 := List.all_eq_true.mp h w hw
  rw [hp] at hw
  obtain ⟨q, -, hq⟩ := List.mem_filterMap.mp hw
  have hq : (pcs[q.1]?).bind (fun l => l[q.2]?) = some w := hq
  cases e : pcs[q.1]? with
  | none =>
    rw [e] at hq
    exact absurd hq (by first | simp | (intro h9; cases h9))
  | some l =>
    rw [e] at hq
    have hi : l[q.2]? = some w := hq
    exact ⟨hb l (List.mem_of_getElem? e) w (List.mem_of_getElem? hi), good_of_word h1⟩
noncomputable def pcs_X0_load : List (List Cond) := [[.code yX0_load cX0_load 5 none], wsX0_load_r1, wsX0_load_r2, wsX00, wsX30]
theorem pc_X0_load : ∀ l ∈ pcs_X0_load, ∀ w ∈ l, w ∈ wsX0_load := pcs_cons (fun w h => List.mem_cons.mpr (Or.inl (List.mem_singleton.mp h))) (pcs_cons (fun w h => List.mem_cons_of_mem _ (List.mem_append_left _ (List.mem_append_left _ (List.mem_append_left _ h)))) (pcs_cons (fun w h => List.mem_cons_of_mem _ (List.mem_append_left _ (List.mem_append_left _ (List.mem_append_right _ h)))) (pcs_cons (fun w h => List.mem_cons_of_mem _ (List.mem_append_left _ (List.mem_append_right _ h))) (pcs_cons (fun w h => List.mem_cons_of_mem _ (List.mem_append_right _ h)) pcs_nil))))
noncomputable def pcs_X0_fill : List (List Cond) := [[.code yX0_fill cX0_fill 5 (some .int)], wsX0_fill_r1, wsX0_fill_r2, wsX00, wsX30]
theorem pc_X0_fill : ∀ l ∈ pcs_X0_fill, ∀ w ∈ l, w ∈ wsX0_fill := pcs_cons (fun w h => List.mem_cons.mpr (Or.inl (List.mem_singleton.mp h))) (pcs_cons (fun w h => List.mem_cons_of_mem _ (List.mem_append_left _ (List.mem_append_left _ (List.mem_append_left _ h)))) (pcs_cons (fun w h => List.mem_cons_of_mem _ (List.mem_append_left _ (List.mem_append_left _ (List.mem_append_right _ h)))) (pcs_cons (fun w h => List.mem_cons_of_mem _ (List.mem_append_left _ (List.mem_append_right _ h))) (pcs_cons (fun w h => List.mem_cons_of_mem _ (List.mem_append_right _ h)) pcs_nil))))
noncomputable def pcs_X1_grow : List (List Cond) := [[.code yX1_grow cX1_grow 2 none], wsX1_grow_r1, wsX1_grow_r2, wsX1_grow_r3, wsX1_grow_r4, wsX1_grow_r5, wsX10, wsX00, wsX30]
theorem pc_X1_grow : ∀ l ∈ pcs_X1_grow, ∀ w ∈ l, w ∈ wsX1_grow := pcs_cons (fun w h => List.mem_cons.mpr (Or.inl (List.mem_singleton.mp h))) (pcs_cons (fun w h => List.mem_cons_of_mem _ (List.mem_append_left _ (List.mem_append_left _ (List.mem_append_left _ (List.mem_append_left _ h))))) (pcs_cons (fun w h => List.mem_cons_of_mem _ (List.mem_append_left _ (List.mem_append_left _ (List.mem_append_left _ (List.mem_append_right _ (List.mem_append_left _ h)))))) (pcs_cons (fun w h => List.mem_cons_of_mem _ (List.mem_append_left _ (List.mem_append_left _ (List.mem_append_left _ (List.mem_append_right _ (List.mem_append_right _ (List.mem_append_left _ h))))))) (pcs_cons (fun w h => List.mem_cons_of_mem _ (List.mem_append_left _ (List.mem_append_left _ (List.mem_append_left _ (List.mem_append_right _ (List.mem_append_right _ (List.mem_append_right _ (List.mem_append_left _ h)))))))) (pcs_cons (fun w h => List.mem_cons_of_mem _ (List.mem_append_left _ (List.mem_append_left _ (List.mem_append_left _ (List.mem_append_right _ (List.mem_append_right _ (List.mem_append_right _ (List.mem_append_right _ h)))))))) (pcs_cons (fun w h => List.mem_cons_of_mem _ (List.mem_append_left _ (List.mem_append_left _ (List.mem_append_right _ h)))) (pcs_cons (fun w h => List.mem_cons_of_mem _ (List.mem_append_left _ (List.mem_append_right _ h))) (pcs_cons (fun w h => List.mem_cons_of_mem _ (List.mem_append_right _ h)) pcs_nil))))))))
noncomputable def pcs_X1_hang : List (List Cond) := [[.code yX1_hang cX1_hang 6 none], wsX1_hang_r1, wsX1_hang_r2, wsX1_hang_r3, wsX10, wsX00, wsX30]
theorem pc_X1_hang : ∀ l ∈ pcs_X1_hang, ∀ w ∈ l, w ∈ wsX1_hang := pcs_cons (fun w h => List.mem_cons.mpr (Or.inl (List.mem_singleton.mp h))) (pcs_cons (fun w h => List.mem_cons_of_mem _ (List.mem_append_left _ (List.mem_append_left _ (List.mem_append_left _ (List.mem_append_left _ h))))) (pcs_cons (fun w h => List.mem_cons_of_mem _ (List.mem_append_left _ (List.mem_append_left _ (List.mem_append_left _ (List.mem_append_right _ (List.mem_append_left _ h)))))) (pcs_cons (fun w h => List.mem_cons_of_mem _ (List.mem_append_left _ (List.mem_append_left _ (List.mem_append_left _ (List.mem_append_right _ (List.mem_append_right _ h)))))) (pcs_cons (fun w h => List.mem_cons_of_mem _ (List.mem_append_left _ (List.mem_append_left _ (List.mem_append_right _ h)))) (pcs_cons (fun w h => List.mem_cons_of_mem _ (List.mem_append_left _ (List.mem_append_right _ h))) (pcs_cons (fun w h => List.mem_cons_of_mem _ (List.mem_append_right _ h)) pcs_nil))))))
noncomputable def pcs_X7_countCuts : List (List Cond) := [[.code yX7_countCuts cX7_countCuts 4 (some .int)], wsX7_countCuts_r1, wsX7_countCuts_r2, wsX70, wsX00, wsX30]
theorem pc_X7_countCuts : ∀ l ∈ pcs_X7_countCuts, ∀ w ∈ l, w ∈ wsX7_countCuts := pcs_cons (fun w h => List.mem_cons.mpr (Or.inl (List.mem_singleton.mp h))) (pcs_cons (fun w h => List.mem_cons_of_mem _ (List.mem_append_left _ (List.mem_append_left _ (List.mem_append_left _ (List.mem_append_left _ h))))) (pcs_cons (fun w h => List.mem_cons_of_mem _ (List.mem_append_left _ (List.mem_append_left _ (List.mem_append_left _ (List.mem_append_right _ h))))) (pcs_cons (fun w h => List.mem_cons_of_mem _ (List.mem_append_left _ (List.mem_append_left _ (List.mem_append_right _ h)))) (pcs_cons (fun w h => List.mem_cons_of_mem _ (List.mem_append_left _ (List.mem_append_right _ h))) (pcs_cons (fun w h => List.mem_cons_of_mem _ (List.mem_append_right _ h)) pcs_nil)))))
noncomputable def pcs_X7_findCut : List (List Cond) := [[.code yX7_findCut cX7_findCut 5 (some .int)], wsX7_findCut_r1, wsX7_findCut_r2, wsX70, wsX00, wsX30]
theorem pc_X7_findCut : ∀ l ∈ pcs_X7_findCut, ∀ w ∈ l, w ∈ wsX7_findCut := pcs_cons (fun w h => List.mem_cons.mpr (Or.inl (List.mem_singleton.mp h))) (pcs_cons (fun w h => List.mem_cons_of_mem _ (List.mem_append_left _ (List.mem_append_left _ (List.mem_append_left _ (List.mem_append_left _ h))))) (pcs_cons (fun w h => List.mem_cons_of_mem _ (List.mem_append_left _ (List.mem_append_left _ (List.mem_append_left _ (List.mem_append_right _ h))))) (pcs_cons (fun w h => List.mem_cons_of_mem _ (List.mem_append_left _ (List.mem_append_left _ (List.mem_append_right _ h)))) (pcs_cons (fun w h => List.mem_cons_of_mem _ (List.mem_append_left _ (List.mem_append_right _ h))) (pcs_cons (fun w h => List.mem_cons_of_mem _ (List.mem_append_right _ h)) pcs_nil)))))
noncomputable def pcs_X7_hunt : List (List Cond) := [[.code yX7_hunt cX7_hunt 5 none], wsX7_hunt_r1, wsX7_hunt_r2, wsX70, wsX00, wsX30]
theorem pc_X7_hunt : ∀ l ∈ pcs_X7_hunt, ∀ w ∈ l, w ∈ wsX7_hunt := pcs_cons (fun w h => List.mem_cons.mpr (Or.inl (List.mem_singleton.mp h))) (pcs_cons (fun w h => List.mem_cons_of_mem _ (List.mem_append_left _ (List.mem_append_left _ (List.mem_append_left _ (List.mem_append_left _ h))))) (pcs_cons (fun w h => List.mem_cons_of_mem _ (List.mem_append_left _ (List.mem_append_left _ (List.mem_append_left _ (List.mem_append_right _ h))))) (pcs_cons (fun w h => List.mem_cons_of_mem _ (List.mem_append_left _ (List.mem_append_left _ (List.mem_append_right _ h)))) (pcs_cons (fun w h => List.mem_cons_of_mem _ (List.mem_append_left _ (List.mem_append_right _ h))) (pcs_cons (fun w h => List.mem_cons_of_mem _ (List.mem_append_right _ h)) pcs_nil)))))
noncomputable def pcs_X7_chooseForCut : List (List Cond) := [[.code yX7_chooseForCut cX7_chooseForCut 5 none], wsX7_chooseForCut_r1, wsX7_chooseForCut_r2, wsX70, wsX00, wsX30]
theorem pc_X7_chooseForCut : ∀ l ∈ pcs_X7_chooseForCut, ∀ w ∈ l, w ∈ wsX7_chooseForCut := pcs_cons (fun w h => List.mem_cons.mpr (Or.inl (List.mem_singleton.mp h))) (pcs_cons (fun w h => List.mem_cons_of_mem _ (List.mem_append_left _ (List.mem_append_left _ (List.mem_append_left _ (List.mem_append_left _ h))))) (pcs_cons (fun w h => List.mem_cons_of_mem _ (List.mem_append_left _ (List.mem_append_left _ (List.mem_append_left _ (List.mem_append_right _ h))))) (pcs_cons (fun w h => List.mem_cons_of_mem _ (List.mem_append_left _ (List.mem_append_left _ (List.mem_append_right _ h)))) (pcs_cons (fun w h => List.mem_cons_of_mem _ (List.mem_append_left _ (List.mem_append_right _ h))) (pcs_cons (fun w h => List.mem_cons_of_mem _ (List.mem_append_right _ h)) pcs_nil)))))
noncomputable def pcs_X7_findDensest : List (List Cond) := [[.code yX7_findDensest cX7_findDensest 1 none], wsX7_findDensest_r1, wsX7_findDensest_r2, wsX70, wsX00, wsX30]
theorem pc_X7_findDensest : ∀ l ∈ pcs_X7_findDensest, ∀ w ∈ l, w ∈ wsX7_findDensest := pcs_cons (fun w h => List.mem_cons.mpr (Or.inl (List.mem_singleton.mp h))) (pcs_cons (fun w h => List.mem_cons_of_mem _ (List.mem_append_left _ (List.mem_append_left _ (List.mem_append_left _ (List.mem_append_left _ h))))) (pcs_cons (fun w h => List.mem_cons_of_mem _ (List.mem_append_left _ (List.mem_append_left _ (List.mem_append_left _ (List.mem_append_right _ h))))) (pcs_cons (fun w h => List.mem_cons_of_mem _ (List.mem_append_left _ (List.mem_append_left _ (List.mem_append_right _ h)))) (pcs_cons (fun w h => List.mem_cons_of_mem _ (List.mem_append_left _ (List.mem_append_right _ h))) (pcs_cons (fun w h => List.mem_cons_of_mem _ (List.mem_append_right _ h)) pcs_nil)))))
noncomputable def pcs_X7_chooseForDense : List (List Cond) := [[.code yX7_chooseForDense cX7_chooseForDense 4 none], wsX7_chooseForDense_r1, wsX7_chooseForDense_r2, wsX70, wsX00, wsX30]
theorem pc_X7_chooseForDense : ∀ l ∈ pcs_X7_chooseForDense, ∀ w ∈ l, w ∈ wsX7_chooseForDense := pcs_cons (fun w h => List.mem_cons.mpr (Or.inl (List.mem_singleton.mp h))) (pcs_cons (fun w h => List.mem_cons_of_mem _ (List.mem_append_left _ (List.mem_append_left _ (List.mem_append_left _ (List.mem_append_left _ h))))) (pcs_cons (fun w h => List.mem_cons_of_mem _ (List.mem_append_left _ (List.mem_append_left _ (List.mem_append_left _ (List.mem_append_right _ h))))) (pcs_cons (fun w h => List.mem_cons_of_mem _ (List.mem_append_left _ (List.mem_append_left _ (List.mem_append_right _ h)))) (pcs_cons (fun w h => List.mem_cons_of_mem _ (List.mem_append_left _ (List.mem_append_right _ h))) (pcs_cons (fun w h => List.mem_cons_of_mem _ (List.mem_append_right _ h)) pcs_nil)))))
noncomputable def pcs_X10_pay : List (List Cond) := [[.code yX10_pay cX10_pay 8 (some .int)], wsX10_pay_r1, wsX10_pay_r2, wsX10_pay_r3, wsX10_pay_r4, wsX100, wsX00, wsX30]
theorem pc_X10_pay : ∀ l ∈ pcs_X10_pay, ∀ w ∈ l, w ∈ wsX10_pay := pcs_cons (fun w h => List.mem_cons.mpr (Or.inl (List.mem_singleton.mp h))) (pcs_cons (fun w h => List.mem_cons_of_mem _ (List.mem_append_left _ (List.mem_append_left _ (List.mem_append_left _ (List.mem_append_left _ h))))) (pcs_cons (fun w h => List.mem_cons_of_mem _ (List.mem_append_left _ (List.mem_append_left _ (List.mem_append_left _ (List.mem_append_right _ (List.mem_append_left _ h)))))) (pcs_cons (fun w h => List.mem_cons_of_mem _ (List.mem_append_left _ (List.mem_append_left _ (List.mem_append_left _ (List.mem_append_right _ (List.mem_append_right _ (List.mem_append_left _ h))))))) (pcs_cons (fun w h => List.mem_cons_of_mem _ (List.mem_append_left _ (List.mem_append_left _ (List.mem_append_left _ (List.mem_append_right _ (List.mem_append_right _ (List.mem_append_right _ h))))))) (pcs_cons (fun w h => List.mem_cons_of_mem _ (List.mem_append_left _ (List.mem_append_left _ (List.mem_append_right _ h)))) (pcs_cons (fun w h => List.mem_cons_of_mem _ (List.mem_append_left _ (List.mem_append_right _ h))) (pcs_cons (fun w h => List.mem_cons_of_mem _ (List.mem_append_right _ h)) pcs_nil)))))))
noncomputable def pcs_X10_findPrices : List (List Cond) := [[.code yX10_findPrices cX10_findPrices 6 none], wsX10_findPrices_r1, wsX10_findPrices_r2, wsX100, wsX00, wsX30]
theorem pc_X10_findPrices : ∀ l ∈ pcs_X10_findPrices, ∀ w ∈ l, w ∈ wsX10_findPrices := pcs_cons (fun w h => List.mem_cons.mpr (Or.inl (List.mem_singleton.mp h))) (pcs_cons (fun w h => List.mem_cons_of_mem _ (List.mem_append_left _ (List.mem_append_left _ (List.mem_append_left _ (List.mem_append_left _ h))))) (pcs_cons (fun w h => List.mem_cons_of_mem _ (List.mem_append_left _ (List.mem_append_left _ (List.mem_append_left _ (List.mem_append_right _ h))))) (pcs_cons (fun w h => List.mem_cons_of_mem _ (List.mem_append_left _ (List.mem_append_left _ (List.mem_append_right _ h)))) (pcs_cons (fun w h => List.mem_cons_of_mem _ (List.mem_append_left _ (List.mem_append_right _ h))) (pcs_cons (fun w h => List.mem_cons_of_mem _ (List.mem_append_right _ h)) pcs_nil)))))
noncomputable def pcs_X11_init : List (List Cond) := [[.code yX11_init cX11_init 1 none], wsX11_init_r1, wsX11_init_r2, wsX11_init_r3, wsX11_init_r4, wsX11_init_r5, wsX60, wsX50, wsX90, wsX20, wsX80, wsX110, wsX30, wsX00, wsX70, wsX10, wsX100, wsX40]
theorem pc_X11_init : ∀ l ∈ pcs_X11_init, ∀ w ∈ l, w ∈ wsX11_init := pcs_cons (fun w h => List.mem_cons.mpr (Or.inl (List.mem_singleton.mp h))) (pcs_cons (fun w h => List.mem_cons_of_mem _ (List.mem_append_left _ (List.mem_append_left _ (List.mem_append_left _ (List.mem_append_left _ (List.mem_append_left _ (List.mem_append_left _ (List.mem_append_left _ (List.mem_append_left _ (List.mem_append_left _ (List.mem_append_left _ (List.mem_append_left _ (List.mem_append_left _ (List.mem_append_left _ h)))))))))))))) (pcs_cons (fun w h => List.mem_cons_of_mem _ (List.mem_append_left _ (List.mem_append_left _ (List.mem_append_left _ (List.mem_append_left _ (List.mem_append_left _ (List.mem_append_left _ (List.mem_append_left _ (List.mem_append_left _ (List.mem_append_left _ (List.mem_append_left _ (List.mem_append_left _ (List.mem_append_left _ (List.mem_append_right _ (List.mem_append_left _ h))))))))))))))) (pcs_cons (fun w h => List.mem_cons_of_mem _ (List.mem_append_left _ (List.mem_append_left _ (List.mem_append_left _ (List.mem_append_left _ (List.mem_append_left _ (List.mem_append_left _ (List.mem_append_left _ (List.mem_append_left _ (List.mem_append_left _ (List.mem_append_left _ (List.mem_append_left _ (List.mem_append_left _ (List.mem_append_right _ (List.mem_append_right _ (List.mem_append_left _ h)))))))))))))))) (pcs_cons (fun w h => List.mem_cons_of_mem _ (List.mem_append_left _ (List.mem_append_left _ (List.mem_append_left _ (List.mem_append_left _ (List.mem_append_left _ (List.mem_append_left _ (List.mem_append_left _ (List.mem_append_left _ (List.mem_append_left _ (List.mem_append_left _ (List.mem_append_left _ (List.mem_append_left _ (List.mem_append_right _ (List.mem_append_right _ (List.mem_append_right _ (List.mem_append_left _ h))))))))))))))))) (pcs_cons (fun w h => List.mem_cons_of_mem _ (List.mem_append_left _ (List.mem_append_left _ (List.mem_append_left _ (List.mem_append_left _ (List.mem_append_left _ (List.mem_append_left _ (List.mem_append_left _ (List.mem_append_left _ (List.mem_append_left _ (List.mem_append_left _ (List.mem_append_left _ (List.mem_append_left _ (List.mem_append_right _ (List.mem_append_right _ (List.mem_append_right _ (List.mem_append_right _ h))))))))))))))))) (pcs_cons (fun w h => List.mem_cons_of_mem _ (List.mem_append_left _ (List.mem_append_left _ (List.mem_append_left _ (List.mem_append_left _ (List.mem_append_left _ (List.mem_append_left _ (List.mem_append_left _ (List.mem_append_left _ (List.mem_append_left _ (List.mem_append_left _ (List.mem_append_left _ (List.mem_append_right _ h))))))))))))) (pcs_cons (fun w h => List.mem_cons_of_mem _ (List.mem_append_left _ (List.mem_append_left _ (List.mem_append_left _ (List.mem_append_left _ (List.mem_append_left _ (List.mem_append_left _ (List.mem_append_left _ (List.mem_append_left _ (List.mem_append_left _ (List.mem_append_left _ (List.mem_append_right _ h)))))))))))) (pcs_cons (fun w h => List.mem_cons_of_mem _ (List.mem_append_left _ (List.mem_append_left _ (List.mem_append_left _ (List.mem_append_left _ (List.mem_append_left _ (List.mem_append_left _ (List.mem_append_left _ (List.mem_append_left _ (List.mem_append_left _ (List.mem_append_right _ h))))))))))) (pcs_cons (fun w h => List.mem_cons_of_mem _ (List.mem_append_left _ (List.mem_append_left _ (List.mem_append_left _ (List.mem_append_left _ (List.mem_append_left _ (List.mem_append_left _ (List.mem_append_left _ (List.mem_append_left _ (List.mem_append_right _ h)))))))))) (pcs_cons (fun w h => List.mem_cons_of_mem _ (List.mem_append_left _ (List.mem_append_left _ (List.mem_append_left _ (List.mem_append_left _ (List.mem_append_left _ (List.mem_append_left _ (List.mem_append_left _ (List.mem_append_right _ h))))))))) (pcs_cons (fun w h => List.mem_cons_of_mem _ (List.mem_append_left _ (List.mem_append_left _ (List.mem_append_left _ (List.mem_append_left _ (List.mem_append_left _ (List.mem_append_left _ (List.mem_append_right _ h)))))))) (pcs_cons (fun w h => List.mem_cons_of_mem _ (List.mem_append_left _ (List.mem_append_left _ (List.mem_append_left _ (List.mem_append_left _ (List.mem_append_left _ (List.mem_append_right _ h))))))) (pcs_cons (fun w h => List.mem_cons_of_mem _ (List.mem_append_left _ (List.mem_append_left _ (List.mem_append_left _ (List.mem_append_left _ (List.mem_append_right _ h)))))) (pcs_cons (fun w h => List.mem_cons_of_mem _ (List.mem_append_left _ (List.mem_append_left _ (List.mem_append_left _ (List.mem_append_right _ h))))) (pcs_cons (fun w h => List.mem_cons_of_mem _ (List.mem_append_left _ (List.mem_append_left _ (List.mem_append_right _ h)))) (pcs_cons (fun w h => List.mem_cons_of_mem _ (List.mem_append_left _ (List.mem_append_right _ h))) (pcs_cons (fun w h => List.mem_cons_of_mem _ (List.mem_append_right _ h)) pcs_nil)))))))))))))))))
noncomputable def pcs_X11_place : List (List Cond) := [[.code yX11_place cX11_place 1 (some .int)], wsX11_place_r1, wsX11_place_r2, wsX110, wsX30]
theorem pc_X11_place : ∀ l ∈ pcs_X11_place, ∀ w ∈ l, w ∈ wsX11_place := pcs_cons (fun w h => List.mem_cons.mpr (Or.inl (List.mem_singleton.mp h))) (pcs_cons (fun w h => List.mem_cons_of_mem _ (List.mem_append_left _ (List.mem_append_left _ (List.mem_append_left _ h)))) (pcs_cons (fun w h => List.mem_cons_of_mem _ (List.mem_append_left _ (List.mem_append_left _ (List.mem_append_right _ h)))) (pcs_cons (fun w h => List.mem_cons_of_mem _ (List.mem_append_left _ (List.mem_append_right _ h))) (pcs_cons (fun w h => List.mem_cons_of_mem _ (List.mem_append_right _ h)) pcs_nil))))
noncomputable def pcs_X11_line : List (List Cond) := [[.code yX11_line cX11_line 7 (some .int)], wsX11_line_r1, wsX11_line_r2, wsX11_line_r3, wsX11_line_r4, wsX110, wsX30]
theorem pc_X11_line : ∀ l ∈ pcs_X11_line, ∀ w ∈ l, w ∈ wsX11_line := pcs_cons (fun w h => List.mem_cons.mpr (Or.inl (List.mem_singleton.mp h))) (pcs_cons (fun w h => List.mem_cons_of_mem _ (List.mem_append_left _ (List.mem_append_left _ (List.mem_append_left _ h)))) (pcs_cons (fun w h => List.mem_cons_of_mem _ (List.mem_append_left _ (List.mem_append_left _ (List.mem_append_right _ (List.mem_append_left _ h))))) (pcs_cons (fun w h => List.mem_cons_of_mem _ (List.mem_append_left _ (List.mem_append_left _ (List.mem_append_right _ (List.mem_append_right _ (List.mem_append_left _ h)))))) (pcs_cons (fun w h => List.mem_cons_of_mem _ (List.mem_append_left _ (List.mem_append_left _ (List.mem_append_right _ (List.mem_append_right _ (List.mem_append_right _ h)))))) (pcs_cons (fun w h => List.mem_cons_of_mem _ (List.mem_append_left _ (List.mem_append_right _ h))) (pcs_cons (fun w h => List.mem_cons_of_mem _ (List.mem_append_right _ h)) pcs_nil))))))
noncomputable def pcs_X11_widen : List (List Cond) := [[.code yX11_widen cX11_widen 5 (some .int)], wsX11_widen_r1, wsX11_widen_r2, wsX11_widen_r3, wsX11_widen_r4, wsX110, wsX30]
theorem pc_X11_widen : ∀ l ∈ pcs_X11_widen, ∀ w ∈ l, w ∈ wsX11_widen := pcs_cons (fun w h => List.mem_cons.mpr (Or.inl (List.mem_singleton.mp h))) (pcs_cons (fun w h => List.mem_cons_of_mem _ (List.mem_append_left _ (List.mem_append_left _ (List.mem_append_left _ h)))) (pcs_cons (fun w h => List.mem_cons_of_mem _ (List.mem_append_left _ (List.mem_append_left _ (List.mem_append_right _ (List.mem_append_left _ h))))) (pcs_cons (fun w h => List.mem_cons_of_mem _ (List.mem_append_left _ (List.mem_append_left _ (List.mem_append_right _ (List.mem_append_right _ (List.mem_append_left _ h)))))) (pcs_cons (fun w h => List.mem_cons_of_mem _ (List.mem_append_left _ (List.mem_append_left _ (List.mem_append_right _ (List.mem_append_right _ (List.mem_append_right _ h)))))) (pcs_cons (fun w h => List.mem_cons_of_mem _ (List.mem_append_left _ (List.mem_append_right _ h))) (pcs_cons (fun w h => List.mem_cons_of_mem _ (List.mem_append_right _ h)) pcs_nil))))))
noncomputable def pcs_X11_width : List (List Cond) := [[.code yX11_width cX11_width 4 (some .int)], wsX11_width_r1, wsX11_width_r2, wsX110, wsX30]
theorem pc_X11_width : ∀ l ∈ pcs_X11_width, ∀ w ∈ l, w ∈ wsX11_width := pcs_cons (fun w h => List.mem_cons.mpr (Or.inl (List.mem_singleton.mp h))) (pcs_cons (fun w h => List.mem_cons_of_mem _ (List.mem_append_left _ (List.mem_append_left _ (List.mem_append_left _ h)))) (pcs_cons (fun w h => List.mem_cons_of_mem _ (List.mem_append_left _ (List.mem_append_left _ (List.mem_append_right _ h)))) (pcs_cons (fun w h => List.mem_cons_of_mem _ (List.mem_append_left _ (List.mem_append_right _ h))) (pcs_cons (fun w h => List.mem_cons_of_mem _ (List.mem_append_right _ h)) pcs_nil))))
noncomputable def pcs_X11_merge : List (List Cond) := [[.code yX11_merge cX11_merge 3 (some .int)], wsX11_merge_r1, wsX11_merge_r2, wsX11_merge_r3, wsX110, wsX30]
theorem pc_X11_merge : ∀ l ∈ pcs_X11_merge, ∀ w ∈ l, w ∈ wsX11_merge := pcs_cons (fun w h => List.mem_cons.mpr (Or.inl (List.mem_singleton.mp h))) (pcs_cons (fun w h => List.mem_cons_of_mem _ (List.mem_append_left _ (List.mem_append_left _ (List.mem_append_left _ h)))) (pcs_cons (fun w h => List.mem_cons_of_mem _ (List.mem_append_left _ (List.mem_append_left _ (List.mem_append_right _ (List.mem_append_left _ h))))) (pcs_cons (fun w h => List.mem_cons_of_mem _ (List.mem_append_left _ (List.mem_append_left _ (List.mem_append_right _ (List.mem_append_right _ h))))) (pcs_cons (fun w h => List.mem_cons_of_mem _ (List.mem_append_left _ (List.mem_append_right _ h))) (pcs_cons (fun w h => List.mem_cons_of_mem _ (List.mem_append_right _ h)) pcs_nil)))))
noncomputable def pcs_X11_ask : List (List Cond) := [[.code yX11_ask cX11_ask 5 (some .int)], wsX11_ask_r1, wsX11_ask_r2, wsX11_ask_r3, wsX11_ask_r4, wsX110, wsX30]
theorem pc_X11_ask : ∀ l ∈ pcs_X11_ask, ∀ w ∈ l, w ∈ wsX11_ask := pcs_cons (fun w h => List.mem_cons.mpr (Or.inl (List.mem_singleton.mp h))) (pcs_cons (fun w h => List.mem_cons_of_mem _ (List.mem_append_left _ (List.mem_append_left _ (List.mem_append_left _ h)))) (pcs_cons (fun w h => List.mem_cons_of_mem _ (List.mem_append_left _ (List.mem_append_left _ (List.mem_append_right _ (List.mem_append_left _ h))))) (pcs_cons (fun w h => List.mem_cons_of_mem _ (List.mem_append_left _ (List.mem_append_left _ (List.mem_append_right _ (List.mem_append_right _ (List.mem_append_left _ h)))))) (pcs_cons (fun w h => List.mem_cons_of_mem _ (List.mem_append_left _ (List.mem_append_left _ (List.mem_append_right _ (List.mem_append_right _ (List.mem_append_right _ h)))))) (pcs_cons (fun w h => List.mem_cons_of_mem _ (List.mem_append_left _ (List.mem_append_right _ h))) (pcs_cons (fun w h => List.mem_cons_of_mem _ (List.mem_append_right _ h)) pcs_nil))))))
noncomputable def pcs_X11_most : List (List Cond) := [[.code yX11_most cX11_most 3 (some .int)], wsX11_most_r1, wsX11_most_r2, wsX11_most_r3, wsX11_most_r4, wsX11_most_r5, wsX110, wsX30, wsX00]
theorem pc_X11_most : ∀ l ∈ pcs_X11_most, ∀ w ∈ l, w ∈ wsX11_most := pcs_cons (fun w h => List.mem_cons.mpr (Or.inl (List.mem_singleton.mp h))) (pcs_cons (fun w h => List.mem_cons_of_mem _ (List.mem_append_left _ (List.mem_append_left _ (List.mem_append_left _ (List.mem_append_left _ h))))) (pcs_cons (fun w h => List.mem_cons_of_mem _ (List.mem_append_left _ (List.mem_append_left _ (List.mem_append_left _ (List.mem_append_right _ (List.mem_append_left _ h)))))) (pcs_cons (fun w h => List.mem_cons_of_mem _ (List.mem_append_left _ (List.mem_append_left _ (List.mem_append_left _ (List.mem_append_right _ (List.mem_append_right _ (List.mem_append_left _ h))))))) (pcs_cons (fun w h => List.mem_cons_of_mem _ (List.mem_append_left _ (List.mem_append_left _ (List.mem_append_left _ (List.mem_append_right _ (List.mem_append_right _ (List.mem_append_right _ (List.mem_append_left _ h)))))))) (pcs_cons (fun w h => List.mem_cons_of_mem _ (List.mem_append_left _ (List.mem_append_left _ (List.mem_append_left _ (List.mem_append_right _ (List.mem_append_right _ (List.mem_append_right _ (List.mem_append_right _ h)))))))) (pcs_cons (fun w h => List.mem_cons_of_mem _ (List.mem_append_left _ (List.mem_append_left _ (List.mem_append_right _ h)))) (pcs_cons (fun w h => List.mem_cons_of_mem _ (List.mem_append_left _ (List.mem_append_right _ h))) (pcs_cons (fun w h => List.mem_cons_of_mem _ (List.mem_append_right _ h)) pcs_nil))))))))
noncomputable def pcs_X11_flow : List (List Cond) := [[.code yX11_flow cX11_flow 4 (some .int)], wsX11_flow_r1, wsX11_flow_r2, wsX11_flow_r3, wsX11_flow_r4, wsX11_flow_r5, wsX110, wsX00, wsX30]
theorem pc_X11_flow : ∀ l ∈ pcs_X11_flow, ∀ w ∈ l, w ∈ wsX11_flow := pcs_cons (fun w h => List.mem_cons.mpr (Or.inl (List.mem_singleton.mp h))) (pcs_cons (fun w h => List.mem_cons_of_mem _ (List.mem_append_left _ (List.mem_append_left _ (List.mem_append_left _ (List.mem_append_left _ h))))) (pcs_cons (fun w h => List.mem_cons_of_mem _ (List.mem_append_left _ (List.mem_append_left _ (List.mem_append_left _ (List.mem_append_right _ (List.mem_append_left _ h)))))) (pcs_cons (fun w h => List.mem_cons_of_mem _ (List.mem_append_left _ (List.mem_append_left _ (List.mem_append_left _ (List.mem_append_right _ (List.mem_append_right _ (List.mem_append_left _ h))))))) (pcs_cons (fun w h => List.mem_cons_of_mem _ (List.mem_append_left _ (List.mem_append_left _ (List.mem_append_left _ (List.mem_append_right _ (List.mem_append_right _ (List.mem_append_right _ (List.mem_append_left _ h)))))))) (pcs_cons (fun w h => List.mem_cons_of_mem _ (List.mem_append_left _ (List.mem_append_left _ (List.mem_append_left _ (List.mem_append_right _ (List.mem_append_right _ (List.mem_append_right _ (List.mem_append_right _ h)))))))) (pcs_cons (fun w h => List.mem_cons_of_mem _ (List.mem_append_left _ (List.mem_append_left _ (List.mem_append_right _ h)))) (pcs_cons (fun w h => List.mem_cons_of_mem _ (List.mem_append_left _ (List.mem_append_right _ h))) (pcs_cons (fun w h => List.mem_cons_of_mem _ (List.mem_append_right _ h)) pcs_nil))))))))
noncomputable def pcs_X11_cut : List (List Cond) := [[.code yX11_cut cX11_cut 4 (some .int)], wsX11_cut_r1, wsX11_cut_r2, wsX11_cut_r3, wsX11_cut_r4, wsX11_cut_r5, wsX110, wsX30, wsX00]
theorem pc_X11_cut : ∀ l ∈ pcs_X11_cut, ∀ w ∈ l, w ∈ wsX11_cut := pcs_cons (fun w h => List.mem_cons.mpr (Or.inl (List.mem_singleton.mp h))) (pcs_cons (fun w h => List.mem_cons_of_mem _ (List.mem_append_left _ (List.mem_append_left _ (List.mem_append_left _ (List.mem_append_left _ h))))) (pcs_cons (fun w h => List.mem_cons_of_mem _ (List.mem_append_left _ (List.mem_append_left _ (List.mem_append_left _ (List.mem_append_right _ (List.mem_append_left _ h)))))) (pcs_cons (fun w h => List.mem_cons_of_mem _ (List.mem_append_left _ (List.mem_append_left _ (List.mem_append_left _ (List.mem_append_right _ (List.mem_append_right _ (List.mem_append_left _ h))))))) (pcs_cons (fun w h => List.mem_cons_of_mem _ (List.mem_append_left _ (List.mem_append_left _ (List.mem_append_left _ (List.mem_append_right _ (List.mem_append_right _ (List.mem_append_right _ (List.mem_append_left _ h)))))))) (pcs_cons (fun w h => List.mem_cons_of_mem _ (List.mem_append_left _ (List.mem_append_left _ (List.mem_append_left _ (List.mem_append_right _ (List.mem_append_right _ (List.mem_append_right _ (List.mem_append_right _ h)))))))) (pcs_cons (fun w h => List.mem_cons_of_mem _ (List.mem_append_left _ (List.mem_append_left _ (List.mem_append_right _ h)))) (pcs_cons (fun w h => List.mem_cons_of_mem _ (List.mem_append_left _ (List.mem_append_right _ h))) (pcs_cons (fun w h => List.mem_cons_of_mem _ (List.mem_append_right _ h)) pcs_nil))))))))
noncomputable def pcs_X11_count : List (List Cond) := [[.code yX11_count cX11_count 4 (some .int)], wsX11_count_r1, wsX11_count_r2, wsX11_count_r3, wsX11_count_r4, wsX11_count_r5, wsX11_count_r6, wsX110, wsX30, wsX00, wsX70]
theorem pc_X11_count : ∀ l ∈ pcs_X11_count, ∀ w ∈ l, w ∈ wsX11_count := pcs_cons (fun w h => List.mem_cons.mpr (Or.inl (List.mem_singleton.mp h))) (pcs_cons (fun w h => List.mem_cons_of_mem _ (List.mem_append_left _ (List.mem_append_left _ (List.mem_append_left _ (List.mem_append_left _ (List.mem_append_left _ h)))))) (pcs_cons (fun w h => List.mem_cons_of_mem _ (List.mem_append_left _ (List.mem_append_left _ (List.mem_append_left _ (List.mem_append_left _ (List.mem_append_right _ (List.mem_append_left _ h))))))) (pcs_cons (fun w h => List.mem_cons_of_mem _ (List.mem_append_left _ (List.mem_append_left _ (List.mem_append_left _ (List.mem_append_left _ (List.mem_append_right _ (List.mem_append_right _ (List.mem_append_left _ h)))))))) (pcs_cons (fun w h => List.mem_cons_of_mem _ (List.mem_append_left _ (List.mem_append_left _ (List.mem_append_left _ (List.mem_append_left _ (List.mem_append_right _ (List.mem_append_right _ (List.mem_append_right _ (List.mem_append_left _ h))))))))) (pcs_cons (fun w h => List.mem_cons_of_mem _ (List.mem_append_left _ (List.mem_append_left _ (List.mem_append_left _ (List.mem_append_left _ (List.mem_append_right _ (List.mem_append_right _ (List.mem_append_right _ (List.mem_append_right _ (List.mem_append_left _ h)))))))))) (pcs_cons (fun w h => List.mem_cons_of_mem _ (List.mem_append_left _ (List.mem_append_left _ (List.mem_append_left _ (List.mem_append_left _ (List.mem_append_right _ (List.mem_append_right _ (List.mem_append_right _ (List.mem_append_right _ (List.mem_append_right _ h)))))))))) (pcs_cons (fun w h => List.mem_cons_of_mem _ (List.mem_append_left _ (List.mem_append_left _ (List.mem_append_left _ (List.mem_append_right _ h))))) (pcs_cons (fun w h => List.mem_cons_of_mem _ (List.mem_append_left _ (List.mem_append_left _ (List.mem_append_right _ h)))) (pcs_cons (fun w h => List.mem_cons_of_mem _ (List.mem_append_left _ (List.mem_append_right _ h))) (pcs_cons (fun w h => List.mem_cons_of_mem _ (List.mem_append_right _ h)) pcs_nil))))))))))
noncomputable def pcs_X11_next : List (List Cond) := [[.code yX11_next cX11_next 5 (some .int)], wsX11_next_r1, wsX11_next_r2, wsX11_next_r3, wsX11_next_r4, wsX11_next_r5, wsX11_next_r6, wsX110, wsX30, wsX00, wsX70]
theorem pc_X11_next : ∀ l ∈ pcs_X11_next, ∀ w ∈ l, w ∈ wsX11_next := pcs_cons (fun w h => List.mem_cons.mpr (Or.inl (List.mem_singleton.mp h))) (pcs_cons (fun w h => List.mem_cons_of_mem _ (List.mem_append_left _ (List.mem_append_left _ (List.mem_append_left _ (List.mem_append_left _ (List.mem_append_left _ h)))))) (pcs_cons (fun w h => List.mem_cons_of_mem _ (List.mem_append_left _ (List.mem_append_left _ (List.mem_append_left _ (List.mem_append_left _ (List.mem_append_right _ (List.mem_append_left _ h))))))) (pcs_cons (fun w h => List.mem_cons_of_mem _ (List.mem_append_left _ (List.mem_append_left _ (List.mem_append_left _ (List.mem_append_left _ (List.mem_append_right _ (List.mem_append_right _ (List.mem_append_left _ h)))))))) (pcs_cons (fun w h => List.mem_cons_of_mem _ (List.mem_append_left _ (List.mem_append_left _ (List.mem_append_left _ (List.mem_append_left _ (List.mem_append_right _ (List.mem_append_right _ (List.mem_append_right _ (List.mem_append_left _ h))))))))) (pcs_cons (fun w h => List.mem_cons_of_mem _ (List.mem_append_left _ (List.mem_append_left _ (List.mem_append_left _ (List.mem_append_left _ (List.mem_append_right _ (List.mem_append_right _ (List.mem_append_right _ (List.mem_append_right _ (List.mem_append_left _ h)))))))))) (pcs_cons (fun w h => List.mem_cons_of_mem _ (List.mem_append_left _ (List.mem_append_left _ (List.mem_append_left _ (List.mem_append_left _ (List.mem_append_right _ (List.mem_append_right _ (List.mem_append_right _ (List.mem_append_right _ (List.mem_append_right _ h)))))))))) (pcs_cons (fun w h => List.mem_cons_of_mem _ (List.mem_append_left _ (List.mem_append_left _ (List.mem_append_left _ (List.mem_append_right _ h))))) (pcs_cons (fun w h => List.mem_cons_of_mem _ (List.mem_append_left _ (List.mem_append_left _ (List.mem_append_right _ h)))) (pcs_cons (fun w h => List.mem_cons_of_mem _ (List.mem_append_left _ (List.mem_append_right _ h))) (pcs_cons (fun w h => List.mem_cons_of_mem _ (List.mem_append_right _ h)) pcs_nil))))))))))
noncomputable def pcs_X11_size : List (List Cond) := [[.code yX11_size cX11_size 5 (some .int)], wsX11_size_r1, wsX11_size_r2, wsX11_size_r3, wsX110, wsX30, wsX00]
theorem pc_X11_size : ∀ l ∈ pcs_X11_size, ∀ w ∈ l, w ∈ wsX11_size := pcs_cons (fun w h => List.mem_cons.mpr (Or.inl (List.mem_singleton.mp h))) (pcs_cons (fun w h => List.mem_cons_of_mem _ (List.mem_append_left _ (List.mem_append_left _ (List.mem_append_left _ (List.mem_append_left _ h))))) (pcs_cons (fun w h => List.mem_cons_of_mem _ (List.mem_append_left _ (List.mem_append_left _ (List.mem_append_left _ (List.mem_append_right _ (List.mem_append_left _ h)))))) (pcs_cons (fun w h => List.mem_cons_of_mem _ (List.mem_append_left _ (List.mem_append_left _ (List.mem_append_left _ (List.mem_append_right _ (List.mem_append_right _ h)))))) (pcs_cons (fun w h => List.mem_cons_of_mem _ (List.mem_append_left _ (List.mem_append_left _ (List.mem_append_right _ h)))) (pcs_cons (fun w h => List.mem_cons_of_mem _ (List.mem_append_left _ (List.mem_append_right _ h))) (pcs_cons (fun w h => List.mem_cons_of_mem _ (List.mem_append_right _ h)) pcs_nil))))))
noncomputable def pcs_X11_raise : List (List Cond) := [[.code yX11_raise cX11_raise 4 (some .int)], wsX11_raise_r1, wsX11_raise_r2, wsX11_raise_r3, wsX11_raise_r4, wsX11_raise_r5, wsX110, wsX30, wsX00]
theorem pc_X11_raise : ∀ l ∈ pcs_X11_raise, ∀ w ∈ l, w ∈ wsX11_raise := pcs_cons (fun w h => List.mem_cons.mpr (Or.inl (List.mem_singleton.mp h))) (pcs_cons (fun w h => List.mem_cons_of_mem _ (List.mem_append_left _ (List.mem_append_left _ (List.mem_append_left _ (List.mem_append_left _ h))))) (pcs_cons (fun w h => List.mem_cons_of_mem _ (List.mem_append_left _ (List.mem_append_left _ (List.mem_append_left _ (List.mem_append_right _ (List.mem_append_left _ h)))))) (pcs_cons (fun w h => List.mem_cons_of_mem _ (List.mem_append_left _ (List.mem_append_left _ (List.mem_append_left _ (List.mem_append_right _ (List.mem_append_right _ (List.mem_append_left _ h))))))) (pcs_cons (fun w h => List.mem_cons_of_mem _ (List.mem_append_left _ (List.mem_append_left _ (List.mem_append_left _ (List.mem_append_right _ (List.mem_append_right _ (List.mem_append_right _ (List.mem_append_left _ h)))))))) (pcs_cons (fun w h => List.mem_cons_of_mem _ (List.mem_append_left _ (List.mem_append_left _ (List.mem_append_left _ (List.mem_append_right _ (List.mem_append_right _ (List.mem_append_right _ (List.mem_append_right _ h)))))))) (pcs_cons (fun w h => List.mem_cons_of_mem _ (List.mem_append_left _ (List.mem_append_left _ (List.mem_append_right _ h)))) (pcs_cons (fun w h => List.mem_cons_of_mem _ (List.mem_append_left _ (List.mem_append_right _ h))) (pcs_cons (fun w h => List.mem_cons_of_mem _ (List.mem_append_right _ h)) pcs_nil))))))))
noncomputable def pcs_X11_cheapest : List (List Cond) := [[.code yX11_cheapest cX11_cheapest 5 (some .int)], wsX11_cheapest_r1, wsX11_cheapest_r2, wsX11_cheapest_r3, wsX11_cheapest_r4, wsX11_cheapest_r5, wsX11_cheapest_r6, wsX11_cheapest_r7, wsX11_cheapest_r8, wsX110, wsX30, wsX00, wsX100]
theorem pc_X11_cheapest : ∀ l ∈ pcs_X11_cheapest, ∀ w ∈ l, w ∈ wsX11_cheapest := pcs_cons (fun w h => List.mem_cons.mpr (Or.inl (List.mem_singleton.mp h))) (pcs_cons (fun w h => List.mem_cons_of_mem _ (List.mem_append_left _ (List.mem_append_left _ (List.mem_append_left _ (List.mem_append_left _ (List.mem_append_left _ h)))))) (pcs_cons (fun w h => List.mem_cons_of_mem _ (List.mem_append_left _ (List.mem_append_left _ (List.mem_append_left _ (List.mem_append_left _ (List.mem_append_right _ (List.mem_append_left _ h))))))) (pcs_cons (fun w h => List.mem_cons_of_mem _ (List.mem_append_left _ (List.mem_append_left _ (List.mem_append_left _ (List.mem_append_left _ (List.mem_append_right _ (List.mem_append_right _ (List.mem_append_left _ h)))))))) (pcs_cons (fun w h => List.mem_cons_of_mem _ (List.mem_append_left _ (List.mem_append_left _ (List.mem_append_left _ (List.mem_append_left _ (List.mem_append_right _ (List.mem_append_right _ (List.mem_append_right _ (List.mem_append_left _ h))))))))) (pcs_cons (fun w h => List.mem_cons_of_mem _ (List.mem_append_left _ (List.mem_append_left _ (List.mem_append_left _ (List.mem_append_left _ (List.mem_append_right _ (List.mem_append_right _ (List.mem_append_right _ (List.mem_append_right _ (List.mem_append_left _ h)))))))))) (pcs_cons (fun w h => List.mem_cons_of_mem _ (List.mem_append_left _ (List.mem_append_left _ (List.mem_append_left _ (List.mem_append_left _ (List.mem_append_right _ (List.mem_append_right _ (List.mem_append_right _ (List.mem_append_right _ (List.mem_append_right _ (List.mem_append_left _ h))))))))))) (pcs_cons (fun w h => List.mem_cons_of_mem _ (List.mem_append_left _ (List.mem_append_left _ (List.mem_append_left _ (List.mem_append_left _ (List.mem_append_right _ (List.mem_append_right _ (List.mem_append_right _ (List.mem_append_right _ (List.mem_append_right _ (List.mem_append_right _ (List.mem_append_left _ h)))))))))))) (pcs_cons (fun w h => List.mem_cons_of_mem _ (List.mem_append_left _ (List.mem_append_left _ (List.mem_append_left _ (List.mem_append_left _ (List.mem_append_right _ (List.mem_append_right _ (List.mem_append_right _ (List.mem_append_right _ (List.mem_append_right _ (List.mem_append_right _ (List.mem_append_right _ h)))))))))))) (pcs_cons (fun w h => List.mem_cons_of_mem _ (List.mem_append_left _ (List.mem_append_left _ (List.mem_append_left _ (List.mem_append_right _ h))))) (pcs_cons (fun w h => List.mem_cons_of_mem _ (List.mem_append_left _ (List.mem_append_left _ (List.mem_append_right _ h)))) (pcs_cons (fun w h => List.mem_cons_of_mem _ (List.mem_append_left _ (List.mem_append_right _ h))) (pcs_cons (fun w h => List.mem_cons_of_mem _ (List.mem_append_right _ h)) pcs_nil))))))))))))
noncomputable def pcs_X11_tree : List (List Cond) := [[.code yX11_tree cX11_tree 3 (some .int)], wsX11_tree_r1, wsX11_tree_r2, wsX11_tree_r3, wsX11_tree_r4, wsX11_tree_r5, wsX110, wsX10, wsX30, wsX00]
theorem pc_X11_tree : ∀ l ∈ pcs_X11_tree, ∀ w ∈ l, w ∈ wsX11_tree := pcs_cons (fun w h => List.mem_cons.mpr (Or.inl (List.mem_singleton.mp h))) (pcs_cons (fun w h => List.mem_cons_of_mem _ (List.mem_append_left _ (List.mem_append_left _ (List.mem_append_left _ (List.mem_append_left _ (List.mem_append_left _ h)))))) (pcs_cons (fun w h => List.mem_cons_of_mem _ (List.mem_append_left _ (List.mem_append_left _ (List.mem_append_left _ (List.mem_append_left _ (List.mem_append_right _ (List.mem_append_left _ h))))))) (pcs_cons (fun w h => List.mem_cons_of_mem _ (List.mem_append_left _ (List.mem_append_left _ (List.mem_append_left _ (List.mem_append_left _ (List.mem_append_right _ (List.mem_append_right _ (List.mem_append_left _ h)))))))) (pcs_cons (fun w h => List.mem_cons_of_mem _ (List.mem_append_left _ (List.mem_append_left _ (List.mem_append_left _ (List.mem_append_left _ (List.mem_append_right _ (List.mem_append_right _ (List.mem_append_right _ (List.mem_append_left _ h))))))))) (pcs_cons (fun w h => List.mem_cons_of_mem _ (List.mem_append_left _ (List.mem_append_left _ (List.mem_append_left _ (List.mem_append_left _ (List.mem_append_right _ (List.mem_append_right _ (List.mem_append_right _ (List.mem_append_right _ h))))))))) (pcs_cons (fun w h => List.mem_cons_of_mem _ (List.mem_append_left _ (List.mem_append_left _ (List.mem_append_left _ (List.mem_append_right _ h))))) (pcs_cons (fun w h => List.mem_cons_of_mem _ (List.mem_append_left _ (List.mem_append_left _ (List.mem_append_right _ h)))) (pcs_cons (fun w h => List.mem_cons_of_mem _ (List.mem_append_left _ (List.mem_append_right _ h))) (pcs_cons (fun w h => List.mem_cons_of_mem _ (List.mem_append_right _ h)) pcs_nil)))))))))
noncomputable def pcs_X11_between : List (List Cond) := [[.code yX11_between cX11_between 3 (some .int)], wsX11_between_r1, wsX11_between_r2, wsX11_between_r3, wsX11_between_r4, wsX11_between_r5, wsX11_between_r6, wsX110, wsX30, wsX10, wsX00]
theorem pc_X11_between : ∀ l ∈ pcs_X11_between, ∀ w ∈ l, w ∈ wsX11_between := pcs_cons (fun w h => List.mem_cons.mpr (Or.inl (List.mem_singleton.mp h))) (pcs_cons (fun w h => List.mem_cons_of_mem _ (List.mem_append_left _ (List.mem_append_left _ (List.mem_append_left _ (List.mem_append_left _ (List.mem_append_left _ h)))))) (pcs_cons (fun w h => List.mem_cons_of_mem _ (List.mem_append_left _ (List.mem_append_left _ (List.mem_append_left _ (List.mem_append_left _ (List.mem_append_right _ (List.mem_append_left _ h))))))) (pcs_cons (fun w h => List.mem_cons_of_mem _ (List.mem_append_left _ (List.mem_append_left _ (List.mem_append_left _ (List.mem_append_left _ (List.mem_append_right _ (List.mem_append_right _ (List.mem_append_left _ h)))))))) (pcs_cons (fun w h => List.mem_cons_of_mem _ (List.mem_append_left _ (List.mem_append_left _ (List.mem_append_left _ (List.mem_append_left _ (List.mem_append_right _ (List.mem_append_right _ (List.mem_append_right _ (List.mem_append_left _ h))))))))) (pcs_cons (fun w h => List.mem_cons_of_mem _ (List.mem_append_left _ (List.mem_append_left _ (List.mem_append_left _ (List.mem_append_left _ (List.mem_append_right _ (List.mem_append_right _ (List.mem_append_right _ (List.mem_append_right _ (List.mem_append_left _ h)))))))))) (pcs_cons (fun w h => List.mem_cons_of_mem _ (List.mem_append_left _ (List.mem_append_left _ (List.mem_append_left _ (List.mem_append_left _ (List.mem_append_right _ (List.mem_append_right _ (List.mem_append_right _ (List.mem_append_right _ (List.mem_append_right _ h)))))))))) (pcs_cons (fun w h => List.mem_cons_of_mem _ (List.mem_append_left _ (List.mem_append_left _ (List.mem_append_left _ (List.mem_append_right _ h))))) (pcs_cons (fun w h => List.mem_cons_of_mem _ (List.mem_append_left _ (List.mem_append_left _ (List.mem_append_right _ h)))) (pcs_cons (fun w h => List.mem_cons_of_mem _ (List.mem_append_left _ (List.mem_append_right _ h))) (pcs_cons (fun w h => List.mem_cons_of_mem _ (List.mem_append_right _ h)) pcs_nil))))))))))
noncomputable def pcs_X11_least : List (List Cond) := [[.code yX11_least cX11_least 1 (some .int)], wsX11_least_r1, wsX11_least_r2, wsX11_least_r3, wsX11_least_r4, wsX11_least_r5, wsX110, wsX30, wsX10, wsX00]
theorem pc_X11_least : ∀ l ∈ pcs_X11_least, ∀ w ∈ l, w ∈ wsX11_least := pcs_cons (fun w h => List.mem_cons.mpr (Or.inl (List.mem_singleton.mp h))) (pcs_cons (fun w h => List.mem_cons_of_mem _ (List.mem_append_left _ (List.mem_append_left _ (List.mem_append_left _ (List.mem_append_left _ (List.mem_append_left _ h)))))) (pcs_cons (fun w h => List.mem_cons_of_mem _ (List.mem_append_left _ (List.mem_append_left _ (List.mem_append_left _ (List.mem_append_left _ (List.mem_append_right _ (List.mem_append_left _ h))))))) (pcs_cons (fun w h => List.mem_cons_of_mem _ (List.mem_append_left _ (List.mem_append_left _ (List.mem_append_left _ (List.mem_append_left _ (List.mem_append_right _ (List.mem_append_right _ (List.mem_append_left _ h)))))))) (pcs_cons (fun w h => List.mem_cons_of_mem _ (List.mem_append_left _ (List.mem_append_left _ (List.mem_append_left _ (List.mem_append_left _ (List.mem_append_right _ (List.mem_append_right _ (List.mem_append_right _ (List.mem_append_left _ h))))))))) (pcs_cons (fun w h => List.mem_cons_of_mem _ (List.mem_append_left _ (List.mem_append_left _ (List.mem_append_left _ (List.mem_append_left _ (List.mem_append_right _ (List.mem_append_right _ (List.mem_append_right _ (List.mem_append_right _ h))))))))) (pcs_cons (fun w h => List.mem_cons_of_mem _ (List.mem_append_left _ (List.mem_append_left _ (List.mem_append_left _ (List.mem_append_right _ h))))) (pcs_cons (fun w h => List.mem_cons_of_mem _ (List.mem_append_left _ (List.mem_append_left _ (List.mem_append_right _ h)))) (pcs_cons (fun w h => List.mem_cons_of_mem _ (List.mem_append_left _ (List.mem_append_right _ h))) (pcs_cons (fun w h => List.mem_cons_of_mem _ (List.mem_append_right _ h)) pcs_nil)))))))))
noncomputable def pcs_X11_cuts : List (List Cond) := [[.code yX11_cuts cX11_cuts 1 (some .int)], wsX11_cuts_r1, wsX11_cuts_r2, wsX11_cuts_r3, wsX11_cuts_r4, wsX11_cuts_r5, wsX11_cuts_r6, wsX11_cuts_r7, wsX110, wsX30, wsX10, wsX00, wsX70]
theorem pc_X11_cuts : ∀ l ∈ pcs_X11_cuts, ∀ w ∈ l, w ∈ wsX11_cuts := pcs_cons (fun w h => List.mem_cons.mpr (Or.inl (List.mem_singleton.mp h))) (pcs_cons (fun w h => List.mem_cons_of_mem _ (List.mem_append_left _ (List.mem_append_left _ (List.mem_append_left _ (List.mem_append_left _ (List.mem_append_left _ (List.mem_append_left _ h))))))) (pcs_cons (fun w h => List.mem_cons_of_mem _ (List.mem_append_left _ (List.mem_append_left _ (List.mem_append_left _ (List.mem_append_left _ (List.mem_append_left _ (List.mem_append_right _ (List.mem_append_left _ h)))))))) (pcs_cons (fun w h => List.mem_cons_of_mem _ (List.mem_append_left _ (List.mem_append_left _ (List.mem_append_left _ (List.mem_append_left _ (List.mem_append_left _ (List.mem_append_right _ (List.mem_append_right _ (List.mem_append_left _ h))))))))) (pcs_cons (fun w h => List.mem_cons_of_mem _ (List.mem_append_left _ (List.mem_append_left _ (List.mem_append_left _ (List.mem_append_left _ (List.mem_append_left _ (List.mem_append_right _ (List.mem_append_right _ (List.mem_append_right _ (List.mem_append_left _ h)))))))))) (pcs_cons (fun w h => List.mem_cons_of_mem _ (List.mem_append_left _ (List.mem_append_left _ (List.mem_append_left _ (List.mem_append_left _ (List.mem_append_left _ (List.mem_append_right _ (List.mem_append_right _ (List.mem_append_right _ (List.mem_append_right _ (List.mem_append_left _ h))))))))))) (pcs_cons (fun w h => List.mem_cons_of_mem _ (List.mem_append_left _ (List.mem_append_left _ (List.mem_append_left _ (List.mem_append_left _ (List.mem_append_left _ (List.mem_append_right _ (List.mem_append_right _ (List.mem_append_right _ (List.mem_append_right _ (List.mem_append_right _ (List.mem_append_left _ h)))))))))))) (pcs_cons (fun w h => List.mem_cons_of_mem _ (List.mem_append_left _ (List.mem_append_left _ (List.mem_append_left _ (List.mem_append_left _ (List.mem_append_left _ (List.mem_append_right _ (List.mem_append_right _ (List.mem_append_right _ (List.mem_append_right _ (List.mem_append_right _ (List.mem_append_right _ h)))))))))))) (pcs_cons (fun w h => List.mem_cons_of_mem _ (List.mem_append_left _ (List.mem_append_left _ (List.mem_append_left _ (List.mem_append_left _ (List.mem_append_right _ h)))))) (pcs_cons (fun w h => List.mem_cons_of_mem _ (List.mem_append_left _ (List.mem_append_left _ (List.mem_append_left _ (List.mem_append_right _ h))))) (pcs_cons (fun w h => List.mem_cons_of_mem _ (List.mem_append_left _ (List.mem_append_left _ (List.mem_append_right _ h)))) (pcs_cons (fun w h => List.mem_cons_of_mem _ (List.mem_append_left _ (List.mem_append_right _ h))) (pcs_cons (fun w h => List.mem_cons_of_mem _ (List.mem_append_right _ h)) pcs_nil))))))))))))
noncomputable def pcs_X11_cutAt : List (List Cond) := [[.code yX11_cutAt cX11_cutAt 2 (some .int)], wsX11_cutAt_r1, wsX11_cutAt_r2, wsX11_cutAt_r3, wsX11_cutAt_r4, wsX11_cutAt_r5, wsX11_cutAt_r6, wsX11_cutAt_r7, wsX110, wsX30, wsX10, wsX00, wsX70]
theorem pc_X11_cutAt : ∀ l ∈ pcs_X11_cutAt, ∀ w ∈ l, w ∈ wsX11_cutAt := pcs_cons (fun w h => List.mem_cons.mpr (Or.inl (List.mem_singleton.mp h))) (pcs_cons (fun w h => List.mem_cons_of_mem _ (List.mem_append_left _ (List.mem_append_left _ (List.mem_append_left _ (List.mem_append_left _ (List.mem_append_left _ (List.mem_append_left _ h))))))) (pcs_cons (fun w h => List.mem_cons_of_mem _ (List.mem_append_left _ (List.mem_append_left _ (List.mem_append_left _ (List.mem_append_left _ (List.mem_append_left _ (List.mem_append_right _ (List.mem_append_left _ h)))))))) (pcs_cons (fun w h => List.mem_cons_of_mem _ (List.mem_append_left _ (List.mem_append_left _ (List.mem_append_left _ (List.mem_append_left _ (List.mem_append_left _ (List.mem_append_right _ (List.mem_append_right _ (List.mem_append_left _ h))))))))) (pcs_cons (fun w h => List.mem_cons_of_mem _ (List.mem_append_left _ (List.mem_append_left _ (List.mem_append_left _ (List.mem_append_left _ (List.mem_append_left _ (List.mem_append_right _ (List.mem_append_right _ (List.mem_append_right _ (List.mem_append_left _ h)))))))))) (pcs_cons (fun w h => List.mem_cons_of_mem _ (List.mem_append_left _ (List.mem_append_left _ (List.mem_append_left _ (List.mem_append_left _ (List.mem_append_left _ (List.mem_append_right _ (List.mem_append_right _ (List.mem_append_right _ (List.mem_append_right _ (List.mem_append_left _ h))))))))))) (pcs_cons (fun w h => List.mem_cons_of_mem _ (List.mem_append_left _ (List.mem_append_left _ (List.mem_append_left _ (List.mem_append_left _ (List.mem_append_left _ (List.mem_append_right _ (List.mem_append_right _ (List.mem_append_right _ (List.mem_append_right _ (List.mem_append_right _ (List.mem_append_left _ h)))))))))))) (pcs_cons (fun w h => List.mem_cons_of_mem _ (List.mem_append_left _ (List.mem_append_left _ (List.mem_append_left _ (List.mem_append_left _ (List.mem_append_left _ (List.mem_append_right _ (List.mem_append_right _ (List.mem_append_right _ (List.mem_append_right _ (List.mem_append_right _ (List.mem_append_right _ h)))))))))))) (pcs_cons (fun w h => List.mem_cons_of_mem _ (List.mem_append_left _ (List.mem_append_left _ (List.mem_append_left _ (List.mem_append_left _ (List.mem_append_right _ h)))))) (pcs_cons (fun w h => List.mem_cons_of_mem _ (List.mem_append_left _ (List.mem_append_left _ (List.mem_append_left _ (List.mem_append_right _ h))))) (pcs_cons (fun w h => List.mem_cons_of_mem _ (List.mem_append_left _ (List.mem_append_left _ (List.mem_append_right _ h)))) (pcs_cons (fun w h => List.mem_cons_of_mem _ (List.mem_append_left _ (List.mem_append_right _ h))) (pcs_cons (fun w h => List.mem_cons_of_mem _ (List.mem_append_right _ h)) pcs_nil))))))))))))
noncomputable def pcs_X11_weak : List (List Cond) := [[.code yX11_weak cX11_weak 2 (some .int)], wsX11_weak_r1, wsX11_weak_r2, wsX11_weak_r3, wsX11_weak_r4, wsX11_weak_r5, wsX11_weak_r6, wsX110, wsX30, wsX10, wsX00]
theorem pc_X11_weak : ∀ l ∈ pcs_X11_weak, ∀ w ∈ l, w ∈ wsX11_weak := pcs_cons (fun w h => List.mem_cons.mpr (Or.inl (List.mem_singleton.mp h))) (pcs_cons (fun w h => List.mem_cons_of_mem _ (List.mem_append_left _ (List.mem_append_left _ (List.mem_append_left _ (List.mem_append_left _ (List.mem_append_left _ h)))))) (pcs_cons (fun w h => List.mem_cons_of_mem _ (List.mem_append_left _ (List.mem_append_left _ (List.mem_append_left _ (List.mem_append_left _ (List.mem_append_right _ (List.mem_append_left _ h))))))) (pcs_cons (fun w h => List.mem_cons_of_mem _ (List.mem_append_left _ (List.mem_append_left _ (List.mem_append_left _ (List.mem_append_left _ (List.mem_append_right _ (List.mem_append_right _ (List.mem_append_left _ h)))))))) (pcs_cons (fun w h => List.mem_cons_of_mem _ (List.mem_append_left _ (List.mem_append_left _ (List.mem_append_left _ (List.mem_append_left _ (List.mem_append_right _ (List.mem_append_right _ (List.mem_append_right _ (List.mem_append_left _ h))))))))) (pcs_cons (fun w h => List.mem_cons_of_mem _ (List.mem_append_left _ (List.mem_append_left _ (List.mem_append_left _ (List.mem_append_left _ (List.mem_append_right _ (List.mem_append_right _ (List.mem_append_right _ (List.mem_append_right _ (List.mem_append_left _ h)))))))))) (pcs_cons (fun w h => List.mem_cons_of_mem _ (List.mem_append_left _ (List.mem_append_left _ (List.mem_append_left _ (List.mem_append_left _ (List.mem_append_right _ (List.mem_append_right _ (List.mem_append_right _ (List.mem_append_right _ (List.mem_append_right _ h)))))))))) (pcs_cons (fun w h => List.mem_cons_of_mem _ (List.mem_append_left _ (List.mem_append_left _ (List.mem_append_left _ (List.mem_append_right _ h))))) (pcs_cons (fun w h => List.mem_cons_of_mem _ (List.mem_append_left _ (List.mem_append_left _ (List.mem_append_right _ h)))) (pcs_cons (fun w h => List.mem_cons_of_mem _ (List.mem_append_left _ (List.mem_append_right _ h))) (pcs_cons (fun w h => List.mem_cons_of_mem _ (List.mem_append_right _ h)) pcs_nil))))))))))
noncomputable def pcs_X11_part : List (List Cond) := [[.code yX11_part cX11_part 3 (some .int)], wsX11_part_r1, wsX11_part_r2, wsX11_part_r3, wsX11_part_r4, wsX11_part_r5, wsX11_part_r6, wsX110, wsX30, wsX10, wsX00]
theorem pc_X11_part : ∀ l ∈ pcs_X11_part, ∀ w ∈ l, w ∈ wsX11_part := pcs_cons (fun w h => List.mem_cons.mpr (Or.inl (List.mem_singleton.mp h))) (pcs_cons (fun w h => List.mem_cons_of_mem _ (List.mem_append_left _ (List.mem_append_left _ (List.mem_append_left _ (List.mem_append_left _ (List.mem_append_left _ h)))))) (pcs_cons (fun w h => List.mem_cons_of_mem _ (List.mem_append_left _ (List.mem_append_left _ (List.mem_append_left _ (List.mem_append_left _ (List.mem_append_right _ (List.mem_append_left _ h))))))) (pcs_cons (fun w h => List.mem_cons_of_mem _ (List.mem_append_left _ (List.mem_append_left _ (List.mem_append_left _ (List.mem_append_left _ (List.mem_append_right _ (List.mem_append_right _ (List.mem_append_left _ h)))))))) (pcs_cons (fun w h => List.mem_cons_of_mem _ (List.mem_append_left _ (List.mem_append_left _ (List.mem_append_left _ (List.mem_append_left _ (List.mem_append_right _ (List.mem_append_right _ (List.mem_append_right _ (List.mem_append_left _ h))))))))) (pcs_cons (fun w h => List.mem_cons_of_mem _ (List.mem_append_left _ (List.mem_append_left _ (List.mem_append_left _ (List.mem_append_left _ (List.mem_append_right _ (List.mem_append_right _ (List.mem_append_right _ (List.mem_append_right _ (List.mem_append_left _ h)))))))))) (pcs_cons (fun w h => List.mem_cons_of_mem _ (List.mem_append_left _ (List.mem_append_left _ (List.mem_append_left _ (List.mem_append_left _ (List.mem_append_right _ (List.mem_append_right _ (List.mem_append_right _ (List.mem_append_right _ (List.mem_append_right _ h)))))))))) (pcs_cons (fun w h => List.mem_cons_of_mem _ (List.mem_append_left _ (List.mem_append_left _ (List.mem_append_left _ (List.mem_append_right _ h))))) (pcs_cons (fun w h => List.mem_cons_of_mem _ (List.mem_append_left _ (List.mem_append_left _ (List.mem_append_right _ h)))) (pcs_cons (fun w h => List.mem_cons_of_mem _ (List.mem_append_left _ (List.mem_append_right _ h))) (pcs_cons (fun w h => List.mem_cons_of_mem _ (List.mem_append_right _ h)) pcs_nil))))))))))
noncomputable def pcs_X11_dense : List (List Cond) := [[.code yX11_dense cX11_dense 2 (some .int)], wsX11_dense_r1, wsX11_dense_r2, wsX11_dense_r3, wsX11_dense_r4, wsX110, wsX70, wsX30, wsX00]
theorem pc_X11_dense : ∀ l ∈ pcs_X11_dense, ∀ w ∈ l, w ∈ wsX11_dense := pcs_cons (fun w h => List.mem_cons.mpr (Or.inl (List.mem_singleton.mp h))) (pcs_cons (fun w h => List.mem_cons_of_mem _ (List.mem_append_left _ (List.mem_append_left _ (List.mem_append_left _ (List.mem_append_left _ (List.mem_append_left _ h)))))) (pcs_cons (fun w h => List.mem_cons_of_mem _ (List.mem_append_left _ (List.mem_append_left _ (List.mem_append_left _ (List.mem_append_left _ (List.mem_append_right _ (List.mem_append_left _ h))))))) (pcs_cons (fun w h => List.mem_cons_of_mem _ (List.mem_append_left _ (List.mem_append_left _ (List.mem_append_left _ (List.mem_append_left _ (List.mem_append_right _ (List.mem_append_right _ (List.mem_append_left _ h)))))))) (pcs_cons (fun w h => List.mem_cons_of_mem _ (List.mem_append_left _ (List.mem_append_left _ (List.mem_append_left _ (List.mem_append_left _ (List.mem_append_right _ (List.mem_append_right _ (List.mem_append_right _ h)))))))) (pcs_cons (fun w h => List.mem_cons_of_mem _ (List.mem_append_left _ (List.mem_append_left _ (List.mem_append_left _ (List.mem_append_right _ h))))) (pcs_cons (fun w h => List.mem_cons_of_mem _ (List.mem_append_left _ (List.mem_append_left _ (List.mem_append_right _ h)))) (pcs_cons (fun w h => List.mem_cons_of_mem _ (List.mem_append_left _ (List.mem_append_right _ h))) (pcs_cons (fun w h => List.mem_cons_of_mem _ (List.mem_append_right _ h)) pcs_nil))))))))
noncomputable def pcs_X11_row : List (List Cond) := [[.code yX11_row cX11_row 4 (some .int)], wsX11_row_r1, wsX11_row_r2, wsX110, wsX40]
theorem pc_X11_row : ∀ l ∈ pcs_X11_row, ∀ w ∈ l, w ∈ wsX11_row := pcs_cons (fun w h => List.mem_cons.mpr (Or.inl (List.mem_singleton.mp h))) (pcs_cons (fun w h => List.mem_cons_of_mem _ (List.mem_append_left _ (List.mem_append_left _ (List.mem_append_left _ h)))) (pcs_cons (fun w h => List.mem_cons_of_mem _ (List.mem_append_left _ (List.mem_append_left _ (List.mem_append_right _ h)))) (pcs_cons (fun w h => List.mem_cons_of_mem _ (List.mem_append_left _ (List.mem_append_right _ h))) (pcs_cons (fun w h => List.mem_cons_of_mem _ (List.mem_append_right _ h)) pcs_nil))))
noncomputable def pcs_X11_put : List (List Cond) := [[.code yX11_put cX11_put 7 (some .int)], wsX11_put_r1, wsX11_put_r2, wsX110, wsX40]
theorem pc_X11_put : ∀ l ∈ pcs_X11_put, ∀ w ∈ l, w ∈ wsX11_put := pcs_cons (fun w h => List.mem_cons.mpr (Or.inl (List.mem_singleton.mp h))) (pcs_cons (fun w h => List.mem_cons_of_mem _ (List.mem_append_left _ (List.mem_append_left _ (List.mem_append_left _ h)))) (pcs_cons (fun w h => List.mem_cons_of_mem _ (List.mem_append_left _ (List.mem_append_left _ (List.mem_append_right _ h)))) (pcs_cons (fun w h => List.mem_cons_of_mem _ (List.mem_append_left _ (List.mem_append_right _ h))) (pcs_cons (fun w h => List.mem_cons_of_mem _ (List.mem_append_right _ h)) pcs_nil))))
noncomputable def pcs_X11_copy : List (List Cond) := [[.code yX11_copy cX11_copy 7 (some .int)], wsX11_copy_r1, wsX11_copy_r2, wsX110, wsX40]
theorem pc_X11_copy : ∀ l ∈ pcs_X11_copy, ∀ w ∈ l, w ∈ wsX11_copy := pcs_cons (fun w h => List.mem_cons.mpr (Or.inl (List.mem_singleton.mp h))) (pcs_cons (fun w h => List.mem_cons_of_mem _ (List.mem_append_left _ (List.mem_append_left _ (List.mem_append_left _ h)))) (pcs_cons (fun w h => List.mem_cons_of_mem _ (List.mem_append_left _ (List.mem_append_left _ (List.mem_append_right _ h)))) (pcs_cons (fun w h => List.mem_cons_of_mem _ (List.mem_append_left _ (List.mem_append_right _ h))) (pcs_cons (fun w h => List.mem_cons_of_mem _ (List.mem_append_right _ h)) pcs_nil))))
noncomputable def pcs_X11_item : List (List Cond) := [[.code yX11_item cX11_item 5 (some .long)], wsX11_item_r1, wsX11_item_r2, wsX110, wsX40]
theorem pc_X11_item : ∀ l ∈ pcs_X11_item, ∀ w ∈ l, w ∈ wsX11_item := pcs_cons (fun w h => List.mem_cons.mpr (Or.inl (List.mem_singleton.mp h))) (pcs_cons (fun w h => List.mem_cons_of_mem _ (List.mem_append_left _ (List.mem_append_left _ (List.mem_append_left _ h)))) (pcs_cons (fun w h => List.mem_cons_of_mem _ (List.mem_append_left _ (List.mem_append_left _ (List.mem_append_right _ h)))) (pcs_cons (fun w h => List.mem_cons_of_mem _ (List.mem_append_left _ (List.mem_append_right _ h))) (pcs_cons (fun w h => List.mem_cons_of_mem _ (List.mem_append_right _ h)) pcs_nil))))
noncomputable def pcs_X11_read : List (List Cond) := [[.code yX11_read cX11_read 5 (some .int)], wsX11_read_r1, wsX11_read_r2, wsX11_read_r3, wsX11_read_r4, wsX11_read_r5, wsX110, wsX40, wsX30]
theorem pc_X11_read : ∀ l ∈ pcs_X11_read, ∀ w ∈ l, w ∈ wsX11_read := pcs_cons (fun w h => List.mem_cons.mpr (Or.inl (List.mem_singleton.mp h))) (pcs_cons (fun w h => List.mem_cons_of_mem _ (List.mem_append_left _ (List.mem_append_left _ (List.mem_append_left _ (List.mem_append_left _ h))))) (pcs_cons (fun w h => List.mem_cons_of_mem _ (List.mem_append_left _ (List.mem_append_left _ (List.mem_append_left _ (List.mem_append_right _ (List.mem_append_left _ h)))))) (pcs_cons (fun w h => List.mem_cons_of_mem _ (List.mem_append_left _ (List.mem_append_left _ (List.mem_append_left _ (List.mem_append_right _ (List.mem_append_right _ (List.mem_append_left _ h))))))) (pcs_cons (fun w h => List.mem_cons_of_mem _ (List.mem_append_left _ (List.mem_append_left _ (List.mem_append_left _ (List.mem_append_right _ (List.mem_append_right _ (List.mem_append_right _ (List.mem_append_left _ h)))))))) (pcs_cons (fun w h => List.mem_cons_of_mem _ (List.mem_append_left _ (List.mem_append_left _ (List.mem_append_left _ (List.mem_append_right _ (List.mem_append_right _ (List.mem_append_right _ (List.mem_append_right _ h)))))))) (pcs_cons (fun w h => List.mem_cons_of_mem _ (List.mem_append_left _ (List.mem_append_left _ (List.mem_append_right _ h)))) (pcs_cons (fun w h => List.mem_cons_of_mem _ (List.mem_append_left _ (List.mem_append_right _ h))) (pcs_cons (fun w h => List.mem_cons_of_mem _ (List.mem_append_right _ h)) pcs_nil))))))))
noncomputable def pcs_X11_remember : List (List Cond) := [[.code yX11_remember cX11_remember 2 none], wsX11_remember_r1, wsX11_remember_r2, wsX110, wsX30]
theorem pc_X11_remember : ∀ l ∈ pcs_X11_remember, ∀ w ∈ l, w ∈ wsX11_remember := pcs_cons (fun w h => List.mem_cons.mpr (Or.inl (List.mem_singleton.mp h))) (pcs_cons (fun w h => List.mem_cons_of_mem _ (List.mem_append_left _ (List.mem_append_left _ (List.mem_append_left _ h)))) (pcs_cons (fun w h => List.mem_cons_of_mem _ (List.mem_append_left _ (List.mem_append_left _ (List.mem_append_right _ h)))) (pcs_cons (fun w h => List.mem_cons_of_mem _ (List.mem_append_left _ (List.mem_append_right _ h))) (pcs_cons (fun w h => List.mem_cons_of_mem _ (List.mem_append_right _ h)) pcs_nil))))
noncomputable def pcs_X11_addLine : List (List Cond) := [[.code yX11_addLine cX11_addLine 6 (some .int)], wsX11_addLine_r1, wsX11_addLine_r2, wsX110, wsX30]
theorem pc_X11_addLine : ∀ l ∈ pcs_X11_addLine, ∀ w ∈ l, w ∈ wsX11_addLine := pcs_cons (fun w h => List.mem_cons.mpr (Or.inl (List.mem_singleton.mp h))) (pcs_cons (fun w h => List.mem_cons_of_mem _ (List.mem_append_left _ (List.mem_append_left _ (List.mem_append_left _ h)))) (pcs_cons (fun w h => List.mem_cons_of_mem _ (List.mem_append_left _ (List.mem_append_left _ (List.mem_append_right _ h)))) (pcs_cons (fun w h => List.mem_cons_of_mem _ (List.mem_append_left _ (List.mem_append_right _ h))) (pcs_cons (fun w h => List.mem_cons_of_mem _ (List.mem_append_right _ h)) pcs_nil))))
noncomputable def pcs_X11_mostNow : List (List Cond) := [[.code yX11_mostNow cX11_mostNow 3 (some .int)], wsX11_mostNow_r1, wsX11_mostNow_r2, wsX11_mostNow_r3, wsX11_mostNow_r4, wsX110, wsX00, wsX30]
theorem pc_X11_mostNow : ∀ l ∈ pcs_X11_mostNow, ∀ w ∈ l, w ∈ wsX11_mostNow := pcs_cons (fun w h => List.mem_cons.mpr (Or.inl (List.mem_singleton.mp h))) (pcs_cons (fun w h => List.mem_cons_of_mem _ (List.mem_append_left _ (List.mem_append_left _ (List.mem_append_left _ (List.mem_append_left _ h))))) (pcs_cons (fun w h => List.mem_cons_of_mem _ (List.mem_append_left _ (List.mem_append_left _ (List.mem_append_left _ (List.mem_append_right _ (List.mem_append_left _ h)))))) (pcs_cons (fun w h => List.mem_cons_of_mem _ (List.mem_append_left _ (List.mem_append_left _ (List.mem_append_left _ (List.mem_append_right _ (List.mem_append_right _ (List.mem_append_left _ h))))))) (pcs_cons (fun w h => List.mem_cons_of_mem _ (List.mem_append_left _ (List.mem_append_left _ (List.mem_append_left _ (List.mem_append_right _ (List.mem_append_right _ (List.mem_append_right _ h))))))) (pcs_cons (fun w h => List.mem_cons_of_mem _ (List.mem_append_left _ (List.mem_append_left _ (List.mem_append_right _ h)))) (pcs_cons (fun w h => List.mem_cons_of_mem _ (List.mem_append_left _ (List.mem_append_right _ h))) (pcs_cons (fun w h => List.mem_cons_of_mem _ (List.mem_append_right _ h)) pcs_nil)))))))
noncomputable def pcs_X11_readRefusal : List (List Cond) := [[.code yX11_readRefusal cX11_readRefusal 3 (some .int)], wsX11_readRefusal_r1, wsX11_readRefusal_r2, wsX40, wsX110, wsX30]
theorem pc_X11_readRefusal : ∀ l ∈ pcs_X11_readRefusal, ∀ w ∈ l, w ∈ wsX11_readRefusal := pcs_cons (fun w h => List.mem_cons.mpr (Or.inl (List.mem_singleton.mp h))) (pcs_cons (fun w h => List.mem_cons_of_mem _ (List.mem_append_left _ (List.mem_append_left _ (List.mem_append_left _ (List.mem_append_left _ h))))) (pcs_cons (fun w h => List.mem_cons_of_mem _ (List.mem_append_left _ (List.mem_append_left _ (List.mem_append_left _ (List.mem_append_right _ h))))) (pcs_cons (fun w h => List.mem_cons_of_mem _ (List.mem_append_left _ (List.mem_append_left _ (List.mem_append_right _ h)))) (pcs_cons (fun w h => List.mem_cons_of_mem _ (List.mem_append_left _ (List.mem_append_right _ h))) (pcs_cons (fun w h => List.mem_cons_of_mem _ (List.mem_append_right _ h)) pcs_nil)))))
noncomputable def pcs_X12_init : List (List Cond) := [[.code yX12_init cX12_init 1 none], wsX12_init_r1, wsX12_init_r2, wsX120]
theorem pc_X12_init : ∀ l ∈ pcs_X12_init, ∀ w ∈ l, w ∈ wsX12_init := pcs_cons (fun w h => List.mem_cons.mpr (Or.inl (List.mem_singleton.mp h))) (pcs_cons (fun w h => List.mem_cons_of_mem _ (List.mem_append_left _ (List.mem_append_left _ h))) (pcs_cons (fun w h => List.mem_cons_of_mem _ (List.mem_append_left _ (List.mem_append_right _ h))) (pcs_cons (fun w h => List.mem_cons_of_mem _ (List.mem_append_right _ h)) pcs_nil)))
noncomputable def pcs_X12_line : List (List Cond) := [[.code yX12_line cX12_line 7 (some .int)], wsX12_line_r1, wsX12_line_r2, wsX120]
theorem pc_X12_line : ∀ l ∈ pcs_X12_line, ∀ w ∈ l, w ∈ wsX12_line := pcs_cons (fun w h => List.mem_cons.mpr (Or.inl (List.mem_singleton.mp h))) (pcs_cons (fun w h => List.mem_cons_of_mem _ (List.mem_append_left _ (List.mem_append_left _ h))) (pcs_cons (fun w h => List.mem_cons_of_mem _ (List.mem_append_left _ (List.mem_append_right _ h))) (pcs_cons (fun w h => List.mem_cons_of_mem _ (List.mem_append_right _ h)) pcs_nil)))
noncomputable def pcs_X12_widen : List (List Cond) := [[.code yX12_widen cX12_widen 3 (some .int)], wsX12_widen_r1, wsX12_widen_r2, wsX120]
theorem pc_X12_widen : ∀ l ∈ pcs_X12_widen, ∀ w ∈ l, w ∈ wsX12_widen := pcs_cons (fun w h => List.mem_cons.mpr (Or.inl (List.mem_singleton.mp h))) (pcs_cons (fun w h => List.mem_cons_of_mem _ (List.mem_append_left _ (List.mem_append_left _ h))) (pcs_cons (fun w h => List.mem_cons_of_mem _ (List.mem_append_left _ (List.mem_append_right _ h))) (pcs_cons (fun w h => List.mem_cons_of_mem _ (List.mem_append_right _ h)) pcs_nil)))
noncomputable def pcs_X12_width : List (List Cond) := [[.code yX12_width cX12_width 4 (some .int)], wsX12_width_r1, wsX12_width_r2, wsX120]
theorem pc_X12_width : ∀ l ∈ pcs_X12_width, ∀ w ∈ l, w ∈ wsX12_width := pcs_cons (fun w h => List.mem_cons.mpr (Or.inl (List.mem_singleton.mp h))) (pcs_cons (fun w h => List.mem_cons_of_mem _ (List.mem_append_left _ (List.mem_append_left _ h))) (pcs_cons (fun w h => List.mem_cons_of_mem _ (List.mem_append_left _ (List.mem_append_right _ h))) (pcs_cons (fun w h => List.mem_cons_of_mem _ (List.mem_append_right _ h)) pcs_nil)))
noncomputable def pcs_X12_merge : List (List Cond) := [[.code yX12_merge cX12_merge 7 (some .int)], wsX12_merge_r1, wsX12_merge_r2, wsX120]
theorem pc_X12_merge : ∀ l ∈ pcs_X12_merge, ∀ w ∈ l, w ∈ wsX12_merge := pcs_cons (fun w h => List.mem_cons.mpr (Or.inl (List.mem_singleton.mp h))) (pcs_cons (fun w h => List.mem_cons_of_mem _ (List.mem_append_left _ (List.mem_append_left _ h))) (pcs_cons (fun w h => List.mem_cons_of_mem _ (List.mem_append_left _ (List.mem_append_right _ h))) (pcs_cons (fun w h => List.mem_cons_of_mem _ (List.mem_append_right _ h)) pcs_nil)))
noncomputable def pcs_X12_ask : List (List Cond) := [[.code yX12_ask cX12_ask 4 (some .int)], wsX12_ask_r1, wsX12_ask_r2, wsX120]
theorem pc_X12_ask : ∀ l ∈ pcs_X12_ask, ∀ w ∈ l, w ∈ wsX12_ask := pcs_cons (fun w h => List.mem_cons.mpr (Or.inl (List.mem_singleton.mp h))) (pcs_cons (fun w h => List.mem_cons_of_mem _ (List.mem_append_left _ (List.mem_append_left _ h))) (pcs_cons (fun w h => List.mem_cons_of_mem _ (List.mem_append_left _ (List.mem_append_right _ h))) (pcs_cons (fun w h => List.mem_cons_of_mem _ (List.mem_append_right _ h)) pcs_nil)))
noncomputable def pcs_X12_most : List (List Cond) := [[.code yX12_most cX12_most 3 (some .int)], wsX12_most_r1, wsX12_most_r2, wsX120]
theorem pc_X12_most : ∀ l ∈ pcs_X12_most, ∀ w ∈ l, w ∈ wsX12_most := pcs_cons (fun w h => List.mem_cons.mpr (Or.inl (List.mem_singleton.mp h))) (pcs_cons (fun w h => List.mem_cons_of_mem _ (List.mem_append_left _ (List.mem_append_left _ h))) (pcs_cons (fun w h => List.mem_cons_of_mem _ (List.mem_append_left _ (List.mem_append_right _ h))) (pcs_cons (fun w h => List.mem_cons_of_mem _ (List.mem_append_right _ h)) pcs_nil)))
noncomputable def pcs_X12_hasWay : List (List Cond) := [[.code yX12_hasWay cX12_hasWay 6 (some .boolean)], wsX12_hasWay_r1, wsX12_hasWay_r2, wsX120]
theorem pc_X12_hasWay : ∀ l ∈ pcs_X12_hasWay, ∀ w ∈ l, w ∈ wsX12_hasWay := pcs_cons (fun w h => List.mem_cons.mpr (Or.inl (List.mem_singleton.mp h))) (pcs_cons (fun w h => List.mem_cons_of_mem _ (List.mem_append_left _ (List.mem_append_left _ h))) (pcs_cons (fun w h => List.mem_cons_of_mem _ (List.mem_append_left _ (List.mem_append_right _ h))) (pcs_cons (fun w h => List.mem_cons_of_mem _ (List.mem_append_right _ h)) pcs_nil)))
noncomputable def pcs_X12_flowOf : List (List Cond) := [[.code yX12_flowOf cX12_flowOf 9 none], wsX12_flowOf_r1, wsX12_flowOf_r2, wsX120]
theorem pc_X12_flowOf : ∀ l ∈ pcs_X12_flowOf, ∀ w ∈ l, w ∈ wsX12_flowOf := pcs_cons (fun w h => List.mem_cons.mpr (Or.inl (List.mem_singleton.mp h))) (pcs_cons (fun w h => List.mem_cons_of_mem _ (List.mem_append_left _ (List.mem_append_left _ h))) (pcs_cons (fun w h => List.mem_cons_of_mem _ (List.mem_append_left _ (List.mem_append_right _ h))) (pcs_cons (fun w h => List.mem_cons_of_mem _ (List.mem_append_right _ h)) pcs_nil)))
noncomputable def pcs_X12_flow : List (List Cond) := [[.code yX12_flow cX12_flow 4 (some .int)], wsX12_flow_r1, wsX12_flow_r2, wsX12_flow_r3, wsX120]
theorem pc_X12_flow : ∀ l ∈ pcs_X12_flow, ∀ w ∈ l, w ∈ wsX12_flow := pcs_cons (fun w h => List.mem_cons.mpr (Or.inl (List.mem_singleton.mp h))) (pcs_cons (fun w h => List.mem_cons_of_mem _ (List.mem_append_left _ (List.mem_append_left _ h))) (pcs_cons (fun w h => List.mem_cons_of_mem _ (List.mem_append_left _ (List.mem_append_right _ (List.mem_append_left _ h)))) (pcs_cons (fun w h => List.mem_cons_of_mem _ (List.mem_append_left _ (List.mem_append_right _ (List.mem_append_right _ h)))) (pcs_cons (fun w h => List.mem_cons_of_mem _ (List.mem_append_right _ h)) pcs_nil))))
noncomputable def pcs_X12_cutsOf : List (List Cond) := [[.code yX12_cutsOf cX12_cutsOf 6 none], wsX12_cutsOf_r1, wsX12_cutsOf_r2, wsX120]
theorem pc_X12_cutsOf : ∀ l ∈ pcs_X12_cutsOf, ∀ w ∈ l, w ∈ wsX12_cutsOf := pcs_cons (fun w h => List.mem_cons.mpr (Or.inl (List.mem_singleton.mp h))) (pcs_cons (fun w h => List.mem_cons_of_mem _ (List.mem_append_left _ (List.mem_append_left _ h))) (pcs_cons (fun w h => List.mem_cons_of_mem _ (List.mem_append_left _ (List.mem_append_right _ h))) (pcs_cons (fun w h => List.mem_cons_of_mem _ (List.mem_append_right _ h)) pcs_nil)))
noncomputable def pcs_X12_cut : List (List Cond) := [[.code yX12_cut cX12_cut 5 (some .int)], wsX12_cut_r1, wsX12_cut_r2, wsX12_cut_r3, wsX120]
theorem pc_X12_cut : ∀ l ∈ pcs_X12_cut, ∀ w ∈ l, w ∈ wsX12_cut := pcs_cons (fun w h => List.mem_cons.mpr (Or.inl (List.mem_singleton.mp h))) (pcs_cons (fun w h => List.mem_cons_of_mem _ (List.mem_append_left _ (List.mem_append_left _ h))) (pcs_cons (fun w h => List.mem_cons_of_mem _ (List.mem_append_left _ (List.mem_append_right _ (List.mem_append_left _ h)))) (pcs_cons (fun w h => List.mem_cons_of_mem _ (List.mem_append_left _ (List.mem_append_right _ (List.mem_append_right _ h)))) (pcs_cons (fun w h => List.mem_cons_of_mem _ (List.mem_append_right _ h)) pcs_nil))))
noncomputable def pcs_X12_count : List (List Cond) := [[.code yX12_count cX12_count 4 (some .int)], wsX12_count_r1, wsX12_count_r2, wsX12_count_r3, wsX120]
theorem pc_X12_count : ∀ l ∈ pcs_X12_count, ∀ w ∈ l, w ∈ wsX12_count := pcs_cons (fun w h => List.mem_cons.mpr (Or.inl (List.mem_singleton.mp h))) (pcs_cons (fun w h => List.mem_cons_of_mem _ (List.mem_append_left _ (List.mem_append_left _ h))) (pcs_cons (fun w h => List.mem_cons_of_mem _ (List.mem_append_left _ (List.mem_append_right _ (List.mem_append_left _ h)))) (pcs_cons (fun w h => List.mem_cons_of_mem _ (List.mem_append_left _ (List.mem_append_right _ (List.mem_append_right _ h)))) (pcs_cons (fun w h => List.mem_cons_of_mem _ (List.mem_append_right _ h)) pcs_nil))))
noncomputable def pcs_X12_next : List (List Cond) := [[.code yX12_next cX12_next 5 (some .int)], wsX12_next_r1, wsX12_next_r2, wsX12_next_r3, wsX120]
theorem pc_X12_next : ∀ l ∈ pcs_X12_next, ∀ w ∈ l, w ∈ wsX12_next := pcs_cons (fun w h => List.mem_cons.mpr (Or.inl (List.mem_singleton.mp h))) (pcs_cons (fun w h => List.mem_cons_of_mem _ (List.mem_append_left _ (List.mem_append_left _ h))) (pcs_cons (fun w h => List.mem_cons_of_mem _ (List.mem_append_left _ (List.mem_append_right _ (List.mem_append_left _ h)))) (pcs_cons (fun w h => List.mem_cons_of_mem _ (List.mem_append_left _ (List.mem_append_right _ (List.mem_append_right _ h)))) (pcs_cons (fun w h => List.mem_cons_of_mem _ (List.mem_append_right _ h)) pcs_nil))))
noncomputable def pcs_X12_size : List (List Cond) := [[.code yX12_size cX12_size 5 (some .int)], wsX12_size_r1, wsX12_size_r2, wsX120]
theorem pc_X12_size : ∀ l ∈ pcs_X12_size, ∀ w ∈ l, w ∈ wsX12_size := pcs_cons (fun w h => List.mem_cons.mpr (Or.inl (List.mem_singleton.mp h))) (pcs_cons (fun w h => List.mem_cons_of_mem _ (List.mem_append_left _ (List.mem_append_left _ h))) (pcs_cons (fun w h => List.mem_cons_of_mem _ (List.mem_append_left _ (List.mem_append_right _ h))) (pcs_cons (fun w h => List.mem_cons_of_mem _ (List.mem_append_right _ h)) pcs_nil)))
noncomputable def pcs_X12_raise : List (List Cond) := [[.code yX12_raise cX12_raise 5 (some .int)], wsX12_raise_r1, wsX12_raise_r2, wsX120]
theorem pc_X12_raise : ∀ l ∈ pcs_X12_raise, ∀ w ∈ l, w ∈ wsX12_raise := pcs_cons (fun w h => List.mem_cons.mpr (Or.inl (List.mem_singleton.mp h))) (pcs_cons (fun w h => List.mem_cons_of_mem _ (List.mem_append_left _ (List.mem_append_left _ h))) (pcs_cons (fun w h => List.mem_cons_of_mem _ (List.mem_append_left _ (List.mem_append_right _ h))) (pcs_cons (fun w h => List.mem_cons_of_mem _ (List.mem_append_right _ h)) pcs_nil)))
noncomputable def pcs_X12_cheapWay : List (List Cond) := [[.code yX12_cheapWay cX12_cheapWay 10 (some .boolean)], wsX12_cheapWay_r1, wsX12_cheapWay_r2, wsX120]
theorem pc_X12_cheapWay : ∀ l ∈ pcs_X12_cheapWay, ∀ w ∈ l, w ∈ wsX12_cheapWay := pcs_cons (fun w h => List.mem_cons.mpr (Or.inl (List.mem_singleton.mp h))) (pcs_cons (fun w h => List.mem_cons_of_mem _ (List.mem_append_left _ (List.mem_append_left _ h))) (pcs_cons (fun w h => List.mem_cons_of_mem _ (List.mem_append_left _ (List.mem_append_right _ h))) (pcs_cons (fun w h => List.mem_cons_of_mem _ (List.mem_append_right _ h)) pcs_nil)))
noncomputable def pcs_X12_cheapest : List (List Cond) := [[.code yX12_cheapest cX12_cheapest 10 (some .int)], wsX12_cheapest_r1, wsX12_cheapest_r2, wsX12_cheapest_r3, wsX120]
theorem pc_X12_cheapest : ∀ l ∈ pcs_X12_cheapest, ∀ w ∈ l, w ∈ wsX12_cheapest := pcs_cons (fun w h => List.mem_cons.mpr (Or.inl (List.mem_singleton.mp h))) (pcs_cons (fun w h => List.mem_cons_of_mem _ (List.mem_append_left _ (List.mem_append_left _ h))) (pcs_cons (fun w h => List.mem_cons_of_mem _ (List.mem_append_left _ (List.mem_append_right _ (List.mem_append_left _ h)))) (pcs_cons (fun w h => List.mem_cons_of_mem _ (List.mem_append_left _ (List.mem_append_right _ (List.mem_append_right _ h)))) (pcs_cons (fun w h => List.mem_cons_of_mem _ (List.mem_append_right _ h)) pcs_nil))))
noncomputable def pcs_X12_plants : List (List Cond) := [[.code yX12_plants cX12_plants 6 none], wsX12_plants_r1, wsX12_plants_r2, wsX120]
theorem pc_X12_plants : ∀ l ∈ pcs_X12_plants, ∀ w ∈ l, w ∈ wsX12_plants := pcs_cons (fun w h => List.mem_cons.mpr (Or.inl (List.mem_singleton.mp h))) (pcs_cons (fun w h => List.mem_cons_of_mem _ (List.mem_append_left _ (List.mem_append_left _ h))) (pcs_cons (fun w h => List.mem_cons_of_mem _ (List.mem_append_left _ (List.mem_append_right _ h))) (pcs_cons (fun w h => List.mem_cons_of_mem _ (List.mem_append_right _ h)) pcs_nil)))
noncomputable def pcs_X12_tree : List (List Cond) := [[.code yX12_tree cX12_tree 3 (some .int)], wsX12_tree_r1, wsX12_tree_r2, wsX12_tree_r3, wsX120]
theorem pc_X12_tree : ∀ l ∈ pcs_X12_tree, ∀ w ∈ l, w ∈ wsX12_tree := pcs_cons (fun w h => List.mem_cons.mpr (Or.inl (List.mem_singleton.mp h))) (pcs_cons (fun w h => List.mem_cons_of_mem _ (List.mem_append_left _ (List.mem_append_left _ h))) (pcs_cons (fun w h => List.mem_cons_of_mem _ (List.mem_append_left _ (List.mem_append_right _ (List.mem_append_left _ h)))) (pcs_cons (fun w h => List.mem_cons_of_mem _ (List.mem_append_left _ (List.mem_append_right _ (List.mem_append_right _ h)))) (pcs_cons (fun w h => List.mem_cons_of_mem _ (List.mem_append_right _ h)) pcs_nil))))
noncomputable def pcs_X12_between : List (List Cond) := [[.code yX12_between cX12_between 3 (some .int)], wsX12_between_r1, wsX12_between_r2, wsX120]
theorem pc_X12_between : ∀ l ∈ pcs_X12_between, ∀ w ∈ l, w ∈ wsX12_between := pcs_cons (fun w h => List.mem_cons.mpr (Or.inl (List.mem_singleton.mp h))) (pcs_cons (fun w h => List.mem_cons_of_mem _ (List.mem_append_left _ (List.mem_append_left _ h))) (pcs_cons (fun w h => List.mem_cons_of_mem _ (List.mem_append_left _ (List.mem_append_right _ h))) (pcs_cons (fun w h => List.mem_cons_of_mem _ (List.mem_append_right _ h)) pcs_nil)))
noncomputable def pcs_X12_leastOf : List (List Cond) := [[.code yX12_leastOf cX12_leastOf 4 (some .int)], wsX12_leastOf_r1, wsX12_leastOf_r2, wsX120]
theorem pc_X12_leastOf : ∀ l ∈ pcs_X12_leastOf, ∀ w ∈ l, w ∈ wsX12_leastOf := pcs_cons (fun w h => List.mem_cons.mpr (Or.inl (List.mem_singleton.mp h))) (pcs_cons (fun w h => List.mem_cons_of_mem _ (List.mem_append_left _ (List.mem_append_left _ h))) (pcs_cons (fun w h => List.mem_cons_of_mem _ (List.mem_append_left _ (List.mem_append_right _ h))) (pcs_cons (fun w h => List.mem_cons_of_mem _ (List.mem_append_right _ h)) pcs_nil)))
noncomputable def pcs_X12_least : List (List Cond) := [[.code yX12_least cX12_least 1 (some .int)], wsX12_least_r1, wsX12_least_r2, wsX120]
theorem pc_X12_least : ∀ l ∈ pcs_X12_least, ∀ w ∈ l, w ∈ wsX12_least := pcs_cons (fun w h => List.mem_cons.mpr (Or.inl (List.mem_singleton.mp h))) (pcs_cons (fun w h => List.mem_cons_of_mem _ (List.mem_append_left _ (List.mem_append_left _ h))) (pcs_cons (fun w h => List.mem_cons_of_mem _ (List.mem_append_left _ (List.mem_append_right _ h))) (pcs_cons (fun w h => List.mem_cons_of_mem _ (List.mem_append_right _ h)) pcs_nil)))
noncomputable def pcs_X12_wholeCuts : List (List Cond) := [[.code yX12_wholeCuts cX12_wholeCuts 4 none], wsX12_wholeCuts_r1, wsX12_wholeCuts_r2, wsX120]
theorem pc_X12_wholeCuts : ∀ l ∈ pcs_X12_wholeCuts, ∀ w ∈ l, w ∈ wsX12_wholeCuts := pcs_cons (fun w h => List.mem_cons.mpr (Or.inl (List.mem_singleton.mp h))) (pcs_cons (fun w h => List.mem_cons_of_mem _ (List.mem_append_left _ (List.mem_append_left _ h))) (pcs_cons (fun w h => List.mem_cons_of_mem _ (List.mem_append_left _ (List.mem_append_right _ h))) (pcs_cons (fun w h => List.mem_cons_of_mem _ (List.mem_append_right _ h)) pcs_nil)))
noncomputable def pcs_X12_cuts : List (List Cond) := [[.code yX12_cuts cX12_cuts 1 (some .int)], wsX12_cuts_r1, wsX12_cuts_r2, wsX120]
theorem pc_X12_cuts : ∀ l ∈ pcs_X12_cuts, ∀ w ∈ l, w ∈ wsX12_cuts := pcs_cons (fun w h => List.mem_cons.mpr (Or.inl (List.mem_singleton.mp h))) (pcs_cons (fun w h => List.mem_cons_of_mem _ (List.mem_append_left _ (List.mem_append_left _ h))) (pcs_cons (fun w h => List.mem_cons_of_mem _ (List.mem_append_left _ (List.mem_append_right _ h))) (pcs_cons (fun w h => List.mem_cons_of_mem _ (List.mem_append_right _ h)) pcs_nil)))
noncomputable def pcs_X12_cutAt : List (List Cond) := [[.code yX12_cutAt cX12_cutAt 2 (some .int)], wsX12_cutAt_r1, wsX12_cutAt_r2, wsX120]
theorem pc_X12_cutAt : ∀ l ∈ pcs_X12_cutAt, ∀ w ∈ l, w ∈ wsX12_cutAt := pcs_cons (fun w h => List.mem_cons.mpr (Or.inl (List.mem_singleton.mp h))) (pcs_cons (fun w h => List.mem_cons_of_mem _ (List.mem_append_left _ (List.mem_append_left _ h))) (pcs_cons (fun w h => List.mem_cons_of_mem _ (List.mem_append_left _ (List.mem_append_right _ h))) (pcs_cons (fun w h => List.mem_cons_of_mem _ (List.mem_append_right _ h)) pcs_nil)))
noncomputable def pcs_X12_weak : List (List Cond) := [[.code yX12_weak cX12_weak 4 (some .int)], wsX12_weak_r1, wsX12_weak_r2, wsX120]
theorem pc_X12_weak : ∀ l ∈ pcs_X12_weak, ∀ w ∈ l, w ∈ wsX12_weak := pcs_cons (fun w h => List.mem_cons.mpr (Or.inl (List.mem_singleton.mp h))) (pcs_cons (fun w h => List.mem_cons_of_mem _ (List.mem_append_left _ (List.mem_append_left _ h))) (pcs_cons (fun w h => List.mem_cons_of_mem _ (List.mem_append_left _ (List.mem_append_right _ h))) (pcs_cons (fun w h => List.mem_cons_of_mem _ (List.mem_append_right _ h)) pcs_nil)))
noncomputable def pcs_X12_part : List (List Cond) := [[.code yX12_part cX12_part 8 (some .int)], wsX12_part_r1, wsX12_part_r2, wsX120]
theorem pc_X12_part : ∀ l ∈ pcs_X12_part, ∀ w ∈ l, w ∈ wsX12_part := pcs_cons (fun w h => List.mem_cons.mpr (Or.inl (List.mem_singleton.mp h))) (pcs_cons (fun w h => List.mem_cons_of_mem _ (List.mem_append_left _ (List.mem_append_left _ h))) (pcs_cons (fun w h => List.mem_cons_of_mem _ (List.mem_append_left _ (List.mem_append_right _ h))) (pcs_cons (fun w h => List.mem_cons_of_mem _ (List.mem_append_right _ h)) pcs_nil)))
noncomputable def pcs_X12_read : List (List Cond) := [[.code yX12_read cX12_read 7 (some .int)], wsX12_read_r1, wsX12_read_r2, wsX120]
theorem pc_X12_read : ∀ l ∈ pcs_X12_read, ∀ w ∈ l, w ∈ wsX12_read := pcs_cons (fun w h => List.mem_cons.mpr (Or.inl (List.mem_singleton.mp h))) (pcs_cons (fun w h => List.mem_cons_of_mem _ (List.mem_append_left _ (List.mem_append_left _ h))) (pcs_cons (fun w h => List.mem_cons_of_mem _ (List.mem_append_left _ (List.mem_append_right _ h))) (pcs_cons (fun w h => List.mem_cons_of_mem _ (List.mem_append_right _ h)) pcs_nil)))
theorem gw_V (own : String) (idx : Nat) (C : String) (y : MethodName) : ([.methodLink own idx y, .instanceMethod y, .selects C y y, .initialized C] : List Cond).all goodWord = true := by first | exact rfl | simp [goodWord, Cond.onTables, Cond.keeps, Cond.steady]
theorem gw_S (own : String) (idx : Nat) (y : MethodName) : ([.methodLink own idx y, .static y, .initialized y.cls] : List Cond).all goodWord = true := by first | exact rfl | simp [goodWord, Cond.onTables, Cond.keeps, Cond.steady]
set_option maxRecDepth 20000 in
theorem gw_J7_fill_53178 : wsJ7_fill_53178.all goodWord = true := by decide +kernel
set_option maxRecDepth 20000 in
theorem gw_X3_isMissing : wsX3_isMissing.all goodWord = true := by decide +kernel
set_option maxRecDepth 20000 in
theorem gw_X6_lets : wsX6_lets.all goodWord = true := by decide +kernel
set_option maxRecDepth 20000 in
theorem gw_X5_lets : wsX5_lets.all goodWord = true := by decide +kernel
set_option maxRecDepth 20000 in
theorem gw_X9_lets : wsX9_lets.all goodWord = true := by decide +kernel
set_option maxRecDepth 20000 in
theorem gw_X0_asRoom : wsX0_asRoom.all goodWord = true := by decide +kernel
set_option maxRecDepth 20000 in
theorem gw_X0_reachedFrom : wsX0_reachedFrom.all goodWord = true := by decide +kernel
set_option maxRecDepth 20000 in
theorem gw_X0_findWay : wsX0_findWay.all goodWord = true := by decide +kernel
set_option maxRecDepth 20000 in
theorem gw_X0_sendAlongWay : wsX0_sendAlongWay.all goodWord = true := by decide +kernel
set_option maxRecDepth 20000 in
theorem gw_X0_sendOver : wsX0_sendOver.all goodWord = true := by decide +kernel
set_option maxRecDepth 20000 in
theorem gw_X0_reaching : wsX0_reaching.all goodWord = true := by decide +kernel
set_option maxRecDepth 20000 in
theorem gw_X0_betweenSets : wsX0_betweenSets.all goodWord = true := by decide +kernel
set_option maxRecDepth 20000 in
theorem gw_X0_load : wsX0_load.all goodWord = true := by decide +kernel
set_option maxRecDepth 20000 in
theorem gw_X1_hang : wsX1_hang.all goodWord = true := by decide +kernel
set_option maxRecDepth 20000 in
theorem gw_X0_fill : wsX0_fill.all goodWord = true := by decide +kernel
set_option maxRecDepth 20000 in
theorem gw_X0_nearCut : wsX0_nearCut.all goodWord = true := by decide +kernel
set_option maxRecDepth 20000 in
theorem gw_X1_stepsToRoot : wsX1_stepsToRoot.all goodWord = true := by decide +kernel
set_option maxRecDepth 20000 in
theorem gw_X1_leastOnWay : wsX1_leastOnWay.all goodWord = true := by decide +kernel
set_option maxRecDepth 20000 in
theorem gw_X1_leastAlike : wsX1_leastAlike.all goodWord = true := by decide +kernel
set_option maxRecDepth 20000 in
theorem gw_X6_init : wsX6_init.all goodWord = true := by decide +kernel
set_option maxRecDepth 20000 in
theorem gw_X3_hasPlace : wsX3_hasPlace.all goodWord = true := by decide +kernel
set_option maxRecDepth 20000 in
theorem gw_X3_renumbered : wsX3_renumbered.all goodWord = true := by decide +kernel
set_option maxRecDepth 20000 in
theorem gw_X4_number : wsX4_number.all goodWord = true := by decide +kernel
set_option maxRecDepth 20000 in
theorem gw_X4_isThere : wsX4_isThere.all goodWord = true := by decide +kernel
set_option maxRecDepth 20000 in
theorem gw_X4_hasRow : wsX4_hasRow.all goodWord = true := by decide +kernel
set_option maxRecDepth 20000 in
theorem gw_X4_hasNumbers : wsX4_hasNumbers.all goodWord = true := by decide +kernel
set_option maxRecDepth 20000 in
theorem gw_X6_letsMark : wsX6_letsMark.all goodWord = true := by decide +kernel
set_option maxRecDepth 20000 in
theorem gw_X7_hunt : wsX7_hunt.all goodWord = true := by decide +kernel
set_option maxRecDepth 20000 in
theorem gw_X7_chooseForCut : wsX7_chooseForCut.all goodWord = true := by decide +kernel
set_option maxRecDepth 20000 in
theorem gw_X7_meet : wsX7_meet.all goodWord = true := by decide +kernel
set_option maxRecDepth 20000 in
theorem gw_X7_letIn : wsX7_letIn.all goodWord = true := by decide +kernel
set_option maxRecDepth 20000 in
theorem gw_X7_letOut : wsX7_letOut.all goodWord = true := by decide +kernel
set_option maxRecDepth 20000 in
theorem gw_X7_chooseForDense : wsX7_chooseForDense.all goodWord = true := by decide +kernel
set_option maxRecDepth 20000 in
theorem gw_X7_compareDense : wsX7_compareDense.all goodWord = true := by decide +kernel
set_option maxRecDepth 20000 in
theorem gw_J6_bitCount_0f7a4 : wsJ6_bitCount_0f7a4.all goodWord = true := by decide +kernel
set_option maxRecDepth 20000 in
theorem gw_X2_init : wsX2_init.all goodWord = true := by decide +kernel
set_option maxRecDepth 20000 in
theorem gw_X2_costs : wsX2_costs.all goodWord = true := by decide +kernel
set_option maxRecDepth 20000 in
theorem gw_X2_costsMark : wsX2_costsMark.all goodWord = true := by decide +kernel
set_option maxRecDepth 20000 in
theorem gw_X10_findPrices : wsX10_findPrices.all goodWord = true := by decide +kernel
set_option maxRecDepth 20000 in
theorem gw_X10_findCosts : wsX10_findCosts.all goodWord = true := by decide +kernel
set_option maxRecDepth 20000 in
theorem gw_X10_roomOfWay : wsX10_roomOfWay.all goodWord = true := by decide +kernel
set_option maxRecDepth 20000 in
theorem gw_X10_sendAlongWay : wsX10_sendAlongWay.all goodWord = true := by decide +kernel
set_option maxRecDepth 20000 in
theorem gw_X6_costs : wsX6_costs.all goodWord = true := by decide +kernel
set_option maxRecDepth 20000 in
theorem gw_X8_costs : wsX8_costs.all goodWord = true := by decide +kernel
set_option maxRecDepth 20000 in
theorem gw_X10_lookFrom : wsX10_lookFrom.all goodWord = true := by decide +kernel
set_option maxRecDepth 20000 in
theorem gw_X10_stepCosts : wsX10_stepCosts.all goodWord = true := by decide +kernel
set_option maxRecDepth 20000 in
theorem gw_X10_stepRoom : wsX10_stepRoom.all goodWord = true := by decide +kernel
set_option maxRecDepth 20000 in
theorem gw_X5_init : wsX5_init.all goodWord = true := by decide +kernel
set_option maxRecDepth 20000 in
theorem gw_X9_init : wsX9_init.all goodWord = true := by decide +kernel
set_option maxRecDepth 20000 in
theorem gw_X8_init : wsX8_init.all goodWord = true := by decide +kernel
set_option maxRecDepth 20000 in
theorem gw_X3_init : wsX3_init.all goodWord = true := by decide +kernel
set_option maxRecDepth 20000 in
theorem gw_X0_init : wsX0_init.all goodWord = true := by decide +kernel
set_option maxRecDepth 20000 in
theorem gw_X7_init : wsX7_init.all goodWord = true := by decide +kernel
set_option maxRecDepth 20000 in
theorem gw_X1_init : wsX1_init.all goodWord = true := by decide +kernel
set_option maxRecDepth 20000 in
theorem gw_X10_init : wsX10_init.all goodWord = true := by decide +kernel
set_option maxRecDepth 20000 in
theorem gw_X4_init : wsX4_init.all goodWord = true := by decide +kernel
set_option maxRecDepth 20000 in
theorem gw_X11_remember : wsX11_remember.all goodWord = true := by decide +kernel
set_option maxRecDepth 20000 in
theorem gw_X11_lineRefusal : wsX11_lineRefusal.all goodWord = true := by decide +kernel
set_option maxRecDepth 20000 in
theorem gw_X6_beginsMark : wsX6_beginsMark.all goodWord = true := by decide +kernel
set_option maxRecDepth 20000 in
theorem gw_X8_beginsMark : wsX8_beginsMark.all goodWord = true := by decide +kernel
set_option maxRecDepth 20000 in
theorem gw_X11_addLine : wsX11_addLine.all goodWord = true := by decide +kernel
set_option maxRecDepth 20000 in
theorem gw_X3_hasLine : wsX3_hasLine.all goodWord = true := by decide +kernel
set_option maxRecDepth 20000 in
theorem gw_X6_costsMark : wsX6_costsMark.all goodWord = true := by decide +kernel
set_option maxRecDepth 20000 in
theorem gw_X8_costsMark : wsX8_costsMark.all goodWord = true := by decide +kernel
set_option maxRecDepth 20000 in
theorem gw_X3_hasPair : wsX3_hasPair.all goodWord = true := by decide +kernel
set_option maxRecDepth 20000 in
theorem gw_X3_join : wsX3_join.all goodWord = true := by decide +kernel
set_option maxRecDepth 20000 in
theorem gw_X3_become : wsX3_become.all goodWord = true := by decide +kernel
set_option maxRecDepth 20000 in
theorem gw_X5_letsMark : wsX5_letsMark.all goodWord = true := by decide +kernel
set_option maxRecDepth 20000 in
theorem gw_X9_letsMark : wsX9_letsMark.all goodWord = true := by decide +kernel
set_option maxRecDepth 20000 in
theorem gw_X11_mostNow : wsX11_mostNow.all goodWord = true := by decide +kernel
set_option maxRecDepth 20000 in
theorem gw_X0_farCut : wsX0_farCut.all goodWord = true := by decide +kernel
set_option maxRecDepth 20000 in
theorem gw_X7_countCuts : wsX7_countCuts.all goodWord = true := by decide +kernel
set_option maxRecDepth 20000 in
theorem gw_X7_findCut : wsX7_findCut.all goodWord = true := by decide +kernel
set_option maxRecDepth 20000 in
theorem gw_X0_leaving : wsX0_leaving.all goodWord = true := by decide +kernel
set_option maxRecDepth 20000 in
theorem gw_X10_pay : wsX10_pay.all goodWord = true := by decide +kernel
set_option maxRecDepth 20000 in
theorem gw_X3_isWhole : wsX3_isWhole.all goodWord = true := by decide +kernel
set_option maxRecDepth 20000 in
theorem gw_X1_grow : wsX1_grow.all goodWord = true := by decide +kernel
set_option maxRecDepth 20000 in
theorem gw_X1_leastNumber : wsX1_leastNumber.all goodWord = true := by decide +kernel
set_option maxRecDepth 20000 in
theorem gw_X1_partsBelow : wsX1_partsBelow.all goodWord = true := by decide +kernel
set_option maxRecDepth 20000 in
theorem gw_X7_findDensest : wsX7_findDensest.all goodWord = true := by decide +kernel
set_option maxRecDepth 20000 in
theorem gw_X11_mapRefusal : wsX11_mapRefusal.all goodWord = true := by decide +kernel
set_option maxRecDepth 20000 in
theorem gw_X4_begin : wsX4_begin.all goodWord = true := by decide +kernel
set_option maxRecDepth 20000 in
theorem gw_X11_rowRefusal : wsX11_rowRefusal.all goodWord = true := by decide +kernel
set_option maxRecDepth 20000 in
theorem gw_X4_beginRow : wsX4_beginRow.all goodWord = true := by decide +kernel
set_option maxRecDepth 20000 in
theorem gw_X11_numberRefusal : wsX11_numberRefusal.all goodWord = true := by decide +kernel
set_option maxRecDepth 20000 in
theorem gw_X4_store : wsX4_store.all goodWord = true := by decide +kernel
set_option maxRecDepth 20000 in
theorem gw_X11_isMapNumber : wsX11_isMapNumber.all goodWord = true := by decide +kernel
set_option maxRecDepth 20000 in
theorem gw_X4_moveRefusal : wsX4_moveRefusal.all goodWord = true := by decide +kernel
set_option maxRecDepth 20000 in
theorem gw_X4_move : wsX4_move.all goodWord = true := by decide +kernel
set_option maxRecDepth 20000 in
theorem gw_X11_readRefusal : wsX11_readRefusal.all goodWord = true := by decide +kernel
set_option maxRecDepth 20000 in
theorem gw_X4_whole : wsX4_whole.all goodWord = true := by decide +kernel
set_option maxRecDepth 20000 in
theorem gw_X3_missingLines : wsX3_missingLines.all goodWord = true := by decide +kernel
set_option maxRecDepth 20000 in
theorem gw_X6_begins : wsX6_begins.all goodWord = true := by decide +kernel
set_option maxRecDepth 20000 in
theorem gw_X8_begins : wsX8_begins.all goodWord = true := by decide +kernel
set_option maxRecDepth 20000 in
theorem gw_X3_append : wsX3_append.all goodWord = true := by decide +kernel
set_option maxRecDepth 20000 in
theorem gw_X11_isMapKind : wsX11_isMapKind.all goodWord = true := by decide +kernel
set_option maxRecDepth 20000 in
theorem gw_X12_in : wsX12_in.all goodWord = true := by decide +kernel
set_option maxRecDepth 20000 in
theorem gw_X12_isPlace : wsX12_isPlace.all goodWord = true := by decide +kernel
set_option maxRecDepth 20000 in
theorem gw_X12_keeps : wsX12_keeps.all goodWord = true := by decide +kernel
set_option maxRecDepth 20000 in
theorem gw_X12_refused : wsX12_refused.all goodWord = true := by decide +kernel
set_option maxRecDepth 20000 in
theorem gw_X12_adds : wsX12_adds.all goodWord = true := by decide +kernel
set_option maxRecDepth 20000 in
theorem gw_X12_isLine : wsX12_isLine.all goodWord = true := by decide +kernel
set_option maxRecDepth 20000 in
theorem gw_X12_costs : wsX12_costs.all goodWord = true := by decide +kernel
set_option maxRecDepth 20000 in
theorem gw_X12_costsTrace : wsX12_costsTrace.all goodWord = true := by decide +kernel
set_option maxRecDepth 20000 in
theorem gw_X12_arePlaces : wsX12_arePlaces.all goodWord = true := by decide +kernel
set_option maxRecDepth 20000 in
theorem gw_X12_lets : wsX12_lets.all goodWord = true := by decide +kernel
set_option maxRecDepth 20000 in
theorem gw_X12_room : wsX12_room.all goodWord = true := by decide +kernel
set_option maxRecDepth 20000 in
theorem gw_X12_sizeOf : wsX12_sizeOf.all goodWord = true := by decide +kernel
set_option maxRecDepth 20000 in
theorem gw_X12_mostOf : wsX12_mostOf.all goodWord = true := by decide +kernel
set_option maxRecDepth 20000 in
theorem gw_X12_asTold : wsX12_asTold.all goodWord = true := by decide +kernel
set_option maxRecDepth 20000 in
theorem gw_X12_left : wsX12_left.all goodWord = true := by decide +kernel
set_option maxRecDepth 20000 in
theorem gw_X12_isMet : wsX12_isMet.all goodWord = true := by decide +kernel
set_option maxRecDepth 20000 in
theorem gw_X12_leftOf : wsX12_leftOf.all goodWord = true := by decide +kernel
set_option maxRecDepth 20000 in
theorem gw_X12_hasWay : wsX12_hasWay.all goodWord = true := by decide +kernel
set_option maxRecDepth 20000 in
theorem gw_X12_flowOf : wsX12_flowOf.all goodWord = true := by decide +kernel
set_option maxRecDepth 20000 in
theorem gw_X12_bitsOf : wsX12_bitsOf.all goodWord = true := by decide +kernel
set_option maxRecDepth 20000 in
theorem gw_X12_cutsOf : wsX12_cutsOf.all goodWord = true := by decide +kernel
set_option maxRecDepth 20000 in
theorem gw_X12_step : wsX12_step.all goodWord = true := by decide +kernel
set_option maxRecDepth 20000 in
theorem gw_X12_cheapWay : wsX12_cheapWay.all goodWord = true := by decide +kernel
set_option maxRecDepth 20000 in
theorem gw_X12_amount : wsX12_amount.all goodWord = true := by decide +kernel
set_option maxRecDepth 20000 in
theorem gw_X12_isWhole : wsX12_isWhole.all goodWord = true := by decide +kernel
set_option maxRecDepth 20000 in
theorem gw_X12_plants : wsX12_plants.all goodWord = true := by decide +kernel
set_option maxRecDepth 20000 in
theorem gw_X12_leastOf : wsX12_leastOf.all goodWord = true := by decide +kernel
set_option maxRecDepth 20000 in
theorem gw_X12_wholeCuts : wsX12_wholeCuts.all goodWord = true := by decide +kernel
set_option maxRecDepth 20000 in
theorem gw_X12_no : wsX12_no.all goodWord = true := by decide +kernel
set_option maxRecDepth 20000 in
theorem gw_X12_wrong : wsX12_wrong.all goodWord = true := by decide +kernel
set_option maxRecDepth 20000 in
theorem gw_X12_areThere : wsX12_areThere.all goodWord = true := by decide +kernel
set_option maxRecDepth 20000 in
theorem ggX12_isPlace_X12_in : GoodIn wsX12_isPlace wsX12_in := goodIn_r _ [5] rfl gw_X12_in
set_option maxRecDepth 20000 in
theorem gX12_isPlace_X12_in : GoodIn wsX12_isPlace (va_wsS RX12 91 yX12_in wsX12_in) := goodIn_app (goodIn_r _ [2, 3, 4] rfl (gw_S _ _ _)) ggX12_isPlace_X12_in
set_option maxRecDepth 20000 in
theorem ggX12_isLine_X12_in : GoodIn wsX12_isLine wsX12_in := goodIn_r _ [5] rfl gw_X12_in
set_option maxRecDepth 20000 in
theorem gX12_isLine_X12_in : GoodIn wsX12_isLine (va_wsS RX12 91 yX12_in wsX12_in) := goodIn_app (goodIn_r _ [2, 3, 4] rfl (gw_S _ _ _)) ggX12_isLine_X12_in
set_option maxRecDepth 20000 in
theorem ggX12_arePlaces_X12_isPlace : GoodIn wsX12_arePlaces wsX12_isPlace := goodIn_r _ [5, 6, 7, 8, 4, 9, 10, 11, 12, 13, 14, 15, 16, 17, 18, 19, 20, 21, 22, 23, 24, 25, 26, 27, 28, 29, 30, 31, 32, 33, 34, 35, 36, 37, 38, 39, 40, 41, 42, 43] rfl gw_X12_isPlace
set_option maxRecDepth 20000 in
theorem gX12_arePlaces_X12_isPlace : GoodIn wsX12_arePlaces (wsV RX12 98 RX12 yX12_isPlace wsX12_isPlace) := goodIn_app (goodIn_r _ [1, 2, 3, 4] rfl (gw_V _ _ _ _)) ggX12_arePlaces_X12_isPlace
set_option maxRecDepth 20000 in
theorem ggX12_place_X12_keeps : GoodIn wsX12_place wsX12_keeps := goodIn_r _ [7, 8, 9, 10, 11, 2, 12, 13, 14, 15, 16, 17, 18, 19, 20, 21, 22, 23, 24, 25, 26, 27, 28, 29, 30, 31, 32, 33, 34, 35, 36, 37, 38, 39, 40, 41, 42, 43, 44, 45, 46, 47, 48, 49, 50, 51, 52] rfl gw_X12_keeps
set_option maxRecDepth 20000 in
theorem gX12_place_X12_keeps : GoodIn wsX12_place (wsV RX12 105 RX12 yX12_keeps wsX12_keeps) := goodIn_app (goodIn_r _ [3, 4, 5, 6] rfl (gw_V _ _ _ _)) ggX12_place_X12_keeps
set_option maxRecDepth 20000 in
theorem ggX12_refused_X12_in : GoodIn wsX12_refused wsX12_in := goodIn_r _ [9] rfl gw_X12_in
set_option maxRecDepth 20000 in
theorem gX12_refused_X12_in : GoodIn wsX12_refused (va_wsS RX12 91 yX12_in wsX12_in) := goodIn_app (goodIn_r _ [6, 7, 8] rfl (gw_S _ _ _)) ggX12_refused_X12_in
set_option maxRecDepth 20000 in
theorem ggX12_line_X12_refused : GoodIn wsX12_line wsX12_refused := gdp_In _ pcs_X12_line pc_X12_line [(1, 6), (1, 7), (1, 8), (1, 9), (1, 10), (1, 1), (1, 11), (1, 12), (1, 5), (1, 13), (3, 0), (3, 1), (3, 2), (3, 3), (3, 4), (3, 5), (3, 6), (3, 7), (3, 8), (3, 9), (3, 10), (3, 11), (3, 12), (3, 13), (3, 14), (3, 15), (3, 16), (3, 17), (3, 18), (3, 19), (3, 20), (3, 21), (3, 22), (3, 23), (3, 24), (3, 25), (3, 26), (3, 27), (3, 28), (3, 29), (3, 30), (3, 31), (3, 32), (3, 33)] rfl gw_X12_refused
set_option maxRecDepth 20000 in
theorem gX12_line_X12_refused : GoodIn wsX12_line (wsV RX12 120 RX12 yX12_refused wsX12_refused) := goodIn_app (gdp_In _ pcs_X12_line pc_X12_line [(1, 2), (1, 3), (1, 4), (1, 5)] rfl (gw_V _ _ _ _)) ggX12_line_X12_refused
set_option maxRecDepth 20000 in
theorem ggX12_line_X12_keeps : GoodIn wsX12_line wsX12_keeps := gdp_In _ pcs_X12_line pc_X12_line [(1, 17), (1, 18), (1, 19), (1, 20), (1, 21), (1, 8), (1, 1), (1, 22), (1, 23), (2, 0), (2, 1), (2, 2), (2, 3), (3, 0), (3, 1), (3, 2), (3, 3), (3, 4), (3, 5), (3, 6), (3, 7), (3, 8), (3, 9), (3, 10), (3, 11), (3, 12), (3, 13), (3, 14), (3, 15), (3, 16), (3, 17), (3, 18), (3, 19), (3, 20), (3, 21), (3, 22), (3, 23), (3, 24), (3, 25), (3, 26), (3, 27), (3, 28), (3, 29), (3, 30), (3, 31), (3, 32), (3, 33)] rfl gw_X12_keeps
set_option maxRecDepth 20000 in
theorem gX12_line_X12_keeps : GoodIn wsX12_line (wsV RX12 105 RX12 yX12_keeps wsX12_keeps) := goodIn_app (gdp_In _ pcs_X12_line pc_X12_line [(1, 14), (1, 15), (1, 16), (1, 5)] rfl (gw_V _ _ _ _)) ggX12_line_X12_keeps
set_option maxRecDepth 20000 in
theorem ggX12_line_X12_adds : GoodIn wsX12_line wsX12_adds := gdp_In _ pcs_X12_line pc_X12_line [(2, 7), (1, 22), (1, 1), (1, 23), (2, 0), (2, 1), (2, 2), (2, 3), (2, 8), (2, 9), (3, 0), (3, 1), (3, 2), (3, 3), (3, 4), (3, 5), (3, 6), (3, 7), (3, 8), (3, 9), (3, 10), (3, 11), (3, 12), (3, 13), (3, 14), (3, 15), (3, 16), (3, 17), (3, 18), (3, 19), (3, 20), (3, 21), (3, 22), (3, 23), (3, 24), (3, 25), (3, 26), (3, 27), (3, 28), (3, 29), (3, 30), (3, 31), (3, 32), (3, 33)] rfl gw_X12_adds
set_option maxRecDepth 20000 in
theorem gX12_line_X12_adds : GoodIn wsX12_line (wsV RX12 124 RX12 yX12_adds wsX12_adds) := goodIn_app (gdp_In _ pcs_X12_line pc_X12_line [(2, 4), (2, 5), (2, 6), (1, 5)] rfl (gw_V _ _ _ _)) ggX12_line_X12_adds
set_option maxRecDepth 20000 in
theorem ggX12_widen_X12_isLine : GoodIn wsX12_widen wsX12_isLine := gdp_In _ pcs_X12_widen pc_X12_widen [(1, 9), (1, 10), (1, 11), (1, 12), (1, 8), (1, 13), (3, 0), (3, 1), (3, 2), (3, 3), (3, 4), (3, 5), (3, 6), (3, 7), (3, 8), (3, 9), (3, 10), (3, 11), (3, 12), (3, 13), (3, 14), (3, 15), (3, 16), (3, 17), (3, 18), (3, 19), (3, 20), (3, 21), (3, 22), (3, 23), (3, 24), (3, 25), (3, 26), (3, 27), (3, 28), (3, 29), (3, 30), (3, 31), (3, 32), (3, 33)] rfl gw_X12_isLine
set_option maxRecDepth 20000 in
theorem gX12_widen_X12_isLine : GoodIn wsX12_widen (wsV RX12 132 RX12 yX12_isLine wsX12_isLine) := goodIn_app (gdp_In _ pcs_X12_widen pc_X12_widen [(1, 5), (1, 6), (1, 7), (1, 8)] rfl (gw_V _ _ _ _)) ggX12_widen_X12_isLine
set_option maxRecDepth 20000 in
theorem ggX12_widen_X12_in : GoodIn wsX12_widen wsX12_in := gdp_In _ pcs_X12_widen pc_X12_widen [(1, 13)] rfl gw_X12_in
set_option maxRecDepth 20000 in
theorem gX12_widen_X12_in : GoodIn wsX12_widen (va_wsS RX12 91 yX12_in wsX12_in) := goodIn_app (gdp_In _ pcs_X12_widen pc_X12_widen [(1, 11), (1, 12), (1, 8)] rfl (gw_S _ _ _)) ggX12_widen_X12_in
set_option maxRecDepth 20000 in
theorem ggX12_widen_X12_costs : GoodIn wsX12_widen wsX12_costs := gdp_In _ pcs_X12_widen pc_X12_widen [(1, 17), (1, 18), (1, 19), (3, 0), (3, 1), (3, 2), (3, 3), (3, 4), (3, 5), (3, 6), (3, 7), (3, 8), (3, 9), (3, 10), (3, 11), (3, 12), (3, 13), (3, 14), (3, 15), (3, 16), (3, 17), (3, 18), (3, 19), (3, 20), (3, 21), (3, 22), (3, 23), (3, 24), (3, 25), (3, 26), (3, 27), (3, 28), (3, 29), (3, 30), (3, 31), (3, 32), (3, 33)] rfl gw_X12_costs
set_option maxRecDepth 20000 in
theorem gX12_widen_X12_costs : GoodIn wsX12_widen (wsV RX12 135 RX12 yX12_costs wsX12_costs) := goodIn_app (gdp_In _ pcs_X12_widen pc_X12_widen [(1, 14), (1, 15), (1, 16), (1, 8)] rfl (gw_V _ _ _ _)) ggX12_widen_X12_costs
set_option maxRecDepth 20000 in
theorem ggX12_widen_X12_keeps : GoodIn wsX12_widen wsX12_keeps := gdp_In _ pcs_X12_widen pc_X12_widen [(1, 23), (2, 0), (2, 1), (2, 2), (2, 3), (2, 4), (1, 10), (1, 18), (2, 5), (2, 6), (1, 3), (1, 19), (1, 2), (3, 0), (3, 1), (3, 2), (3, 3), (3, 4), (3, 5), (3, 6), (3, 7), (3, 8), (3, 9), (3, 10), (3, 11), (3, 12), (3, 13), (3, 14), (3, 15), (3, 16), (3, 17), (3, 18), (3, 19), (3, 20), (3, 21), (3, 22), (3, 23), (3, 24), (3, 25), (3, 26), (3, 27), (3, 28), (3, 29), (3, 30), (3, 31), (3, 32), (3, 33)] rfl gw_X12_keeps
set_option maxRecDepth 20000 in
theorem gX12_widen_X12_keeps : GoodIn wsX12_widen (wsV RX12 105 RX12 yX12_keeps wsX12_keeps) := goodIn_app (gdp_In _ pcs_X12_widen pc_X12_widen [(1, 20), (1, 21), (1, 22), (1, 8)] rfl (gw_V _ _ _ _)) ggX12_widen_X12_keeps
set_option maxRecDepth 20000 in
theorem ggX12_widen_X12_costsTrace : GoodIn wsX12_widen wsX12_costsTrace := gdp_In _ pcs_X12_widen pc_X12_widen [(2, 10), (1, 18), (2, 11), (2, 12), (1, 1), (3, 0), (3, 1), (3, 2), (3, 3), (3, 4), (3, 5), (3, 6), (3, 7), (3, 8), (3, 9), (3, 10), (3, 11), (3, 12), (3, 13), (3, 14), (3, 15), (3, 16), (3, 17), (3, 18), (3, 19), (3, 20), (3, 21), (3, 22), (3, 23), (3, 24), (3, 25), (3, 26), (3, 27), (3, 28), (3, 29), (3, 30), (3, 31), (3, 32), (3, 33)] rfl gw_X12_costsTrace
set_option maxRecDepth 20000 in
theorem gX12_widen_X12_costsTrace : GoodIn wsX12_widen (wsV RX12 139 RX12 yX12_costsTrace wsX12_costsTrace) := goodIn_app (gdp_In _ pcs_X12_widen pc_X12_widen [(2, 7), (2, 8), (2, 9), (1, 8)] rfl (gw_V _ _ _ _)) ggX12_widen_X12_costsTrace
set_option maxRecDepth 20000 in
theorem ggX12_width_X12_isLine : GoodIn wsX12_width wsX12_isLine := gdp_In _ pcs_X12_width pc_X12_width [(1, 8), (1, 9), (1, 10), (1, 11), (1, 7), (1, 12), (3, 0), (3, 1), (3, 2), (3, 3), (3, 4), (3, 5), (3, 6), (3, 7), (3, 8), (3, 9), (3, 10), (3, 11), (3, 12), (3, 13), (3, 14), (3, 15), (3, 16), (3, 17), (3, 18), (3, 19), (3, 20), (3, 21), (3, 22), (3, 23), (3, 24), (3, 25), (3, 26), (3, 27), (3, 28), (3, 29), (3, 30), (3, 31), (3, 32), (3, 33)] rfl gw_X12_isLine
set_option maxRecDepth 20000 in
theorem gX12_width_X12_isLine : GoodIn wsX12_width (wsV RX12 132 RX12 yX12_isLine wsX12_isLine) := goodIn_app (gdp_In _ pcs_X12_width pc_X12_width [(1, 4), (1, 5), (1, 6), (1, 7)] rfl (gw_V _ _ _ _)) ggX12_width_X12_isLine
set_option maxRecDepth 20000 in
theorem ggX12_width_X12_in : GoodIn wsX12_width wsX12_in := gdp_In _ pcs_X12_width pc_X12_width [(1, 12)] rfl gw_X12_in
set_option maxRecDepth 20000 in
theorem gX12_width_X12_in : GoodIn wsX12_width (va_wsS RX12 91 yX12_in wsX12_in) := goodIn_app (gdp_In _ pcs_X12_width pc_X12_width [(1, 10), (1, 11), (1, 7)] rfl (gw_S _ _ _)) ggX12_width_X12_in
set_option maxRecDepth 20000 in
theorem ggX12_width_X12_keeps : GoodIn wsX12_width wsX12_keeps := gdp_In _ pcs_X12_width pc_X12_width [(1, 16), (1, 17), (1, 18), (1, 19), (1, 20), (1, 21), (1, 9), (1, 22), (1, 23), (2, 0), (1, 3), (2, 1), (1, 2), (3, 0), (3, 1), (3, 2), (3, 3), (3, 4), (3, 5), (3, 6), (3, 7), (3, 8), (3, 9), (3, 10), (3, 11), (3, 12), (3, 13), (3, 14), (3, 15), (3, 16), (3, 17), (3, 18), (3, 19), (3, 20), (3, 21), (3, 22), (3, 23), (3, 24), (3, 25), (3, 26), (3, 27), (3, 28), (3, 29), (3, 30), (3, 31), (3, 32), (3, 33)] rfl gw_X12_keeps
set_option maxRecDepth 20000 in
theorem gX12_width_X12_keeps : GoodIn wsX12_width (wsV RX12 105 RX12 yX12_keeps wsX12_keeps) := goodIn_app (gdp_In _ pcs_X12_width pc_X12_width [(1, 13), (1, 14), (1, 15), (1, 7)] rfl (gw_V _ _ _ _)) ggX12_width_X12_keeps
set_option maxRecDepth 20000 in
theorem ggX12_merge_X12_arePlaces : GoodIn wsX12_merge wsX12_arePlaces := gdp_In _ pcs_X12_merge pc_X12_merge [(1, 10), (1, 11), (1, 12), (1, 13), (1, 9), (1, 14), (1, 5), (1, 15), (1, 16), (1, 17), (3, 0), (3, 1), (3, 2), (3, 3), (3, 4), (3, 5), (3, 6), (3, 7), (3, 8), (3, 9), (3, 10), (3, 11), (3, 12), (3, 13), (3, 14), (3, 15), (3, 16), (3, 17), (3, 18), (3, 19), (3, 20), (3, 21), (3, 22), (3, 23), (3, 24), (3, 25), (3, 26), (3, 27), (3, 28), (3, 29), (3, 30), (3, 31), (3, 32), (3, 33)] rfl gw_X12_arePlaces
set_option maxRecDepth 20000 in
theorem gX12_merge_X12_arePlaces : GoodIn wsX12_merge (wsV RX12 143 RX12 yX12_arePlaces wsX12_arePlaces) := goodIn_app (gdp_In _ pcs_X12_merge pc_X12_merge [(1, 6), (1, 7), (1, 8), (1, 9)] rfl (gw_V _ _ _ _)) ggX12_merge_X12_arePlaces
set_option maxRecDepth 20000 in
theorem ggX12_merge_X12_keeps : GoodIn wsX12_merge wsX12_keeps := gdp_In _ pcs_X12_merge pc_X12_merge [(1, 21), (1, 22), (1, 23), (2, 0), (2, 1), (1, 5), (1, 1), (2, 2), (1, 3), (1, 4), (2, 3), (2, 4), (1, 2), (3, 0), (3, 1), (3, 2), (3, 3), (3, 4), (3, 5), (3, 6), (3, 7), (3, 8), (3, 9), (3, 10), (3, 11), (3, 12), (3, 13), (3, 14), (3, 15), (3, 16), (3, 17), (3, 18), (3, 19), (3, 20), (3, 21), (3, 22), (3, 23), (3, 24), (3, 25), (3, 26), (3, 27), (3, 28), (3, 29), (3, 30), (3, 31), (3, 32), (3, 33)] rfl gw_X12_keeps
set_option maxRecDepth 20000 in
theorem gX12_merge_X12_keeps : GoodIn wsX12_merge (wsV RX12 105 RX12 yX12_keeps wsX12_keeps) := goodIn_app (gdp_In _ pcs_X12_merge pc_X12_merge [(1, 18), (1, 19), (1, 20), (1, 9)] rfl (gw_V _ _ _ _)) ggX12_merge_X12_keeps
set_option maxRecDepth 20000 in
theorem ggX12_told_X12_isLine : GoodIn wsX12_told wsX12_isLine := goodIn_r _ [13, 14, 15, 16, 12, 17, 18, 19, 20, 21, 22, 23, 24, 25, 26, 27, 28, 29, 30, 31, 32, 33, 34, 35, 36, 37, 38, 39, 40, 41, 42, 43, 44, 45, 46, 47, 48, 49, 50, 51] rfl gw_X12_isLine
set_option maxRecDepth 20000 in
theorem gX12_told_X12_isLine : GoodIn wsX12_told (wsV RX12 132 RX12 yX12_isLine wsX12_isLine) := goodIn_app (goodIn_r _ [9, 10, 11, 12] rfl (gw_V _ _ _ _)) ggX12_told_X12_isLine
set_option maxRecDepth 20000 in
theorem ggX12_told_X12_in : GoodIn wsX12_told wsX12_in := goodIn_r _ [17] rfl gw_X12_in
set_option maxRecDepth 20000 in
theorem gX12_told_X12_in : GoodIn wsX12_told (va_wsS RX12 91 yX12_in wsX12_in) := goodIn_app (goodIn_r _ [15, 16, 12] rfl (gw_S _ _ _)) ggX12_told_X12_in
set_option maxRecDepth 20000 in
theorem ggX12_ask_X12_isLine : GoodIn wsX12_ask wsX12_isLine := gdp_In _ pcs_X12_ask pc_X12_ask [(1, 11), (1, 12), (1, 13), (1, 14), (1, 10), (1, 15), (3, 0), (3, 1), (3, 2), (3, 3), (3, 4), (3, 5), (3, 6), (3, 7), (3, 8), (3, 9), (3, 10), (3, 11), (3, 12), (3, 13), (3, 14), (3, 15), (3, 16), (3, 17), (3, 18), (3, 19), (3, 20), (3, 21), (3, 22), (3, 23), (3, 24), (3, 25), (3, 26), (3, 27), (3, 28), (3, 29), (3, 30), (3, 31), (3, 32), (3, 33)] rfl gw_X12_isLine
set_option maxRecDepth 20000 in
theorem gX12_ask_X12_isLine : GoodIn wsX12_ask (wsV RX12 132 RX12 yX12_isLine wsX12_isLine) := goodIn_app (gdp_In _ pcs_X12_ask pc_X12_ask [(1, 7), (1, 8), (1, 9), (1, 10)] rfl (gw_V _ _ _ _)) ggX12_ask_X12_isLine
set_option maxRecDepth 20000 in
theorem ggX12_ask_X12_in : GoodIn wsX12_ask wsX12_in := gdp_In _ pcs_X12_ask pc_X12_ask [(1, 15)] rfl gw_X12_in
set_option maxRecDepth 20000 in
theorem gX12_ask_X12_in : GoodIn wsX12_ask (va_wsS RX12 91 yX12_in wsX12_in) := goodIn_app (gdp_In _ pcs_X12_ask pc_X12_ask [(1, 13), (1, 14), (1, 10)] rfl (gw_S _ _ _)) ggX12_ask_X12_in
set_option maxRecDepth 20000 in
theorem ggX12_ask_X12_costsTrace : GoodIn wsX12_ask wsX12_costsTrace := gdp_In _ pcs_X12_ask pc_X12_ask [(1, 19), (1, 3), (1, 20), (1, 21), (1, 22), (3, 0), (3, 1), (3, 2), (3, 3), (3, 4), (3, 5), (3, 6), (3, 7), (3, 8), (3, 9), (3, 10), (3, 11), (3, 12), (3, 13), (3, 14), (3, 15), (3, 16), (3, 17), (3, 18), (3, 19), (3, 20), (3, 21), (3, 22), (3, 23), (3, 24), (3, 25), (3, 26), (3, 27), (3, 28), (3, 29), (3, 30), (3, 31), (3, 32), (3, 33)] rfl gw_X12_costsTrace
set_option maxRecDepth 20000 in
theorem gX12_ask_X12_costsTrace : GoodIn wsX12_ask (wsV RX12 139 RX12 yX12_costsTrace wsX12_costsTrace) := goodIn_app (gdp_In _ pcs_X12_ask pc_X12_ask [(1, 16), (1, 17), (1, 18), (1, 10)] rfl (gw_V _ _ _ _)) ggX12_ask_X12_costsTrace
set_option maxRecDepth 20000 in
theorem ggX12_ask_X12_costs : GoodIn wsX12_ask wsX12_costs := gdp_In _ pcs_X12_ask pc_X12_ask [(2, 2), (1, 3), (2, 3), (3, 0), (3, 1), (3, 2), (3, 3), (3, 4), (3, 5), (3, 6), (3, 7), (3, 8), (3, 9), (3, 10), (3, 11), (3, 12), (3, 13), (3, 14), (3, 15), (3, 16), (3, 17), (3, 18), (3, 19), (3, 20), (3, 21), (3, 22), (3, 23), (3, 24), (3, 25), (3, 26), (3, 27), (3, 28), (3, 29), (3, 30), (3, 31), (3, 32), (3, 33)] rfl gw_X12_costs
set_option maxRecDepth 20000 in
theorem gX12_ask_X12_costs : GoodIn wsX12_ask (wsV RX12 135 RX12 yX12_costs wsX12_costs) := goodIn_app (gdp_In _ pcs_X12_ask pc_X12_ask [(1, 23), (2, 0), (2, 1), (1, 10)] rfl (gw_V _ _ _ _)) ggX12_ask_X12_costs
set_option maxRecDepth 20000 in
theorem ggX12_ask_X12_lets : GoodIn wsX12_ask wsX12_lets := gdp_In _ pcs_X12_ask pc_X12_ask [(2, 7), (1, 3), (2, 8), (3, 0), (3, 1), (3, 2), (3, 3), (3, 4), (3, 5), (3, 6), (3, 7), (3, 8), (3, 9), (3, 10), (3, 11), (3, 12), (3, 13), (3, 14), (3, 15), (3, 16), (3, 17), (3, 18), (3, 19), (3, 20), (3, 21), (3, 22), (3, 23), (3, 24), (3, 25), (3, 26), (3, 27), (3, 28), (3, 29), (3, 30), (3, 31), (3, 32), (3, 33)] rfl gw_X12_lets
set_option maxRecDepth 20000 in
theorem gX12_ask_X12_lets : GoodIn wsX12_ask (wsV RX12 155 RX12 yX12_lets wsX12_lets) := goodIn_app (gdp_In _ pcs_X12_ask pc_X12_ask [(2, 4), (2, 5), (2, 6), (1, 10)] rfl (gw_V _ _ _ _)) ggX12_ask_X12_lets
set_option maxRecDepth 20000 in
theorem ggX12_room_X12_lets : GoodIn wsX12_room wsX12_lets := goodIn_r _ [8, 2, 9, 10, 11, 12, 13, 14, 15, 16, 17, 18, 19, 20, 21, 22, 23, 24, 25, 26, 27, 28, 29, 30, 31, 32, 33, 34, 35, 36, 37, 38, 39, 40, 41, 42, 43] rfl gw_X12_lets
set_option maxRecDepth 20000 in
theorem gX12_room_X12_lets : GoodIn wsX12_room (wsV RX12 155 RX12 yX12_lets wsX12_lets) := goodIn_app (goodIn_r _ [4, 5, 6, 7] rfl (gw_V _ _ _ _)) ggX12_room_X12_lets
set_option maxRecDepth 20000 in
theorem ggX12_sizeOf_X12_room : GoodIn wsX12_sizeOf wsX12_room := goodIn_r _ [10, 11, 12, 5, 13, 14, 15, 9, 16, 17, 18, 19, 20, 21, 22, 23, 24, 25, 26, 27, 28, 29, 30, 31, 32, 33, 34, 35, 36, 37, 38, 39, 40, 41, 42, 43, 44, 45, 46, 47, 48, 49, 50, 51] rfl gw_X12_room
set_option maxRecDepth 20000 in
theorem gX12_sizeOf_X12_room : GoodIn wsX12_sizeOf (wsV RX12 160 RX12 yX12_room wsX12_room) := goodIn_app (goodIn_r _ [6, 7, 8, 9] rfl (gw_V _ _ _ _)) ggX12_sizeOf_X12_room
set_option maxRecDepth 20000 in
theorem ggX12_mostOf_X12_sizeOf : GoodIn wsX12_mostOf wsX12_sizeOf := goodIn_r _ [7, 8, 9, 10, 11, 1, 12, 13, 14, 6, 15, 16, 17, 18, 19, 20, 21, 22, 23, 24, 25, 26, 27, 28, 29, 30, 31, 32, 33, 34, 35, 36, 37, 38, 39, 40, 41, 42, 43, 44, 45, 46, 47, 48, 49, 50, 51, 52, 53, 54, 55, 56] rfl gw_X12_sizeOf
set_option maxRecDepth 20000 in
theorem gX12_mostOf_X12_sizeOf : GoodIn wsX12_mostOf (wsV RX12 163 RX12 yX12_sizeOf wsX12_sizeOf) := goodIn_app (goodIn_r _ [3, 4, 5, 6] rfl (gw_V _ _ _ _)) ggX12_mostOf_X12_sizeOf
set_option maxRecDepth 20000 in
theorem ggX12_most_X12_arePlaces : GoodIn wsX12_most wsX12_arePlaces := gdp_In _ pcs_X12_most pc_X12_most [(1, 5), (1, 6), (1, 7), (1, 8), (1, 4), (1, 9), (1, 10), (1, 11), (1, 12), (1, 13), (3, 0), (3, 1), (3, 2), (3, 3), (3, 4), (3, 5), (3, 6), (3, 7), (3, 8), (3, 9), (3, 10), (3, 11), (3, 12), (3, 13), (3, 14), (3, 15), (3, 16), (3, 17), (3, 18), (3, 19), (3, 20), (3, 21), (3, 22), (3, 23), (3, 24), (3, 25), (3, 26), (3, 27), (3, 28), (3, 29), (3, 30), (3, 31), (3, 32), (3, 33)] rfl gw_X12_arePlaces
set_option maxRecDepth 20000 in
theorem gX12_most_X12_arePlaces : GoodIn wsX12_most (wsV RX12 143 RX12 yX12_arePlaces wsX12_arePlaces) := goodIn_app (gdp_In _ pcs_X12_most pc_X12_most [(1, 1), (1, 2), (1, 3), (1, 4)] rfl (gw_V _ _ _ _)) ggX12_most_X12_arePlaces
set_option maxRecDepth 20000 in
theorem ggX12_most_X12_mostOf : GoodIn wsX12_most wsX12_mostOf := gdp_In _ pcs_X12_most pc_X12_most [(1, 17), (1, 18), (1, 10), (1, 19), (1, 20), (1, 21), (1, 4), (1, 22), (1, 23), (2, 0), (2, 1), (2, 2), (2, 3), (2, 4), (2, 5), (2, 6), (2, 7), (2, 8), (2, 9), (2, 10), (2, 11), (2, 12), (2, 13), (3, 0), (3, 1), (3, 2), (3, 3), (3, 4), (3, 5), (3, 6), (3, 7), (3, 8), (3, 9), (3, 10), (3, 11), (3, 12), (3, 13), (3, 14), (3, 15), (3, 16), (3, 17), (3, 18), (3, 19), (3, 20), (3, 21), (3, 22), (3, 23), (3, 24), (3, 25), (3, 26), (3, 27), (3, 28), (3, 29), (3, 30), (3, 31), (3, 32), (3, 33)] rfl gw_X12_mostOf
set_option maxRecDepth 20000 in
theorem gX12_most_X12_mostOf : GoodIn wsX12_most (wsV RX12 166 RX12 yX12_mostOf wsX12_mostOf) := goodIn_app (gdp_In _ pcs_X12_most pc_X12_most [(1, 14), (1, 15), (1, 16), (1, 4)] rfl (gw_V _ _ _ _)) ggX12_most_X12_mostOf
set_option maxRecDepth 20000 in
theorem ggX12_most_X12_asTold : GoodIn wsX12_most wsX12_asTold := gdp_In _ pcs_X12_most pc_X12_most [(2, 16), (1, 18)] rfl gw_X12_asTold
set_option maxRecDepth 20000 in
theorem gX12_most_X12_asTold : GoodIn wsX12_most (va_wsS RX12 170 yX12_asTold wsX12_asTold) := goodIn_app (gdp_In _ pcs_X12_most pc_X12_most [(2, 14), (2, 15), (1, 4)] rfl (gw_S _ _ _)) ggX12_most_X12_asTold
set_option maxRecDepth 20000 in
theorem ggX12_left_X12_room : GoodIn wsX12_left wsX12_room := goodIn_r _ [9, 10, 11, 12, 13, 14, 15, 8, 16, 17, 18, 19, 20, 21, 22, 23, 24, 25, 26, 27, 28, 29, 30, 31, 32, 33, 34, 35, 36, 37, 38, 39, 40, 41, 42, 43, 44, 45, 46, 47, 48, 49, 50, 51] rfl gw_X12_room
set_option maxRecDepth 20000 in
theorem gX12_left_X12_room : GoodIn wsX12_left (wsV RX12 160 RX12 yX12_room wsX12_room) := goodIn_app (goodIn_r _ [5, 6, 7, 8] rfl (gw_V _ _ _ _)) ggX12_left_X12_room
set_option maxRecDepth 20000 in
theorem ggX12_leftOf_X12_left : GoodIn wsX12_leftOf wsX12_left := goodIn_r _ [6, 7, 8, 9, 10, 11, 12, 13, 5, 14, 15, 16, 17, 18, 19, 20, 21, 22, 23, 24, 25, 26, 27, 28, 29, 30, 31, 32, 33, 34, 35, 36, 37, 38, 39, 40, 41, 42, 43, 44, 45, 46, 47, 48, 49, 50, 51, 52, 53, 54, 55, 56] rfl gw_X12_left
set_option maxRecDepth 20000 in
theorem gX12_leftOf_X12_left : GoodIn wsX12_leftOf (wsV RX12 173 RX12 yX12_left wsX12_left) := goodIn_app (goodIn_r _ [2, 3, 4, 5] rfl (gw_V _ _ _ _)) ggX12_leftOf_X12_left
set_option maxRecDepth 20000 in
theorem ggX12_hasWay_X12_isMet : GoodIn wsX12_hasWay wsX12_isMet := gdp_In _ pcs_X12_hasWay pc_X12_hasWay [(1, 7), (1, 0), (3, 0), (3, 1), (3, 2), (3, 3), (3, 4), (3, 5), (3, 6), (3, 7), (3, 8), (3, 9), (3, 10), (3, 11), (3, 12), (3, 13), (3, 14), (3, 15), (3, 16), (3, 17), (3, 18), (3, 19), (3, 20), (3, 21), (3, 22), (3, 23), (3, 24), (3, 25), (3, 26), (3, 27), (3, 28), (3, 29), (3, 30), (3, 31), (3, 32), (3, 33)] rfl gw_X12_isMet
set_option maxRecDepth 20000 in
theorem gX12_hasWay_X12_isMet : GoodIn wsX12_hasWay (wsV RX12 177 RX12 yX12_isMet wsX12_isMet) := goodIn_app (gdp_In _ pcs_X12_hasWay pc_X12_hasWay [(1, 3), (1, 4), (1, 5), (1, 6)] rfl (gw_V _ _ _ _)) ggX12_hasWay_X12_isMet
set_option maxRecDepth 20000 in
theorem ggX12_hasWay_X12_leftOf : GoodIn wsX12_hasWay wsX12_leftOf := gdp_In _ pcs_X12_hasWay pc_X12_hasWay [(1, 11), (1, 12), (1, 13), (1, 14), (1, 15), (1, 6), (1, 16), (1, 17), (1, 18), (1, 19), (1, 20), (1, 21), (1, 22), (1, 23), (2, 0), (2, 1), (2, 2), (2, 3), (2, 4), (2, 5), (2, 6), (2, 7), (2, 8), (3, 0), (3, 1), (3, 2), (3, 3), (3, 4), (3, 5), (3, 6), (3, 7), (3, 8), (3, 9), (3, 10), (3, 11), (3, 12), (3, 13), (3, 14), (3, 15), (3, 16), (3, 17), (3, 18), (3, 19), (3, 20), (3, 21), (3, 22), (3, 23), (3, 24), (3, 25), (3, 26), (3, 27), (3, 28), (3, 29), (3, 30), (3, 31), (3, 32), (3, 33)] rfl gw_X12_leftOf
set_option maxRecDepth 20000 in
theorem gX12_hasWay_X12_leftOf : GoodIn wsX12_hasWay (wsV RX12 180 RX12 yX12_leftOf wsX12_leftOf) := goodIn_app (gdp_In _ pcs_X12_hasWay pc_X12_hasWay [(1, 8), (1, 9), (1, 10), (1, 6)] rfl (gw_V _ _ _ _)) ggX12_hasWay_X12_leftOf
set_option maxRecDepth 20000 in
theorem ggX12_flowOf_X12_hasWay : GoodIn wsX12_flowOf wsX12_hasWay := gdp_In _ pcs_X12_flowOf pc_X12_flowOf [(1, 11), (1, 12), (1, 13), (1, 2), (1, 14), (1, 15), (1, 16), (1, 10), (1, 17), (1, 18), (1, 19), (1, 20), (1, 21), (1, 3), (1, 22), (1, 23), (2, 0), (2, 1), (1, 4), (1, 5), (1, 6), (1, 0), (2, 2), (2, 3), (2, 4), (2, 5), (2, 6), (2, 7), (2, 8), (2, 9), (2, 10), (2, 11), (2, 12), (2, 13), (3, 0), (3, 1), (3, 2), (3, 3), (3, 4), (3, 5), (3, 6), (3, 7), (3, 8), (3, 9), (3, 10), (3, 11), (3, 12), (3, 13), (3, 14), (3, 15), (3, 16), (3, 17), (3, 18), (3, 19), (3, 20), (3, 21), (3, 22), (3, 23), (3, 24), (3, 25), (3, 26), (3, 27), (3, 28), (3, 29), (3, 30), (3, 31), (3, 32), (3, 33)] rfl gw_X12_hasWay
set_option maxRecDepth 20000 in
theorem gX12_flowOf_X12_hasWay : GoodIn wsX12_flowOf (wsV RX12 183 RX12 yX12_hasWay wsX12_hasWay) := goodIn_app (gdp_In _ pcs_X12_flowOf pc_X12_flowOf [(1, 7), (1, 8), (1, 9), (1, 10)] rfl (gw_V _ _ _ _)) ggX12_flowOf_X12_hasWay
set_option maxRecDepth 20000 in
theorem ggX12_flowOf_X12_leftOf : GoodIn wsX12_flowOf wsX12_leftOf := gdp_In _ pcs_X12_flowOf pc_X12_flowOf [(1, 21), (1, 3), (1, 22), (1, 23), (2, 0), (1, 10), (2, 1), (1, 4), (1, 5), (1, 6), (1, 0), (2, 2), (2, 3), (2, 4), (2, 5), (2, 6), (2, 7), (2, 8), (2, 9), (2, 10), (2, 11), (2, 12), (2, 13), (3, 0), (3, 1), (3, 2), (3, 3), (3, 4), (3, 5), (3, 6), (3, 7), (3, 8), (3, 9), (3, 10), (3, 11), (3, 12), (3, 13), (3, 14), (3, 15), (3, 16), (3, 17), (3, 18), (3, 19), (3, 20), (3, 21), (3, 22), (3, 23), (3, 24), (3, 25), (3, 26), (3, 27), (3, 28), (3, 29), (3, 30), (3, 31), (3, 32), (3, 33)] rfl gw_X12_leftOf
set_option maxRecDepth 20000 in
theorem gX12_flowOf_X12_leftOf : GoodIn wsX12_flowOf (wsV RX12 180 RX12 yX12_leftOf wsX12_leftOf) := goodIn_app (gdp_In _ pcs_X12_flowOf pc_X12_flowOf [(1, 18), (1, 19), (1, 20), (1, 10)] rfl (gw_V _ _ _ _)) ggX12_flowOf_X12_leftOf
set_option maxRecDepth 20000 in
theorem ggX12_flowOf_X12_left : GoodIn wsX12_flowOf wsX12_left := gdp_In _ pcs_X12_flowOf pc_X12_flowOf [(2, 1), (1, 4), (1, 5), (1, 6), (1, 0), (2, 2), (2, 3), (2, 4), (1, 10), (2, 5), (2, 6), (2, 7), (2, 8), (2, 9), (2, 10), (2, 11), (2, 12), (2, 13), (3, 0), (3, 1), (3, 2), (3, 3), (3, 4), (3, 5), (3, 6), (3, 7), (3, 8), (3, 9), (3, 10), (3, 11), (3, 12), (3, 13), (3, 14), (3, 15), (3, 16), (3, 17), (3, 18), (3, 19), (3, 20), (3, 21), (3, 22), (3, 23), (3, 24), (3, 25), (3, 26), (3, 27), (3, 28), (3, 29), (3, 30), (3, 31), (3, 32), (3, 33)] rfl gw_X12_left
set_option maxRecDepth 20000 in
theorem gX12_flowOf_X12_left : GoodIn wsX12_flowOf (wsV RX12 173 RX12 yX12_left wsX12_left) := goodIn_app (gdp_In _ pcs_X12_flowOf pc_X12_flowOf [(1, 22), (1, 23), (2, 0), (1, 10)] rfl (gw_V _ _ _ _)) ggX12_flowOf_X12_left
set_option maxRecDepth 20000 in
theorem ggX12_flow_X12_arePlaces : GoodIn wsX12_flow wsX12_arePlaces := gdp_In _ pcs_X12_flow pc_X12_flow [(1, 9), (1, 10), (1, 11), (1, 12), (1, 8), (1, 13), (1, 14), (1, 15), (1, 16), (1, 17), (4, 0), (4, 1), (4, 2), (4, 3), (4, 4), (4, 5), (4, 6), (4, 7), (4, 8), (4, 9), (4, 10), (4, 11), (4, 12), (4, 13), (4, 14), (4, 15), (4, 16), (4, 17), (4, 18), (4, 19), (4, 20), (4, 21), (4, 22), (4, 23), (4, 24), (4, 25), (4, 26), (4, 27), (4, 28), (4, 29), (4, 30), (4, 31), (4, 32), (4, 33)] rfl gw_X12_arePlaces
set_option maxRecDepth 20000 in
theorem gX12_flow_X12_arePlaces : GoodIn wsX12_flow (wsV RX12 143 RX12 yX12_arePlaces wsX12_arePlaces) := goodIn_app (gdp_In _ pcs_X12_flow pc_X12_flow [(1, 5), (1, 6), (1, 7), (1, 8)] rfl (gw_V _ _ _ _)) ggX12_flow_X12_arePlaces
set_option maxRecDepth 20000 in
theorem ggX12_flow_X12_isLine : GoodIn wsX12_flow wsX12_isLine := gdp_In _ pcs_X12_flow pc_X12_flow [(1, 21), (1, 22), (1, 15), (1, 16), (1, 8), (1, 17), (4, 0), (4, 1), (4, 2), (4, 3), (4, 4), (4, 5), (4, 6), (4, 7), (4, 8), (4, 9), (4, 10), (4, 11), (4, 12), (4, 13), (4, 14), (4, 15), (4, 16), (4, 17), (4, 18), (4, 19), (4, 20), (4, 21), (4, 22), (4, 23), (4, 24), (4, 25), (4, 26), (4, 27), (4, 28), (4, 29), (4, 30), (4, 31), (4, 32), (4, 33)] rfl gw_X12_isLine
set_option maxRecDepth 20000 in
theorem gX12_flow_X12_isLine : GoodIn wsX12_flow (wsV RX12 132 RX12 yX12_isLine wsX12_isLine) := goodIn_app (gdp_In _ pcs_X12_flow pc_X12_flow [(1, 18), (1, 19), (1, 20), (1, 8)] rfl (gw_V _ _ _ _)) ggX12_flow_X12_isLine
set_option maxRecDepth 20000 in
theorem ggX12_flow_X12_mostOf : GoodIn wsX12_flow wsX12_mostOf := gdp_In _ pcs_X12_flow pc_X12_flow [(2, 2), (1, 2), (1, 14), (2, 3), (2, 4), (2, 5), (1, 8), (2, 6), (1, 22), (1, 1), (2, 7), (2, 8), (2, 9), (2, 10), (2, 11), (2, 12), (2, 13), (2, 14), (2, 15), (2, 16), (2, 17), (2, 18), (2, 19), (4, 0), (4, 1), (4, 2), (4, 3), (4, 4), (4, 5), (4, 6), (4, 7), (4, 8), (4, 9), (4, 10), (4, 11), (4, 12), (4, 13), (4, 14), (4, 15), (4, 16), (4, 17), (4, 18), (4, 19), (4, 20), (4, 21), (4, 22), (4, 23), (4, 24), (4, 25), (4, 26), (4, 27), (4, 28), (4, 29), (4, 30), (4, 31), (4, 32), (4, 33)] rfl gw_X12_mostOf
set_option maxRecDepth 20000 in
theorem gX12_flow_X12_mostOf : GoodIn wsX12_flow (wsV RX12 166 RX12 yX12_mostOf wsX12_mostOf) := goodIn_app (gdp_In _ pcs_X12_flow pc_X12_flow [(1, 23), (2, 0), (2, 1), (1, 8)] rfl (gw_V _ _ _ _)) ggX12_flow_X12_mostOf
set_option maxRecDepth 20000 in
theorem ggX12_flow_X12_flowOf : GoodIn wsX12_flow wsX12_flowOf := gdp_In _ pcs_X12_flow pc_X12_flow [(2, 23), (1, 4), (3, 0), (3, 1), (1, 22), (1, 1), (2, 7), (2, 8), (3, 2), (3, 3), (3, 4), (1, 8), (3, 5), (3, 6), (1, 14), (3, 7), (3, 8), (3, 9), (3, 10), (3, 11), (3, 12), (3, 13), (3, 14), (3, 15), (3, 16), (3, 17), (3, 18), (2, 9), (2, 10), (2, 11), (2, 12), (2, 13), (2, 14), (1, 2), (2, 15), (2, 16), (2, 17), (2, 18), (2, 19), (4, 0), (4, 1), (4, 2), (4, 3), (4, 4), (4, 5), (4, 6), (4, 7), (4, 8), (4, 9), (4, 10), (4, 11), (4, 12), (4, 13), (4, 14), (4, 15), (4, 16), (4, 17), (4, 18), (4, 19), (4, 20), (4, 21), (4, 22), (4, 23), (4, 24), (4, 25), (4, 26), (4, 27), (4, 28), (4, 29), (4, 30), (4, 31), (4, 32), (4, 33)] rfl gw_X12_flowOf
set_option maxRecDepth 20000 in
theorem gX12_flow_X12_flowOf : GoodIn wsX12_flow (wsV RX12 188 RX12 yX12_flowOf wsX12_flowOf) := goodIn_app (gdp_In _ pcs_X12_flow pc_X12_flow [(2, 20), (2, 21), (2, 22), (1, 8)] rfl (gw_V _ _ _ _)) ggX12_flow_X12_flowOf
set_option maxRecDepth 20000 in
theorem ggX12_cutsOf_X12_sizeOf : GoodIn wsX12_cutsOf wsX12_sizeOf := gdp_In _ pcs_X12_cutsOf pc_X12_cutsOf [(1, 9), (1, 10), (1, 11), (1, 12), (1, 13), (1, 14), (1, 15), (1, 16), (1, 17), (1, 8), (1, 18), (1, 19), (1, 20), (1, 21), (1, 22), (1, 23), (2, 0), (2, 1), (3, 0), (3, 1), (3, 2), (3, 3), (3, 4), (3, 5), (3, 6), (3, 7), (3, 8), (3, 9), (3, 10), (3, 11), (3, 12), (3, 13), (3, 14), (3, 15), (3, 16), (3, 17), (3, 18), (3, 19), (3, 20), (3, 21), (3, 22), (3, 23), (3, 24), (3, 25), (3, 26), (3, 27), (3, 28), (3, 29), (3, 30), (3, 31), (3, 32), (3, 33)] rfl gw_X12_sizeOf
set_option maxRecDepth 20000 in
theorem gX12_cutsOf_X12_sizeOf : GoodIn wsX12_cutsOf (wsV RX12 163 RX12 yX12_sizeOf wsX12_sizeOf) := goodIn_app (gdp_In _ pcs_X12_cutsOf pc_X12_cutsOf [(1, 5), (1, 6), (1, 7), (1, 8)] rfl (gw_V _ _ _ _)) ggX12_cutsOf_X12_sizeOf
set_option maxRecDepth 20000 in
theorem ggX12_cutsOf_X12_bitsOf : GoodIn wsX12_cutsOf wsX12_bitsOf := gdp_In _ pcs_X12_cutsOf pc_X12_cutsOf [(2, 4)] rfl gw_X12_bitsOf
set_option maxRecDepth 20000 in
theorem gX12_cutsOf_X12_bitsOf : GoodIn wsX12_cutsOf (va_wsS RX12 204 yX12_bitsOf wsX12_bitsOf) := goodIn_app (gdp_In _ pcs_X12_cutsOf pc_X12_cutsOf [(2, 2), (2, 3), (1, 8)] rfl (gw_S _ _ _)) ggX12_cutsOf_X12_bitsOf
set_option maxRecDepth 20000 in
theorem ggX12_cut_X12_arePlaces : GoodIn wsX12_cut wsX12_arePlaces := gdp_In _ pcs_X12_cut pc_X12_cut [(1, 8), (1, 9), (1, 10), (1, 11), (1, 7), (1, 12), (1, 13), (1, 14), (1, 15), (1, 16), (4, 0), (4, 1), (4, 2), (4, 3), (4, 4), (4, 5), (4, 6), (4, 7), (4, 8), (4, 9), (4, 10), (4, 11), (4, 12), (4, 13), (4, 14), (4, 15), (4, 16), (4, 17), (4, 18), (4, 19), (4, 20), (4, 21), (4, 22), (4, 23), (4, 24), (4, 25), (4, 26), (4, 27), (4, 28), (4, 29), (4, 30), (4, 31), (4, 32), (4, 33)] rfl gw_X12_arePlaces
set_option maxRecDepth 20000 in
theorem gX12_cut_X12_arePlaces : GoodIn wsX12_cut (wsV RX12 143 RX12 yX12_arePlaces wsX12_arePlaces) := goodIn_app (gdp_In _ pcs_X12_cut pc_X12_cut [(1, 4), (1, 5), (1, 6), (1, 7)] rfl (gw_V _ _ _ _)) ggX12_cut_X12_arePlaces
set_option maxRecDepth 20000 in
theorem ggX12_cut_X12_in : GoodIn wsX12_cut wsX12_in := gdp_In _ pcs_X12_cut pc_X12_cut [(1, 16)] rfl gw_X12_in
set_option maxRecDepth 20000 in
theorem gX12_cut_X12_in : GoodIn wsX12_cut (va_wsS RX12 91 yX12_in wsX12_in) := goodIn_app (gdp_In _ pcs_X12_cut pc_X12_cut [(1, 14), (1, 15), (1, 7)] rfl (gw_S _ _ _)) ggX12_cut_X12_in
set_option maxRecDepth 20000 in
theorem ggX12_cut_X12_mostOf : GoodIn wsX12_cut wsX12_mostOf := gdp_In _ pcs_X12_cut pc_X12_cut [(1, 20), (1, 1), (1, 13), (1, 21), (1, 22), (1, 23), (1, 7), (2, 0), (2, 1), (2, 2), (2, 3), (2, 4), (2, 5), (2, 6), (2, 7), (2, 8), (2, 9), (2, 10), (2, 11), (2, 12), (2, 13), (2, 14), (2, 15), (4, 0), (4, 1), (4, 2), (4, 3), (4, 4), (4, 5), (4, 6), (4, 7), (4, 8), (4, 9), (4, 10), (4, 11), (4, 12), (4, 13), (4, 14), (4, 15), (4, 16), (4, 17), (4, 18), (4, 19), (4, 20), (4, 21), (4, 22), (4, 23), (4, 24), (4, 25), (4, 26), (4, 27), (4, 28), (4, 29), (4, 30), (4, 31), (4, 32), (4, 33)] rfl gw_X12_mostOf
set_option maxRecDepth 20000 in
theorem gX12_cut_X12_mostOf : GoodIn wsX12_cut (wsV RX12 166 RX12 yX12_mostOf wsX12_mostOf) := goodIn_app (gdp_In _ pcs_X12_cut pc_X12_cut [(1, 17), (1, 18), (1, 19), (1, 7)] rfl (gw_V _ _ _ _)) ggX12_cut_X12_mostOf
set_option maxRecDepth 20000 in
theorem ggX12_cut_X12_cutsOf : GoodIn wsX12_cut wsX12_cutsOf := gdp_In _ pcs_X12_cut pc_X12_cut [(2, 19), (2, 20), (1, 2), (1, 3), (2, 21), (1, 13), (1, 21), (1, 22), (1, 23), (1, 7), (2, 0), (2, 1), (2, 2), (2, 3), (2, 4), (1, 1), (2, 5), (2, 6), (2, 7), (2, 8), (2, 9), (2, 10), (2, 11), (2, 12), (2, 13), (2, 14), (2, 15), (2, 22), (2, 23), (3, 0), (4, 0), (4, 1), (4, 2), (4, 3), (4, 4), (4, 5), (4, 6), (4, 7), (4, 8), (4, 9), (4, 10), (4, 11), (4, 12), (4, 13), (4, 14), (4, 15), (4, 16), (4, 17), (4, 18), (4, 19), (4, 20), (4, 21), (4, 22), (4, 23), (4, 24), (4, 25), (4, 26), (4, 27), (4, 28), (4, 29), (4, 30), (4, 31), (4, 32), (4, 33)] rfl gw_X12_cutsOf
set_option maxRecDepth 20000 in
theorem gX12_cut_X12_cutsOf : GoodIn wsX12_cut (wsV RX12 207 RX12 yX12_cutsOf wsX12_cutsOf) := goodIn_app (gdp_In _ pcs_X12_cut pc_X12_cut [(2, 16), (2, 17), (2, 18), (1, 7)] rfl (gw_V _ _ _ _)) ggX12_cut_X12_cutsOf
set_option maxRecDepth 20000 in
theorem ggX12_count_X12_arePlaces : GoodIn wsX12_count wsX12_arePlaces := gdp_In _ pcs_X12_count pc_X12_count [(1, 7), (1, 8), (1, 9), (1, 10), (1, 6), (1, 11), (1, 12), (1, 13), (1, 14), (1, 15), (4, 0), (4, 1), (4, 2), (4, 3), (4, 4), (4, 5), (4, 6), (4, 7), (4, 8), (4, 9), (4, 10), (4, 11), (4, 12), (4, 13), (4, 14), (4, 15), (4, 16), (4, 17), (4, 18), (4, 19), (4, 20), (4, 21), (4, 22), (4, 23), (4, 24), (4, 25), (4, 26), (4, 27), (4, 28), (4, 29), (4, 30), (4, 31), (4, 32), (4, 33)] rfl gw_X12_arePlaces
set_option maxRecDepth 20000 in
theorem gX12_count_X12_arePlaces : GoodIn wsX12_count (wsV RX12 143 RX12 yX12_arePlaces wsX12_arePlaces) := goodIn_app (gdp_In _ pcs_X12_count pc_X12_count [(1, 3), (1, 4), (1, 5), (1, 6)] rfl (gw_V _ _ _ _)) ggX12_count_X12_arePlaces
set_option maxRecDepth 20000 in
theorem ggX12_count_X12_mostOf : GoodIn wsX12_count wsX12_mostOf := gdp_In _ pcs_X12_count pc_X12_count [(1, 19), (1, 1), (1, 12), (1, 20), (1, 21), (1, 22), (1, 6), (1, 23), (2, 0), (2, 1), (2, 2), (2, 3), (2, 4), (2, 5), (2, 6), (2, 7), (2, 8), (2, 9), (2, 10), (2, 11), (2, 12), (2, 13), (2, 14), (4, 0), (4, 1), (4, 2), (4, 3), (4, 4), (4, 5), (4, 6), (4, 7), (4, 8), (4, 9), (4, 10), (4, 11), (4, 12), (4, 13), (4, 14), (4, 15), (4, 16), (4, 17), (4, 18), (4, 19), (4, 20), (4, 21), (4, 22), (4, 23), (4, 24), (4, 25), (4, 26), (4, 27), (4, 28), (4, 29), (4, 30), (4, 31), (4, 32), (4, 33)] rfl gw_X12_mostOf
set_option maxRecDepth 20000 in
theorem gX12_count_X12_mostOf : GoodIn wsX12_count (wsV RX12 166 RX12 yX12_mostOf wsX12_mostOf) := goodIn_app (gdp_In _ pcs_X12_count pc_X12_count [(1, 16), (1, 17), (1, 18), (1, 6)] rfl (gw_V _ _ _ _)) ggX12_count_X12_mostOf
set_option maxRecDepth 20000 in
theorem ggX12_count_X12_cutsOf : GoodIn wsX12_count wsX12_cutsOf := gdp_In _ pcs_X12_count pc_X12_count [(2, 18), (1, 2), (2, 19), (2, 20), (2, 21), (1, 12), (1, 20), (1, 21), (1, 22), (1, 6), (1, 23), (2, 0), (2, 1), (2, 2), (2, 3), (1, 1), (2, 4), (2, 5), (2, 6), (2, 7), (2, 8), (2, 9), (2, 10), (2, 11), (2, 12), (2, 13), (2, 14), (2, 22), (2, 23), (3, 0), (4, 0), (4, 1), (4, 2), (4, 3), (4, 4), (4, 5), (4, 6), (4, 7), (4, 8), (4, 9), (4, 10), (4, 11), (4, 12), (4, 13), (4, 14), (4, 15), (4, 16), (4, 17), (4, 18), (4, 19), (4, 20), (4, 21), (4, 22), (4, 23), (4, 24), (4, 25), (4, 26), (4, 27), (4, 28), (4, 29), (4, 30), (4, 31), (4, 32), (4, 33)] rfl gw_X12_cutsOf
set_option maxRecDepth 20000 in
theorem gX12_count_X12_cutsOf : GoodIn wsX12_count (wsV RX12 207 RX12 yX12_cutsOf wsX12_cutsOf) := goodIn_app (gdp_In _ pcs_X12_count pc_X12_count [(2, 15), (2, 16), (2, 17), (1, 6)] rfl (gw_V _ _ _ _)) ggX12_count_X12_cutsOf
set_option maxRecDepth 20000 in
theorem ggX12_next_X12_arePlaces : GoodIn wsX12_next wsX12_arePlaces := gdp_In _ pcs_X12_next pc_X12_next [(1, 7), (1, 8), (1, 9), (1, 10), (1, 6), (1, 11), (1, 12), (1, 13), (1, 14), (1, 15), (4, 0), (4, 1), (4, 2), (4, 3), (4, 4), (4, 5), (4, 6), (4, 7), (4, 8), (4, 9), (4, 10), (4, 11), (4, 12), (4, 13), (4, 14), (4, 15), (4, 16), (4, 17), (4, 18), (4, 19), (4, 20), (4, 21), (4, 22), (4, 23), (4, 24), (4, 25), (4, 26), (4, 27), (4, 28), (4, 29), (4, 30), (4, 31), (4, 32), (4, 33)] rfl gw_X12_arePlaces
set_option maxRecDepth 20000 in
theorem gX12_next_X12_arePlaces : GoodIn wsX12_next (wsV RX12 143 RX12 yX12_arePlaces wsX12_arePlaces) := goodIn_app (gdp_In _ pcs_X12_next pc_X12_next [(1, 3), (1, 4), (1, 5), (1, 6)] rfl (gw_V _ _ _ _)) ggX12_next_X12_arePlaces
set_option maxRecDepth 20000 in
theorem ggX12_next_X12_mostOf : GoodIn wsX12_next wsX12_mostOf := gdp_In _ pcs_X12_next pc_X12_next [(1, 19), (1, 1), (1, 12), (1, 20), (1, 21), (1, 22), (1, 6), (1, 23), (2, 0), (2, 1), (2, 2), (2, 3), (2, 4), (2, 5), (2, 6), (2, 7), (2, 8), (2, 9), (2, 10), (2, 11), (2, 12), (2, 13), (2, 14), (4, 0), (4, 1), (4, 2), (4, 3), (4, 4), (4, 5), (4, 6), (4, 7), (4, 8), (4, 9), (4, 10), (4, 11), (4, 12), (4, 13), (4, 14), (4, 15), (4, 16), (4, 17), (4, 18), (4, 19), (4, 20), (4, 21), (4, 22), (4, 23), (4, 24), (4, 25), (4, 26), (4, 27), (4, 28), (4, 29), (4, 30), (4, 31), (4, 32), (4, 33)] rfl gw_X12_mostOf
set_option maxRecDepth 20000 in
theorem gX12_next_X12_mostOf : GoodIn wsX12_next (wsV RX12 166 RX12 yX12_mostOf wsX12_mostOf) := goodIn_app (gdp_In _ pcs_X12_next pc_X12_next [(1, 16), (1, 17), (1, 18), (1, 6)] rfl (gw_V _ _ _ _)) ggX12_next_X12_mostOf
set_option maxRecDepth 20000 in
theorem ggX12_next_X12_cutsOf : GoodIn wsX12_next wsX12_cutsOf := gdp_In _ pcs_X12_next pc_X12_next [(2, 18), (2, 19), (2, 20), (2, 21), (1, 2), (1, 12), (1, 20), (1, 21), (1, 22), (1, 6), (1, 23), (2, 0), (2, 1), (2, 2), (2, 3), (1, 1), (2, 4), (2, 5), (2, 6), (2, 7), (2, 8), (2, 9), (2, 10), (2, 11), (2, 12), (2, 13), (2, 14), (2, 22), (2, 23), (3, 0), (4, 0), (4, 1), (4, 2), (4, 3), (4, 4), (4, 5), (4, 6), (4, 7), (4, 8), (4, 9), (4, 10), (4, 11), (4, 12), (4, 13), (4, 14), (4, 15), (4, 16), (4, 17), (4, 18), (4, 19), (4, 20), (4, 21), (4, 22), (4, 23), (4, 24), (4, 25), (4, 26), (4, 27), (4, 28), (4, 29), (4, 30), (4, 31), (4, 32), (4, 33)] rfl gw_X12_cutsOf
set_option maxRecDepth 20000 in
theorem gX12_next_X12_cutsOf : GoodIn wsX12_next (wsV RX12 207 RX12 yX12_cutsOf wsX12_cutsOf) := goodIn_app (gdp_In _ pcs_X12_next pc_X12_next [(2, 15), (2, 16), (2, 17), (1, 6)] rfl (gw_V _ _ _ _)) ggX12_next_X12_cutsOf
set_option maxRecDepth 20000 in
theorem ggX12_size_X12_arePlaces : GoodIn wsX12_size wsX12_arePlaces := gdp_In _ pcs_X12_size pc_X12_size [(1, 6), (1, 7), (1, 8), (1, 9), (1, 5), (1, 10), (1, 1), (1, 11), (1, 12), (1, 13), (3, 0), (3, 1), (3, 2), (3, 3), (3, 4), (3, 5), (3, 6), (3, 7), (3, 8), (3, 9), (3, 10), (3, 11), (3, 12), (3, 13), (3, 14), (3, 15), (3, 16), (3, 17), (3, 18), (3, 19), (3, 20), (3, 21), (3, 22), (3, 23), (3, 24), (3, 25), (3, 26), (3, 27), (3, 28), (3, 29), (3, 30), (3, 31), (3, 32), (3, 33)] rfl gw_X12_arePlaces
set_option maxRecDepth 20000 in
theorem gX12_size_X12_arePlaces : GoodIn wsX12_size (wsV RX12 143 RX12 yX12_arePlaces wsX12_arePlaces) := goodIn_app (gdp_In _ pcs_X12_size pc_X12_size [(1, 2), (1, 3), (1, 4), (1, 5)] rfl (gw_V _ _ _ _)) ggX12_size_X12_arePlaces
set_option maxRecDepth 20000 in
theorem ggX12_size_X12_sizeOf : GoodIn wsX12_size wsX12_sizeOf := gdp_In _ pcs_X12_size pc_X12_size [(1, 17), (1, 18), (1, 19), (1, 20), (1, 21), (1, 22), (1, 23), (2, 0), (2, 1), (1, 5), (2, 2), (2, 3), (2, 4), (2, 5), (2, 6), (2, 7), (2, 8), (2, 9), (3, 0), (3, 1), (3, 2), (3, 3), (3, 4), (3, 5), (3, 6), (3, 7), (3, 8), (3, 9), (3, 10), (3, 11), (3, 12), (3, 13), (3, 14), (3, 15), (3, 16), (3, 17), (3, 18), (3, 19), (3, 20), (3, 21), (3, 22), (3, 23), (3, 24), (3, 25), (3, 26), (3, 27), (3, 28), (3, 29), (3, 30), (3, 31), (3, 32), (3, 33)] rfl gw_X12_sizeOf
set_option maxRecDepth 20000 in
theorem gX12_size_X12_sizeOf : GoodIn wsX12_size (wsV RX12 163 RX12 yX12_sizeOf wsX12_sizeOf) := goodIn_app (gdp_In _ pcs_X12_size pc_X12_size [(1, 14), (1, 15), (1, 16), (1, 5)] rfl (gw_V _ _ _ _)) ggX12_size_X12_sizeOf
set_option maxRecDepth 20000 in
theorem ggX12_size_X12_asTold : GoodIn wsX12_size wsX12_asTold := gdp_In _ pcs_X12_size pc_X12_size [(2, 12), (1, 22)] rfl gw_X12_asTold
set_option maxRecDepth 20000 in
theorem gX12_size_X12_asTold : GoodIn wsX12_size (va_wsS RX12 170 yX12_asTold wsX12_asTold) := goodIn_app (gdp_In _ pcs_X12_size pc_X12_size [(2, 10), (2, 11), (1, 5)] rfl (gw_S _ _ _)) ggX12_size_X12_asTold
set_option maxRecDepth 20000 in
theorem ggX12_raise_X12_arePlaces : GoodIn wsX12_raise wsX12_arePlaces := gdp_In _ pcs_X12_raise pc_X12_raise [(1, 7), (1, 8), (1, 9), (1, 10), (1, 6), (1, 11), (1, 12), (1, 13), (1, 14), (1, 15), (3, 0), (3, 1), (3, 2), (3, 3), (3, 4), (3, 5), (3, 6), (3, 7), (3, 8), (3, 9), (3, 10), (3, 11), (3, 12), (3, 13), (3, 14), (3, 15), (3, 16), (3, 17), (3, 18), (3, 19), (3, 20), (3, 21), (3, 22), (3, 23), (3, 24), (3, 25), (3, 26), (3, 27), (3, 28), (3, 29), (3, 30), (3, 31), (3, 32), (3, 33)] rfl gw_X12_arePlaces
set_option maxRecDepth 20000 in
theorem gX12_raise_X12_arePlaces : GoodIn wsX12_raise (wsV RX12 143 RX12 yX12_arePlaces wsX12_arePlaces) := goodIn_app (gdp_In _ pcs_X12_raise pc_X12_raise [(1, 3), (1, 4), (1, 5), (1, 6)] rfl (gw_V _ _ _ _)) ggX12_raise_X12_arePlaces
set_option maxRecDepth 20000 in
theorem ggX12_raise_X12_isLine : GoodIn wsX12_raise wsX12_isLine := gdp_In _ pcs_X12_raise pc_X12_raise [(1, 19), (1, 20), (1, 13), (1, 14), (1, 6), (1, 15), (3, 0), (3, 1), (3, 2), (3, 3), (3, 4), (3, 5), (3, 6), (3, 7), (3, 8), (3, 9), (3, 10), (3, 11), (3, 12), (3, 13), (3, 14), (3, 15), (3, 16), (3, 17), (3, 18), (3, 19), (3, 20), (3, 21), (3, 22), (3, 23), (3, 24), (3, 25), (3, 26), (3, 27), (3, 28), (3, 29), (3, 30), (3, 31), (3, 32), (3, 33)] rfl gw_X12_isLine
set_option maxRecDepth 20000 in
theorem gX12_raise_X12_isLine : GoodIn wsX12_raise (wsV RX12 132 RX12 yX12_isLine wsX12_isLine) := goodIn_app (gdp_In _ pcs_X12_raise pc_X12_raise [(1, 16), (1, 17), (1, 18), (1, 6)] rfl (gw_V _ _ _ _)) ggX12_raise_X12_isLine
set_option maxRecDepth 20000 in
theorem ggX12_raise_X12_mostOf : GoodIn wsX12_raise wsX12_mostOf := gdp_In _ pcs_X12_raise pc_X12_raise [(2, 0), (2, 1), (1, 12), (2, 2), (2, 3), (2, 4), (1, 6), (2, 5), (1, 20), (1, 1), (2, 6), (2, 7), (2, 8), (2, 9), (2, 10), (2, 11), (1, 2), (2, 12), (2, 13), (2, 14), (2, 15), (2, 16), (2, 17), (3, 0), (3, 1), (3, 2), (3, 3), (3, 4), (3, 5), (3, 6), (3, 7), (3, 8), (3, 9), (3, 10), (3, 11), (3, 12), (3, 13), (3, 14), (3, 15), (3, 16), (3, 17), (3, 18), (3, 19), (3, 20), (3, 21), (3, 22), (3, 23), (3, 24), (3, 25), (3, 26), (3, 27), (3, 28), (3, 29), (3, 30), (3, 31), (3, 32), (3, 33)] rfl gw_X12_mostOf
set_option maxRecDepth 20000 in
theorem gX12_raise_X12_mostOf : GoodIn wsX12_raise (wsV RX12 166 RX12 yX12_mostOf wsX12_mostOf) := goodIn_app (gdp_In _ pcs_X12_raise pc_X12_raise [(1, 21), (1, 22), (1, 23), (1, 6)] rfl (gw_V _ _ _ _)) ggX12_raise_X12_mostOf
set_option maxRecDepth 20000 in
theorem ggX12_raise_X12_asTold : GoodIn wsX12_raise wsX12_asTold := gdp_In _ pcs_X12_raise pc_X12_raise [(2, 20), (2, 1)] rfl gw_X12_asTold
set_option maxRecDepth 20000 in
theorem gX12_raise_X12_asTold : GoodIn wsX12_raise (va_wsS RX12 170 yX12_asTold wsX12_asTold) := goodIn_app (gdp_In _ pcs_X12_raise pc_X12_raise [(2, 18), (2, 19), (1, 6)] rfl (gw_S _ _ _)) ggX12_raise_X12_asTold
set_option maxRecDepth 20000 in
theorem ggX12_step_X12_room : GoodIn wsX12_step wsX12_room := goodIn_r _ [7, 8, 9, 10, 11, 12, 13, 6, 14, 15, 21, 22, 23, 24, 25, 26, 27, 28, 29, 30, 31, 32, 33, 34, 35, 36, 37, 38, 39, 40, 41, 42, 43, 44, 45, 46, 47, 48, 49, 50, 51, 52, 53, 54] rfl gw_X12_room
set_option maxRecDepth 20000 in
theorem gX12_step_X12_room : GoodIn wsX12_step (wsV RX12 160 RX12 yX12_room wsX12_room) := goodIn_app (goodIn_r _ [3, 4, 5, 6] rfl (gw_V _ _ _ _)) ggX12_step_X12_room
set_option maxRecDepth 20000 in
theorem ggX12_step_X12_costs : GoodIn wsX12_step wsX12_costs := goodIn_r _ [19, 9, 20, 21, 22, 23, 24, 25, 26, 27, 28, 29, 30, 31, 32, 33, 34, 35, 36, 37, 38, 39, 40, 41, 42, 43, 44, 45, 46, 47, 48, 49, 50, 51, 52, 53, 54] rfl gw_X12_costs
set_option maxRecDepth 20000 in
theorem gX12_step_X12_costs : GoodIn wsX12_step (wsV RX12 135 RX12 yX12_costs wsX12_costs) := goodIn_app (goodIn_r _ [16, 17, 18, 6] rfl (gw_V _ _ _ _)) ggX12_step_X12_costs
set_option maxRecDepth 20000 in
theorem ggX12_amount_X12_room : GoodIn wsX12_amount wsX12_room := goodIn_r _ [7, 8, 9, 2, 10, 11, 12, 6, 13, 14, 15, 16, 17, 18, 19, 20, 21, 22, 23, 24, 25, 26, 27, 28, 29, 30, 31, 32, 33, 34, 35, 36, 37, 38, 39, 40, 41, 42, 43, 44, 45, 46, 47, 48] rfl gw_X12_room
set_option maxRecDepth 20000 in
theorem gX12_amount_X12_room : GoodIn wsX12_amount (wsV RX12 160 RX12 yX12_room wsX12_room) := goodIn_app (goodIn_r _ [3, 4, 5, 6] rfl (gw_V _ _ _ _)) ggX12_amount_X12_room
set_option maxRecDepth 20000 in
theorem ggX12_cheapWay_X12_step : GoodIn wsX12_cheapWay wsX12_step := gdp_In _ pcs_X12_cheapWay pc_X12_cheapWay [(1, 14), (1, 15), (1, 7), (1, 16), (1, 17), (1, 18), (1, 13), (1, 19), (1, 20), (1, 21), (1, 22), (1, 23), (2, 0), (2, 1), (2, 2), (2, 3), (2, 4), (2, 5), (2, 6), (2, 7), (2, 8), (3, 0), (3, 1), (3, 2), (3, 3), (3, 4), (3, 5), (3, 6), (3, 7), (3, 8), (3, 9), (3, 10), (3, 11), (3, 12), (3, 13), (3, 14), (3, 15), (3, 16), (3, 17), (3, 18), (3, 19), (3, 20), (3, 21), (3, 22), (3, 23), (3, 24), (3, 25), (3, 26), (3, 27), (3, 28), (3, 29), (3, 30), (3, 31), (3, 32), (3, 33)] rfl gw_X12_step
set_option maxRecDepth 20000 in
theorem gX12_cheapWay_X12_step : GoodIn wsX12_cheapWay (wsV RX12 213 RX12 yX12_step wsX12_step) := goodIn_app (gdp_In _ pcs_X12_cheapWay pc_X12_cheapWay [(1, 10), (1, 11), (1, 12), (1, 13)] rfl (gw_V _ _ _ _)) ggX12_cheapWay_X12_step
set_option maxRecDepth 20000 in
theorem ggX12_cheapest_X12_arePlaces : GoodIn wsX12_cheapest wsX12_arePlaces := gdp_In _ pcs_X12_cheapest pc_X12_cheapest [(1, 11), (1, 12), (1, 13), (1, 14), (1, 10), (1, 15), (1, 16), (1, 17), (1, 18), (1, 19), (4, 0), (4, 1), (4, 2), (4, 3), (4, 4), (4, 5), (4, 6), (4, 7), (4, 8), (4, 9), (4, 10), (4, 11), (4, 12), (4, 13), (4, 14), (4, 15), (4, 16), (4, 17), (4, 18), (4, 19), (4, 20), (4, 21), (4, 22), (4, 23), (4, 24), (4, 25), (4, 26), (4, 27), (4, 28), (4, 29), (4, 30), (4, 31), (4, 32), (4, 33)] rfl gw_X12_arePlaces
set_option maxRecDepth 20000 in
theorem gX12_cheapest_X12_arePlaces : GoodIn wsX12_cheapest (wsV RX12 143 RX12 yX12_arePlaces wsX12_arePlaces) := goodIn_app (gdp_In _ pcs_X12_cheapest pc_X12_cheapest [(1, 7), (1, 8), (1, 9), (1, 10)] rfl (gw_V _ _ _ _)) ggX12_cheapest_X12_arePlaces
set_option maxRecDepth 20000 in
theorem ggX12_cheapest_X12_in : GoodIn wsX12_cheapest wsX12_in := gdp_In _ pcs_X12_cheapest pc_X12_cheapest [(1, 19)] rfl gw_X12_in
set_option maxRecDepth 20000 in
theorem gX12_cheapest_X12_in : GoodIn wsX12_cheapest (va_wsS RX12 91 yX12_in wsX12_in) := goodIn_app (gdp_In _ pcs_X12_cheapest pc_X12_cheapest [(1, 17), (1, 18), (1, 10)] rfl (gw_S _ _ _)) ggX12_cheapest_X12_in
set_option maxRecDepth 20000 in
theorem ggX12_cheapest_X12_mostOf : GoodIn wsX12_cheapest wsX12_mostOf := gdp_In _ pcs_X12_cheapest pc_X12_cheapest [(1, 23), (2, 0), (1, 16), (2, 1), (2, 2), (2, 3), (1, 10), (2, 4), (2, 5), (2, 6), (1, 4), (2, 7), (2, 8), (2, 9), (2, 10), (2, 11), (2, 12), (2, 13), (2, 14), (2, 15), (2, 16), (2, 17), (2, 18), (4, 0), (4, 1), (4, 2), (4, 3), (4, 4), (4, 5), (4, 6), (4, 7), (4, 8), (4, 9), (4, 10), (4, 11), (4, 12), (4, 13), (4, 14), (4, 15), (4, 16), (4, 17), (4, 18), (4, 19), (4, 20), (4, 21), (4, 22), (4, 23), (4, 24), (4, 25), (4, 26), (4, 27), (4, 28), (4, 29), (4, 30), (4, 31), (4, 32), (4, 33)] rfl gw_X12_mostOf
set_option maxRecDepth 20000 in
theorem gX12_cheapest_X12_mostOf : GoodIn wsX12_cheapest (wsV RX12 166 RX12 yX12_mostOf wsX12_mostOf) := goodIn_app (gdp_In _ pcs_X12_cheapest pc_X12_cheapest [(1, 20), (1, 21), (1, 22), (1, 10)] rfl (gw_V _ _ _ _)) ggX12_cheapest_X12_mostOf
set_option maxRecDepth 20000 in
theorem ggX12_cheapest_X12_cheapWay : GoodIn wsX12_cheapest wsX12_cheapWay := gdp_In _ pcs_X12_cheapest pc_X12_cheapest [(2, 22), (1, 16), (1, 6), (2, 23), (2, 5), (2, 6), (1, 4), (2, 7), (3, 0), (1, 3), (1, 5), (3, 1), (3, 2), (3, 3), (1, 10), (3, 4), (1, 2), (2, 8), (2, 9), (2, 10), (2, 11), (2, 12), (2, 13), (2, 0), (2, 14), (2, 15), (2, 16), (2, 17), (2, 18), (3, 5), (3, 6), (3, 7), (3, 8), (3, 9), (4, 0), (4, 1), (4, 2), (4, 3), (4, 4), (4, 5), (4, 6), (4, 7), (4, 8), (4, 9), (4, 10), (4, 11), (4, 12), (4, 13), (4, 14), (4, 15), (4, 16), (4, 17), (4, 18), (4, 19), (4, 20), (4, 21), (4, 22), (4, 23), (4, 24), (4, 25), (4, 26), (4, 27), (4, 28), (4, 29), (4, 30), (4, 31), (4, 32), (4, 33)] rfl gw_X12_cheapWay
set_option maxRecDepth 20000 in
theorem gX12_cheapest_X12_cheapWay : GoodIn wsX12_cheapest (wsV RX12 219 RX12 yX12_cheapWay wsX12_cheapWay) := goodIn_app (gdp_In _ pcs_X12_cheapest pc_X12_cheapest [(2, 19), (2, 20), (2, 21), (1, 10)] rfl (gw_V _ _ _ _)) ggX12_cheapest_X12_cheapWay
set_option maxRecDepth 20000 in
theorem ggX12_cheapest_X12_amount : GoodIn wsX12_cheapest wsX12_amount := gdp_In _ pcs_X12_cheapest pc_X12_cheapest [(3, 13), (1, 2), (2, 0), (2, 8), (2, 9), (2, 10), (1, 10), (2, 11), (2, 12), (2, 13), (2, 14), (2, 15), (2, 16), (2, 17), (2, 18), (4, 0), (4, 1), (4, 2), (4, 3), (4, 4), (4, 5), (4, 6), (4, 7), (4, 8), (4, 9), (4, 10), (4, 11), (4, 12), (4, 13), (4, 14), (4, 15), (4, 16), (4, 17), (4, 18), (4, 19), (4, 20), (4, 21), (4, 22), (4, 23), (4, 24), (4, 25), (4, 26), (4, 27), (4, 28), (4, 29), (4, 30), (4, 31), (4, 32), (4, 33)] rfl gw_X12_amount
set_option maxRecDepth 20000 in
theorem gX12_cheapest_X12_amount : GoodIn wsX12_cheapest (wsV RX12 222 RX12 yX12_amount wsX12_amount) := goodIn_app (gdp_In _ pcs_X12_cheapest pc_X12_cheapest [(3, 10), (3, 11), (3, 12), (1, 10)] rfl (gw_V _ _ _ _)) ggX12_cheapest_X12_amount
set_option maxRecDepth 20000 in
theorem ggX12_plants_X12_mostOf : GoodIn wsX12_plants wsX12_mostOf := gdp_In _ pcs_X12_plants pc_X12_plants [(1, 8), (1, 9), (1, 2), (1, 10), (1, 11), (1, 12), (1, 7), (1, 13), (1, 14), (1, 15), (1, 16), (1, 17), (1, 18), (1, 19), (1, 20), (1, 21), (1, 22), (1, 23), (2, 0), (2, 1), (2, 2), (2, 3), (2, 4), (3, 0), (3, 1), (3, 2), (3, 3), (3, 4), (3, 5), (3, 6), (3, 7), (3, 8), (3, 9), (3, 10), (3, 11), (3, 12), (3, 13), (3, 14), (3, 15), (3, 16), (3, 17), (3, 18), (3, 19), (3, 20), (3, 21), (3, 22), (3, 23), (3, 24), (3, 25), (3, 26), (3, 27), (3, 28), (3, 29), (3, 30), (3, 31), (3, 32), (3, 33)] rfl gw_X12_mostOf
set_option maxRecDepth 20000 in
theorem gX12_plants_X12_mostOf : GoodIn wsX12_plants (wsV RX12 166 RX12 yX12_mostOf wsX12_mostOf) := goodIn_app (gdp_In _ pcs_X12_plants pc_X12_plants [(1, 4), (1, 5), (1, 6), (1, 7)] rfl (gw_V _ _ _ _)) ggX12_plants_X12_mostOf
set_option maxRecDepth 20000 in
theorem ggX12_plants_X12_cutsOf : GoodIn wsX12_plants wsX12_cutsOf := gdp_In _ pcs_X12_plants pc_X12_plants [(2, 8), (2, 9), (1, 3), (2, 10), (2, 11), (1, 2), (1, 10), (1, 11), (1, 12), (1, 7), (1, 13), (1, 14), (1, 15), (1, 16), (1, 17), (1, 9), (1, 18), (1, 19), (1, 20), (1, 21), (1, 22), (1, 23), (2, 0), (2, 1), (2, 2), (2, 3), (2, 4), (2, 12), (2, 13), (2, 14), (3, 0), (3, 1), (3, 2), (3, 3), (3, 4), (3, 5), (3, 6), (3, 7), (3, 8), (3, 9), (3, 10), (3, 11), (3, 12), (3, 13), (3, 14), (3, 15), (3, 16), (3, 17), (3, 18), (3, 19), (3, 20), (3, 21), (3, 22), (3, 23), (3, 24), (3, 25), (3, 26), (3, 27), (3, 28), (3, 29), (3, 30), (3, 31), (3, 32), (3, 33)] rfl gw_X12_cutsOf
set_option maxRecDepth 20000 in
theorem gX12_plants_X12_cutsOf : GoodIn wsX12_plants (wsV RX12 207 RX12 yX12_cutsOf wsX12_cutsOf) := goodIn_app (gdp_In _ pcs_X12_plants pc_X12_plants [(2, 5), (2, 6), (2, 7), (1, 7)] rfl (gw_V _ _ _ _)) ggX12_plants_X12_cutsOf
set_option maxRecDepth 20000 in
theorem ggX12_tree_X12_in : GoodIn wsX12_tree wsX12_in := gdp_In _ pcs_X12_tree pc_X12_tree [(1, 6)] rfl gw_X12_in
set_option maxRecDepth 20000 in
theorem gX12_tree_X12_in : GoodIn wsX12_tree (va_wsS RX12 91 yX12_in wsX12_in) := goodIn_app (gdp_In _ pcs_X12_tree pc_X12_tree [(1, 3), (1, 4), (1, 5)] rfl (gw_S _ _ _)) ggX12_tree_X12_in
set_option maxRecDepth 20000 in
theorem ggX12_tree_X12_isWhole : GoodIn wsX12_tree wsX12_isWhole := gdp_In _ pcs_X12_tree pc_X12_tree [(1, 10), (1, 11), (1, 12), (1, 13), (1, 14), (4, 0), (4, 1), (4, 2), (4, 3), (4, 4), (4, 5), (4, 6), (4, 7), (4, 8), (4, 9), (4, 10), (4, 11), (4, 12), (4, 13), (4, 14), (4, 15), (4, 16), (4, 17), (4, 18), (4, 19), (4, 20), (4, 21), (4, 22), (4, 23), (4, 24), (4, 25), (4, 26), (4, 27), (4, 28), (4, 29), (4, 30), (4, 31), (4, 32), (4, 33)] rfl gw_X12_isWhole
set_option maxRecDepth 20000 in
theorem gX12_tree_X12_isWhole : GoodIn wsX12_tree (wsV RX12 225 RX12 yX12_isWhole wsX12_isWhole) := goodIn_app (gdp_In _ pcs_X12_tree pc_X12_tree [(1, 7), (1, 8), (1, 9), (1, 5)] rfl (gw_V _ _ _ _)) ggX12_tree_X12_isWhole
set_option maxRecDepth 20000 in
theorem ggX12_tree_X12_isPlace : GoodIn wsX12_tree wsX12_isPlace := gdp_In _ pcs_X12_tree pc_X12_tree [(1, 18), (1, 11), (1, 3), (1, 4), (1, 5), (1, 6), (4, 0), (4, 1), (4, 2), (4, 3), (4, 4), (4, 5), (4, 6), (4, 7), (4, 8), (4, 9), (4, 10), (4, 11), (4, 12), (4, 13), (4, 14), (4, 15), (4, 16), (4, 17), (4, 18), (4, 19), (4, 20), (4, 21), (4, 22), (4, 23), (4, 24), (4, 25), (4, 26), (4, 27), (4, 28), (4, 29), (4, 30), (4, 31), (4, 32), (4, 33)] rfl gw_X12_isPlace
set_option maxRecDepth 20000 in
theorem gX12_tree_X12_isPlace : GoodIn wsX12_tree (wsV RX12 98 RX12 yX12_isPlace wsX12_isPlace) := goodIn_app (gdp_In _ pcs_X12_tree pc_X12_tree [(1, 15), (1, 16), (1, 17), (1, 5)] rfl (gw_V _ _ _ _)) ggX12_tree_X12_isPlace
set_option maxRecDepth 20000 in
theorem ggX12_tree_X12_plants : GoodIn wsX12_tree wsX12_plants := gdp_In _ pcs_X12_tree pc_X12_tree [(1, 22), (1, 1), (1, 2), (1, 11), (1, 23), (2, 0), (2, 1), (2, 2), (1, 5), (2, 3), (2, 4), (2, 5), (2, 6), (2, 7), (2, 8), (1, 12), (1, 13), (2, 9), (2, 10), (2, 11), (2, 12), (2, 13), (2, 14), (2, 15), (1, 14), (2, 16), (2, 17), (2, 18), (2, 19), (2, 20), (2, 21), (2, 22), (2, 23), (3, 0), (3, 1), (3, 2), (3, 3), (3, 4), (3, 5), (3, 6), (4, 0), (4, 1), (4, 2), (4, 3), (4, 4), (4, 5), (4, 6), (4, 7), (4, 8), (4, 9), (4, 10), (4, 11), (4, 12), (4, 13), (4, 14), (4, 15), (4, 16), (4, 17), (4, 18), (4, 19), (4, 20), (4, 21), (4, 22), (4, 23), (4, 24), (4, 25), (4, 26), (4, 27), (4, 28), (4, 29), (4, 30), (4, 31), (4, 32), (4, 33)] rfl gw_X12_plants
set_option maxRecDepth 20000 in
theorem gX12_tree_X12_plants : GoodIn wsX12_tree (wsV RX12 229 RX12 yX12_plants wsX12_plants) := goodIn_app (gdp_In _ pcs_X12_tree pc_X12_tree [(1, 19), (1, 20), (1, 21), (1, 5)] rfl (gw_V _ _ _ _)) ggX12_tree_X12_plants
set_option maxRecDepth 20000 in
theorem ggX12_between_X12_isWhole : GoodIn wsX12_between wsX12_isWhole := gdp_In _ pcs_X12_between pc_X12_between [(1, 5), (1, 6), (1, 7), (1, 8), (1, 9), (3, 0), (3, 1), (3, 2), (3, 3), (3, 4), (3, 5), (3, 6), (3, 7), (3, 8), (3, 9), (3, 10), (3, 11), (3, 12), (3, 13), (3, 14), (3, 15), (3, 16), (3, 17), (3, 18), (3, 19), (3, 20), (3, 21), (3, 22), (3, 23), (3, 24), (3, 25), (3, 26), (3, 27), (3, 28), (3, 29), (3, 30), (3, 31), (3, 32), (3, 33)] rfl gw_X12_isWhole
set_option maxRecDepth 20000 in
theorem gX12_between_X12_isWhole : GoodIn wsX12_between (wsV RX12 225 RX12 yX12_isWhole wsX12_isWhole) := goodIn_app (gdp_In _ pcs_X12_between pc_X12_between [(1, 1), (1, 2), (1, 3), (1, 4)] rfl (gw_V _ _ _ _)) ggX12_between_X12_isWhole
set_option maxRecDepth 20000 in
theorem ggX12_between_X12_arePlaces : GoodIn wsX12_between wsX12_arePlaces := gdp_In _ pcs_X12_between pc_X12_between [(1, 13), (1, 14), (1, 15), (1, 16), (1, 4), (1, 17), (1, 6), (1, 18), (1, 19), (1, 20), (3, 0), (3, 1), (3, 2), (3, 3), (3, 4), (3, 5), (3, 6), (3, 7), (3, 8), (3, 9), (3, 10), (3, 11), (3, 12), (3, 13), (3, 14), (3, 15), (3, 16), (3, 17), (3, 18), (3, 19), (3, 20), (3, 21), (3, 22), (3, 23), (3, 24), (3, 25), (3, 26), (3, 27), (3, 28), (3, 29), (3, 30), (3, 31), (3, 32), (3, 33)] rfl gw_X12_arePlaces
set_option maxRecDepth 20000 in
theorem gX12_between_X12_arePlaces : GoodIn wsX12_between (wsV RX12 143 RX12 yX12_arePlaces wsX12_arePlaces) := goodIn_app (gdp_In _ pcs_X12_between pc_X12_between [(1, 10), (1, 11), (1, 12), (1, 4)] rfl (gw_V _ _ _ _)) ggX12_between_X12_arePlaces
set_option maxRecDepth 20000 in
theorem ggX12_between_X12_mostOf : GoodIn wsX12_between wsX12_mostOf := gdp_In _ pcs_X12_between pc_X12_between [(2, 0), (2, 1), (1, 6), (2, 2), (2, 3), (2, 4), (1, 4), (2, 5), (1, 7), (1, 8), (2, 6), (2, 7), (2, 8), (2, 9), (2, 10), (2, 11), (2, 12), (1, 9), (2, 13), (2, 14), (2, 15), (2, 16), (2, 17), (3, 0), (3, 1), (3, 2), (3, 3), (3, 4), (3, 5), (3, 6), (3, 7), (3, 8), (3, 9), (3, 10), (3, 11), (3, 12), (3, 13), (3, 14), (3, 15), (3, 16), (3, 17), (3, 18), (3, 19), (3, 20), (3, 21), (3, 22), (3, 23), (3, 24), (3, 25), (3, 26), (3, 27), (3, 28), (3, 29), (3, 30), (3, 31), (3, 32), (3, 33)] rfl gw_X12_mostOf
set_option maxRecDepth 20000 in
theorem gX12_between_X12_mostOf : GoodIn wsX12_between (wsV RX12 166 RX12 yX12_mostOf wsX12_mostOf) := goodIn_app (gdp_In _ pcs_X12_between pc_X12_between [(1, 21), (1, 22), (1, 23), (1, 4)] rfl (gw_V _ _ _ _)) ggX12_between_X12_mostOf
set_option maxRecDepth 20000 in
theorem ggX12_leastOf_X12_mostOf : GoodIn wsX12_leastOf wsX12_mostOf := gdp_In _ pcs_X12_leastOf pc_X12_leastOf [(1, 6), (1, 0), (1, 1), (1, 7), (1, 8), (1, 9), (1, 5), (1, 10), (1, 11), (1, 12), (1, 13), (1, 14), (1, 15), (1, 16), (1, 17), (1, 18), (1, 19), (1, 20), (1, 21), (1, 22), (1, 23), (2, 0), (2, 1), (3, 0), (3, 1), (3, 2), (3, 3), (3, 4), (3, 5), (3, 6), (3, 7), (3, 8), (3, 9), (3, 10), (3, 11), (3, 12), (3, 13), (3, 14), (3, 15), (3, 16), (3, 17), (3, 18), (3, 19), (3, 20), (3, 21), (3, 22), (3, 23), (3, 24), (3, 25), (3, 26), (3, 27), (3, 28), (3, 29), (3, 30), (3, 31), (3, 32), (3, 33)] rfl gw_X12_mostOf
set_option maxRecDepth 20000 in
theorem gX12_leastOf_X12_mostOf : GoodIn wsX12_leastOf (wsV RX12 166 RX12 yX12_mostOf wsX12_mostOf) := goodIn_app (gdp_In _ pcs_X12_leastOf pc_X12_leastOf [(1, 2), (1, 3), (1, 4), (1, 5)] rfl (gw_V _ _ _ _)) ggX12_leastOf_X12_mostOf
set_option maxRecDepth 20000 in
theorem ggX12_least_X12_isWhole : GoodIn wsX12_least wsX12_isWhole := gdp_In _ pcs_X12_least pc_X12_least [(1, 5), (1, 6), (1, 7), (1, 8), (1, 9), (3, 0), (3, 1), (3, 2), (3, 3), (3, 4), (3, 5), (3, 6), (3, 7), (3, 8), (3, 9), (3, 10), (3, 11), (3, 12), (3, 13), (3, 14), (3, 15), (3, 16), (3, 17), (3, 18), (3, 19), (3, 20), (3, 21), (3, 22), (3, 23), (3, 24), (3, 25), (3, 26), (3, 27), (3, 28), (3, 29), (3, 30), (3, 31), (3, 32), (3, 33)] rfl gw_X12_isWhole
set_option maxRecDepth 20000 in
theorem gX12_least_X12_isWhole : GoodIn wsX12_least (wsV RX12 225 RX12 yX12_isWhole wsX12_isWhole) := goodIn_app (gdp_In _ pcs_X12_least pc_X12_least [(1, 1), (1, 2), (1, 3), (1, 4)] rfl (gw_V _ _ _ _)) ggX12_least_X12_isWhole
set_option maxRecDepth 20000 in
theorem ggX12_least_X12_leastOf : GoodIn wsX12_least wsX12_leastOf := gdp_In _ pcs_X12_least pc_X12_least [(1, 13), (1, 14), (1, 6), (1, 15), (1, 16), (1, 17), (1, 4), (1, 18), (1, 19), (1, 20), (1, 21), (1, 22), (1, 7), (1, 8), (1, 23), (2, 0), (2, 1), (2, 2), (2, 3), (2, 4), (2, 5), (1, 9), (2, 6), (2, 7), (2, 8), (2, 9), (2, 10), (3, 0), (3, 1), (3, 2), (3, 3), (3, 4), (3, 5), (3, 6), (3, 7), (3, 8), (3, 9), (3, 10), (3, 11), (3, 12), (3, 13), (3, 14), (3, 15), (3, 16), (3, 17), (3, 18), (3, 19), (3, 20), (3, 21), (3, 22), (3, 23), (3, 24), (3, 25), (3, 26), (3, 27), (3, 28), (3, 29), (3, 30), (3, 31), (3, 32), (3, 33)] rfl gw_X12_leastOf
set_option maxRecDepth 20000 in
theorem gX12_least_X12_leastOf : GoodIn wsX12_least (wsV RX12 232 RX12 yX12_leastOf wsX12_leastOf) := goodIn_app (gdp_In _ pcs_X12_least pc_X12_least [(1, 10), (1, 11), (1, 12), (1, 4)] rfl (gw_V _ _ _ _)) ggX12_least_X12_leastOf
set_option maxRecDepth 20000 in
theorem ggX12_wholeCuts_X12_leastOf : GoodIn wsX12_wholeCuts wsX12_leastOf := gdp_In _ pcs_X12_wholeCuts pc_X12_wholeCuts [(1, 7), (1, 8), (1, 2), (1, 9), (1, 10), (1, 11), (1, 6), (1, 12), (1, 13), (1, 14), (1, 15), (1, 16), (1, 17), (1, 18), (1, 19), (1, 20), (1, 21), (1, 22), (1, 23), (2, 0), (2, 1), (2, 2), (2, 3), (2, 4), (2, 5), (2, 6), (2, 7), (3, 0), (3, 1), (3, 2), (3, 3), (3, 4), (3, 5), (3, 6), (3, 7), (3, 8), (3, 9), (3, 10), (3, 11), (3, 12), (3, 13), (3, 14), (3, 15), (3, 16), (3, 17), (3, 18), (3, 19), (3, 20), (3, 21), (3, 22), (3, 23), (3, 24), (3, 25), (3, 26), (3, 27), (3, 28), (3, 29), (3, 30), (3, 31), (3, 32), (3, 33)] rfl gw_X12_leastOf
set_option maxRecDepth 20000 in
theorem gX12_wholeCuts_X12_leastOf : GoodIn wsX12_wholeCuts (wsV RX12 232 RX12 yX12_leastOf wsX12_leastOf) := goodIn_app (gdp_In _ pcs_X12_wholeCuts pc_X12_wholeCuts [(1, 3), (1, 4), (1, 5), (1, 6)] rfl (gw_V _ _ _ _)) ggX12_wholeCuts_X12_leastOf
set_option maxRecDepth 20000 in
theorem ggX12_wholeCuts_X12_sizeOf : GoodIn wsX12_wholeCuts wsX12_sizeOf := gdp_In _ pcs_X12_wholeCuts pc_X12_wholeCuts [(1, 16), (1, 17), (1, 18), (1, 19), (1, 20), (1, 8), (1, 21), (1, 22), (1, 23), (1, 6), (2, 0), (2, 1), (2, 2), (2, 3), (2, 4), (2, 5), (2, 6), (2, 7), (3, 0), (3, 1), (3, 2), (3, 3), (3, 4), (3, 5), (3, 6), (3, 7), (3, 8), (3, 9), (3, 10), (3, 11), (3, 12), (3, 13), (3, 14), (3, 15), (3, 16), (3, 17), (3, 18), (3, 19), (3, 20), (3, 21), (3, 22), (3, 23), (3, 24), (3, 25), (3, 26), (3, 27), (3, 28), (3, 29), (3, 30), (3, 31), (3, 32), (3, 33)] rfl gw_X12_sizeOf
set_option maxRecDepth 20000 in
theorem gX12_wholeCuts_X12_sizeOf : GoodIn wsX12_wholeCuts (wsV RX12 163 RX12 yX12_sizeOf wsX12_sizeOf) := goodIn_app (gdp_In _ pcs_X12_wholeCuts pc_X12_wholeCuts [(1, 13), (1, 14), (1, 15), (1, 6)] rfl (gw_V _ _ _ _)) ggX12_wholeCuts_X12_sizeOf
set_option maxRecDepth 20000 in
theorem ggX12_cuts_X12_isWhole : GoodIn wsX12_cuts wsX12_isWhole := gdp_In _ pcs_X12_cuts pc_X12_cuts [(1, 6), (1, 7), (1, 8), (1, 9), (1, 10), (3, 0), (3, 1), (3, 2), (3, 3), (3, 4), (3, 5), (3, 6), (3, 7), (3, 8), (3, 9), (3, 10), (3, 11), (3, 12), (3, 13), (3, 14), (3, 15), (3, 16), (3, 17), (3, 18), (3, 19), (3, 20), (3, 21), (3, 22), (3, 23), (3, 24), (3, 25), (3, 26), (3, 27), (3, 28), (3, 29), (3, 30), (3, 31), (3, 32), (3, 33)] rfl gw_X12_isWhole
set_option maxRecDepth 20000 in
theorem gX12_cuts_X12_isWhole : GoodIn wsX12_cuts (wsV RX12 225 RX12 yX12_isWhole wsX12_isWhole) := goodIn_app (gdp_In _ pcs_X12_cuts pc_X12_cuts [(1, 2), (1, 3), (1, 4), (1, 5)] rfl (gw_V _ _ _ _)) ggX12_cuts_X12_isWhole
set_option maxRecDepth 20000 in
theorem ggX12_cuts_X12_wholeCuts : GoodIn wsX12_cuts wsX12_wholeCuts := gdp_In _ pcs_X12_cuts pc_X12_cuts [(1, 14), (1, 1), (1, 15), (1, 7), (1, 16), (1, 17), (1, 18), (1, 5), (1, 19), (1, 20), (1, 21), (1, 22), (1, 23), (2, 0), (2, 1), (2, 2), (2, 3), (2, 4), (1, 8), (1, 9), (2, 5), (2, 6), (2, 7), (2, 8), (2, 9), (2, 10), (2, 11), (1, 10), (2, 12), (2, 13), (2, 14), (2, 15), (2, 16), (3, 0), (3, 1), (3, 2), (3, 3), (3, 4), (3, 5), (3, 6), (3, 7), (3, 8), (3, 9), (3, 10), (3, 11), (3, 12), (3, 13), (3, 14), (3, 15), (3, 16), (3, 17), (3, 18), (3, 19), (3, 20), (3, 21), (3, 22), (3, 23), (3, 24), (3, 25), (3, 26), (3, 27), (3, 28), (3, 29), (3, 30), (3, 31), (3, 32), (3, 33)] rfl gw_X12_wholeCuts
set_option maxRecDepth 20000 in
theorem gX12_cuts_X12_wholeCuts : GoodIn wsX12_cuts (wsV RX12 236 RX12 yX12_wholeCuts wsX12_wholeCuts) := goodIn_app (gdp_In _ pcs_X12_cuts pc_X12_cuts [(1, 11), (1, 12), (1, 13), (1, 5)] rfl (gw_V _ _ _ _)) ggX12_cuts_X12_wholeCuts
set_option maxRecDepth 20000 in
theorem ggX12_cutAt_X12_isWhole : GoodIn wsX12_cutAt wsX12_isWhole := gdp_In _ pcs_X12_cutAt pc_X12_cutAt [(1, 6), (1, 7), (1, 8), (1, 9), (1, 10), (3, 0), (3, 1), (3, 2), (3, 3), (3, 4), (3, 5), (3, 6), (3, 7), (3, 8), (3, 9), (3, 10), (3, 11), (3, 12), (3, 13), (3, 14), (3, 15), (3, 16), (3, 17), (3, 18), (3, 19), (3, 20), (3, 21), (3, 22), (3, 23), (3, 24), (3, 25), (3, 26), (3, 27), (3, 28), (3, 29), (3, 30), (3, 31), (3, 32), (3, 33)] rfl gw_X12_isWhole
set_option maxRecDepth 20000 in
theorem gX12_cutAt_X12_isWhole : GoodIn wsX12_cutAt (wsV RX12 225 RX12 yX12_isWhole wsX12_isWhole) := goodIn_app (gdp_In _ pcs_X12_cutAt pc_X12_cutAt [(1, 2), (1, 3), (1, 4), (1, 5)] rfl (gw_V _ _ _ _)) ggX12_cutAt_X12_isWhole
set_option maxRecDepth 20000 in
theorem ggX12_cutAt_X12_wholeCuts : GoodIn wsX12_cutAt wsX12_wholeCuts := gdp_In _ pcs_X12_cutAt pc_X12_cutAt [(1, 14), (1, 15), (1, 1), (1, 7), (1, 16), (1, 17), (1, 18), (1, 5), (1, 19), (1, 20), (1, 21), (1, 22), (1, 23), (2, 0), (2, 1), (2, 2), (2, 3), (2, 4), (1, 8), (1, 9), (2, 5), (2, 6), (2, 7), (2, 8), (2, 9), (2, 10), (2, 11), (1, 10), (2, 12), (2, 13), (2, 14), (2, 15), (2, 16), (3, 0), (3, 1), (3, 2), (3, 3), (3, 4), (3, 5), (3, 6), (3, 7), (3, 8), (3, 9), (3, 10), (3, 11), (3, 12), (3, 13), (3, 14), (3, 15), (3, 16), (3, 17), (3, 18), (3, 19), (3, 20), (3, 21), (3, 22), (3, 23), (3, 24), (3, 25), (3, 26), (3, 27), (3, 28), (3, 29), (3, 30), (3, 31), (3, 32), (3, 33)] rfl gw_X12_wholeCuts
set_option maxRecDepth 20000 in
theorem gX12_cutAt_X12_wholeCuts : GoodIn wsX12_cutAt (wsV RX12 236 RX12 yX12_wholeCuts wsX12_wholeCuts) := goodIn_app (gdp_In _ pcs_X12_cutAt pc_X12_cutAt [(1, 11), (1, 12), (1, 13), (1, 5)] rfl (gw_V _ _ _ _)) ggX12_cutAt_X12_wholeCuts
set_option maxRecDepth 20000 in
theorem ggX12_weak_X12_isLine : GoodIn wsX12_weak wsX12_isLine := gdp_In _ pcs_X12_weak pc_X12_weak [(1, 9), (1, 10), (1, 11), (1, 12), (1, 8), (1, 13), (3, 0), (3, 1), (3, 2), (3, 3), (3, 4), (3, 5), (3, 6), (3, 7), (3, 8), (3, 9), (3, 10), (3, 11), (3, 12), (3, 13), (3, 14), (3, 15), (3, 16), (3, 17), (3, 18), (3, 19), (3, 20), (3, 21), (3, 22), (3, 23), (3, 24), (3, 25), (3, 26), (3, 27), (3, 28), (3, 29), (3, 30), (3, 31), (3, 32), (3, 33)] rfl gw_X12_isLine
set_option maxRecDepth 20000 in
theorem gX12_weak_X12_isLine : GoodIn wsX12_weak (wsV RX12 132 RX12 yX12_isLine wsX12_isLine) := goodIn_app (gdp_In _ pcs_X12_weak pc_X12_weak [(1, 5), (1, 6), (1, 7), (1, 8)] rfl (gw_V _ _ _ _)) ggX12_weak_X12_isLine
set_option maxRecDepth 20000 in
theorem ggX12_weak_X12_isWhole : GoodIn wsX12_weak wsX12_isWhole := gdp_In _ pcs_X12_weak pc_X12_weak [(1, 17), (1, 2), (1, 10), (1, 1), (1, 18), (3, 0), (3, 1), (3, 2), (3, 3), (3, 4), (3, 5), (3, 6), (3, 7), (3, 8), (3, 9), (3, 10), (3, 11), (3, 12), (3, 13), (3, 14), (3, 15), (3, 16), (3, 17), (3, 18), (3, 19), (3, 20), (3, 21), (3, 22), (3, 23), (3, 24), (3, 25), (3, 26), (3, 27), (3, 28), (3, 29), (3, 30), (3, 31), (3, 32), (3, 33)] rfl gw_X12_isWhole
set_option maxRecDepth 20000 in
theorem gX12_weak_X12_isWhole : GoodIn wsX12_weak (wsV RX12 225 RX12 yX12_isWhole wsX12_isWhole) := goodIn_app (gdp_In _ pcs_X12_weak pc_X12_weak [(1, 14), (1, 15), (1, 16), (1, 8)] rfl (gw_V _ _ _ _)) ggX12_weak_X12_isWhole
set_option maxRecDepth 20000 in
theorem ggX12_weak_X12_leastOf : GoodIn wsX12_weak wsX12_leastOf := gdp_In _ pcs_X12_weak pc_X12_weak [(1, 22), (1, 23), (1, 2), (2, 0), (2, 1), (2, 2), (1, 8), (2, 3), (2, 4), (2, 5), (2, 6), (2, 7), (1, 10), (1, 1), (1, 3), (1, 4), (2, 8), (2, 9), (2, 10), (2, 11), (2, 12), (1, 18), (2, 13), (2, 14), (2, 15), (2, 16), (2, 17), (3, 0), (3, 1), (3, 2), (3, 3), (3, 4), (3, 5), (3, 6), (3, 7), (3, 8), (3, 9), (3, 10), (3, 11), (3, 12), (3, 13), (3, 14), (3, 15), (3, 16), (3, 17), (3, 18), (3, 19), (3, 20), (3, 21), (3, 22), (3, 23), (3, 24), (3, 25), (3, 26), (3, 27), (3, 28), (3, 29), (3, 30), (3, 31), (3, 32), (3, 33)] rfl gw_X12_leastOf
set_option maxRecDepth 20000 in
theorem gX12_weak_X12_leastOf : GoodIn wsX12_weak (wsV RX12 232 RX12 yX12_leastOf wsX12_leastOf) := goodIn_app (gdp_In _ pcs_X12_weak pc_X12_weak [(1, 19), (1, 20), (1, 21), (1, 8)] rfl (gw_V _ _ _ _)) ggX12_weak_X12_leastOf
set_option maxRecDepth 20000 in
theorem ggX12_weak_X12_sizeOf : GoodIn wsX12_weak wsX12_sizeOf := gdp_In _ pcs_X12_weak pc_X12_weak [(2, 7), (1, 10), (1, 1), (1, 3), (1, 4), (1, 23), (2, 8), (2, 9), (2, 10), (1, 8), (2, 11), (2, 12), (1, 18), (2, 13), (2, 14), (2, 15), (2, 16), (2, 17), (3, 0), (3, 1), (3, 2), (3, 3), (3, 4), (3, 5), (3, 6), (3, 7), (3, 8), (3, 9), (3, 10), (3, 11), (3, 12), (3, 13), (3, 14), (3, 15), (3, 16), (3, 17), (3, 18), (3, 19), (3, 20), (3, 21), (3, 22), (3, 23), (3, 24), (3, 25), (3, 26), (3, 27), (3, 28), (3, 29), (3, 30), (3, 31), (3, 32), (3, 33)] rfl gw_X12_sizeOf
set_option maxRecDepth 20000 in
theorem gX12_weak_X12_sizeOf : GoodIn wsX12_weak (wsV RX12 163 RX12 yX12_sizeOf wsX12_sizeOf) := goodIn_app (gdp_In _ pcs_X12_weak pc_X12_weak [(2, 4), (2, 5), (2, 6), (1, 8)] rfl (gw_V _ _ _ _)) ggX12_weak_X12_sizeOf
set_option maxRecDepth 20000 in
theorem ggX12_part_X12_isWhole : GoodIn wsX12_part wsX12_isWhole := gdp_In _ pcs_X12_part pc_X12_part [(1, 6), (1, 1), (1, 7), (1, 8), (1, 9), (3, 0), (3, 1), (3, 2), (3, 3), (3, 4), (3, 5), (3, 6), (3, 7), (3, 8), (3, 9), (3, 10), (3, 11), (3, 12), (3, 13), (3, 14), (3, 15), (3, 16), (3, 17), (3, 18), (3, 19), (3, 20), (3, 21), (3, 22), (3, 23), (3, 24), (3, 25), (3, 26), (3, 27), (3, 28), (3, 29), (3, 30), (3, 31), (3, 32), (3, 33)] rfl gw_X12_isWhole
set_option maxRecDepth 20000 in
theorem gX12_part_X12_isWhole : GoodIn wsX12_part (wsV RX12 225 RX12 yX12_isWhole wsX12_isWhole) := goodIn_app (gdp_In _ pcs_X12_part pc_X12_part [(1, 2), (1, 3), (1, 4), (1, 5)] rfl (gw_V _ _ _ _)) ggX12_part_X12_isWhole
set_option maxRecDepth 20000 in
theorem ggX12_part_X12_isPlace : GoodIn wsX12_part wsX12_isPlace := gdp_In _ pcs_X12_part pc_X12_part [(1, 13), (1, 1), (1, 14), (1, 15), (1, 5), (1, 16), (3, 0), (3, 1), (3, 2), (3, 3), (3, 4), (3, 5), (3, 6), (3, 7), (3, 8), (3, 9), (3, 10), (3, 11), (3, 12), (3, 13), (3, 14), (3, 15), (3, 16), (3, 17), (3, 18), (3, 19), (3, 20), (3, 21), (3, 22), (3, 23), (3, 24), (3, 25), (3, 26), (3, 27), (3, 28), (3, 29), (3, 30), (3, 31), (3, 32), (3, 33)] rfl gw_X12_isPlace
set_option maxRecDepth 20000 in
theorem gX12_part_X12_isPlace : GoodIn wsX12_part (wsV RX12 98 RX12 yX12_isPlace wsX12_isPlace) := goodIn_app (gdp_In _ pcs_X12_part pc_X12_part [(1, 10), (1, 11), (1, 12), (1, 5)] rfl (gw_V _ _ _ _)) ggX12_part_X12_isPlace
set_option maxRecDepth 20000 in
theorem ggX12_part_X12_mostOf : GoodIn wsX12_part wsX12_mostOf := gdp_In _ pcs_X12_part pc_X12_part [(1, 20), (1, 21), (1, 1), (1, 22), (1, 23), (2, 0), (1, 5), (2, 1), (1, 7), (1, 8), (2, 2), (2, 3), (2, 4), (2, 5), (2, 6), (2, 7), (2, 8), (1, 9), (2, 9), (2, 10), (2, 11), (2, 12), (2, 13), (3, 0), (3, 1), (3, 2), (3, 3), (3, 4), (3, 5), (3, 6), (3, 7), (3, 8), (3, 9), (3, 10), (3, 11), (3, 12), (3, 13), (3, 14), (3, 15), (3, 16), (3, 17), (3, 18), (3, 19), (3, 20), (3, 21), (3, 22), (3, 23), (3, 24), (3, 25), (3, 26), (3, 27), (3, 28), (3, 29), (3, 30), (3, 31), (3, 32), (3, 33)] rfl gw_X12_mostOf
set_option maxRecDepth 20000 in
theorem gX12_part_X12_mostOf : GoodIn wsX12_part (wsV RX12 166 RX12 yX12_mostOf wsX12_mostOf) := goodIn_app (gdp_In _ pcs_X12_part pc_X12_part [(1, 17), (1, 18), (1, 19), (1, 5)] rfl (gw_V _ _ _ _)) ggX12_part_X12_mostOf
set_option maxRecDepth 20000 in
theorem ggX12_dense_X12_in : GoodIn wsX12_dense wsX12_in := goodIn_r _ [12] rfl gw_X12_in
set_option maxRecDepth 20000 in
theorem gX12_dense_X12_in : GoodIn wsX12_dense (va_wsS RX12 91 yX12_in wsX12_in) := goodIn_app (goodIn_r _ [9, 10, 11] rfl (gw_S _ _ _)) ggX12_dense_X12_in
set_option maxRecDepth 20000 in
theorem ggX12_dense_X12_isWhole : GoodIn wsX12_dense wsX12_isWhole := goodIn_r _ [16, 3, 4, 5, 17, 21, 22, 23, 24, 25, 26, 27, 28, 29, 30, 31, 32, 33, 34, 35, 36, 37, 38, 39, 40, 41, 42, 43, 44, 45, 46, 47, 48, 49, 50, 51, 52, 53, 54] rfl gw_X12_isWhole
set_option maxRecDepth 20000 in
theorem gX12_dense_X12_isWhole : GoodIn wsX12_dense (wsV RX12 225 RX12 yX12_isWhole wsX12_isWhole) := goodIn_app (goodIn_r _ [13, 14, 15, 11] rfl (gw_V _ _ _ _)) ggX12_dense_X12_isWhole
set_option maxRecDepth 20000 in
theorem ggX12_dense_X12_bitsOf : GoodIn wsX12_dense wsX12_bitsOf := goodIn_r _ [20] rfl gw_X12_bitsOf
set_option maxRecDepth 20000 in
theorem gX12_dense_X12_bitsOf : GoodIn wsX12_dense (va_wsS RX12 204 yX12_bitsOf wsX12_bitsOf) := goodIn_app (goodIn_r _ [18, 19, 11] rfl (gw_S _ _ _)) ggX12_dense_X12_bitsOf
set_option maxRecDepth 20000 in
theorem ggX12_map_X12_in : GoodIn wsX12_map wsX12_in := goodIn_r _ [12] rfl gw_X12_in
set_option maxRecDepth 20000 in
theorem gX12_map_X12_in : GoodIn wsX12_map (va_wsS RX12 91 yX12_in wsX12_in) := goodIn_app (goodIn_r _ [9, 10, 11] rfl (gw_S _ _ _)) ggX12_map_X12_in
set_option maxRecDepth 20000 in
theorem ggX12_map_X12_no : GoodIn wsX12_map wsX12_no := goodIn_r _ [16, 2, 17, 18, 19, 20, 21, 22, 23, 24, 25, 26, 27, 28, 29, 30, 31, 32, 33, 34, 35, 36, 37, 38, 39, 40, 41, 42, 43, 44, 45, 46, 47, 48, 49, 50] rfl gw_X12_no
set_option maxRecDepth 20000 in
theorem gX12_map_X12_no : GoodIn wsX12_map (wsV RX12 245 RX12 yX12_no wsX12_no) := goodIn_app (goodIn_r _ [13, 14, 15, 11] rfl (gw_V _ _ _ _)) ggX12_map_X12_no
set_option maxRecDepth 20000 in
theorem ggX12_row_X12_in : GoodIn wsX12_row wsX12_in := goodIn_r _ [11] rfl gw_X12_in
set_option maxRecDepth 20000 in
theorem gX12_row_X12_in : GoodIn wsX12_row (va_wsS RX12 91 yX12_in wsX12_in) := goodIn_app (goodIn_r _ [8, 9, 10] rfl (gw_S _ _ _)) ggX12_row_X12_in
set_option maxRecDepth 20000 in
theorem ggX12_row_X12_no : GoodIn wsX12_row wsX12_no := goodIn_r _ [15, 2, 16, 17, 18, 19, 20, 21, 22, 23, 24, 25, 26, 27, 28, 29, 30, 31, 32, 33, 34, 35, 36, 37, 38, 39, 40, 41, 42, 43, 44, 45, 46, 47, 48, 49] rfl gw_X12_no
set_option maxRecDepth 20000 in
theorem gX12_row_X12_no : GoodIn wsX12_row (wsV RX12 245 RX12 yX12_no wsX12_no) := goodIn_app (goodIn_r _ [12, 13, 14, 10] rfl (gw_V _ _ _ _)) ggX12_row_X12_no
set_option maxRecDepth 20000 in
theorem ggX12_wrong_X12_in : GoodIn wsX12_wrong wsX12_in := goodIn_r _ [10] rfl gw_X12_in
set_option maxRecDepth 20000 in
theorem gX12_wrong_X12_in : GoodIn wsX12_wrong (va_wsS RX12 91 yX12_in wsX12_in) := goodIn_app (goodIn_r _ [7, 8, 9] rfl (gw_S _ _ _)) ggX12_wrong_X12_in
set_option maxRecDepth 20000 in
theorem ggX12_put_X12_wrong : GoodIn wsX12_put wsX12_wrong := goodIn_r _ [8, 9, 10, 11, 12, 13, 14, 15, 16, 7, 17, 22, 23, 24, 25, 26, 27, 28, 29, 30, 31, 32, 33, 34, 35, 36, 37, 38, 39, 40, 41, 42, 43, 44, 45, 46, 47, 48, 49, 50, 51, 52, 53, 54, 55] rfl gw_X12_wrong
set_option maxRecDepth 20000 in
theorem gX12_put_X12_wrong : GoodIn wsX12_put (wsV RX12 248 RX12 yX12_wrong wsX12_wrong) := goodIn_app (goodIn_r _ [4, 5, 6, 7] rfl (gw_V _ _ _ _)) ggX12_put_X12_wrong
set_option maxRecDepth 20000 in
theorem ggX12_put_X12_no : GoodIn wsX12_put wsX12_no := goodIn_r _ [21, 2, 22, 23, 24, 25, 26, 27, 28, 29, 30, 31, 32, 33, 34, 35, 36, 37, 38, 39, 40, 41, 42, 43, 44, 45, 46, 47, 48, 49, 50, 51, 52, 53, 54, 55] rfl gw_X12_no
set_option maxRecDepth 20000 in
theorem gX12_put_X12_no : GoodIn wsX12_put (wsV RX12 245 RX12 yX12_no wsX12_no) := goodIn_app (goodIn_r _ [18, 19, 20, 7] rfl (gw_V _ _ _ _)) ggX12_put_X12_no
set_option maxRecDepth 20000 in
theorem ggX12_copy_X12_in : GoodIn wsX12_copy wsX12_in := goodIn_r _ [12] rfl gw_X12_in
set_option maxRecDepth 20000 in
theorem gX12_copy_X12_in : GoodIn wsX12_copy (va_wsS RX12 91 yX12_in wsX12_in) := goodIn_app (goodIn_r _ [9, 10, 11] rfl (gw_S _ _ _)) ggX12_copy_X12_in
set_option maxRecDepth 20000 in
theorem ggX12_copy_X12_no : GoodIn wsX12_copy wsX12_no := goodIn_r _ [16, 2, 20, 21, 22, 23, 24, 25, 26, 27, 28, 29, 30, 31, 32, 33, 34, 35, 36, 37, 38, 39, 40, 41, 42, 43, 44, 45, 46, 47, 48, 49, 50, 51, 52, 53] rfl gw_X12_no
set_option maxRecDepth 20000 in
theorem gX12_copy_X12_no : GoodIn wsX12_copy (wsV RX12 245 RX12 yX12_no wsX12_no) := goodIn_app (goodIn_r _ [13, 14, 15, 11] rfl (gw_V _ _ _ _)) ggX12_copy_X12_no
set_option maxRecDepth 20000 in
theorem ggX12_copy_X12_areThere : GoodIn wsX12_copy wsX12_areThere := goodIn_r _ [19] rfl gw_X12_areThere
set_option maxRecDepth 20000 in
theorem gX12_copy_X12_areThere : GoodIn wsX12_copy (va_wsS RX12 252 yX12_areThere wsX12_areThere) := goodIn_app (goodIn_r _ [17, 18, 11] rfl (gw_S _ _ _)) ggX12_copy_X12_areThere
set_option maxRecDepth 20000 in
theorem ggX12_item_X12_wrong : GoodIn wsX12_item wsX12_wrong := goodIn_r _ [8, 9, 10, 11, 12, 13, 14, 15, 16, 7, 17, 18, 19, 20, 21, 22, 23, 24, 25, 26, 27, 28, 29, 30, 31, 32, 33, 34, 35, 36, 37, 38, 39, 40, 41, 42, 43, 44, 45, 46, 47, 48, 49, 50, 51] rfl gw_X12_wrong
set_option maxRecDepth 20000 in
theorem gX12_item_X12_wrong : GoodIn wsX12_item (wsV RX12 248 RX12 yX12_wrong wsX12_wrong) := goodIn_app (goodIn_r _ [4, 5, 6, 7] rfl (gw_V _ _ _ _)) ggX12_item_X12_wrong
set_option maxRecDepth 20000 in
theorem ggX12_read_X12_in : GoodIn wsX12_read wsX12_in := gdp_In _ pcs_X12_read pc_X12_read [(1, 10)] rfl gw_X12_in
set_option maxRecDepth 20000 in
theorem gX12_read_X12_in : GoodIn wsX12_read (va_wsS RX12 91 yX12_in wsX12_in) := goodIn_app (gdp_In _ pcs_X12_read pc_X12_read [(1, 7), (1, 8), (1, 9)] rfl (gw_S _ _ _)) ggX12_read_X12_in
set_option maxRecDepth 20000 in
theorem ggX12_read_X12_no : GoodIn wsX12_read wsX12_no := gdp_In _ pcs_X12_read pc_X12_read [(1, 14), (1, 1), (3, 0), (3, 1), (3, 2), (3, 3), (3, 4), (3, 5), (3, 6), (3, 7), (3, 8), (3, 9), (3, 10), (3, 11), (3, 12), (3, 13), (3, 14), (3, 15), (3, 16), (3, 17), (3, 18), (3, 19), (3, 20), (3, 21), (3, 22), (3, 23), (3, 24), (3, 25), (3, 26), (3, 27), (3, 28), (3, 29), (3, 30), (3, 31), (3, 32), (3, 33)] rfl gw_X12_no
set_option maxRecDepth 20000 in
theorem gX12_read_X12_no : GoodIn wsX12_read (wsV RX12 245 RX12 yX12_no wsX12_no) := goodIn_app (gdp_In _ pcs_X12_read pc_X12_read [(1, 11), (1, 12), (1, 13), (1, 9)] rfl (gw_V _ _ _ _)) ggX12_read_X12_no
set_option maxRecDepth 20000 in
theorem ggX12_read_X12_refused : GoodIn wsX12_read wsX12_refused := gdp_In _ pcs_X12_read pc_X12_read [(1, 18), (1, 19), (1, 20), (1, 21), (1, 22), (1, 23), (1, 7), (1, 8), (1, 9), (1, 10), (3, 0), (3, 1), (3, 2), (3, 3), (3, 4), (3, 5), (3, 6), (3, 7), (3, 8), (3, 9), (3, 10), (3, 11), (3, 12), (3, 13), (3, 14), (3, 15), (3, 16), (3, 17), (3, 18), (3, 19), (3, 20), (3, 21), (3, 22), (3, 23), (3, 24), (3, 25), (3, 26), (3, 27), (3, 28), (3, 29), (3, 30), (3, 31), (3, 32), (3, 33)] rfl gw_X12_refused
set_option maxRecDepth 20000 in
theorem gX12_read_X12_refused : GoodIn wsX12_read (wsV RX12 120 RX12 yX12_refused wsX12_refused) := goodIn_app (gdp_In _ pcs_X12_read pc_X12_read [(1, 15), (1, 16), (1, 17), (1, 9)] rfl (gw_V _ _ _ _)) ggX12_read_X12_refused
set_option maxRecDepth 20000 in
theorem ggX12_read_X12_keeps : GoodIn wsX12_read wsX12_keeps := gdp_In _ pcs_X12_read pc_X12_read [(2, 3), (2, 4), (2, 5), (2, 6), (2, 7), (1, 20), (1, 23), (2, 8), (2, 9), (2, 10), (2, 11), (2, 12), (2, 13), (3, 0), (3, 1), (3, 2), (3, 3), (3, 4), (3, 5), (3, 6), (3, 7), (3, 8), (3, 9), (3, 10), (3, 11), (3, 12), (3, 13), (3, 14), (3, 15), (3, 16), (3, 17), (3, 18), (3, 19), (3, 20), (3, 21), (3, 22), (3, 23), (3, 24), (3, 25), (3, 26), (3, 27), (3, 28), (3, 29), (3, 30), (3, 31), (3, 32), (3, 33)] rfl gw_X12_keeps
set_option maxRecDepth 20000 in
theorem gX12_read_X12_keeps : GoodIn wsX12_read (wsV RX12 105 RX12 yX12_keeps wsX12_keeps) := goodIn_app (gdp_In _ pcs_X12_read pc_X12_read [(2, 0), (2, 1), (2, 2), (1, 9)] rfl (gw_V _ _ _ _)) ggX12_read_X12_keeps
set_option maxRecDepth 20000 in
theorem ggX12_read_X12_adds : GoodIn wsX12_read wsX12_adds := gdp_In _ pcs_X12_read pc_X12_read [(2, 17), (2, 8), (1, 23), (2, 9), (2, 10), (2, 11), (2, 12), (2, 13), (2, 18), (2, 19), (3, 0), (3, 1), (3, 2), (3, 3), (3, 4), (3, 5), (3, 6), (3, 7), (3, 8), (3, 9), (3, 10), (3, 11), (3, 12), (3, 13), (3, 14), (3, 15), (3, 16), (3, 17), (3, 18), (3, 19), (3, 20), (3, 21), (3, 22), (3, 23), (3, 24), (3, 25), (3, 26), (3, 27), (3, 28), (3, 29), (3, 30), (3, 31), (3, 32), (3, 33)] rfl gw_X12_adds
set_option maxRecDepth 20000 in
theorem gX12_read_X12_adds : GoodIn wsX12_read (wsV RX12 124 RX12 yX12_adds wsX12_adds) := goodIn_app (gdp_In _ pcs_X12_read pc_X12_read [(2, 14), (2, 15), (2, 16), (1, 9)] rfl (gw_V _ _ _ _)) ggX12_read_X12_adds
set_option maxRecDepth 20000 in
theorem ggX12_about_X12_isWhole : GoodIn wsX12_about wsX12_isWhole := goodIn_r _ [10, 4, 2, 3, 11, 12, 13, 14, 15, 16, 17, 18, 19, 20, 21, 22, 23, 24, 25, 26, 27, 28, 29, 30, 31, 32, 33, 34, 35, 36, 37, 38, 39, 40, 41, 42, 43, 44, 45] rfl gw_X12_isWhole
set_option maxRecDepth 20000 in
theorem gX12_about_X12_isWhole : GoodIn wsX12_about (wsV RX12 225 RX12 yX12_isWhole wsX12_isWhole) := goodIn_app (goodIn_r _ [6, 7, 8, 9] rfl (gw_V _ _ _ _)) ggX12_about_X12_isWhole
