set_option maxHeartbeats 4000000 in
set_option maxRecDepth 100000 in
theorem c_X12_in (l : Launch) (D : va_G) (cy : Nat → ClassId) (sz : Nat) (v : Int64) (lo : Int64) (hi : Int64) : Met l yX12_in wsX12_in ({ frames := 0, cells := 0, slots := 0, locals := 0 }) (va_Pc [.long v, .long lo, .long hi] (fun U => U.heap.size = sz ∧ va_P D vwCl [] U.heap ∧ kk_ D cy U ∧ va_D (fun _ => True) [])) (va_Qi (fun (r : Int32) (_ : Unit) => ((lo.toInt ≤ v.toInt ∧ v.toInt ≤ hi.toInt) ∧ r = 1) ∨ ((¬ (lo.toInt ≤ v.toInt ∧ v.toInt ≤ hi.toInt)) ∧ r = 0)) (fun (_ : Unit) (_ : State) => True) (va_A [] sz)) 0 0 (va_A [] sz) := by
  refine Met.ofW (cc := cX12_in) (maxL := 6) (ret := (some .boolean)) (by decide) rfl ?_
  intro p e s m args below meth c s₁ B hml hv
  obtain ⟨rfl, hsz, hP, hK, hD0⟩ := hv
  have hx := B.exec
  have hb := B.bytes
  have hr := B.returns
  have hts := atoms_spec (ws := wsX12_in) B.pre
  have hown : s.vm.findClass RX12 = some m.cls := findClass_of_methodNamed B.named
  have hlocks := B.notSynchronized
  subst hsz
  have hD : va_D (va_A [] s.heap.size) [] := dd_nil
  generalize hAe : va_A [] s.heap.size = A at hD ⊢
  have hA : ∀ q : Nat, s.heap.size ≤ q → A q := fun q h => by rw [← hAe]; exact Or.inr h
  have hS : va_S A s.heap s.heap [] := va_S.rf
  have hl := lv_entry ([.long v, .long lo, .long hi]) (n := 6) (Nat.le_of_ble_eq_true rfl)
  rw [lg_entry_eq]
  generalize (lg_sl ([.long v, .long lo, .long hi]) ++ List.replicate (6 - (lg_sl ([.long v, .long lo, .long hi])).length) Slot.unset).toArray = ls at hl ⊢
  have hl : lv_has ls 6 [(0, .long v), (2, .long lo), (4, .long hi)] := hl
  have z0 : (0 : Int32).toInt = 0 := by decide
  refine lv_lload_n hx hb dX12_in_0 rfl (lv_at hl 0 rfl) ?_
  refine lv_lload_n hx hb dX12_in_1 rfl (lv_at hl 1 rfl) ?_
  refine W.lcmp hx hb dX12_in_2 ?_
  refine lv_if_lt (tgt := 17) hx hb dX12_in_3 (by decide) (fun c_1 => ?_) (fun c_1 => ?_)
  · have t_1 : v.toInt < lo.toInt := Int64.lt_iff_toInt_lt.mp ((lg_cmp_lt v lo).mp c_1)
    refine lv_iconst (v := 0) hx hb dX12_in_17 (by decide) ?_
    exact W.zret (ty := .boolean) (v := 0) hx hb hr (by decide) (fun t ht hW => ⟨⟨0, (), rfl, Or.inr (⟨by omega, rfl⟩), trivial⟩, hS.F ht⟩) hS.2.2 dX12_in_18
  · have t_1 : ¬ v.toInt < lo.toInt := fun h => c_1 ((lg_cmp_lt v lo).mpr (Int64.lt_iff_toInt_lt.mpr h))
    refine lv_lload_n hx hb dX12_in_6 rfl (lv_at hl 0 rfl) ?_
    refine lv_lload hx hb dX12_in_7 (lv_at hl 2 rfl) ?_
    refine W.lcmp hx hb dX12_in_9 ?_
    refine lv_if_gt (tgt := 17) hx hb dX12_in_10 (by decide) (fun c_2 => ?_) (fun c_2 => ?_)
    · have t_2 : hi.toInt < v.toInt := Int64.lt_iff_toInt_lt.mp ((lg_cmp_gt v hi).mp c_2)
      refine lv_iconst (v := 0) hx hb dX12_in_17 (by decide) ?_
      exact W.zret (ty := .boolean) (v := 0) hx hb hr (by decide) (fun t ht hW => ⟨⟨0, (), rfl, Or.inr (⟨by omega, rfl⟩), trivial⟩, hS.F ht⟩) hS.2.2 dX12_in_18
    · have t_2 : ¬ hi.toInt < v.toInt := fun h => c_2 ((lg_cmp_gt v hi).mpr (Int64.lt_iff_toInt_lt.mpr h))
      refine lv_iconst (v := 1) hx hb dX12_in_13 (by decide) ?_
      refine lv_goto (tgt := 18) hx hb dX12_in_14 (by decide) ?_
      exact W.zret (ty := .boolean) (v := 1) hx hb hr (by decide) (fun t ht hW => ⟨⟨1, (), rfl, Or.inl (⟨by omega, rfl⟩), trivial⟩, hS.F ht⟩) hS.2.2 dX12_in_18

set_option maxHeartbeats 4000000 in
set_option maxRecDepth 100000 in
theorem c_X12_isPlace (l : Launch) (D : va_G) (cy : Nat → ClassId) (sz : Nat) (mo : Nat) (g5 : Nat) (g6 : Nat) (g7 : Nat) (g8 : Nat) (g9 : Nat) (g10 : Nat) (g12 : Nat) (g13 : Nat) (g14 : Nat) (g15 : Nat) (g16 : Nat) (g17 : Nat) (g18 : Nat) (g19 : Nat) (g20 : Nat) (g22 : Nat) (g23 : Nat) (g24 : Nat) (g29 : Nat) (g30 : Nat) (g31 : Nat) (g32 : Nat) (g33 : Nat) (a1 : Int32) : Met l yX12_isPlace wsX12_isPlace ({ frames := 1, cells := 0, slots := 0, locals := 25 }) (va_Pc [.ref mo, .int a1] (fun U => U.heap.size = sz ∧ va_P D vwCl [(mo, .inr (12, [.int 0, .int 0, .long 0, .int 0, .int 0, .ref g5, .ref g6, .ref g7, .ref g8, .ref g9, .ref g10, .int 0, .ref g12, .ref g13, .ref g14, .ref g15, .ref g16, .ref g17, .ref g18, .ref g19, .ref g20, .int (-9), .ref g22, .ref g23, .ref g24, .int 0, .int 0, .int 0, .int 0, .ref g29, .ref g30, .ref g31, .ref g32, .ref g33]))] U.heap ∧ kk_ D cy U ∧ va_D (fun _ => True) [(mo, .inr (12, [.int 0, .int 0, .long 0, .int 0, .int 0, .ref g5, .ref g6, .ref g7, .ref g8, .ref g9, .ref g10, .int 0, .ref g12, .ref g13, .ref g14, .ref g15, .ref g16, .ref g17, .ref g18, .ref g19, .ref g20, .int (-9), .ref g22, .ref g23, .ref g24, .int 0, .int 0, .int 0, .int 0, .ref g29, .ref g30, .ref g31, .ref g32, .ref g33]))])) (va_Qi (fun (r : Int32) (_ : Unit) => r = 0) (fun (_ : Unit) (_ : State) => True) (va_A [] sz)) 0 0 (va_A [] sz) := by
  refine Met.ofW (cc := cX12_isPlace) (maxL := 2) (ret := (some .boolean)) (by decide) rfl ?_
  intro p e s m args below meth c s₁ B hml hv
  obtain ⟨rfl, hsz, hP, hK, hD0⟩ := hv
  have hx := B.exec
  have hb := B.bytes
  have hr := B.returns
  have hts := atoms_spec (ws := wsX12_isPlace) B.pre
  have hown : s.vm.findClass RX12 = some m.cls := findClass_of_methodNamed B.named
  have hlocks := B.notSynchronized
  subst hsz
  have hD : va_D (va_A [] s.heap.size) [] := dd_nil
  generalize hAe : va_A [] s.heap.size = A at hD ⊢
  have hA : ∀ q : Nat, s.heap.size ≤ q → A q := fun q h => by rw [← hAe]; exact Or.inr h
  have hS : va_S A s.heap s.heap [] := va_S.rf
  have hl := lv_entry ([.ref mo, .int a1]) (n := 2) (Nat.le_of_ble_eq_true rfl)
  rw [lg_entry_eq]
  generalize (lg_sl ([.ref mo, .int a1]) ++ List.replicate (2 - (lg_sl ([.ref mo, .int a1])).length) Slot.unset).toArray = ls at hl ⊢
  have hl : lv_has ls 2 [(0, .ref mo), (1, .int a1)] := hl
  have zlm1 : ((-1) : Int64).toInt = -1 := by decide
  have zl0 : (0 : Int64).toInt = 0 := by decide
  refine lv_iload_n hx hb dX12_isPlace_0 rfl (lv_at hl 1 rfl) ?_
  refine lv_i2l (v := a1.toInt64) hx hb dX12_isPlace_1 rfl ?_
  have q_1 : (a1.toInt64).toInt = a1.toInt := Int32.toInt_toInt64 a1
  refine lv_lconst (v := 0) hx hb dX12_isPlace_2 (by decide) ?_
  refine lv_aload_n hx hb dX12_isPlace_3 rfl (lv_at hl 0 rfl) ?_
  refine va_get (ci := 12) (v := .int 0) (C := RX12) (T := TX12) (N := 34) hx hb hts (fun _ h => List.mem_cons_of_mem _ (List.mem_append_right _ h)) hown hK.1 hP 0 rfl rfl 3 (by decide) (hts (.fieldLink RX12 88 "CutAtlasModel" "places" "I") (by decide +kernel)) (fun _ h9 => h9) rfl dX12_isPlace_4 ?_
  refine lv_iconst (v := 1) hx hb dX12_isPlace_7 (by decide) ?_
  refine lv_isub hx hb dX12_isPlace_8 ?_
  refine lv_topi (fun y_ ey_ => ?_)
  have ey_ := (ey_.trans (show _ = ((-1) : Int32) by decide)).symm
  subst ey_
  refine lv_i2l (v := (-1)) hx hb dX12_isPlace_9 (by decide) ?_
  have hPc := hP.sub (ws' := []) [] rfl
  have hDw : va_D (fun _ => True) [] := hD0.sub [] (by decide) rfl
  have hFc := va_free (wc := []) hD hS hA [] rfl
  refine va_calli (va_runS (As := [.long a1.toInt64, .long 0, .long (-1)]) (rest := []) ⟨hx, hb, hml, hown, hts⟩ (c_X12_in l D cy s.heap.size a1.toInt64 (0 : Int64) ((-1) : Int64)) (va_cwS 3 hts gX12_isPlace_X12_in rfl rfl rfl (by decide +kernel) ⟨Nat.le_of_ble_eq_true rfl, Nat.le_of_ble_eq_true rfl⟩) ⟨bl_, fun U hU hW => ⟨rfl, by rw [hU], by rw [hU]; exact hPc, kk_mv hW hK, hDw⟩⟩ rfl rfl hl.1 rfl (lv_room (Nat.le_of_ble_eq_true rfl)) dX12_isPlace_10 ⟨Nat.le_of_ble_eq_true rfl, Nat.le_of_ble_eq_true rfl⟩) hS (fun q _ h => hFc q h) hFc (fun r_1 u t H locs ht hvm hw hB hz1 hk1 hS => ?_)
  have hP := ro_keep hP hk1
  have hP : va_P D vwCl [(mo, .inr (12, [.int 0, .int 0, .long 0, .int 0, .int 0, .ref g5, .ref g6, .ref g7, .ref g8, .ref g9, .ref g10, .int 0, .ref g12, .ref g13, .ref g14, .ref g15, .ref g16, .ref g17, .ref g18, .ref g19, .ref g20, .int (-9), .ref g22, .ref g23, .ref g24, .int 0, .int 0, .int 0, .int 0, .ref g29, .ref g30, .ref g31, .ref g32, .ref g33]))] H := hP
  rcases hw with ⟨w_2, e_⟩ | ⟨w_2, e_⟩
  · exfalso; omega
  · have e_ := e_.symm
    subst e_
    exact W.zret (ty := .boolean) (v := 0) hx hb hr (by decide) (fun t ht hW => ⟨⟨0, (), rfl, rfl, trivial⟩, hS.F ht⟩) hS.2.2 dX12_isPlace_13

set_option maxHeartbeats 4000000 in
set_option maxRecDepth 100000 in
theorem c_X12_isLine (l : Launch) (D : va_G) (cy : Nat → ClassId) (sz : Nat) (mo : Nat) (g5 : Nat) (g6 : Nat) (g7 : Nat) (g8 : Nat) (g9 : Nat) (g10 : Nat) (g12 : Nat) (g13 : Nat) (g14 : Nat) (g15 : Nat) (g16 : Nat) (g17 : Nat) (g18 : Nat) (g19 : Nat) (g20 : Nat) (g22 : Nat) (g23 : Nat) (g24 : Nat) (g29 : Nat) (g30 : Nat) (g31 : Nat) (g32 : Nat) (g33 : Nat) (a1 : Int32) : Met l yX12_isLine wsX12_isLine ({ frames := 1, cells := 0, slots := 0, locals := 25 }) (va_Pc [.ref mo, .int a1] (fun U => U.heap.size = sz ∧ va_P D vwCl [(mo, .inr (12, [.int 0, .int 0, .long 0, .int 0, .int 0, .ref g5, .ref g6, .ref g7, .ref g8, .ref g9, .ref g10, .int 0, .ref g12, .ref g13, .ref g14, .ref g15, .ref g16, .ref g17, .ref g18, .ref g19, .ref g20, .int (-9), .ref g22, .ref g23, .ref g24, .int 0, .int 0, .int 0, .int 0, .ref g29, .ref g30, .ref g31, .ref g32, .ref g33]))] U.heap ∧ kk_ D cy U ∧ va_D (fun _ => True) [(mo, .inr (12, [.int 0, .int 0, .long 0, .int 0, .int 0, .ref g5, .ref g6, .ref g7, .ref g8, .ref g9, .ref g10, .int 0, .ref g12, .ref g13, .ref g14, .ref g15, .ref g16, .ref g17, .ref g18, .ref g19, .ref g20, .int (-9), .ref g22, .ref g23, .ref g24, .int 0, .int 0, .int 0, .int 0, .ref g29, .ref g30, .ref g31, .ref g32, .ref g33]))])) (va_Qi (fun (r : Int32) (_ : Unit) => r = 0) (fun (_ : Unit) (_ : State) => True) (va_A [] sz)) 0 0 (va_A [] sz) := by
  refine Met.ofW (cc := cX12_isLine) (maxL := 2) (ret := (some .boolean)) (by decide) rfl ?_
  intro p e s m args below meth c s₁ B hml hv
  obtain ⟨rfl, hsz, hP, hK, hD0⟩ := hv
  have hx := B.exec
  have hb := B.bytes
  have hr := B.returns
  have hts := atoms_spec (ws := wsX12_isLine) B.pre
  have hown : s.vm.findClass RX12 = some m.cls := findClass_of_methodNamed B.named
  have hlocks := B.notSynchronized
  subst hsz
  have hD : va_D (va_A [] s.heap.size) [] := dd_nil
  generalize hAe : va_A [] s.heap.size = A at hD ⊢
  have hA : ∀ q : Nat, s.heap.size ≤ q → A q := fun q h => by rw [← hAe]; exact Or.inr h
  have hS : va_S A s.heap s.heap [] := va_S.rf
  have hl := lv_entry ([.ref mo, .int a1]) (n := 2) (Nat.le_of_ble_eq_true rfl)
  rw [lg_entry_eq]
  generalize (lg_sl ([.ref mo, .int a1]) ++ List.replicate (2 - (lg_sl ([.ref mo, .int a1])).length) Slot.unset).toArray = ls at hl ⊢
  have hl : lv_has ls 2 [(0, .ref mo), (1, .int a1)] := hl
  have zlm1 : ((-1) : Int64).toInt = -1 := by decide
  have zl0 : (0 : Int64).toInt = 0 := by decide
  refine lv_iload_n hx hb dX12_isLine_0 rfl (lv_at hl 1 rfl) ?_
  refine lv_i2l (v := a1.toInt64) hx hb dX12_isLine_1 rfl ?_
  have q_1 : (a1.toInt64).toInt = a1.toInt := Int32.toInt_toInt64 a1
  refine lv_lconst (v := 0) hx hb dX12_isLine_2 (by decide) ?_
  refine lv_aload_n hx hb dX12_isLine_3 rfl (lv_at hl 0 rfl) ?_
  refine va_get (ci := 12) (v := .int 0) (C := RX12) (T := TX12) (N := 34) hx hb hts (fun _ h => List.mem_cons_of_mem _ (List.mem_append_right _ h)) hown hK.1 hP 0 rfl rfl 4 (by decide) (hts (.fieldLink RX12 95 "CutAtlasModel" "lines" "I") (by decide +kernel)) (fun _ h9 => h9) rfl dX12_isLine_4 ?_
  refine lv_iconst (v := 1) hx hb dX12_isLine_7 (by decide) ?_
  refine lv_isub hx hb dX12_isLine_8 ?_
  refine lv_topi (fun y_ ey_ => ?_)
  have ey_ := (ey_.trans (show _ = ((-1) : Int32) by decide)).symm
  subst ey_
  refine lv_i2l (v := (-1)) hx hb dX12_isLine_9 (by decide) ?_
  have hPc := hP.sub (ws' := []) [] rfl
  have hDw : va_D (fun _ => True) [] := hD0.sub [] (by decide) rfl
  have hFc := va_free (wc := []) hD hS hA [] rfl
  refine va_calli (va_runS (As := [.long a1.toInt64, .long 0, .long (-1)]) (rest := []) ⟨hx, hb, hml, hown, hts⟩ (c_X12_in l D cy s.heap.size a1.toInt64 (0 : Int64) ((-1) : Int64)) (va_cwS 3 hts gX12_isLine_X12_in rfl rfl rfl (by decide +kernel) ⟨Nat.le_of_ble_eq_true rfl, Nat.le_of_ble_eq_true rfl⟩) ⟨bl_, fun U hU hW => ⟨rfl, by rw [hU], by rw [hU]; exact hPc, kk_mv hW hK, hDw⟩⟩ rfl rfl hl.1 rfl (lv_room (Nat.le_of_ble_eq_true rfl)) dX12_isLine_10 ⟨Nat.le_of_ble_eq_true rfl, Nat.le_of_ble_eq_true rfl⟩) hS (fun q _ h => hFc q h) hFc (fun r_1 u t H locs ht hvm hw hB hz1 hk1 hS => ?_)
  have hP := ro_keep hP hk1
  have hP : va_P D vwCl [(mo, .inr (12, [.int 0, .int 0, .long 0, .int 0, .int 0, .ref g5, .ref g6, .ref g7, .ref g8, .ref g9, .ref g10, .int 0, .ref g12, .ref g13, .ref g14, .ref g15, .ref g16, .ref g17, .ref g18, .ref g19, .ref g20, .int (-9), .ref g22, .ref g23, .ref g24, .int 0, .int 0, .int 0, .int 0, .ref g29, .ref g30, .ref g31, .ref g32, .ref g33]))] H := hP
  rcases hw with ⟨w_2, e_⟩ | ⟨w_2, e_⟩
  · exfalso; omega
  · have e_ := e_.symm
    subst e_
    exact W.zret (ty := .boolean) (v := 0) hx hb hr (by decide) (fun t ht hW => ⟨⟨0, (), rfl, rfl, trivial⟩, hS.F ht⟩) hS.2.2 dX12_isLine_13

set_option maxHeartbeats 4000000 in
set_option maxRecDepth 100000 in
theorem c_X12_arePlaces (l : Launch) (D : va_G) (cy : Nat → ClassId) (sz : Nat) (mo : Nat) (g5 : Nat) (g6 : Nat) (g7 : Nat) (g8 : Nat) (g9 : Nat) (g10 : Nat) (g12 : Nat) (g13 : Nat) (g14 : Nat) (g15 : Nat) (g16 : Nat) (g17 : Nat) (g18 : Nat) (g19 : Nat) (g20 : Nat) (g22 : Nat) (g23 : Nat) (g24 : Nat) (g29 : Nat) (g30 : Nat) (g31 : Nat) (g32 : Nat) (g33 : Nat) (a1 : Int32) (a2 : Int32) : Met l yX12_arePlaces wsX12_arePlaces ({ frames := 2, cells := 0, slots := 0, locals := 46 }) (va_Pc [.ref mo, .int a1, .int a2] (fun U => U.heap.size = sz ∧ va_P D vwCl [(mo, .inr (12, [.int 0, .int 0, .long 0, .int 0, .int 0, .ref g5, .ref g6, .ref g7, .ref g8, .ref g9, .ref g10, .int 0, .ref g12, .ref g13, .ref g14, .ref g15, .ref g16, .ref g17, .ref g18, .ref g19, .ref g20, .int (-9), .ref g22, .ref g23, .ref g24, .int 0, .int 0, .int 0, .int 0, .ref g29, .ref g30, .ref g31, .ref g32, .ref g33]))] U.heap ∧ kk_ D cy U ∧ va_D (fun _ => True) [(mo, .inr (12, [.int 0, .int 0, .long 0, .int 0, .int 0, .ref g5, .ref g6, .ref g7, .ref g8, .ref g9, .ref g10, .int 0, .ref g12, .ref g13, .ref g14, .ref g15, .ref g16, .ref g17, .ref g18, .ref g19, .ref g20, .int (-9), .ref g22, .ref g23, .ref g24, .int 0, .int 0, .int 0, .int 0, .ref g29, .ref g30, .ref g31, .ref g32, .ref g33]))])) (va_Qi (fun (r : Int32) (_ : Unit) => r = 0) (fun (_ : Unit) (_ : State) => True) (va_A [] sz)) 0 0 (va_A [] sz) := by
  refine Met.ofW (cc := cX12_arePlaces) (maxL := 3) (ret := (some .boolean)) (by decide) rfl ?_
  intro p e s m args below meth c s₁ B hml hv
  obtain ⟨rfl, hsz, hP, hK, hD0⟩ := hv
  have hx := B.exec
  have hb := B.bytes
  have hr := B.returns
  have hts := atoms_spec (ws := wsX12_arePlaces) B.pre
  have hown : s.vm.findClass RX12 = some m.cls := findClass_of_methodNamed B.named
  have hlocks := B.notSynchronized
  subst hsz
  have hD : va_D (va_A [] s.heap.size) [] := dd_nil
  generalize hAe : va_A [] s.heap.size = A at hD ⊢
  have hA : ∀ q : Nat, s.heap.size ≤ q → A q := fun q h => by rw [← hAe]; exact Or.inr h
  have hS : va_S A s.heap s.heap [] := va_S.rf
  have hl := lv_entry ([.ref mo, .int a1, .int a2]) (n := 3) (Nat.le_of_ble_eq_true rfl)
  rw [lg_entry_eq]
  generalize (lg_sl ([.ref mo, .int a1, .int a2]) ++ List.replicate (3 - (lg_sl ([.ref mo, .int a1, .int a2])).length) Slot.unset).toArray = ls at hl ⊢
  have hl : lv_has ls 3 [(0, .ref mo), (1, .int a1), (2, .int a2)] := hl
  refine lv_aload_n hx hb dX12_arePlaces_0 rfl (lv_at hl 0 rfl) ?_
  refine lv_iload_n hx hb dX12_arePlaces_1 rfl (lv_at hl 1 rfl) ?_
  have hPc := hP.sub (ws' := [(mo, .inr (12, [.int 0, .int 0, .long 0, .int 0, .int 0, .ref g5, .ref g6, .ref g7, .ref g8, .ref g9, .ref g10, .int 0, .ref g12, .ref g13, .ref g14, .ref g15, .ref g16, .ref g17, .ref g18, .ref g19, .ref g20, .int (-9), .ref g22, .ref g23, .ref g24, .int 0, .int 0, .int 0, .int 0, .ref g29, .ref g30, .ref g31, .ref g32, .ref g33]))]) [0] rfl
  have hDw : va_D (fun _ => True) [(mo, .inr (12, [.int 0, .int 0, .long 0, .int 0, .int 0, .ref g5, .ref g6, .ref g7, .ref g8, .ref g9, .ref g10, .int 0, .ref g12, .ref g13, .ref g14, .ref g15, .ref g16, .ref g17, .ref g18, .ref g19, .ref g20, .int (-9), .ref g22, .ref g23, .ref g24, .int 0, .int 0, .int 0, .int 0, .ref g29, .ref g30, .ref g31, .ref g32, .ref g33]))] := hD0.sub [0] (by decide) rfl
  have hFc := va_free (wc := []) hD hS hA [] rfl
  refine va_calli (va_runV (As := [.int a1]) (rest := []) ⟨hx, hb, hml, hown, hts⟩ (c_X12_isPlace l D cy s.heap.size mo g5 g6 g7 g8 g9 g10 g12 g13 g14 g15 g16 g17 g18 g19 g20 g22 g23 g24 g29 g30 g31 g32 g33 a1) (cwV 1 hts gX12_arePlaces_X12_isPlace rfl rfl rfl (by decide +kernel) ⟨Nat.le_of_ble_eq_true rfl, Nat.le_of_ble_eq_true rfl⟩) ⟨bl_, va_recv hK.1 hPc (ci := 12) (q0 := 0) rfl rfl, fun U hU hW => ⟨rfl, by rw [hU], by rw [hU]; exact hPc, kk_mv hW hK, hDw⟩⟩ rfl rfl hl.1 rfl (lv_room (Nat.le_of_ble_eq_true rfl)) dX12_arePlaces_2 ⟨Nat.le_of_ble_eq_true rfl, Nat.le_of_ble_eq_true rfl⟩) hS (fun q _ h => hFc q h) hFc (fun r_1 u t H locs ht hvm hw hB hz1 hk1 hS => ?_)
  have hP := ro_keep hP hk1
  have hP : va_P D vwCl [(mo, .inr (12, [.int 0, .int 0, .long 0, .int 0, .int 0, .ref g5, .ref g6, .ref g7, .ref g8, .ref g9, .ref g10, .int 0, .ref g12, .ref g13, .ref g14, .ref g15, .ref g16, .ref g17, .ref g18, .ref g19, .ref g20, .int (-9), .ref g22, .ref g23, .ref g24, .int 0, .int 0, .int 0, .int 0, .ref g29, .ref g30, .ref g31, .ref g32, .ref g33]))] H := hP
  have e_ := hw.symm
  subst e_
  refine lv_if_eq (tgt := 25) hx hb dX12_arePlaces_5 (by decide) (fun c_2 => ?_) (fun c_2 => ?_)
  · have _ := c_2
    refine lv_iconst (v := 0) hx hb dX12_arePlaces_25 (by decide) ?_
    exact W.zret (ty := .boolean) (v := 0) hx hb hr (by decide) (fun t ht hW => ⟨⟨0, (), rfl, rfl, trivial⟩, hS.F ht⟩) hS.2.2 dX12_arePlaces_26
  · exact absurd c_2 (by decide)

set_option maxHeartbeats 4000000 in
set_option maxRecDepth 100000 in
theorem c_X12_isWhole (l : Launch) (D : va_G) (cy : Nat → ClassId) (sz : Nat) (mo : Nat) (g5 : Nat) (g6 : Nat) (g7 : Nat) (g8 : Nat) (g9 : Nat) (g10 : Nat) (g12 : Nat) (g13 : Nat) (g14 : Nat) (g15 : Nat) (g16 : Nat) (g17 : Nat) (g18 : Nat) (g19 : Nat) (g20 : Nat) (g22 : Nat) (g23 : Nat) (g24 : Nat) (g29 : Nat) (g30 : Nat) (g31 : Nat) (g32 : Nat) (g33 : Nat) : Met l yX12_isWhole wsX12_isWhole ({ frames := 0, cells := 0, slots := 0, locals := 0 }) (va_Pc [.ref mo] (fun U => U.heap.size = sz ∧ va_P D vwCl [(mo, .inr (12, [.int 0, .int 0, .long 0, .int 0, .int 0, .ref g5, .ref g6, .ref g7, .ref g8, .ref g9, .ref g10, .int 0, .ref g12, .ref g13, .ref g14, .ref g15, .ref g16, .ref g17, .ref g18, .ref g19, .ref g20, .int (-9), .ref g22, .ref g23, .ref g24, .int 0, .int 0, .int 0, .int 0, .ref g29, .ref g30, .ref g31, .ref g32, .ref g33]))] U.heap ∧ kk_ D cy U ∧ va_D (fun _ => True) [(mo, .inr (12, [.int 0, .int 0, .long 0, .int 0, .int 0, .ref g5, .ref g6, .ref g7, .ref g8, .ref g9, .ref g10, .int 0, .ref g12, .ref g13, .ref g14, .ref g15, .ref g16, .ref g17, .ref g18, .ref g19, .ref g20, .int (-9), .ref g22, .ref g23, .ref g24, .int 0, .int 0, .int 0, .int 0, .ref g29, .ref g30, .ref g31, .ref g32, .ref g33]))])) (va_Qi (fun (r : Int32) (_ : Unit) => r = 0) (fun (_ : Unit) (_ : State) => True) (va_A [] sz)) 0 0 (va_A [] sz) := by
  refine Met.ofW (cc := cX12_isWhole) (maxL := 3) (ret := (some .boolean)) (by decide) rfl ?_
  intro p e s m args below meth c s₁ B hml hv
  obtain ⟨rfl, hsz, hP, hK, hD0⟩ := hv
  have hx := B.exec
  have hb := B.bytes
  have hr := B.returns
  have hts := atoms_spec (ws := wsX12_isWhole) B.pre
  have hown : s.vm.findClass RX12 = some m.cls := findClass_of_methodNamed B.named
  have hlocks := B.notSynchronized
  subst hsz
  have hD : va_D (va_A [] s.heap.size) [] := dd_nil
  generalize hAe : va_A [] s.heap.size = A at hD ⊢
  have hA : ∀ q : Nat, s.heap.size ≤ q → A q := fun q h => by rw [← hAe]; exact Or.inr h
  have hS : va_S A s.heap s.heap [] := va_S.rf
  have hl := lv_entry ([.ref mo]) (n := 3) (Nat.le_of_ble_eq_true rfl)
  rw [lg_entry_eq]
  generalize (lg_sl ([.ref mo]) ++ List.replicate (3 - (lg_sl ([.ref mo])).length) Slot.unset).toArray = ls at hl ⊢
  have hl : lv_has ls 3 [(0, .ref mo)] := hl
  refine lv_aload_n hx hb dX12_isWhole_0 rfl (lv_at hl 0 rfl) ?_
  refine va_get (ci := 12) (v := .int 0) (C := RX12) (T := TX12) (N := 34) hx hb hts (fun _ h => List.mem_cons_of_mem _ (List.mem_append_right _ h)) hown hK.1 hP 0 rfl rfl 3 (by decide) (hts (.fieldLink RX12 88 "CutAtlasModel" "places" "I") (by decide +kernel)) (fun _ h9 => h9) rfl dX12_isWhole_1 ?_
  refine lv_iconst (v := 1) hx hb dX12_isWhole_4 (by decide) ?_
  refine lv_icmp_le (tgt := 12) hx hb dX12_isWhole_5 (by decide) (fun c_1 => ?_) (fun c_1 => ?_)
  · have _ := c_1
    refine lv_iconst (v := 0) hx hb dX12_isWhole_12 (by decide) ?_
    refine lv_istore_n (lv' := [(1, .int 0), (0, .ref mo)]) hx hb dX12_isWhole_13 rfl hl (by decide) rfl (fun ls hl => ?_)
    refine lv_iconst (v := 0) hx hb dX12_isWhole_14 (by decide) ?_
    refine lv_istore_n (lv' := [(2, .int 0), (1, .int 0), (0, .ref mo)]) hx hb dX12_isWhole_15 rfl hl (by decide) rfl (fun ls hl => ?_)
    refine lv_iload_n hx hb dX12_isWhole_16 rfl (lv_at hl 0 rfl) ?_
    refine lv_aload_n hx hb dX12_isWhole_17 rfl (lv_at hl 2 rfl) ?_
    refine va_get (ci := 12) (v := .int 0) (C := RX12) (T := TX12) (N := 34) hx hb hts (fun _ h => List.mem_cons_of_mem _ (List.mem_append_right _ h)) hown hK.1 hP 0 rfl rfl 4 (by decide) (hts (.fieldLink RX12 95 "CutAtlasModel" "lines" "I") (by decide +kernel)) (fun _ h9 => h9) rfl dX12_isWhole_18 ?_
    refine lv_icmp_ge (tgt := 67) hx hb dX12_isWhole_21 (by decide) (fun c_2 => ?_) (fun c_2 => ?_)
    · have _ := c_2
      refine lv_iload_n hx hb dX12_isWhole_67 rfl (lv_at hl 1 rfl) ?_
      exact W.zret (ty := .boolean) (v := 0) hx hb hr (by decide) (fun t ht hW => ⟨⟨0, (), rfl, rfl, trivial⟩, hS.F ht⟩) hS.2.2 dX12_isWhole_68
    · exact absurd c_2 (by decide)
  · exact absurd c_1 (by decide)

set_option maxHeartbeats 4000000 in
set_option maxRecDepth 100000 in
theorem c_X12_refused (l : Launch) (D : va_G) (cy : Nat → ClassId) (sz : Nat) (mo : Nat) (g5 : Nat) (g6 : Nat) (g7 : Nat) (g8 : Nat) (g9 : Nat) (g10 : Nat) (g12 : Nat) (g13 : Nat) (g14 : Nat) (g15 : Nat) (g16 : Nat) (g17 : Nat) (g18 : Nat) (g19 : Nat) (g20 : Nat) (g22 : Nat) (g23 : Nat) (g24 : Nat) (g29 : Nat) (g30 : Nat) (g31 : Nat) (g32 : Nat) (g33 : Nat) (a1 : Int64) (a2 : Int64) (a3 : Int64) (a4 : Int64) (a5 : Int64) : Met l yX12_refused wsX12_refused ({ frames := 1, cells := 0, slots := 0, locals := 25 }) (va_Pc [.ref mo, .long a1, .long a2, .long a3, .long a4, .long a5] (fun U => U.heap.size = sz ∧ va_P D vwCl [(mo, .inr (12, [.int 0, .int 0, .long 0, .int 0, .int 0, .ref g5, .ref g6, .ref g7, .ref g8, .ref g9, .ref g10, .int 0, .ref g12, .ref g13, .ref g14, .ref g15, .ref g16, .ref g17, .ref g18, .ref g19, .ref g20, .int (-9), .ref g22, .ref g23, .ref g24, .int 0, .int 0, .int 0, .int 0, .ref g29, .ref g30, .ref g31, .ref g32, .ref g33]))] U.heap ∧ kk_ D cy U ∧ va_D (fun _ => True) [(mo, .inr (12, [.int 0, .int 0, .long 0, .int 0, .int 0, .ref g5, .ref g6, .ref g7, .ref g8, .ref g9, .ref g10, .int 0, .ref g12, .ref g13, .ref g14, .ref g15, .ref g16, .ref g17, .ref g18, .ref g19, .ref g20, .int (-9), .ref g22, .ref g23, .ref g24, .int 0, .int 0, .int 0, .int 0, .ref g29, .ref g30, .ref g31, .ref g32, .ref g33]))])) (va_Qi (fun (r : Int32) (_ : Unit) => r = (-1)) (fun (_ : Unit) (_ : State) => True) (va_A [] sz)) 0 0 (va_A [] sz) := by
  refine Met.ofW (cc := cX12_refused) (maxL := 12) (ret := (some .int)) (by decide) rfl ?_
  intro p e s m args below meth c s₁ B hml hv
  obtain ⟨rfl, hsz, hP, hK, hD0⟩ := hv
  have hx := B.exec
  have hb := B.bytes
  have hr := B.returns
  have hts := atoms_spec (ws := wsX12_refused) B.pre
  have hown : s.vm.findClass RX12 = some m.cls := findClass_of_methodNamed B.named
  have hlocks := B.notSynchronized
  subst hsz
  have hD : va_D (va_A [] s.heap.size) [] := dd_nil
  generalize hAe : va_A [] s.heap.size = A at hD ⊢
  have hA : ∀ q : Nat, s.heap.size ≤ q → A q := fun q h => by rw [← hAe]; exact Or.inr h
  have hS : va_S A s.heap s.heap [] := va_S.rf
  have hl := lv_entry ([.ref mo, .long a1, .long a2, .long a3, .long a4, .long a5]) (n := 12) (Nat.le_of_ble_eq_true rfl)
  rw [lg_entry_eq]
  generalize (lg_sl ([.ref mo, .long a1, .long a2, .long a3, .long a4, .long a5]) ++ List.replicate (12 - (lg_sl ([.ref mo, .long a1, .long a2, .long a3, .long a4, .long a5])).length) Slot.unset).toArray = ls at hl ⊢
  have hl : lv_has ls 12 [(0, .ref mo), (1, .long a1), (3, .long a2), (5, .long a3), (7, .long a4), (9, .long a5)] := hl
  have zlm1 : ((-1) : Int64).toInt = -1 := by decide
  have zl0 : (0 : Int64).toInt = 0 := by decide
  have zl4 : (4 : Int64).toInt = 4 := by decide
  refine lv_lload_n hx hb dX12_refused_0 rfl (lv_at hl 1 rfl) ?_
  refine lv_lconst (v := 0) hx hb dX12_refused_1 (by decide) ?_
  refine lv_ldc2 (v := 4) hx hb hown (hts (.constantLong RX12 108 (4)) (by decide +kernel)) dX12_refused_2 ?_
  have hPc := hP.sub (ws' := []) [] rfl
  have hDw : va_D (fun _ => True) [] := hD0.sub [] (by decide) rfl
  have hFc := va_free (wc := []) hD hS hA [] rfl
  refine va_calli (va_runS (As := [.long a1, .long 0, .long 4]) (rest := []) ⟨hx, hb, hml, hown, hts⟩ (c_X12_in l D cy s.heap.size a1 (0 : Int64) (4 : Int64)) (va_cwS 3 hts gX12_refused_X12_in rfl rfl rfl (by decide +kernel) ⟨Nat.le_of_ble_eq_true rfl, Nat.le_of_ble_eq_true rfl⟩) ⟨bl_, fun U hU hW => ⟨rfl, by rw [hU], by rw [hU]; exact hPc, kk_mv hW hK, hDw⟩⟩ rfl rfl hl.1 rfl (lv_room (Nat.le_of_ble_eq_true rfl)) dX12_refused_5 ⟨Nat.le_of_ble_eq_true rfl, Nat.le_of_ble_eq_true rfl⟩) hS (fun q _ h => hFc q h) hFc (fun r_1 u t H locs ht hvm hw hB hz1 hk1 hS => ?_)
  have hP := ro_keep hP hk1
  have hP : va_P D vwCl [(mo, .inr (12, [.int 0, .int 0, .long 0, .int 0, .int 0, .ref g5, .ref g6, .ref g7, .ref g8, .ref g9, .ref g10, .int 0, .ref g12, .ref g13, .ref g14, .ref g15, .ref g16, .ref g17, .ref g18, .ref g19, .ref g20, .int (-9), .ref g22, .ref g23, .ref g24, .int 0, .int 0, .int 0, .int 0, .ref g29, .ref g30, .ref g31, .ref g32, .ref g33]))] H := hP
  rcases hw with ⟨w_2, e_⟩ | ⟨w_2, e_⟩
  · have e_ := e_.symm
    subst e_
    refine lv_if_eq (tgt := 77) hx hb dX12_refused_8 (by decide) (fun c_3 => ?_) (fun c_3 => ?_)
    · exact absurd c_3 (by decide)
    · have _ := c_3
      refine lv_lload_n hx hb dX12_refused_11 rfl (lv_at hl 2 rfl) ?_
      refine lv_lconst (v := 0) hx hb dX12_refused_12 (by decide) ?_
      refine lv_aload_n hx hb dX12_refused_13 rfl (lv_at hl 0 rfl) ?_
      refine va_get (ci := 12) (v := .int 0) (C := RX12) (T := TX12) (N := 34) hx hb hts (fun _ h => List.mem_cons_of_mem _ (List.mem_append_right _ h)) hown hK.1 hP 0 rfl rfl 3 (by decide) (hts (.fieldLink RX12 88 "CutAtlasModel" "places" "I") (by decide +kernel)) (fun _ h9 => h9) rfl dX12_refused_14 ?_
      refine lv_iconst (v := 1) hx hb dX12_refused_17 (by decide) ?_
      refine lv_isub hx hb dX12_refused_18 ?_
      refine lv_topi (fun y_ ey_ => ?_)
      have ey_ := (ey_.trans (show _ = ((-1) : Int32) by decide)).symm
      subst ey_
      refine lv_i2l (v := (-1)) hx hb dX12_refused_19 (by decide) ?_
      have hPc := hP.sub (ws' := []) [] rfl
      have hDw : va_D (fun _ => True) [] := hD0.sub [] (by decide) rfl
      have hFc := va_free (wc := []) hD hS hA [] rfl
      refine va_calli (va_runS (As := [.long a2, .long 0, .long (-1)]) (rest := []) ⟨hx, hb, hml, hown, hts⟩ (c_X12_in l D cy H.size a2 (0 : Int64) ((-1) : Int64)) (va_cwS 3 hts gX12_refused_X12_in rfl rfl rfl (by decide +kernel) ⟨Nat.le_of_ble_eq_true rfl, Nat.le_of_ble_eq_true rfl⟩) ⟨bl_, fun U hU hW => ⟨rfl, by rw [hU], by rw [hU]; exact hPc, kk_mv hW hK, hDw⟩⟩ rfl rfl hl.1 rfl (lv_room (Nat.le_of_ble_eq_true rfl)) dX12_refused_20 ⟨Nat.le_of_ble_eq_true rfl, Nat.le_of_ble_eq_true rfl⟩) hS (fun q _ h => hFc q h) hFc (fun r_4 u t H locs ht hvm hw hB hz1 hk1 hS => ?_)
      have hP := ro_keep hP hk1
      have hP : va_P D vwCl [(mo, .inr (12, [.int 0, .int 0, .long 0, .int 0, .int 0, .ref g5, .ref g6, .ref g7, .ref g8, .ref g9, .ref g10, .int 0, .ref g12, .ref g13, .ref g14, .ref g15, .ref g16, .ref g17, .ref g18, .ref g19, .ref g20, .int (-9), .ref g22, .ref g23, .ref g24, .int 0, .int 0, .int 0, .int 0, .ref g29, .ref g30, .ref g31, .ref g32, .ref g33]))] H := hP
      rcases hw with ⟨w_5, e_⟩ | ⟨w_5, e_⟩
      · exfalso; omega
      · have e_ := e_.symm
        subst e_
        refine lv_if_eq (tgt := 77) hx hb dX12_refused_23 (by decide) (fun c_6 => ?_) (fun c_6 => ?_)
        · have _ := c_6
          refine lv_iconst (v := 0) hx hb dX12_refused_77 (by decide) ?_
          refine lv_istore (lv' := [(11, .int 0), (0, .ref mo), (1, .long a1), (3, .long a2), (5, .long a3), (7, .long a4), (9, .long a5)]) hx hb dX12_refused_78 hl (by decide) rfl (fun ls hl => ?_)
          refine lv_iload hx hb dX12_refused_80 (lv_at hl 0 rfl) ?_
          refine lv_if_ne (tgt := 89) hx hb dX12_refused_82 (by decide) (fun c_7 => ?_) (fun c_7 => ?_)
          · exact absurd c_7 (by decide)
          · have _ := c_7
            refine lv_iconst (v := (-1)) hx hb dX12_refused_85 (by decide) ?_
            refine lv_goto (tgt := 104) hx hb dX12_refused_86 (by decide) ?_
            exact W.iret (v := (-1)) hx hb hr (fun t ht hW => ⟨⟨(-1), (), rfl, rfl, trivial⟩, hS.F ht⟩) hS.2.2 dX12_refused_104
        · exact absurd c_6 (by decide)
  · have e_ := e_.symm
    subst e_
    refine lv_if_eq (tgt := 77) hx hb dX12_refused_8 (by decide) (fun c_8 => ?_) (fun c_8 => ?_)
    · have _ := c_8
      refine lv_iconst (v := 0) hx hb dX12_refused_77 (by decide) ?_
      refine lv_istore (lv' := [(11, .int 0), (0, .ref mo), (1, .long a1), (3, .long a2), (5, .long a3), (7, .long a4), (9, .long a5)]) hx hb dX12_refused_78 hl (by decide) rfl (fun ls hl => ?_)
      refine lv_iload hx hb dX12_refused_80 (lv_at hl 0 rfl) ?_
      refine lv_if_ne (tgt := 89) hx hb dX12_refused_82 (by decide) (fun c_9 => ?_) (fun c_9 => ?_)
      · exact absurd c_9 (by decide)
      · have _ := c_9
        refine lv_iconst (v := (-1)) hx hb dX12_refused_85 (by decide) ?_
        refine lv_goto (tgt := 104) hx hb dX12_refused_86 (by decide) ?_
        exact W.iret (v := (-1)) hx hb hr (fun t ht hW => ⟨⟨(-1), (), rfl, rfl, trivial⟩, hS.F ht⟩) hS.2.2 dX12_refused_104
    · exact absurd c_8 (by decide)

set_option maxHeartbeats 4000000 in
set_option maxRecDepth 100000 in
theorem c_X12_line (l : Launch) (D : va_G) (cy : Nat → ClassId) (sz : Nat) (mo : Nat) (g5 : Nat) (g6 : Nat) (g7 : Nat) (g8 : Nat) (g9 : Nat) (g10 : Nat) (g12 : Nat) (g13 : Nat) (g14 : Nat) (g15 : Nat) (g16 : Nat) (g17 : Nat) (g18 : Nat) (g19 : Nat) (g20 : Nat) (g22 : Nat) (g23 : Nat) (g24 : Nat) (g29 : Nat) (g30 : Nat) (g31 : Nat) (g32 : Nat) (g33 : Nat) (a1 : Int32) (a2 : Int32) (a3 : Int32) (a4 : Int32) (a5 : Int32) : Met l yX12_line wsX12_line ({ frames := 2, cells := 0, slots := 0, locals := 56 }) (va_Pc [.ref mo, .int a1, .int a2, .int a3, .int a4, .int a5] (fun U => U.heap.size = sz ∧ va_P D vwCl [(mo, .inr (12, [.int 0, .int 0, .long 0, .int 0, .int 0, .ref g5, .ref g6, .ref g7, .ref g8, .ref g9, .ref g10, .int 0, .ref g12, .ref g13, .ref g14, .ref g15, .ref g16, .ref g17, .ref g18, .ref g19, .ref g20, .int (-9), .ref g22, .ref g23, .ref g24, .int 0, .int 0, .int 0, .int 0, .ref g29, .ref g30, .ref g31, .ref g32, .ref g33]))] U.heap ∧ kk_ D cy U ∧ va_D (fun _ => True) [(mo, .inr (12, [.int 0, .int 0, .long 0, .int 0, .int 0, .ref g5, .ref g6, .ref g7, .ref g8, .ref g9, .ref g10, .int 0, .ref g12, .ref g13, .ref g14, .ref g15, .ref g16, .ref g17, .ref g18, .ref g19, .ref g20, .int (-9), .ref g22, .ref g23, .ref g24, .int 0, .int 0, .int 0, .int 0, .ref g29, .ref g30, .ref g31, .ref g32, .ref g33]))])) (va_Qi (fun (r : Int32) (_ : Unit) => r = (-1)) (fun (_ : Unit) (_ : State) => True) (va_A [(mo, .inr (12, [.int 0, .int 0, .long 0, .int 0, .int 0, .ref g5, .ref g6, .ref g7, .ref g8, .ref g9, .ref g10, .int 0, .ref g12, .ref g13, .ref g14, .ref g15, .ref g16, .ref g17, .ref g18, .ref g19, .ref g20, .int (-9), .ref g22, .ref g23, .ref g24, .int 0, .int 0, .int 0, .int 0, .ref g29, .ref g30, .ref g31, .ref g32, .ref g33]))] sz)) 0 0 (va_A [(mo, .inr (12, [.int 0, .int 0, .long 0, .int 0, .int 0, .ref g5, .ref g6, .ref g7, .ref g8, .ref g9, .ref g10, .int 0, .ref g12, .ref g13, .ref g14, .ref g15, .ref g16, .ref g17, .ref g18, .ref g19, .ref g20, .int (-9), .ref g22, .ref g23, .ref g24, .int 0, .int 0, .int 0, .int 0, .ref g29, .ref g30, .ref g31, .ref g32, .ref g33]))] sz) := by
  refine Met.ofW (cc := cX12_line) (maxL := 7) (ret := (some .int)) (by decide) rfl ?_
  intro p e s m args below meth c s₁ B hml hv
  obtain ⟨rfl, hsz, hP, hK, hD0⟩ := hv
  have hx := B.exec
  have hb := B.bytes
  have hr := B.returns
  have hts := atoms_spec (ws := wsX12_line) B.pre
  have hown : s.vm.findClass RX12 = some m.cls := findClass_of_methodNamed B.named
  have hlocks := B.notSynchronized
  subst hsz
  have hD := hD0.self (sz := s.heap.size)
  generalize hAe : va_A [(mo, .inr (12, [.int 0, .int 0, .long 0, .int 0, .int 0, .ref g5, .ref g6, .ref g7, .ref g8, .ref g9, .ref g10, .int 0, .ref g12, .ref g13, .ref g14, .ref g15, .ref g16, .ref g17, .ref g18, .ref g19, .ref g20, .int (-9), .ref g22, .ref g23, .ref g24, .int 0, .int 0, .int 0, .int 0, .ref g29, .ref g30, .ref g31, .ref g32, .ref g33]))] s.heap.size = A at hD ⊢
  have hA : ∀ q : Nat, s.heap.size ≤ q → A q := fun q h => by rw [← hAe]; exact Or.inr h
  have hS : va_S A s.heap s.heap [] := va_S.rf
  have hl := lv_entry ([.ref mo, .int a1, .int a2, .int a3, .int a4, .int a5]) (n := 7) (Nat.le_of_ble_eq_true rfl)
  rw [lg_entry_eq]
  generalize (lg_sl ([.ref mo, .int a1, .int a2, .int a3, .int a4, .int a5]) ++ List.replicate (7 - (lg_sl ([.ref mo, .int a1, .int a2, .int a3, .int a4, .int a5])).length) Slot.unset).toArray = ls at hl ⊢
  have hl : lv_has ls 7 [(0, .ref mo), (1, .int a1), (2, .int a2), (3, .int a3), (4, .int a4), (5, .int a5)] := hl
  refine lv_aload_n hx hb dX12_line_0 rfl (lv_at hl 0 rfl) ?_
  refine lv_iconst (v := 0) hx hb dX12_line_1 (by decide) ?_
  refine va_put (ci := 12) (v := .int 0) (ty := .int) (C := RX12) (T := TX12) (N := 34) hx hb hts (fun _ h => List.mem_cons_of_mem _ (List.mem_append_right _ h)) tyX12 tyX12_ok nmX12 hown hK.1 hP hD hS 0 rfl rfl 0 (by decide) (hts (.fieldLink RX12 85 "CutAtlasModel" "thrown" "I") (by decide +kernel)) (fun _ h9 => h9) rfl (by decide +kernel) rfl rfl (Nat.le_of_ble_eq_true rfl) dX12_line_2 (fun H locs hP hD hS => ?_)
  have hP : va_P D vwCl [(mo, .inr (12, [.int 0, .int 0, .long 0, .int 0, .int 0, .ref g5, .ref g6, .ref g7, .ref g8, .ref g9, .ref g10, .int 0, .ref g12, .ref g13, .ref g14, .ref g15, .ref g16, .ref g17, .ref g18, .ref g19, .ref g20, .int (-9), .ref g22, .ref g23, .ref g24, .int 0, .int 0, .int 0, .int 0, .ref g29, .ref g30, .ref g31, .ref g32, .ref g33]))] H := hP
  have hD : va_D A [(mo, .inr (12, [.int 0, .int 0, .long 0, .int 0, .int 0, .ref g5, .ref g6, .ref g7, .ref g8, .ref g9, .ref g10, .int 0, .ref g12, .ref g13, .ref g14, .ref g15, .ref g16, .ref g17, .ref g18, .ref g19, .ref g20, .int (-9), .ref g22, .ref g23, .ref g24, .int 0, .int 0, .int 0, .int 0, .ref g29, .ref g30, .ref g31, .ref g32, .ref g33]))] := hD
  refine lv_aload_n hx hb dX12_line_5 rfl (lv_at hl 0 rfl) ?_
  refine lv_iload_n hx hb dX12_line_6 rfl (lv_at hl 1 rfl) ?_
  refine lv_i2l (v := a1.toInt64) hx hb dX12_line_7 rfl ?_
  have q_7 : (a1.toInt64).toInt = a1.toInt := Int32.toInt_toInt64 a1
  refine lv_iload_n hx hb dX12_line_8 rfl (lv_at hl 2 rfl) ?_
  refine lv_i2l (v := a2.toInt64) hx hb dX12_line_9 rfl ?_
  have q_9 : (a2.toInt64).toInt = a2.toInt := Int32.toInt_toInt64 a2
  refine lv_iload_n hx hb dX12_line_10 rfl (lv_at hl 3 rfl) ?_
  refine lv_i2l (v := a3.toInt64) hx hb dX12_line_11 rfl ?_
  have q_11 : (a3.toInt64).toInt = a3.toInt := Int32.toInt_toInt64 a3
  refine lv_iload hx hb dX12_line_12 (lv_at hl 4 rfl) ?_
  refine lv_i2l (v := a4.toInt64) hx hb dX12_line_14 rfl ?_
  have q_14 : (a4.toInt64).toInt = a4.toInt := Int32.toInt_toInt64 a4
  refine lv_iload hx hb dX12_line_15 (lv_at hl 5 rfl) ?_
  refine lv_i2l (v := a5.toInt64) hx hb dX12_line_17 rfl ?_
  have q_17 : (a5.toInt64).toInt = a5.toInt := Int32.toInt_toInt64 a5
  have hPc := hP.sub (ws' := [(mo, .inr (12, [.int 0, .int 0, .long 0, .int 0, .int 0, .ref g5, .ref g6, .ref g7, .ref g8, .ref g9, .ref g10, .int 0, .ref g12, .ref g13, .ref g14, .ref g15, .ref g16, .ref g17, .ref g18, .ref g19, .ref g20, .int (-9), .ref g22, .ref g23, .ref g24, .int 0, .int 0, .int 0, .int 0, .ref g29, .ref g30, .ref g31, .ref g32, .ref g33]))]) [0] rfl
  have hDc := hD.sub (ws' := [(mo, .inr (12, [.int 0, .int 0, .long 0, .int 0, .int 0, .ref g5, .ref g6, .ref g7, .ref g8, .ref g9, .ref g10, .int 0, .ref g12, .ref g13, .ref g14, .ref g15, .ref g16, .ref g17, .ref g18, .ref g19, .ref g20, .int (-9), .ref g22, .ref g23, .ref g24, .int 0, .int 0, .int 0, .int 0, .ref g29, .ref g30, .ref g31, .ref g32, .ref g33]))]) [0] (by decide) rfl
  have hDw : va_D (fun _ => True) [(mo, .inr (12, [.int 0, .int 0, .long 0, .int 0, .int 0, .ref g5, .ref g6, .ref g7, .ref g8, .ref g9, .ref g10, .int 0, .ref g12, .ref g13, .ref g14, .ref g15, .ref g16, .ref g17, .ref g18, .ref g19, .ref g20, .int (-9), .ref g22, .ref g23, .ref g24, .int 0, .int 0, .int 0, .int 0, .ref g29, .ref g30, .ref g31, .ref g32, .ref g33]))] := hDc.weaken (fun _ _ _ _ => trivial)
  have hFc := va_free (wc := []) hD hS hA [] rfl
  refine va_calli (va_runV (As := [.long a1.toInt64, .long a2.toInt64, .long a3.toInt64, .long a4.toInt64, .long a5.toInt64]) (rest := []) ⟨hx, hb, hml, hown, hts⟩ (c_X12_refused l D cy H.size mo g5 g6 g7 g8 g9 g10 g12 g13 g14 g15 g16 g17 g18 g19 g20 g22 g23 g24 g29 g30 g31 g32 g33 a1.toInt64 a2.toInt64 a3.toInt64 a4.toInt64 a5.toInt64) (cwV 5 hts gX12_line_X12_refused rfl rfl rfl (by decide +kernel) ⟨Nat.le_of_ble_eq_true rfl, Nat.le_of_ble_eq_true rfl⟩) ⟨bl_, va_recv hK.1 hPc (ci := 12) (q0 := 0) rfl rfl, fun U hU hW => ⟨rfl, by rw [hU], by rw [hU]; exact hPc, kk_mv hW hK, hDw⟩⟩ rfl rfl hl.1 rfl (lv_room (Nat.le_of_ble_eq_true rfl)) dX12_line_18 ⟨Nat.le_of_ble_eq_true rfl, Nat.le_of_ble_eq_true rfl⟩) hS (fun q _ h => hFc q h) hFc (fun r_1 u t H locs ht hvm hw hB hz1 hk1 hS => ?_)
  have hP := ro_keep hP hk1
  have hP : va_P D vwCl [(mo, .inr (12, [.int 0, .int 0, .long 0, .int 0, .int 0, .ref g5, .ref g6, .ref g7, .ref g8, .ref g9, .ref g10, .int 0, .ref g12, .ref g13, .ref g14, .ref g15, .ref g16, .ref g17, .ref g18, .ref g19, .ref g20, .int (-9), .ref g22, .ref g23, .ref g24, .int 0, .int 0, .int 0, .int 0, .ref g29, .ref g30, .ref g31, .ref g32, .ref g33]))] H := hP
  have e_ := hw.symm
  subst e_
  refine lv_istore (lv' := [(6, .int (-1)), (0, .ref mo), (1, .int a1), (2, .int a2), (3, .int a3), (4, .int a4), (5, .int a5)]) hx hb dX12_line_21 hl (by decide) rfl (fun ls hl => ?_)
  refine lv_iload hx hb dX12_line_23 (lv_at hl 0 rfl) ?_
  refine lv_if_ge (tgt := 31) hx hb dX12_line_25 (by decide) (fun c_2 => ?_) (fun c_2 => ?_)
  · exact absurd c_2 (by decide)
  · have _ := c_2
    refine lv_iload hx hb dX12_line_28 (lv_at hl 0 rfl) ?_
    exact W.iret (v := (-1)) hx hb hr (fun t ht hW => ⟨⟨(-1), (), rfl, rfl, trivial⟩, hS.F ht⟩) hS.2.2 dX12_line_30

set_option maxHeartbeats 4000000 in
set_option maxRecDepth 100000 in
theorem c_X12_widen (l : Launch) (D : va_G) (cy : Nat → ClassId) (sz : Nat) (mo : Nat) (g5 : Nat) (g6 : Nat) (g7 : Nat) (g8 : Nat) (g9 : Nat) (g10 : Nat) (g12 : Nat) (g13 : Nat) (g14 : Nat) (g15 : Nat) (g16 : Nat) (g17 : Nat) (g18 : Nat) (g19 : Nat) (g20 : Nat) (g22 : Nat) (g23 : Nat) (g24 : Nat) (g29 : Nat) (g30 : Nat) (g31 : Nat) (g32 : Nat) (g33 : Nat) (a1 : Int32) (a2 : Int32) : Met l yX12_widen wsX12_widen ({ frames := 2, cells := 0, slots := 0, locals := 46 }) (va_Pc [.ref mo, .int a1, .int a2] (fun U => U.heap.size = sz ∧ va_P D vwCl [(mo, .inr (12, [.int 0, .int 0, .long 0, .int 0, .int 0, .ref g5, .ref g6, .ref g7, .ref g8, .ref g9, .ref g10, .int 0, .ref g12, .ref g13, .ref g14, .ref g15, .ref g16, .ref g17, .ref g18, .ref g19, .ref g20, .int (-9), .ref g22, .ref g23, .ref g24, .int 0, .int 0, .int 0, .int 0, .ref g29, .ref g30, .ref g31, .ref g32, .ref g33]))] U.heap ∧ kk_ D cy U ∧ va_D (fun _ => True) [(mo, .inr (12, [.int 0, .int 0, .long 0, .int 0, .int 0, .ref g5, .ref g6, .ref g7, .ref g8, .ref g9, .ref g10, .int 0, .ref g12, .ref g13, .ref g14, .ref g15, .ref g16, .ref g17, .ref g18, .ref g19, .ref g20, .int (-9), .ref g22, .ref g23, .ref g24, .int 0, .int 0, .int 0, .int 0, .ref g29, .ref g30, .ref g31, .ref g32, .ref g33]))])) (va_Qi (fun (r : Int32) (_ : Unit) => r = (-1)) (fun (_ : Unit) (_ : State) => True) (va_A [(mo, .inr (12, [.int 0, .int 0, .long 0, .int 0, .int 0, .ref g5, .ref g6, .ref g7, .ref g8, .ref g9, .ref g10, .int 0, .ref g12, .ref g13, .ref g14, .ref g15, .ref g16, .ref g17, .ref g18, .ref g19, .ref g20, .int (-9), .ref g22, .ref g23, .ref g24, .int 0, .int 0, .int 0, .int 0, .ref g29, .ref g30, .ref g31, .ref g32, .ref g33]))] sz)) 0 0 (va_A [(mo, .inr (12, [.int 0, .int 0, .long 0, .int 0, .int 0, .ref g5, .ref g6, .ref g7, .ref g8, .ref g9, .ref g10, .int 0, .ref g12, .ref g13, .ref g14, .ref g15, .ref g16, .ref g17, .ref g18, .ref g19, .ref g20, .int (-9), .ref g22, .ref g23, .ref g24, .int 0, .int 0, .int 0, .int 0, .ref g29, .ref g30, .ref g31, .ref g32, .ref g33]))] sz) := by
  refine Met.ofW (cc := cX12_widen) (maxL := 3) (ret := (some .int)) (by decide) rfl ?_
  intro p e s m args below meth c s₁ B hml hv
  obtain ⟨rfl, hsz, hP, hK, hD0⟩ := hv
  have hx := B.exec
  have hb := B.bytes
  have hr := B.returns
  have hts := atoms_spec (ws := wsX12_widen) B.pre
  have hown : s.vm.findClass RX12 = some m.cls := findClass_of_methodNamed B.named
  have hlocks := B.notSynchronized
  subst hsz
  have hD := hD0.self (sz := s.heap.size)
  generalize hAe : va_A [(mo, .inr (12, [.int 0, .int 0, .long 0, .int 0, .int 0, .ref g5, .ref g6, .ref g7, .ref g8, .ref g9, .ref g10, .int 0, .ref g12, .ref g13, .ref g14, .ref g15, .ref g16, .ref g17, .ref g18, .ref g19, .ref g20, .int (-9), .ref g22, .ref g23, .ref g24, .int 0, .int 0, .int 0, .int 0, .ref g29, .ref g30, .ref g31, .ref g32, .ref g33]))] s.heap.size = A at hD ⊢
  have hA : ∀ q : Nat, s.heap.size ≤ q → A q := fun q h => by rw [← hAe]; exact Or.inr h
  have hS : va_S A s.heap s.heap [] := va_S.rf
  have hl := lv_entry ([.ref mo, .int a1, .int a2]) (n := 3) (Nat.le_of_ble_eq_true rfl)
  rw [lg_entry_eq]
  generalize (lg_sl ([.ref mo, .int a1, .int a2]) ++ List.replicate (3 - (lg_sl ([.ref mo, .int a1, .int a2])).length) Slot.unset).toArray = ls at hl ⊢
  have hl : lv_has ls 3 [(0, .ref mo), (1, .int a1), (2, .int a2)] := hl
  refine lv_aload_n hx hb dX12_widen_0 rfl (lv_at hl 0 rfl) ?_
  refine lv_iconst (v := 0) hx hb dX12_widen_1 (by decide) ?_
  refine va_put (ci := 12) (v := .int 0) (ty := .int) (C := RX12) (T := TX12) (N := 34) hx hb hts (fun _ h => List.mem_cons_of_mem _ (List.mem_append_right _ h)) tyX12 tyX12_ok nmX12 hown hK.1 hP hD hS 0 rfl rfl 0 (by decide) (hts (.fieldLink RX12 85 "CutAtlasModel" "thrown" "I") (by decide +kernel)) (fun _ h9 => h9) rfl (by decide +kernel) rfl rfl (Nat.le_of_ble_eq_true rfl) dX12_widen_2 (fun H locs hP hD hS => ?_)
  have hP : va_P D vwCl [(mo, .inr (12, [.int 0, .int 0, .long 0, .int 0, .int 0, .ref g5, .ref g6, .ref g7, .ref g8, .ref g9, .ref g10, .int 0, .ref g12, .ref g13, .ref g14, .ref g15, .ref g16, .ref g17, .ref g18, .ref g19, .ref g20, .int (-9), .ref g22, .ref g23, .ref g24, .int 0, .int 0, .int 0, .int 0, .ref g29, .ref g30, .ref g31, .ref g32, .ref g33]))] H := hP
  have hD : va_D A [(mo, .inr (12, [.int 0, .int 0, .long 0, .int 0, .int 0, .ref g5, .ref g6, .ref g7, .ref g8, .ref g9, .ref g10, .int 0, .ref g12, .ref g13, .ref g14, .ref g15, .ref g16, .ref g17, .ref g18, .ref g19, .ref g20, .int (-9), .ref g22, .ref g23, .ref g24, .int 0, .int 0, .int 0, .int 0, .ref g29, .ref g30, .ref g31, .ref g32, .ref g33]))] := hD
  refine lv_aload_n hx hb dX12_widen_5 rfl (lv_at hl 0 rfl) ?_
  refine lv_iload_n hx hb dX12_widen_6 rfl (lv_at hl 1 rfl) ?_
  have hPc := hP.sub (ws' := [(mo, .inr (12, [.int 0, .int 0, .long 0, .int 0, .int 0, .ref g5, .ref g6, .ref g7, .ref g8, .ref g9, .ref g10, .int 0, .ref g12, .ref g13, .ref g14, .ref g15, .ref g16, .ref g17, .ref g18, .ref g19, .ref g20, .int (-9), .ref g22, .ref g23, .ref g24, .int 0, .int 0, .int 0, .int 0, .ref g29, .ref g30, .ref g31, .ref g32, .ref g33]))]) [0] rfl
  have hDc := hD.sub (ws' := [(mo, .inr (12, [.int 0, .int 0, .long 0, .int 0, .int 0, .ref g5, .ref g6, .ref g7, .ref g8, .ref g9, .ref g10, .int 0, .ref g12, .ref g13, .ref g14, .ref g15, .ref g16, .ref g17, .ref g18, .ref g19, .ref g20, .int (-9), .ref g22, .ref g23, .ref g24, .int 0, .int 0, .int 0, .int 0, .ref g29, .ref g30, .ref g31, .ref g32, .ref g33]))]) [0] (by decide) rfl
  have hDw : va_D (fun _ => True) [(mo, .inr (12, [.int 0, .int 0, .long 0, .int 0, .int 0, .ref g5, .ref g6, .ref g7, .ref g8, .ref g9, .ref g10, .int 0, .ref g12, .ref g13, .ref g14, .ref g15, .ref g16, .ref g17, .ref g18, .ref g19, .ref g20, .int (-9), .ref g22, .ref g23, .ref g24, .int 0, .int 0, .int 0, .int 0, .ref g29, .ref g30, .ref g31, .ref g32, .ref g33]))] := hDc.weaken (fun _ _ _ _ => trivial)
  have hFc := va_free (wc := []) hD hS hA [] rfl
  refine va_calli (va_runV (As := [.int a1]) (rest := []) ⟨hx, hb, hml, hown, hts⟩ (c_X12_isLine l D cy H.size mo g5 g6 g7 g8 g9 g10 g12 g13 g14 g15 g16 g17 g18 g19 g20 g22 g23 g24 g29 g30 g31 g32 g33 a1) (cwV 1 hts gX12_widen_X12_isLine rfl rfl rfl (by decide +kernel) ⟨Nat.le_of_ble_eq_true rfl, Nat.le_of_ble_eq_true rfl⟩) ⟨bl_, va_recv hK.1 hPc (ci := 12) (q0 := 0) rfl rfl, fun U hU hW => ⟨rfl, by rw [hU], by rw [hU]; exact hPc, kk_mv hW hK, hDw⟩⟩ rfl rfl hl.1 rfl (lv_room (Nat.le_of_ble_eq_true rfl)) dX12_widen_7 ⟨Nat.le_of_ble_eq_true rfl, Nat.le_of_ble_eq_true rfl⟩) hS (fun q _ h => hFc q h) hFc (fun r_1 u t H locs ht hvm hw hB hz1 hk1 hS => ?_)
  have hP := ro_keep hP hk1
  have hP : va_P D vwCl [(mo, .inr (12, [.int 0, .int 0, .long 0, .int 0, .int 0, .ref g5, .ref g6, .ref g7, .ref g8, .ref g9, .ref g10, .int 0, .ref g12, .ref g13, .ref g14, .ref g15, .ref g16, .ref g17, .ref g18, .ref g19, .ref g20, .int (-9), .ref g22, .ref g23, .ref g24, .int 0, .int 0, .int 0, .int 0, .ref g29, .ref g30, .ref g31, .ref g32, .ref g33]))] H := hP
  have e_ := hw.symm
  subst e_
  refine lv_if_eq (tgt := 25) hx hb dX12_widen_10 (by decide) (fun c_2 => ?_) (fun c_2 => ?_)
  · have _ := c_2
    refine lv_iconst (v := (-1)) hx hb dX12_widen_25 (by decide) ?_
    exact W.iret (v := (-1)) hx hb hr (fun t ht hW => ⟨⟨(-1), (), rfl, rfl, trivial⟩, hS.F ht⟩) hS.2.2 dX12_widen_26
  · exact absurd c_2 (by decide)

set_option maxHeartbeats 4000000 in
set_option maxRecDepth 100000 in
theorem c_X12_width (l : Launch) (D : va_G) (cy : Nat → ClassId) (sz : Nat) (mo : Nat) (g5 : Nat) (g6 : Nat) (g7 : Nat) (g8 : Nat) (g9 : Nat) (g10 : Nat) (g12 : Nat) (g13 : Nat) (g14 : Nat) (g15 : Nat) (g16 : Nat) (g17 : Nat) (g18 : Nat) (g19 : Nat) (g20 : Nat) (g22 : Nat) (g23 : Nat) (g24 : Nat) (g29 : Nat) (g30 : Nat) (g31 : Nat) (g32 : Nat) (g33 : Nat) (a1 : Int32) (a2 : Int32) : Met l yX12_width wsX12_width ({ frames := 2, cells := 0, slots := 0, locals := 46 }) (va_Pc [.ref mo, .int a1, .int a2] (fun U => U.heap.size = sz ∧ va_P D vwCl [(mo, .inr (12, [.int 0, .int 0, .long 0, .int 0, .int 0, .ref g5, .ref g6, .ref g7, .ref g8, .ref g9, .ref g10, .int 0, .ref g12, .ref g13, .ref g14, .ref g15, .ref g16, .ref g17, .ref g18, .ref g19, .ref g20, .int (-9), .ref g22, .ref g23, .ref g24, .int 0, .int 0, .int 0, .int 0, .ref g29, .ref g30, .ref g31, .ref g32, .ref g33]))] U.heap ∧ kk_ D cy U ∧ va_D (fun _ => True) [(mo, .inr (12, [.int 0, .int 0, .long 0, .int 0, .int 0, .ref g5, .ref g6, .ref g7, .ref g8, .ref g9, .ref g10, .int 0, .ref g12, .ref g13, .ref g14, .ref g15, .ref g16, .ref g17, .ref g18, .ref g19, .ref g20, .int (-9), .ref g22, .ref g23, .ref g24, .int 0, .int 0, .int 0, .int 0, .ref g29, .ref g30, .ref g31, .ref g32, .ref g33]))])) (va_Qi (fun (r : Int32) (_ : Unit) => r = (-1)) (fun (_ : Unit) (_ : State) => True) (va_A [(mo, .inr (12, [.int 0, .int 0, .long 0, .int 0, .int 0, .ref g5, .ref g6, .ref g7, .ref g8, .ref g9, .ref g10, .int 0, .ref g12, .ref g13, .ref g14, .ref g15, .ref g16, .ref g17, .ref g18, .ref g19, .ref g20, .int (-9), .ref g22, .ref g23, .ref g24, .int 0, .int 0, .int 0, .int 0, .ref g29, .ref g30, .ref g31, .ref g32, .ref g33]))] sz)) 0 0 (va_A [(mo, .inr (12, [.int 0, .int 0, .long 0, .int 0, .int 0, .ref g5, .ref g6, .ref g7, .ref g8, .ref g9, .ref g10, .int 0, .ref g12, .ref g13, .ref g14, .ref g15, .ref g16, .ref g17, .ref g18, .ref g19, .ref g20, .int (-9), .ref g22, .ref g23, .ref g24, .int 0, .int 0, .int 0, .int 0, .ref g29, .ref g30, .ref g31, .ref g32, .ref g33]))] sz) := by
  refine Met.ofW (cc := cX12_width) (maxL := 4) (ret := (some .int)) (by decide) rfl ?_
  intro p e s m args below meth c s₁ B hml hv
  obtain ⟨rfl, hsz, hP, hK, hD0⟩ := hv
  have hx := B.exec
  have hb := B.bytes
  have hr := B.returns
  have hts := atoms_spec (ws := wsX12_width) B.pre
  have hown : s.vm.findClass RX12 = some m.cls := findClass_of_methodNamed B.named
  have hlocks := B.notSynchronized
  subst hsz
  have hD := hD0.self (sz := s.heap.size)
  generalize hAe : va_A [(mo, .inr (12, [.int 0, .int 0, .long 0, .int 0, .int 0, .ref g5, .ref g6, .ref g7, .ref g8, .ref g9, .ref g10, .int 0, .ref g12, .ref g13, .ref g14, .ref g15, .ref g16, .ref g17, .ref g18, .ref g19, .ref g20, .int (-9), .ref g22, .ref g23, .ref g24, .int 0, .int 0, .int 0, .int 0, .ref g29, .ref g30, .ref g31, .ref g32, .ref g33]))] s.heap.size = A at hD ⊢
  have hA : ∀ q : Nat, s.heap.size ≤ q → A q := fun q h => by rw [← hAe]; exact Or.inr h
  have hS : va_S A s.heap s.heap [] := va_S.rf
  have hl := lv_entry ([.ref mo, .int a1, .int a2]) (n := 4) (Nat.le_of_ble_eq_true rfl)
  rw [lg_entry_eq]
  generalize (lg_sl ([.ref mo, .int a1, .int a2]) ++ List.replicate (4 - (lg_sl ([.ref mo, .int a1, .int a2])).length) Slot.unset).toArray = ls at hl ⊢
  have hl : lv_has ls 4 [(0, .ref mo), (1, .int a1), (2, .int a2)] := hl
  refine lv_aload_n hx hb dX12_width_0 rfl (lv_at hl 0 rfl) ?_
  refine lv_iconst (v := 0) hx hb dX12_width_1 (by decide) ?_
  refine va_put (ci := 12) (v := .int 0) (ty := .int) (C := RX12) (T := TX12) (N := 34) hx hb hts (fun _ h => List.mem_cons_of_mem _ (List.mem_append_right _ h)) tyX12 tyX12_ok nmX12 hown hK.1 hP hD hS 0 rfl rfl 0 (by decide) (hts (.fieldLink RX12 85 "CutAtlasModel" "thrown" "I") (by decide +kernel)) (fun _ h9 => h9) rfl (by decide +kernel) rfl rfl (Nat.le_of_ble_eq_true rfl) dX12_width_2 (fun H locs hP hD hS => ?_)
  have hP : va_P D vwCl [(mo, .inr (12, [.int 0, .int 0, .long 0, .int 0, .int 0, .ref g5, .ref g6, .ref g7, .ref g8, .ref g9, .ref g10, .int 0, .ref g12, .ref g13, .ref g14, .ref g15, .ref g16, .ref g17, .ref g18, .ref g19, .ref g20, .int (-9), .ref g22, .ref g23, .ref g24, .int 0, .int 0, .int 0, .int 0, .ref g29, .ref g30, .ref g31, .ref g32, .ref g33]))] H := hP
  have hD : va_D A [(mo, .inr (12, [.int 0, .int 0, .long 0, .int 0, .int 0, .ref g5, .ref g6, .ref g7, .ref g8, .ref g9, .ref g10, .int 0, .ref g12, .ref g13, .ref g14, .ref g15, .ref g16, .ref g17, .ref g18, .ref g19, .ref g20, .int (-9), .ref g22, .ref g23, .ref g24, .int 0, .int 0, .int 0, .int 0, .ref g29, .ref g30, .ref g31, .ref g32, .ref g33]))] := hD
  refine lv_aload_n hx hb dX12_width_5 rfl (lv_at hl 0 rfl) ?_
  refine lv_iload_n hx hb dX12_width_6 rfl (lv_at hl 1 rfl) ?_
  have hPc := hP.sub (ws' := [(mo, .inr (12, [.int 0, .int 0, .long 0, .int 0, .int 0, .ref g5, .ref g6, .ref g7, .ref g8, .ref g9, .ref g10, .int 0, .ref g12, .ref g13, .ref g14, .ref g15, .ref g16, .ref g17, .ref g18, .ref g19, .ref g20, .int (-9), .ref g22, .ref g23, .ref g24, .int 0, .int 0, .int 0, .int 0, .ref g29, .ref g30, .ref g31, .ref g32, .ref g33]))]) [0] rfl
  have hDc := hD.sub (ws' := [(mo, .inr (12, [.int 0, .int 0, .long 0, .int 0, .int 0, .ref g5, .ref g6, .ref g7, .ref g8, .ref g9, .ref g10, .int 0, .ref g12, .ref g13, .ref g14, .ref g15, .ref g16, .ref g17, .ref g18, .ref g19, .ref g20, .int (-9), .ref g22, .ref g23, .ref g24, .int 0, .int 0, .int 0, .int 0, .ref g29, .ref g30, .ref g31, .ref g32, .ref g33]))]) [0] (by decide) rfl
  have hDw : va_D (fun _ => True) [(mo, .inr (12, [.int 0, .int 0, .long 0, .int 0, .int 0, .ref g5, .ref g6, .ref g7, .ref g8, .ref g9, .ref g10, .int 0, .ref g12, .ref g13, .ref g14, .ref g15, .ref g16, .ref g17, .ref g18, .ref g19, .ref g20, .int (-9), .ref g22, .ref g23, .ref g24, .int 0, .int 0, .int 0, .int 0, .ref g29, .ref g30, .ref g31, .ref g32, .ref g33]))] := hDc.weaken (fun _ _ _ _ => trivial)
  have hFc := va_free (wc := []) hD hS hA [] rfl
  refine va_calli (va_runV (As := [.int a1]) (rest := []) ⟨hx, hb, hml, hown, hts⟩ (c_X12_isLine l D cy H.size mo g5 g6 g7 g8 g9 g10 g12 g13 g14 g15 g16 g17 g18 g19 g20 g22 g23 g24 g29 g30 g31 g32 g33 a1) (cwV 1 hts gX12_width_X12_isLine rfl rfl rfl (by decide +kernel) ⟨Nat.le_of_ble_eq_true rfl, Nat.le_of_ble_eq_true rfl⟩) ⟨bl_, va_recv hK.1 hPc (ci := 12) (q0 := 0) rfl rfl, fun U hU hW => ⟨rfl, by rw [hU], by rw [hU]; exact hPc, kk_mv hW hK, hDw⟩⟩ rfl rfl hl.1 rfl (lv_room (Nat.le_of_ble_eq_true rfl)) dX12_width_7 ⟨Nat.le_of_ble_eq_true rfl, Nat.le_of_ble_eq_true rfl⟩) hS (fun q _ h => hFc q h) hFc (fun r_1 u t H locs ht hvm hw hB hz1 hk1 hS => ?_)
  have hP := ro_keep hP hk1
  have hP : va_P D vwCl [(mo, .inr (12, [.int 0, .int 0, .long 0, .int 0, .int 0, .ref g5, .ref g6, .ref g7, .ref g8, .ref g9, .ref g10, .int 0, .ref g12, .ref g13, .ref g14, .ref g15, .ref g16, .ref g17, .ref g18, .ref g19, .ref g20, .int (-9), .ref g22, .ref g23, .ref g24, .int 0, .int 0, .int 0, .int 0, .ref g29, .ref g30, .ref g31, .ref g32, .ref g33]))] H := hP
  have e_ := hw.symm
  subst e_
  refine lv_if_eq (tgt := 25) hx hb dX12_width_10 (by decide) (fun c_2 => ?_) (fun c_2 => ?_)
  · have _ := c_2
    refine lv_iconst (v := (-1)) hx hb dX12_width_25 (by decide) ?_
    exact W.iret (v := (-1)) hx hb hr (fun t ht hW => ⟨⟨(-1), (), rfl, rfl, trivial⟩, hS.F ht⟩) hS.2.2 dX12_width_26
  · exact absurd c_2 (by decide)

set_option maxHeartbeats 4000000 in
set_option maxRecDepth 100000 in
theorem c_X12_merge (l : Launch) (D : va_G) (cy : Nat → ClassId) (sz : Nat) (mo : Nat) (g5 : Nat) (g6 : Nat) (g7 : Nat) (g8 : Nat) (g9 : Nat) (g10 : Nat) (g12 : Nat) (g13 : Nat) (g14 : Nat) (g15 : Nat) (g16 : Nat) (g17 : Nat) (g18 : Nat) (g19 : Nat) (g20 : Nat) (g22 : Nat) (g23 : Nat) (g24 : Nat) (g29 : Nat) (g30 : Nat) (g31 : Nat) (g32 : Nat) (g33 : Nat) (a1 : Int32) (a2 : Int32) : Met l yX12_merge wsX12_merge ({ frames := 3, cells := 0, slots := 0, locals := 68 }) (va_Pc [.ref mo, .int a1, .int a2] (fun U => U.heap.size = sz ∧ va_P D vwCl [(mo, .inr (12, [.int 0, .int 0, .long 0, .int 0, .int 0, .ref g5, .ref g6, .ref g7, .ref g8, .ref g9, .ref g10, .int 0, .ref g12, .ref g13, .ref g14, .ref g15, .ref g16, .ref g17, .ref g18, .ref g19, .ref g20, .int (-9), .ref g22, .ref g23, .ref g24, .int 0, .int 0, .int 0, .int 0, .ref g29, .ref g30, .ref g31, .ref g32, .ref g33]))] U.heap ∧ kk_ D cy U ∧ va_D (fun _ => True) [(mo, .inr (12, [.int 0, .int 0, .long 0, .int 0, .int 0, .ref g5, .ref g6, .ref g7, .ref g8, .ref g9, .ref g10, .int 0, .ref g12, .ref g13, .ref g14, .ref g15, .ref g16, .ref g17, .ref g18, .ref g19, .ref g20, .int (-9), .ref g22, .ref g23, .ref g24, .int 0, .int 0, .int 0, .int 0, .ref g29, .ref g30, .ref g31, .ref g32, .ref g33]))])) (va_Qi (fun (r : Int32) (_ : Unit) => r = (-1)) (fun (_ : Unit) (_ : State) => True) (va_A [(mo, .inr (12, [.int 0, .int 0, .long 0, .int 0, .int 0, .ref g5, .ref g6, .ref g7, .ref g8, .ref g9, .ref g10, .int 0, .ref g12, .ref g13, .ref g14, .ref g15, .ref g16, .ref g17, .ref g18, .ref g19, .ref g20, .int (-9), .ref g22, .ref g23, .ref g24, .int 0, .int 0, .int 0, .int 0, .ref g29, .ref g30, .ref g31, .ref g32, .ref g33]))] sz)) 0 0 (va_A [(mo, .inr (12, [.int 0, .int 0, .long 0, .int 0, .int 0, .ref g5, .ref g6, .ref g7, .ref g8, .ref g9, .ref g10, .int 0, .ref g12, .ref g13, .ref g14, .ref g15, .ref g16, .ref g17, .ref g18, .ref g19, .ref g20, .int (-9), .ref g22, .ref g23, .ref g24, .int 0, .int 0, .int 0, .int 0, .ref g29, .ref g30, .ref g31, .ref g32, .ref g33]))] sz) := by
  refine Met.ofW (cc := cX12_merge) (maxL := 7) (ret := (some .int)) (by decide) rfl ?_
  intro p e s m args below meth c s₁ B hml hv
  obtain ⟨rfl, hsz, hP, hK, hD0⟩ := hv
  have hx := B.exec
  have hb := B.bytes
  have hr := B.returns
  have hts := atoms_spec (ws := wsX12_merge) B.pre
  have hown : s.vm.findClass RX12 = some m.cls := findClass_of_methodNamed B.named
  have hlocks := B.notSynchronized
  subst hsz
  have hD := hD0.self (sz := s.heap.size)
  generalize hAe : va_A [(mo, .inr (12, [.int 0, .int 0, .long 0, .int 0, .int 0, .ref g5, .ref g6, .ref g7, .ref g8, .ref g9, .ref g10, .int 0, .ref g12, .ref g13, .ref g14, .ref g15, .ref g16, .ref g17, .ref g18, .ref g19, .ref g20, .int (-9), .ref g22, .ref g23, .ref g24, .int 0, .int 0, .int 0, .int 0, .ref g29, .ref g30, .ref g31, .ref g32, .ref g33]))] s.heap.size = A at hD ⊢
  have hA : ∀ q : Nat, s.heap.size ≤ q → A q := fun q h => by rw [← hAe]; exact Or.inr h
  have hS : va_S A s.heap s.heap [] := va_S.rf
  have hl := lv_entry ([.ref mo, .int a1, .int a2]) (n := 7) (Nat.le_of_ble_eq_true rfl)
  rw [lg_entry_eq]
  generalize (lg_sl ([.ref mo, .int a1, .int a2]) ++ List.replicate (7 - (lg_sl ([.ref mo, .int a1, .int a2])).length) Slot.unset).toArray = ls at hl ⊢
  have hl : lv_has ls 7 [(0, .ref mo), (1, .int a1), (2, .int a2)] := hl
  refine lv_aload_n hx hb dX12_merge_0 rfl (lv_at hl 0 rfl) ?_
  refine lv_iconst (v := 0) hx hb dX12_merge_1 (by decide) ?_
  refine va_put (ci := 12) (v := .int 0) (ty := .int) (C := RX12) (T := TX12) (N := 34) hx hb hts (fun _ h => List.mem_cons_of_mem _ (List.mem_append_right _ h)) tyX12 tyX12_ok nmX12 hown hK.1 hP hD hS 0 rfl rfl 0 (by decide) (hts (.fieldLink RX12 85 "CutAtlasModel" "thrown" "I") (by decide +kernel)) (fun _ h9 => h9) rfl (by decide +kernel) rfl rfl (Nat.le_of_ble_eq_true rfl) dX12_merge_2 (fun H locs hP hD hS => ?_)
  have hP : va_P D vwCl [(mo, .inr (12, [.int 0, .int 0, .long 0, .int 0, .int 0, .ref g5, .ref g6, .ref g7, .ref g8, .ref g9, .ref g10, .int 0, .ref g12, .ref g13, .ref g14, .ref g15, .ref g16, .ref g17, .ref g18, .ref g19, .ref g20, .int (-9), .ref g22, .ref g23, .ref g24, .int 0, .int 0, .int 0, .int 0, .ref g29, .ref g30, .ref g31, .ref g32, .ref g33]))] H := hP
  have hD : va_D A [(mo, .inr (12, [.int 0, .int 0, .long 0, .int 0, .int 0, .ref g5, .ref g6, .ref g7, .ref g8, .ref g9, .ref g10, .int 0, .ref g12, .ref g13, .ref g14, .ref g15, .ref g16, .ref g17, .ref g18, .ref g19, .ref g20, .int (-9), .ref g22, .ref g23, .ref g24, .int 0, .int 0, .int 0, .int 0, .ref g29, .ref g30, .ref g31, .ref g32, .ref g33]))] := hD
  refine lv_aload_n hx hb dX12_merge_5 rfl (lv_at hl 0 rfl) ?_
  refine lv_iload_n hx hb dX12_merge_6 rfl (lv_at hl 1 rfl) ?_
  refine lv_iload_n hx hb dX12_merge_7 rfl (lv_at hl 2 rfl) ?_
  have hPc := hP.sub (ws' := [(mo, .inr (12, [.int 0, .int 0, .long 0, .int 0, .int 0, .ref g5, .ref g6, .ref g7, .ref g8, .ref g9, .ref g10, .int 0, .ref g12, .ref g13, .ref g14, .ref g15, .ref g16, .ref g17, .ref g18, .ref g19, .ref g20, .int (-9), .ref g22, .ref g23, .ref g24, .int 0, .int 0, .int 0, .int 0, .ref g29, .ref g30, .ref g31, .ref g32, .ref g33]))]) [0] rfl
  have hDc := hD.sub (ws' := [(mo, .inr (12, [.int 0, .int 0, .long 0, .int 0, .int 0, .ref g5, .ref g6, .ref g7, .ref g8, .ref g9, .ref g10, .int 0, .ref g12, .ref g13, .ref g14, .ref g15, .ref g16, .ref g17, .ref g18, .ref g19, .ref g20, .int (-9), .ref g22, .ref g23, .ref g24, .int 0, .int 0, .int 0, .int 0, .ref g29, .ref g30, .ref g31, .ref g32, .ref g33]))]) [0] (by decide) rfl
  have hDw : va_D (fun _ => True) [(mo, .inr (12, [.int 0, .int 0, .long 0, .int 0, .int 0, .ref g5, .ref g6, .ref g7, .ref g8, .ref g9, .ref g10, .int 0, .ref g12, .ref g13, .ref g14, .ref g15, .ref g16, .ref g17, .ref g18, .ref g19, .ref g20, .int (-9), .ref g22, .ref g23, .ref g24, .int 0, .int 0, .int 0, .int 0, .ref g29, .ref g30, .ref g31, .ref g32, .ref g33]))] := hDc.weaken (fun _ _ _ _ => trivial)
  have hFc := va_free (wc := []) hD hS hA [] rfl
  refine va_calli (va_runV (As := [.int a1, .int a2]) (rest := []) ⟨hx, hb, hml, hown, hts⟩ (c_X12_arePlaces l D cy H.size mo g5 g6 g7 g8 g9 g10 g12 g13 g14 g15 g16 g17 g18 g19 g20 g22 g23 g24 g29 g30 g31 g32 g33 a1 a2) (cwV 2 hts gX12_merge_X12_arePlaces rfl rfl rfl (by decide +kernel) ⟨Nat.le_of_ble_eq_true rfl, Nat.le_of_ble_eq_true rfl⟩) ⟨bl_, va_recv hK.1 hPc (ci := 12) (q0 := 0) rfl rfl, fun U hU hW => ⟨rfl, by rw [hU], by rw [hU]; exact hPc, kk_mv hW hK, hDw⟩⟩ rfl rfl hl.1 rfl (lv_room (Nat.le_of_ble_eq_true rfl)) dX12_merge_8 ⟨Nat.le_of_ble_eq_true rfl, Nat.le_of_ble_eq_true rfl⟩) hS (fun q _ h => hFc q h) hFc (fun r_1 u t H locs ht hvm hw hB hz1 hk1 hS => ?_)
  have hP := ro_keep hP hk1
  have hP : va_P D vwCl [(mo, .inr (12, [.int 0, .int 0, .long 0, .int 0, .int 0, .ref g5, .ref g6, .ref g7, .ref g8, .ref g9, .ref g10, .int 0, .ref g12, .ref g13, .ref g14, .ref g15, .ref g16, .ref g17, .ref g18, .ref g19, .ref g20, .int (-9), .ref g22, .ref g23, .ref g24, .int 0, .int 0, .int 0, .int 0, .ref g29, .ref g30, .ref g31, .ref g32, .ref g33]))] H := hP
  have e_ := hw.symm
  subst e_
  refine lv_if_ne (tgt := 16) hx hb dX12_merge_11 (by decide) (fun c_2 => ?_) (fun c_2 => ?_)
  · exact absurd c_2 (by decide)
  · have _ := c_2
    refine lv_iconst (v := (-1)) hx hb dX12_merge_14 (by decide) ?_
    exact W.iret (v := (-1)) hx hb hr (fun t ht hW => ⟨⟨(-1), (), rfl, rfl, trivial⟩, hS.F ht⟩) hS.2.2 dX12_merge_15

set_option maxHeartbeats 4000000 in
set_option maxRecDepth 100000 in
theorem c_X12_told (l : Launch) (D : va_G) (cy : Nat → ClassId) (sz : Nat) (mo : Nat) (g5 : Nat) (g6 : Nat) (g7 : Nat) (g8 : Nat) (g9 : Nat) (g10 : Nat) (g12 : Nat) (g13 : Nat) (g14 : Nat) (g15 : Nat) (g16 : Nat) (g17 : Nat) (g18 : Nat) (g19 : Nat) (g20 : Nat) (g22 : Nat) (g23 : Nat) (g24 : Nat) (g29 : Nat) (g30 : Nat) (g31 : Nat) (g32 : Nat) (g33 : Nat) (a1 : Int32) (a2 : Int32) : Met l yX12_told wsX12_told ({ frames := 2, cells := 0, slots := 0, locals := 46 }) (va_Pc [.ref mo, .int a1, .int a2] (fun U => U.heap.size = sz ∧ va_P D vwCl [(mo, .inr (12, [.int 0, .int 0, .long 0, .int 0, .int 0, .ref g5, .ref g6, .ref g7, .ref g8, .ref g9, .ref g10, .int 0, .ref g12, .ref g13, .ref g14, .ref g15, .ref g16, .ref g17, .ref g18, .ref g19, .ref g20, .int (-9), .ref g22, .ref g23, .ref g24, .int 0, .int 0, .int 0, .int 0, .ref g29, .ref g30, .ref g31, .ref g32, .ref g33]))] U.heap ∧ kk_ D cy U ∧ va_D (fun _ => True) [(mo, .inr (12, [.int 0, .int 0, .long 0, .int 0, .int 0, .ref g5, .ref g6, .ref g7, .ref g8, .ref g9, .ref g10, .int 0, .ref g12, .ref g13, .ref g14, .ref g15, .ref g16, .ref g17, .ref g18, .ref g19, .ref g20, .int (-9), .ref g22, .ref g23, .ref g24, .int 0, .int 0, .int 0, .int 0, .ref g29, .ref g30, .ref g31, .ref g32, .ref g33]))])) (va_Qi (fun (r : Int32) (_ : Unit) => r = (-1)) (fun (_ : Unit) (_ : State) => True) (va_A [(mo, .inr (12, [.int 0, .int 0, .long 0, .int 0, .int 0, .ref g5, .ref g6, .ref g7, .ref g8, .ref g9, .ref g10, .int 0, .ref g12, .ref g13, .ref g14, .ref g15, .ref g16, .ref g17, .ref g18, .ref g19, .ref g20, .int (-9), .ref g22, .ref g23, .ref g24, .int 0, .int 0, .int 0, .int 0, .ref g29, .ref g30, .ref g31, .ref g32, .ref g33]))] sz)) 0 0 (va_A [(mo, .inr (12, [.int 0, .int 0, .long 0, .int 0, .int 0, .ref g5, .ref g6, .ref g7, .ref g8, .ref g9, .ref g10, .int 0, .ref g12, .ref g13, .ref g14, .ref g15, .ref g16, .ref g17, .ref g18, .ref g19, .ref g20, .int (-9), .ref g22, .ref g23, .ref g24, .int 0, .int 0, .int 0, .int 0, .ref g29, .ref g30, .ref g31, .ref g32, .ref g33]))] sz) := by
  refine Met.ofW (cc := cX12_told) (maxL := 4) (ret := (some .int)) (by decide) rfl ?_
  intro p e s m args below meth c s₁ B hml hv
  obtain ⟨rfl, hsz, hP, hK, hD0⟩ := hv
  have hx := B.exec
  have hb := B.bytes
  have hr := B.returns
  have hts := atoms_spec (ws := wsX12_told) B.pre
  have hown : s.vm.findClass RX12 = some m.cls := findClass_of_methodNamed B.named
  have hlocks := B.notSynchronized
  subst hsz
  have hD := hD0.self (sz := s.heap.size)
  generalize hAe : va_A [(mo, .inr (12, [.int 0, .int 0, .long 0, .int 0, .int 0, .ref g5, .ref g6, .ref g7, .ref g8, .ref g9, .ref g10, .int 0, .ref g12, .ref g13, .ref g14, .ref g15, .ref g16, .ref g17, .ref g18, .ref g19, .ref g20, .int (-9), .ref g22, .ref g23, .ref g24, .int 0, .int 0, .int 0, .int 0, .ref g29, .ref g30, .ref g31, .ref g32, .ref g33]))] s.heap.size = A at hD ⊢
  have hA : ∀ q : Nat, s.heap.size ≤ q → A q := fun q h => by rw [← hAe]; exact Or.inr h
  have hS : va_S A s.heap s.heap [] := va_S.rf
  have hl := lv_entry ([.ref mo, .int a1, .int a2]) (n := 4) (Nat.le_of_ble_eq_true rfl)
  rw [lg_entry_eq]
  generalize (lg_sl ([.ref mo, .int a1, .int a2]) ++ List.replicate (4 - (lg_sl ([.ref mo, .int a1, .int a2])).length) Slot.unset).toArray = ls at hl ⊢
  have hl : lv_has ls 4 [(0, .ref mo), (1, .int a1), (2, .int a2)] := hl
  refine lv_aload_n hx hb dX12_told_0 rfl (lv_at hl 0 rfl) ?_
  refine lv_iconst (v := 0) hx hb dX12_told_1 (by decide) ?_
  refine va_put (ci := 12) (v := .int 0) (ty := .int) (C := RX12) (T := TX12) (N := 34) hx hb hts (fun _ h => List.mem_cons_of_mem _ (List.mem_append_right _ h)) tyX12 tyX12_ok nmX12 hown hK.1 hP hD hS 0 rfl rfl 0 (by decide) (hts (.fieldLink RX12 85 "CutAtlasModel" "thrown" "I") (by decide +kernel)) (fun _ h9 => h9) rfl (by decide +kernel) rfl rfl (Nat.le_of_ble_eq_true rfl) dX12_told_2 (fun H locs hP hD hS => ?_)
  have hP : va_P D vwCl [(mo, .inr (12, [.int 0, .int 0, .long 0, .int 0, .int 0, .ref g5, .ref g6, .ref g7, .ref g8, .ref g9, .ref g10, .int 0, .ref g12, .ref g13, .ref g14, .ref g15, .ref g16, .ref g17, .ref g18, .ref g19, .ref g20, .int (-9), .ref g22, .ref g23, .ref g24, .int 0, .int 0, .int 0, .int 0, .ref g29, .ref g30, .ref g31, .ref g32, .ref g33]))] H := hP
  have hD : va_D A [(mo, .inr (12, [.int 0, .int 0, .long 0, .int 0, .int 0, .ref g5, .ref g6, .ref g7, .ref g8, .ref g9, .ref g10, .int 0, .ref g12, .ref g13, .ref g14, .ref g15, .ref g16, .ref g17, .ref g18, .ref g19, .ref g20, .int (-9), .ref g22, .ref g23, .ref g24, .int 0, .int 0, .int 0, .int 0, .ref g29, .ref g30, .ref g31, .ref g32, .ref g33]))] := hD
  refine lv_aload_n hx hb dX12_told_5 rfl (lv_at hl 0 rfl) ?_
  refine lv_iload_n hx hb dX12_told_6 rfl (lv_at hl 1 rfl) ?_
  have hPc := hP.sub (ws' := [(mo, .inr (12, [.int 0, .int 0, .long 0, .int 0, .int 0, .ref g5, .ref g6, .ref g7, .ref g8, .ref g9, .ref g10, .int 0, .ref g12, .ref g13, .ref g14, .ref g15, .ref g16, .ref g17, .ref g18, .ref g19, .ref g20, .int (-9), .ref g22, .ref g23, .ref g24, .int 0, .int 0, .int 0, .int 0, .ref g29, .ref g30, .ref g31, .ref g32, .ref g33]))]) [0] rfl
  have hDc := hD.sub (ws' := [(mo, .inr (12, [.int 0, .int 0, .long 0, .int 0, .int 0, .ref g5, .ref g6, .ref g7, .ref g8, .ref g9, .ref g10, .int 0, .ref g12, .ref g13, .ref g14, .ref g15, .ref g16, .ref g17, .ref g18, .ref g19, .ref g20, .int (-9), .ref g22, .ref g23, .ref g24, .int 0, .int 0, .int 0, .int 0, .ref g29, .ref g30, .ref g31, .ref g32, .ref g33]))]) [0] (by decide) rfl
  have hDw : va_D (fun _ => True) [(mo, .inr (12, [.int 0, .int 0, .long 0, .int 0, .int 0, .ref g5, .ref g6, .ref g7, .ref g8, .ref g9, .ref g10, .int 0, .ref g12, .ref g13, .ref g14, .ref g15, .ref g16, .ref g17, .ref g18, .ref g19, .ref g20, .int (-9), .ref g22, .ref g23, .ref g24, .int 0, .int 0, .int 0, .int 0, .ref g29, .ref g30, .ref g31, .ref g32, .ref g33]))] := hDc.weaken (fun _ _ _ _ => trivial)
  have hFc := va_free (wc := []) hD hS hA [] rfl
  refine va_calli (va_runV (As := [.int a1]) (rest := []) ⟨hx, hb, hml, hown, hts⟩ (c_X12_isLine l D cy H.size mo g5 g6 g7 g8 g9 g10 g12 g13 g14 g15 g16 g17 g18 g19 g20 g22 g23 g24 g29 g30 g31 g32 g33 a1) (cwV 1 hts gX12_told_X12_isLine rfl rfl rfl (by decide +kernel) ⟨Nat.le_of_ble_eq_true rfl, Nat.le_of_ble_eq_true rfl⟩) ⟨bl_, va_recv hK.1 hPc (ci := 12) (q0 := 0) rfl rfl, fun U hU hW => ⟨rfl, by rw [hU], by rw [hU]; exact hPc, kk_mv hW hK, hDw⟩⟩ rfl rfl hl.1 rfl (lv_room (Nat.le_of_ble_eq_true rfl)) dX12_told_7 ⟨Nat.le_of_ble_eq_true rfl, Nat.le_of_ble_eq_true rfl⟩) hS (fun q _ h => hFc q h) hFc (fun r_1 u t H locs ht hvm hw hB hz1 hk1 hS => ?_)
  have hP := ro_keep hP hk1
  have hP : va_P D vwCl [(mo, .inr (12, [.int 0, .int 0, .long 0, .int 0, .int 0, .ref g5, .ref g6, .ref g7, .ref g8, .ref g9, .ref g10, .int 0, .ref g12, .ref g13, .ref g14, .ref g15, .ref g16, .ref g17, .ref g18, .ref g19, .ref g20, .int (-9), .ref g22, .ref g23, .ref g24, .int 0, .int 0, .int 0, .int 0, .ref g29, .ref g30, .ref g31, .ref g32, .ref g33]))] H := hP
  have e_ := hw.symm
  subst e_
  refine lv_if_eq (tgt := 25) hx hb dX12_told_10 (by decide) (fun c_2 => ?_) (fun c_2 => ?_)
  · have _ := c_2
    refine lv_iconst (v := (-1)) hx hb dX12_told_25 (by decide) ?_
    exact W.iret (v := (-1)) hx hb hr (fun t ht hW => ⟨⟨(-1), (), rfl, rfl, trivial⟩, hS.F ht⟩) hS.2.2 dX12_told_26
  · exact absurd c_2 (by decide)

set_option maxHeartbeats 4000000 in
set_option maxRecDepth 100000 in
theorem c_X12_ask (l : Launch) (D : va_G) (cy : Nat → ClassId) (sz : Nat) (mo : Nat) (g5 : Nat) (g6 : Nat) (g7 : Nat) (g8 : Nat) (g9 : Nat) (g10 : Nat) (g12 : Nat) (g13 : Nat) (g14 : Nat) (g15 : Nat) (g16 : Nat) (g17 : Nat) (g18 : Nat) (g19 : Nat) (g20 : Nat) (g22 : Nat) (g23 : Nat) (g24 : Nat) (g29 : Nat) (g30 : Nat) (g31 : Nat) (g32 : Nat) (g33 : Nat) (a1 : Int32) (a2 : Int32) : Met l yX12_ask wsX12_ask ({ frames := 2, cells := 0, slots := 0, locals := 46 }) (va_Pc [.ref mo, .int a1, .int a2] (fun U => U.heap.size = sz ∧ va_P D vwCl [(mo, .inr (12, [.int 0, .int 0, .long 0, .int 0, .int 0, .ref g5, .ref g6, .ref g7, .ref g8, .ref g9, .ref g10, .int 0, .ref g12, .ref g13, .ref g14, .ref g15, .ref g16, .ref g17, .ref g18, .ref g19, .ref g20, .int (-9), .ref g22, .ref g23, .ref g24, .int 0, .int 0, .int 0, .int 0, .ref g29, .ref g30, .ref g31, .ref g32, .ref g33]))] U.heap ∧ kk_ D cy U ∧ va_D (fun _ => True) [(mo, .inr (12, [.int 0, .int 0, .long 0, .int 0, .int 0, .ref g5, .ref g6, .ref g7, .ref g8, .ref g9, .ref g10, .int 0, .ref g12, .ref g13, .ref g14, .ref g15, .ref g16, .ref g17, .ref g18, .ref g19, .ref g20, .int (-9), .ref g22, .ref g23, .ref g24, .int 0, .int 0, .int 0, .int 0, .ref g29, .ref g30, .ref g31, .ref g32, .ref g33]))])) (va_Qi (fun (r : Int32) (_ : Unit) => r = (-1)) (fun (_ : Unit) (_ : State) => True) (va_A [(mo, .inr (12, [.int 0, .int 0, .long 0, .int 0, .int 0, .ref g5, .ref g6, .ref g7, .ref g8, .ref g9, .ref g10, .int 0, .ref g12, .ref g13, .ref g14, .ref g15, .ref g16, .ref g17, .ref g18, .ref g19, .ref g20, .int (-9), .ref g22, .ref g23, .ref g24, .int 0, .int 0, .int 0, .int 0, .ref g29, .ref g30, .ref g31, .ref g32, .ref g33]))] sz)) 0 0 (va_A [(mo, .inr (12, [.int 0, .int 0, .long 0, .int 0, .int 0, .ref g5, .ref g6, .ref g7, .ref g8, .ref g9, .ref g10, .int 0, .ref g12, .ref g13, .ref g14, .ref g15, .ref g16, .ref g17, .ref g18, .ref g19, .ref g20, .int (-9), .ref g22, .ref g23, .ref g24, .int 0, .int 0, .int 0, .int 0, .ref g29, .ref g30, .ref g31, .ref g32, .ref g33]))] sz) := by
  refine Met.ofW (cc := cX12_ask) (maxL := 4) (ret := (some .int)) (by decide) rfl ?_
  intro p e s m args below meth c s₁ B hml hv
  obtain ⟨rfl, hsz, hP, hK, hD0⟩ := hv
  have hx := B.exec
  have hb := B.bytes
  have hr := B.returns
  have hts := atoms_spec (ws := wsX12_ask) B.pre
  have hown : s.vm.findClass RX12 = some m.cls := findClass_of_methodNamed B.named
  have hlocks := B.notSynchronized
  subst hsz
  have hD := hD0.self (sz := s.heap.size)
  generalize hAe : va_A [(mo, .inr (12, [.int 0, .int 0, .long 0, .int 0, .int 0, .ref g5, .ref g6, .ref g7, .ref g8, .ref g9, .ref g10, .int 0, .ref g12, .ref g13, .ref g14, .ref g15, .ref g16, .ref g17, .ref g18, .ref g19, .ref g20, .int (-9), .ref g22, .ref g23, .ref g24, .int 0, .int 0, .int 0, .int 0, .ref g29, .ref g30, .ref g31, .ref g32, .ref g33]))] s.heap.size = A at hD ⊢
  have hA : ∀ q : Nat, s.heap.size ≤ q → A q := fun q h => by rw [← hAe]; exact Or.inr h
  have hS : va_S A s.heap s.heap [] := va_S.rf
  have hl := lv_entry ([.ref mo, .int a1, .int a2]) (n := 4) (Nat.le_of_ble_eq_true rfl)
  rw [lg_entry_eq]
  generalize (lg_sl ([.ref mo, .int a1, .int a2]) ++ List.replicate (4 - (lg_sl ([.ref mo, .int a1, .int a2])).length) Slot.unset).toArray = ls at hl ⊢
  have hl : lv_has ls 4 [(0, .ref mo), (1, .int a1), (2, .int a2)] := hl
  refine lv_aload_n hx hb dX12_ask_0 rfl (lv_at hl 0 rfl) ?_
  refine lv_iconst (v := 0) hx hb dX12_ask_1 (by decide) ?_
  refine va_put (ci := 12) (v := .int 0) (ty := .int) (C := RX12) (T := TX12) (N := 34) hx hb hts (fun _ h => List.mem_cons_of_mem _ (List.mem_append_right _ h)) tyX12 tyX12_ok nmX12 hown hK.1 hP hD hS 0 rfl rfl 0 (by decide) (hts (.fieldLink RX12 85 "CutAtlasModel" "thrown" "I") (by decide +kernel)) (fun _ h9 => h9) rfl (by decide +kernel) rfl rfl (Nat.le_of_ble_eq_true rfl) dX12_ask_2 (fun H locs hP hD hS => ?_)
  have hP : va_P D vwCl [(mo, .inr (12, [.int 0, .int 0, .long 0, .int 0, .int 0, .ref g5, .ref g6, .ref g7, .ref g8, .ref g9, .ref g10, .int 0, .ref g12, .ref g13, .ref g14, .ref g15, .ref g16, .ref g17, .ref g18, .ref g19, .ref g20, .int (-9), .ref g22, .ref g23, .ref g24, .int 0, .int 0, .int 0, .int 0, .ref g29, .ref g30, .ref g31, .ref g32, .ref g33]))] H := hP
  have hD : va_D A [(mo, .inr (12, [.int 0, .int 0, .long 0, .int 0, .int 0, .ref g5, .ref g6, .ref g7, .ref g8, .ref g9, .ref g10, .int 0, .ref g12, .ref g13, .ref g14, .ref g15, .ref g16, .ref g17, .ref g18, .ref g19, .ref g20, .int (-9), .ref g22, .ref g23, .ref g24, .int 0, .int 0, .int 0, .int 0, .ref g29, .ref g30, .ref g31, .ref g32, .ref g33]))] := hD
  refine lv_aload_n hx hb dX12_ask_5 rfl (lv_at hl 0 rfl) ?_
  refine lv_iload_n hx hb dX12_ask_6 rfl (lv_at hl 1 rfl) ?_
  have hPc := hP.sub (ws' := [(mo, .inr (12, [.int 0, .int 0, .long 0, .int 0, .int 0, .ref g5, .ref g6, .ref g7, .ref g8, .ref g9, .ref g10, .int 0, .ref g12, .ref g13, .ref g14, .ref g15, .ref g16, .ref g17, .ref g18, .ref g19, .ref g20, .int (-9), .ref g22, .ref g23, .ref g24, .int 0, .int 0, .int 0, .int 0, .ref g29, .ref g30, .ref g31, .ref g32, .ref g33]))]) [0] rfl
  have hDc := hD.sub (ws' := [(mo, .inr (12, [.int 0, .int 0, .long 0, .int 0, .int 0, .ref g5, .ref g6, .ref g7, .ref g8, .ref g9, .ref g10, .int 0, .ref g12, .ref g13, .ref g14, .ref g15, .ref g16, .ref g17, .ref g18, .ref g19, .ref g20, .int (-9), .ref g22, .ref g23, .ref g24, .int 0, .int 0, .int 0, .int 0, .ref g29, .ref g30, .ref g31, .ref g32, .ref g33]))]) [0] (by decide) rfl
  have hDw : va_D (fun _ => True) [(mo, .inr (12, [.int 0, .int 0, .long 0, .int 0, .int 0, .ref g5, .ref g6, .ref g7, .ref g8, .ref g9, .ref g10, .int 0, .ref g12, .ref g13, .ref g14, .ref g15, .ref g16, .ref g17, .ref g18, .ref g19, .ref g20, .int (-9), .ref g22, .ref g23, .ref g24, .int 0, .int 0, .int 0, .int 0, .ref g29, .ref g30, .ref g31, .ref g32, .ref g33]))] := hDc.weaken (fun _ _ _ _ => trivial)
  have hFc := va_free (wc := []) hD hS hA [] rfl
  refine va_calli (va_runV (As := [.int a1]) (rest := []) ⟨hx, hb, hml, hown, hts⟩ (c_X12_isLine l D cy H.size mo g5 g6 g7 g8 g9 g10 g12 g13 g14 g15 g16 g17 g18 g19 g20 g22 g23 g24 g29 g30 g31 g32 g33 a1) (cwV 1 hts gX12_ask_X12_isLine rfl rfl rfl (by decide +kernel) ⟨Nat.le_of_ble_eq_true rfl, Nat.le_of_ble_eq_true rfl⟩) ⟨bl_, va_recv hK.1 hPc (ci := 12) (q0 := 0) rfl rfl, fun U hU hW => ⟨rfl, by rw [hU], by rw [hU]; exact hPc, kk_mv hW hK, hDw⟩⟩ rfl rfl hl.1 rfl (lv_room (Nat.le_of_ble_eq_true rfl)) dX12_ask_7 ⟨Nat.le_of_ble_eq_true rfl, Nat.le_of_ble_eq_true rfl⟩) hS (fun q _ h => hFc q h) hFc (fun r_1 u t H locs ht hvm hw hB hz1 hk1 hS => ?_)
  have hP := ro_keep hP hk1
  have hP : va_P D vwCl [(mo, .inr (12, [.int 0, .int 0, .long 0, .int 0, .int 0, .ref g5, .ref g6, .ref g7, .ref g8, .ref g9, .ref g10, .int 0, .ref g12, .ref g13, .ref g14, .ref g15, .ref g16, .ref g17, .ref g18, .ref g19, .ref g20, .int (-9), .ref g22, .ref g23, .ref g24, .int 0, .int 0, .int 0, .int 0, .ref g29, .ref g30, .ref g31, .ref g32, .ref g33]))] H := hP
  have e_ := hw.symm
  subst e_
  refine lv_if_eq (tgt := 25) hx hb dX12_ask_10 (by decide) (fun c_2 => ?_) (fun c_2 => ?_)
  · have _ := c_2
    refine lv_iconst (v := (-1)) hx hb dX12_ask_25 (by decide) ?_
    exact W.iret (v := (-1)) hx hb hr (fun t ht hW => ⟨⟨(-1), (), rfl, rfl, trivial⟩, hS.F ht⟩) hS.2.2 dX12_ask_26
  · exact absurd c_2 (by decide)

set_option maxHeartbeats 4000000 in
set_option maxRecDepth 100000 in
theorem c_X12_most (l : Launch) (D : va_G) (cy : Nat → ClassId) (sz : Nat) (mo : Nat) (g5 : Nat) (g6 : Nat) (g7 : Nat) (g8 : Nat) (g9 : Nat) (g10 : Nat) (g12 : Nat) (g13 : Nat) (g14 : Nat) (g15 : Nat) (g16 : Nat) (g17 : Nat) (g18 : Nat) (g19 : Nat) (g20 : Nat) (g22 : Nat) (g23 : Nat) (g24 : Nat) (g29 : Nat) (g30 : Nat) (g31 : Nat) (g32 : Nat) (g33 : Nat) (a1 : Int32) (a2 : Int32) : Met l yX12_most wsX12_most ({ frames := 3, cells := 0, slots := 0, locals := 68 }) (va_Pc [.ref mo, .int a1, .int a2] (fun U => U.heap.size = sz ∧ va_P D vwCl [(mo, .inr (12, [.int 0, .int 0, .long 0, .int 0, .int 0, .ref g5, .ref g6, .ref g7, .ref g8, .ref g9, .ref g10, .int 0, .ref g12, .ref g13, .ref g14, .ref g15, .ref g16, .ref g17, .ref g18, .ref g19, .ref g20, .int (-9), .ref g22, .ref g23, .ref g24, .int 0, .int 0, .int 0, .int 0, .ref g29, .ref g30, .ref g31, .ref g32, .ref g33]))] U.heap ∧ kk_ D cy U ∧ va_D (fun _ => True) [(mo, .inr (12, [.int 0, .int 0, .long 0, .int 0, .int 0, .ref g5, .ref g6, .ref g7, .ref g8, .ref g9, .ref g10, .int 0, .ref g12, .ref g13, .ref g14, .ref g15, .ref g16, .ref g17, .ref g18, .ref g19, .ref g20, .int (-9), .ref g22, .ref g23, .ref g24, .int 0, .int 0, .int 0, .int 0, .ref g29, .ref g30, .ref g31, .ref g32, .ref g33]))])) (va_Qi (fun (r : Int32) (_ : Unit) => r = (-1)) (fun (_ : Unit) (_ : State) => True) (va_A [(mo, .inr (12, [.int 0, .int 0, .long 0, .int 0, .int 0, .ref g5, .ref g6, .ref g7, .ref g8, .ref g9, .ref g10, .int 0, .ref g12, .ref g13, .ref g14, .ref g15, .ref g16, .ref g17, .ref g18, .ref g19, .ref g20, .int (-9), .ref g22, .ref g23, .ref g24, .int 0, .int 0, .int 0, .int 0, .ref g29, .ref g30, .ref g31, .ref g32, .ref g33]))] sz)) 0 0 (va_A [(mo, .inr (12, [.int 0, .int 0, .long 0, .int 0, .int 0, .ref g5, .ref g6, .ref g7, .ref g8, .ref g9, .ref g10, .int 0, .ref g12, .ref g13, .ref g14, .ref g15, .ref g16, .ref g17, .ref g18, .ref g19, .ref g20, .int (-9), .ref g22, .ref g23, .ref g24, .int 0, .int 0, .int 0, .int 0, .ref g29, .ref g30, .ref g31, .ref g32, .ref g33]))] sz) := by
  refine Met.ofW (cc := cX12_most) (maxL := 3) (ret := (some .int)) (by decide) rfl ?_
  intro p e s m args below meth c s₁ B hml hv
  obtain ⟨rfl, hsz, hP, hK, hD0⟩ := hv
  have hx := B.exec
  have hb := B.bytes
  have hr := B.returns
  have hts := atoms_spec (ws := wsX12_most) B.pre
  have hown : s.vm.findClass RX12 = some m.cls := findClass_of_methodNamed B.named
  have hlocks := B.notSynchronized
  subst hsz
  have hD := hD0.self (sz := s.heap.size)
  generalize hAe : va_A [(mo, .inr (12, [.int 0, .int 0, .long 0, .int 0, .int 0, .ref g5, .ref g6, .ref g7, .ref g8, .ref g9, .ref g10, .int 0, .ref g12, .ref g13, .ref g14, .ref g15, .ref g16, .ref g17, .ref g18, .ref g19, .ref g20, .int (-9), .ref g22, .ref g23, .ref g24, .int 0, .int 0, .int 0, .int 0, .ref g29, .ref g30, .ref g31, .ref g32, .ref g33]))] s.heap.size = A at hD ⊢
  have hA : ∀ q : Nat, s.heap.size ≤ q → A q := fun q h => by rw [← hAe]; exact Or.inr h
  have hS : va_S A s.heap s.heap [] := va_S.rf
  have hl := lv_entry ([.ref mo, .int a1, .int a2]) (n := 3) (Nat.le_of_ble_eq_true rfl)
  rw [lg_entry_eq]
  generalize (lg_sl ([.ref mo, .int a1, .int a2]) ++ List.replicate (3 - (lg_sl ([.ref mo, .int a1, .int a2])).length) Slot.unset).toArray = ls at hl ⊢
  have hl : lv_has ls 3 [(0, .ref mo), (1, .int a1), (2, .int a2)] := hl
  refine lv_aload_n hx hb dX12_most_0 rfl (lv_at hl 0 rfl) ?_
  refine lv_iconst (v := 0) hx hb dX12_most_1 (by decide) ?_
  refine va_put (ci := 12) (v := .int 0) (ty := .int) (C := RX12) (T := TX12) (N := 34) hx hb hts (fun _ h => List.mem_cons_of_mem _ (List.mem_append_right _ h)) tyX12 tyX12_ok nmX12 hown hK.1 hP hD hS 0 rfl rfl 0 (by decide) (hts (.fieldLink RX12 85 "CutAtlasModel" "thrown" "I") (by decide +kernel)) (fun _ h9 => h9) rfl (by decide +kernel) rfl rfl (Nat.le_of_ble_eq_true rfl) dX12_most_2 (fun H locs hP hD hS => ?_)
  have hP : va_P D vwCl [(mo, .inr (12, [.int 0, .int 0, .long 0, .int 0, .int 0, .ref g5, .ref g6, .ref g7, .ref g8, .ref g9, .ref g10, .int 0, .ref g12, .ref g13, .ref g14, .ref g15, .ref g16, .ref g17, .ref g18, .ref g19, .ref g20, .int (-9), .ref g22, .ref g23, .ref g24, .int 0, .int 0, .int 0, .int 0, .ref g29, .ref g30, .ref g31, .ref g32, .ref g33]))] H := hP
  have hD : va_D A [(mo, .inr (12, [.int 0, .int 0, .long 0, .int 0, .int 0, .ref g5, .ref g6, .ref g7, .ref g8, .ref g9, .ref g10, .int 0, .ref g12, .ref g13, .ref g14, .ref g15, .ref g16, .ref g17, .ref g18, .ref g19, .ref g20, .int (-9), .ref g22, .ref g23, .ref g24, .int 0, .int 0, .int 0, .int 0, .ref g29, .ref g30, .ref g31, .ref g32, .ref g33]))] := hD
  refine lv_aload_n hx hb dX12_most_5 rfl (lv_at hl 0 rfl) ?_
  refine lv_iload_n hx hb dX12_most_6 rfl (lv_at hl 1 rfl) ?_
  refine lv_iload_n hx hb dX12_most_7 rfl (lv_at hl 2 rfl) ?_
  have hPc := hP.sub (ws' := [(mo, .inr (12, [.int 0, .int 0, .long 0, .int 0, .int 0, .ref g5, .ref g6, .ref g7, .ref g8, .ref g9, .ref g10, .int 0, .ref g12, .ref g13, .ref g14, .ref g15, .ref g16, .ref g17, .ref g18, .ref g19, .ref g20, .int (-9), .ref g22, .ref g23, .ref g24, .int 0, .int 0, .int 0, .int 0, .ref g29, .ref g30, .ref g31, .ref g32, .ref g33]))]) [0] rfl
  have hDc := hD.sub (ws' := [(mo, .inr (12, [.int 0, .int 0, .long 0, .int 0, .int 0, .ref g5, .ref g6, .ref g7, .ref g8, .ref g9, .ref g10, .int 0, .ref g12, .ref g13, .ref g14, .ref g15, .ref g16, .ref g17, .ref g18, .ref g19, .ref g20, .int (-9), .ref g22, .ref g23, .ref g24, .int 0, .int 0, .int 0, .int 0, .ref g29, .ref g30, .ref g31, .ref g32, .ref g33]))]) [0] (by decide) rfl
  have hDw : va_D (fun _ => True) [(mo, .inr (12, [.int 0, .int 0, .long 0, .int 0, .int 0, .ref g5, .ref g6, .ref g7, .ref g8, .ref g9, .ref g10, .int 0, .ref g12, .ref g13, .ref g14, .ref g15, .ref g16, .ref g17, .ref g18, .ref g19, .ref g20, .int (-9), .ref g22, .ref g23, .ref g24, .int 0, .int 0, .int 0, .int 0, .ref g29, .ref g30, .ref g31, .ref g32, .ref g33]))] := hDc.weaken (fun _ _ _ _ => trivial)
  have hFc := va_free (wc := []) hD hS hA [] rfl
  refine va_calli (va_runV (As := [.int a1, .int a2]) (rest := []) ⟨hx, hb, hml, hown, hts⟩ (c_X12_arePlaces l D cy H.size mo g5 g6 g7 g8 g9 g10 g12 g13 g14 g15 g16 g17 g18 g19 g20 g22 g23 g24 g29 g30 g31 g32 g33 a1 a2) (cwV 2 hts gX12_most_X12_arePlaces rfl rfl rfl (by decide +kernel) ⟨Nat.le_of_ble_eq_true rfl, Nat.le_of_ble_eq_true rfl⟩) ⟨bl_, va_recv hK.1 hPc (ci := 12) (q0 := 0) rfl rfl, fun U hU hW => ⟨rfl, by rw [hU], by rw [hU]; exact hPc, kk_mv hW hK, hDw⟩⟩ rfl rfl hl.1 rfl (lv_room (Nat.le_of_ble_eq_true rfl)) dX12_most_8 ⟨Nat.le_of_ble_eq_true rfl, Nat.le_of_ble_eq_true rfl⟩) hS (fun q _ h => hFc q h) hFc (fun r_1 u t H locs ht hvm hw hB hz1 hk1 hS => ?_)
  have hP := ro_keep hP hk1
  have hP : va_P D vwCl [(mo, .inr (12, [.int 0, .int 0, .long 0, .int 0, .int 0, .ref g5, .ref g6, .ref g7, .ref g8, .ref g9, .ref g10, .int 0, .ref g12, .ref g13, .ref g14, .ref g15, .ref g16, .ref g17, .ref g18, .ref g19, .ref g20, .int (-9), .ref g22, .ref g23, .ref g24, .int 0, .int 0, .int 0, .int 0, .ref g29, .ref g30, .ref g31, .ref g32, .ref g33]))] H := hP
  have e_ := hw.symm
  subst e_
  refine lv_if_eq (tgt := 26) hx hb dX12_most_11 (by decide) (fun c_2 => ?_) (fun c_2 => ?_)
  · have _ := c_2
    refine lv_iconst (v := (-1)) hx hb dX12_most_26 (by decide) ?_
    exact W.iret (v := (-1)) hx hb hr (fun t ht hW => ⟨⟨(-1), (), rfl, rfl, trivial⟩, hS.F ht⟩) hS.2.2 dX12_most_27
  · exact absurd c_2 (by decide)

set_option maxHeartbeats 4000000 in
set_option maxRecDepth 100000 in
theorem c_X12_cut (l : Launch) (D : va_G) (cy : Nat → ClassId) (sz : Nat) (mo : Nat) (g5 : Nat) (g6 : Nat) (g7 : Nat) (g8 : Nat) (g9 : Nat) (g10 : Nat) (g12 : Nat) (g13 : Nat) (g14 : Nat) (g15 : Nat) (g16 : Nat) (g17 : Nat) (g18 : Nat) (g19 : Nat) (g20 : Nat) (g22 : Nat) (g23 : Nat) (g24 : Nat) (g29 : Nat) (g30 : Nat) (g31 : Nat) (g32 : Nat) (g33 : Nat) (a1 : Int32) (a2 : Int32) (a3 : Int32) : Met l yX12_cut wsX12_cut ({ frames := 3, cells := 0, slots := 0, locals := 68 }) (va_Pc [.ref mo, .int a1, .int a2, .int a3] (fun U => U.heap.size = sz ∧ va_P D vwCl [(mo, .inr (12, [.int 0, .int 0, .long 0, .int 0, .int 0, .ref g5, .ref g6, .ref g7, .ref g8, .ref g9, .ref g10, .int 0, .ref g12, .ref g13, .ref g14, .ref g15, .ref g16, .ref g17, .ref g18, .ref g19, .ref g20, .int (-9), .ref g22, .ref g23, .ref g24, .int 0, .int 0, .int 0, .int 0, .ref g29, .ref g30, .ref g31, .ref g32, .ref g33]))] U.heap ∧ kk_ D cy U ∧ va_D (fun _ => True) [(mo, .inr (12, [.int 0, .int 0, .long 0, .int 0, .int 0, .ref g5, .ref g6, .ref g7, .ref g8, .ref g9, .ref g10, .int 0, .ref g12, .ref g13, .ref g14, .ref g15, .ref g16, .ref g17, .ref g18, .ref g19, .ref g20, .int (-9), .ref g22, .ref g23, .ref g24, .int 0, .int 0, .int 0, .int 0, .ref g29, .ref g30, .ref g31, .ref g32, .ref g33]))])) (va_Qi (fun (r : Int32) (_ : Unit) => r = (-1)) (fun (_ : Unit) (_ : State) => True) (va_A [(mo, .inr (12, [.int 0, .int 0, .long 0, .int 0, .int 0, .ref g5, .ref g6, .ref g7, .ref g8, .ref g9, .ref g10, .int 0, .ref g12, .ref g13, .ref g14, .ref g15, .ref g16, .ref g17, .ref g18, .ref g19, .ref g20, .int (-9), .ref g22, .ref g23, .ref g24, .int 0, .int 0, .int 0, .int 0, .ref g29, .ref g30, .ref g31, .ref g32, .ref g33]))] sz)) 0 0 (va_A [(mo, .inr (12, [.int 0, .int 0, .long 0, .int 0, .int 0, .ref g5, .ref g6, .ref g7, .ref g8, .ref g9, .ref g10, .int 0, .ref g12, .ref g13, .ref g14, .ref g15, .ref g16, .ref g17, .ref g18, .ref g19, .ref g20, .int (-9), .ref g22, .ref g23, .ref g24, .int 0, .int 0, .int 0, .int 0, .ref g29, .ref g30, .ref g31, .ref g32, .ref g33]))] sz) := by
  refine Met.ofW (cc := cX12_cut) (maxL := 5) (ret := (some .int)) (by decide) rfl ?_
  intro p e s m args below meth c s₁ B hml hv
  obtain ⟨rfl, hsz, hP, hK, hD0⟩ := hv
  have hx := B.exec
  have hb := B.bytes
  have hr := B.returns
  have hts := atoms_spec (ws := wsX12_cut) B.pre
  have hown : s.vm.findClass RX12 = some m.cls := findClass_of_methodNamed B.named
  have hlocks := B.notSynchronized
  subst hsz
  have hD := hD0.self (sz := s.heap.size)
  generalize hAe : va_A [(mo, .inr (12, [.int 0, .int 0, .long 0, .int 0, .int 0, .ref g5, .ref g6, .ref g7, .ref g8, .ref g9, .ref g10, .int 0, .ref g12, .ref g13, .ref g14, .ref g15, .ref g16, .ref g17, .ref g18, .ref g19, .ref g20, .int (-9), .ref g22, .ref g23, .ref g24, .int 0, .int 0, .int 0, .int 0, .ref g29, .ref g30, .ref g31, .ref g32, .ref g33]))] s.heap.size = A at hD ⊢
  have hA : ∀ q : Nat, s.heap.size ≤ q → A q := fun q h => by rw [← hAe]; exact Or.inr h
  have hS : va_S A s.heap s.heap [] := va_S.rf
  have hl := lv_entry ([.ref mo, .int a1, .int a2, .int a3]) (n := 5) (Nat.le_of_ble_eq_true rfl)
  rw [lg_entry_eq]
  generalize (lg_sl ([.ref mo, .int a1, .int a2, .int a3]) ++ List.replicate (5 - (lg_sl ([.ref mo, .int a1, .int a2, .int a3])).length) Slot.unset).toArray = ls at hl ⊢
  have hl : lv_has ls 5 [(0, .ref mo), (1, .int a1), (2, .int a2), (3, .int a3)] := hl
  refine lv_aload_n hx hb dX12_cut_0 rfl (lv_at hl 0 rfl) ?_
  refine lv_iconst (v := 0) hx hb dX12_cut_1 (by decide) ?_
  refine va_put (ci := 12) (v := .int 0) (ty := .int) (C := RX12) (T := TX12) (N := 34) hx hb hts (fun _ h => List.mem_cons_of_mem _ (List.mem_append_right _ h)) tyX12 tyX12_ok nmX12 hown hK.1 hP hD hS 0 rfl rfl 0 (by decide) (hts (.fieldLink RX12 85 "CutAtlasModel" "thrown" "I") (by decide +kernel)) (fun _ h9 => h9) rfl (by decide +kernel) rfl rfl (Nat.le_of_ble_eq_true rfl) dX12_cut_2 (fun H locs hP hD hS => ?_)
  have hP : va_P D vwCl [(mo, .inr (12, [.int 0, .int 0, .long 0, .int 0, .int 0, .ref g5, .ref g6, .ref g7, .ref g8, .ref g9, .ref g10, .int 0, .ref g12, .ref g13, .ref g14, .ref g15, .ref g16, .ref g17, .ref g18, .ref g19, .ref g20, .int (-9), .ref g22, .ref g23, .ref g24, .int 0, .int 0, .int 0, .int 0, .ref g29, .ref g30, .ref g31, .ref g32, .ref g33]))] H := hP
  have hD : va_D A [(mo, .inr (12, [.int 0, .int 0, .long 0, .int 0, .int 0, .ref g5, .ref g6, .ref g7, .ref g8, .ref g9, .ref g10, .int 0, .ref g12, .ref g13, .ref g14, .ref g15, .ref g16, .ref g17, .ref g18, .ref g19, .ref g20, .int (-9), .ref g22, .ref g23, .ref g24, .int 0, .int 0, .int 0, .int 0, .ref g29, .ref g30, .ref g31, .ref g32, .ref g33]))] := hD
  refine lv_aload_n hx hb dX12_cut_5 rfl (lv_at hl 0 rfl) ?_
  refine lv_iload_n hx hb dX12_cut_6 rfl (lv_at hl 1 rfl) ?_
  refine lv_iload_n hx hb dX12_cut_7 rfl (lv_at hl 2 rfl) ?_
  have hPc := hP.sub (ws' := [(mo, .inr (12, [.int 0, .int 0, .long 0, .int 0, .int 0, .ref g5, .ref g6, .ref g7, .ref g8, .ref g9, .ref g10, .int 0, .ref g12, .ref g13, .ref g14, .ref g15, .ref g16, .ref g17, .ref g18, .ref g19, .ref g20, .int (-9), .ref g22, .ref g23, .ref g24, .int 0, .int 0, .int 0, .int 0, .ref g29, .ref g30, .ref g31, .ref g32, .ref g33]))]) [0] rfl
  have hDc := hD.sub (ws' := [(mo, .inr (12, [.int 0, .int 0, .long 0, .int 0, .int 0, .ref g5, .ref g6, .ref g7, .ref g8, .ref g9, .ref g10, .int 0, .ref g12, .ref g13, .ref g14, .ref g15, .ref g16, .ref g17, .ref g18, .ref g19, .ref g20, .int (-9), .ref g22, .ref g23, .ref g24, .int 0, .int 0, .int 0, .int 0, .ref g29, .ref g30, .ref g31, .ref g32, .ref g33]))]) [0] (by decide) rfl
  have hDw : va_D (fun _ => True) [(mo, .inr (12, [.int 0, .int 0, .long 0, .int 0, .int 0, .ref g5, .ref g6, .ref g7, .ref g8, .ref g9, .ref g10, .int 0, .ref g12, .ref g13, .ref g14, .ref g15, .ref g16, .ref g17, .ref g18, .ref g19, .ref g20, .int (-9), .ref g22, .ref g23, .ref g24, .int 0, .int 0, .int 0, .int 0, .ref g29, .ref g30, .ref g31, .ref g32, .ref g33]))] := hDc.weaken (fun _ _ _ _ => trivial)
  have hFc := va_free (wc := []) hD hS hA [] rfl
  refine va_calli (va_runV (As := [.int a1, .int a2]) (rest := []) ⟨hx, hb, hml, hown, hts⟩ (c_X12_arePlaces l D cy H.size mo g5 g6 g7 g8 g9 g10 g12 g13 g14 g15 g16 g17 g18 g19 g20 g22 g23 g24 g29 g30 g31 g32 g33 a1 a2) (cwV 2 hts gX12_cut_X12_arePlaces rfl rfl rfl (by decide +kernel) ⟨Nat.le_of_ble_eq_true rfl, Nat.le_of_ble_eq_true rfl⟩) ⟨bl_, va_recv hK.1 hPc (ci := 12) (q0 := 0) rfl rfl, fun U hU hW => ⟨rfl, by rw [hU], by rw [hU]; exact hPc, kk_mv hW hK, hDw⟩⟩ rfl rfl hl.1 rfl (lv_room (Nat.le_of_ble_eq_true rfl)) dX12_cut_8 ⟨Nat.le_of_ble_eq_true rfl, Nat.le_of_ble_eq_true rfl⟩) hS (fun q _ h => hFc q h) hFc (fun r_1 u t H locs ht hvm hw hB hz1 hk1 hS => ?_)
  have hP := ro_keep hP hk1
  have hP : va_P D vwCl [(mo, .inr (12, [.int 0, .int 0, .long 0, .int 0, .int 0, .ref g5, .ref g6, .ref g7, .ref g8, .ref g9, .ref g10, .int 0, .ref g12, .ref g13, .ref g14, .ref g15, .ref g16, .ref g17, .ref g18, .ref g19, .ref g20, .int (-9), .ref g22, .ref g23, .ref g24, .int 0, .int 0, .int 0, .int 0, .ref g29, .ref g30, .ref g31, .ref g32, .ref g33]))] H := hP
  have e_ := hw.symm
  subst e_
  refine lv_if_eq (tgt := 24) hx hb dX12_cut_11 (by decide) (fun c_2 => ?_) (fun c_2 => ?_)
  · have _ := c_2
    refine lv_iconst (v := (-1)) hx hb dX12_cut_24 (by decide) ?_
    exact W.iret (v := (-1)) hx hb hr (fun t ht hW => ⟨⟨(-1), (), rfl, rfl, trivial⟩, hS.F ht⟩) hS.2.2 dX12_cut_25
  · exact absurd c_2 (by decide)

set_option maxHeartbeats 4000000 in
set_option maxRecDepth 100000 in
theorem c_X12_count (l : Launch) (D : va_G) (cy : Nat → ClassId) (sz : Nat) (mo : Nat) (g5 : Nat) (g6 : Nat) (g7 : Nat) (g8 : Nat) (g9 : Nat) (g10 : Nat) (g12 : Nat) (g13 : Nat) (g14 : Nat) (g15 : Nat) (g16 : Nat) (g17 : Nat) (g18 : Nat) (g19 : Nat) (g20 : Nat) (g22 : Nat) (g23 : Nat) (g24 : Nat) (g29 : Nat) (g30 : Nat) (g31 : Nat) (g32 : Nat) (g33 : Nat) (a1 : Int32) (a2 : Int32) : Met l yX12_count wsX12_count ({ frames := 3, cells := 0, slots := 0, locals := 68 }) (va_Pc [.ref mo, .int a1, .int a2] (fun U => U.heap.size = sz ∧ va_P D vwCl [(mo, .inr (12, [.int 0, .int 0, .long 0, .int 0, .int 0, .ref g5, .ref g6, .ref g7, .ref g8, .ref g9, .ref g10, .int 0, .ref g12, .ref g13, .ref g14, .ref g15, .ref g16, .ref g17, .ref g18, .ref g19, .ref g20, .int (-9), .ref g22, .ref g23, .ref g24, .int 0, .int 0, .int 0, .int 0, .ref g29, .ref g30, .ref g31, .ref g32, .ref g33]))] U.heap ∧ kk_ D cy U ∧ va_D (fun _ => True) [(mo, .inr (12, [.int 0, .int 0, .long 0, .int 0, .int 0, .ref g5, .ref g6, .ref g7, .ref g8, .ref g9, .ref g10, .int 0, .ref g12, .ref g13, .ref g14, .ref g15, .ref g16, .ref g17, .ref g18, .ref g19, .ref g20, .int (-9), .ref g22, .ref g23, .ref g24, .int 0, .int 0, .int 0, .int 0, .ref g29, .ref g30, .ref g31, .ref g32, .ref g33]))])) (va_Qi (fun (r : Int32) (_ : Unit) => r = (-1)) (fun (_ : Unit) (_ : State) => True) (va_A [(mo, .inr (12, [.int 0, .int 0, .long 0, .int 0, .int 0, .ref g5, .ref g6, .ref g7, .ref g8, .ref g9, .ref g10, .int 0, .ref g12, .ref g13, .ref g14, .ref g15, .ref g16, .ref g17, .ref g18, .ref g19, .ref g20, .int (-9), .ref g22, .ref g23, .ref g24, .int 0, .int 0, .int 0, .int 0, .ref g29, .ref g30, .ref g31, .ref g32, .ref g33]))] sz)) 0 0 (va_A [(mo, .inr (12, [.int 0, .int 0, .long 0, .int 0, .int 0, .ref g5, .ref g6, .ref g7, .ref g8, .ref g9, .ref g10, .int 0, .ref g12, .ref g13, .ref g14, .ref g15, .ref g16, .ref g17, .ref g18, .ref g19, .ref g20, .int (-9), .ref g22, .ref g23, .ref g24, .int 0, .int 0, .int 0, .int 0, .ref g29, .ref g30, .ref g31, .ref g32, .ref g33]))] sz) := by
  refine Met.ofW (cc := cX12_count) (maxL := 4) (ret := (some .int)) (by decide) rfl ?_
  intro p e s m args below meth c s₁ B hml hv
  obtain ⟨rfl, hsz, hP, hK, hD0⟩ := hv
  have hx := B.exec
  have hb := B.bytes
  have hr := B.returns
  have hts := atoms_spec (ws := wsX12_count) B.pre
  have hown : s.vm.findClass RX12 = some m.cls := findClass_of_methodNamed B.named
  have hlocks := B.notSynchronized
  subst hsz
  have hD := hD0.self (sz := s.heap.size)
  generalize hAe : va_A [(mo, .inr (12, [.int 0, .int 0, .long 0, .int 0, .int 0, .ref g5, .ref g6, .ref g7, .ref g8, .ref g9, .ref g10, .int 0, .ref g12, .ref g13, .ref g14, .ref g15, .ref g16, .ref g17, .ref g18, .ref g19, .ref g20, .int (-9), .ref g22, .ref g23, .ref g24, .int 0, .int 0, .int 0, .int 0, .ref g29, .ref g30, .ref g31, .ref g32, .ref g33]))] s.heap.size = A at hD ⊢
  have hA : ∀ q : Nat, s.heap.size ≤ q → A q := fun q h => by rw [← hAe]; exact Or.inr h
  have hS : va_S A s.heap s.heap [] := va_S.rf
  have hl := lv_entry ([.ref mo, .int a1, .int a2]) (n := 4) (Nat.le_of_ble_eq_true rfl)
  rw [lg_entry_eq]
  generalize (lg_sl ([.ref mo, .int a1, .int a2]) ++ List.replicate (4 - (lg_sl ([.ref mo, .int a1, .int a2])).length) Slot.unset).toArray = ls at hl ⊢
  have hl : lv_has ls 4 [(0, .ref mo), (1, .int a1), (2, .int a2)] := hl
  refine lv_aload_n hx hb dX12_count_0 rfl (lv_at hl 0 rfl) ?_
  refine lv_iconst (v := 0) hx hb dX12_count_1 (by decide) ?_
  refine va_put (ci := 12) (v := .int 0) (ty := .int) (C := RX12) (T := TX12) (N := 34) hx hb hts (fun _ h => List.mem_cons_of_mem _ (List.mem_append_right _ h)) tyX12 tyX12_ok nmX12 hown hK.1 hP hD hS 0 rfl rfl 0 (by decide) (hts (.fieldLink RX12 85 "CutAtlasModel" "thrown" "I") (by decide +kernel)) (fun _ h9 => h9) rfl (by decide +kernel) rfl rfl (Nat.le_of_ble_eq_true rfl) dX12_count_2 (fun H locs hP hD hS => ?_)
  have hP : va_P D vwCl [(mo, .inr (12, [.int 0, .int 0, .long 0, .int 0, .int 0, .ref g5, .ref g6, .ref g7, .ref g8, .ref g9, .ref g10, .int 0, .ref g12, .ref g13, .ref g14, .ref g15, .ref g16, .ref g17, .ref g18, .ref g19, .ref g20, .int (-9), .ref g22, .ref g23, .ref g24, .int 0, .int 0, .int 0, .int 0, .ref g29, .ref g30, .ref g31, .ref g32, .ref g33]))] H := hP
  have hD : va_D A [(mo, .inr (12, [.int 0, .int 0, .long 0, .int 0, .int 0, .ref g5, .ref g6, .ref g7, .ref g8, .ref g9, .ref g10, .int 0, .ref g12, .ref g13, .ref g14, .ref g15, .ref g16, .ref g17, .ref g18, .ref g19, .ref g20, .int (-9), .ref g22, .ref g23, .ref g24, .int 0, .int 0, .int 0, .int 0, .ref g29, .ref g30, .ref g31, .ref g32, .ref g33]))] := hD
  refine lv_aload_n hx hb dX12_count_5 rfl (lv_at hl 0 rfl) ?_
  refine lv_iload_n hx hb dX12_count_6 rfl (lv_at hl 1 rfl) ?_
  refine lv_iload_n hx hb dX12_count_7 rfl (lv_at hl 2 rfl) ?_
  have hPc := hP.sub (ws' := [(mo, .inr (12, [.int 0, .int 0, .long 0, .int 0, .int 0, .ref g5, .ref g6, .ref g7, .ref g8, .ref g9, .ref g10, .int 0, .ref g12, .ref g13, .ref g14, .ref g15, .ref g16, .ref g17, .ref g18, .ref g19, .ref g20, .int (-9), .ref g22, .ref g23, .ref g24, .int 0, .int 0, .int 0, .int 0, .ref g29, .ref g30, .ref g31, .ref g32, .ref g33]))]) [0] rfl
  have hDc := hD.sub (ws' := [(mo, .inr (12, [.int 0, .int 0, .long 0, .int 0, .int 0, .ref g5, .ref g6, .ref g7, .ref g8, .ref g9, .ref g10, .int 0, .ref g12, .ref g13, .ref g14, .ref g15, .ref g16, .ref g17, .ref g18, .ref g19, .ref g20, .int (-9), .ref g22, .ref g23, .ref g24, .int 0, .int 0, .int 0, .int 0, .ref g29, .ref g30, .ref g31, .ref g32, .ref g33]))]) [0] (by decide) rfl
  have hDw : va_D (fun _ => True) [(mo, .inr (12, [.int 0, .int 0, .long 0, .int 0, .int 0, .ref g5, .ref g6, .ref g7, .ref g8, .ref g9, .ref g10, .int 0, .ref g12, .ref g13, .ref g14, .ref g15, .ref g16, .ref g17, .ref g18, .ref g19, .ref g20, .int (-9), .ref g22, .ref g23, .ref g24, .int 0, .int 0, .int 0, .int 0, .ref g29, .ref g30, .ref g31, .ref g32, .ref g33]))] := hDc.weaken (fun _ _ _ _ => trivial)
  have hFc := va_free (wc := []) hD hS hA [] rfl
  refine va_calli (va_runV (As := [.int a1, .int a2]) (rest := []) ⟨hx, hb, hml, hown, hts⟩ (c_X12_arePlaces l D cy H.size mo g5 g6 g7 g8 g9 g10 g12 g13 g14 g15 g16 g17 g18 g19 g20 g22 g23 g24 g29 g30 g31 g32 g33 a1 a2) (cwV 2 hts gX12_count_X12_arePlaces rfl rfl rfl (by decide +kernel) ⟨Nat.le_of_ble_eq_true rfl, Nat.le_of_ble_eq_true rfl⟩) ⟨bl_, va_recv hK.1 hPc (ci := 12) (q0 := 0) rfl rfl, fun U hU hW => ⟨rfl, by rw [hU], by rw [hU]; exact hPc, kk_mv hW hK, hDw⟩⟩ rfl rfl hl.1 rfl (lv_room (Nat.le_of_ble_eq_true rfl)) dX12_count_8 ⟨Nat.le_of_ble_eq_true rfl, Nat.le_of_ble_eq_true rfl⟩) hS (fun q _ h => hFc q h) hFc (fun r_1 u t H locs ht hvm hw hB hz1 hk1 hS => ?_)
  have hP := ro_keep hP hk1
  have hP : va_P D vwCl [(mo, .inr (12, [.int 0, .int 0, .long 0, .int 0, .int 0, .ref g5, .ref g6, .ref g7, .ref g8, .ref g9, .ref g10, .int 0, .ref g12, .ref g13, .ref g14, .ref g15, .ref g16, .ref g17, .ref g18, .ref g19, .ref g20, .int (-9), .ref g22, .ref g23, .ref g24, .int 0, .int 0, .int 0, .int 0, .ref g29, .ref g30, .ref g31, .ref g32, .ref g33]))] H := hP
  have e_ := hw.symm
  subst e_
  refine lv_if_ne (tgt := 16) hx hb dX12_count_11 (by decide) (fun c_2 => ?_) (fun c_2 => ?_)
  · exact absurd c_2 (by decide)
  · have _ := c_2
    refine lv_iconst (v := (-1)) hx hb dX12_count_14 (by decide) ?_
    exact W.iret (v := (-1)) hx hb hr (fun t ht hW => ⟨⟨(-1), (), rfl, rfl, trivial⟩, hS.F ht⟩) hS.2.2 dX12_count_15

set_option maxHeartbeats 4000000 in
set_option maxRecDepth 100000 in
theorem c_X12_next (l : Launch) (D : va_G) (cy : Nat → ClassId) (sz : Nat) (mo : Nat) (g5 : Nat) (g6 : Nat) (g7 : Nat) (g8 : Nat) (g9 : Nat) (g10 : Nat) (g12 : Nat) (g13 : Nat) (g14 : Nat) (g15 : Nat) (g16 : Nat) (g17 : Nat) (g18 : Nat) (g19 : Nat) (g20 : Nat) (g22 : Nat) (g23 : Nat) (g24 : Nat) (g29 : Nat) (g30 : Nat) (g31 : Nat) (g32 : Nat) (g33 : Nat) (a1 : Int32) (a2 : Int32) (a3 : Int32) : Met l yX12_next wsX12_next ({ frames := 3, cells := 0, slots := 0, locals := 68 }) (va_Pc [.ref mo, .int a1, .int a2, .int a3] (fun U => U.heap.size = sz ∧ va_P D vwCl [(mo, .inr (12, [.int 0, .int 0, .long 0, .int 0, .int 0, .ref g5, .ref g6, .ref g7, .ref g8, .ref g9, .ref g10, .int 0, .ref g12, .ref g13, .ref g14, .ref g15, .ref g16, .ref g17, .ref g18, .ref g19, .ref g20, .int (-9), .ref g22, .ref g23, .ref g24, .int 0, .int 0, .int 0, .int 0, .ref g29, .ref g30, .ref g31, .ref g32, .ref g33]))] U.heap ∧ kk_ D cy U ∧ va_D (fun _ => True) [(mo, .inr (12, [.int 0, .int 0, .long 0, .int 0, .int 0, .ref g5, .ref g6, .ref g7, .ref g8, .ref g9, .ref g10, .int 0, .ref g12, .ref g13, .ref g14, .ref g15, .ref g16, .ref g17, .ref g18, .ref g19, .ref g20, .int (-9), .ref g22, .ref g23, .ref g24, .int 0, .int 0, .int 0, .int 0, .ref g29, .ref g30, .ref g31, .ref g32, .ref g33]))])) (va_Qi (fun (r : Int32) (_ : Unit) => r = (-1)) (fun (_ : Unit) (_ : State) => True) (va_A [(mo, .inr (12, [.int 0, .int 0, .long 0, .int 0, .int 0, .ref g5, .ref g6, .ref g7, .ref g8, .ref g9, .ref g10, .int 0, .ref g12, .ref g13, .ref g14, .ref g15, .ref g16, .ref g17, .ref g18, .ref g19, .ref g20, .int (-9), .ref g22, .ref g23, .ref g24, .int 0, .int 0, .int 0, .int 0, .ref g29, .ref g30, .ref g31, .ref g32, .ref g33]))] sz)) 0 0 (va_A [(mo, .inr (12, [.int 0, .int 0, .long 0, .int 0, .int 0, .ref g5, .ref g6, .ref g7, .ref g8, .ref g9, .ref g10, .int 0, .ref g12, .ref g13, .ref g14, .ref g15, .ref g16, .ref g17, .ref g18, .ref g19, .ref g20, .int (-9), .ref g22, .ref g23, .ref g24, .int 0, .int 0, .int 0, .int 0, .ref g29, .ref g30, .ref g31, .ref g32, .ref g33]))] sz) := by
  refine Met.ofW (cc := cX12_next) (maxL := 5) (ret := (some .int)) (by decide) rfl ?_
  intro p e s m args below meth c s₁ B hml hv
  obtain ⟨rfl, hsz, hP, hK, hD0⟩ := hv
  have hx := B.exec
  have hb := B.bytes
  have hr := B.returns
  have hts := atoms_spec (ws := wsX12_next) B.pre
  have hown : s.vm.findClass RX12 = some m.cls := findClass_of_methodNamed B.named
  have hlocks := B.notSynchronized
  subst hsz
  have hD := hD0.self (sz := s.heap.size)
  generalize hAe : va_A [(mo, .inr (12, [.int 0, .int 0, .long 0, .int 0, .int 0, .ref g5, .ref g6, .ref g7, .ref g8, .ref g9, .ref g10, .int 0, .ref g12, .ref g13, .ref g14, .ref g15, .ref g16, .ref g17, .ref g18, .ref g19, .ref g20, .int (-9), .ref g22, .ref g23, .ref g24, .int 0, .int 0, .int 0, .int 0, .ref g29, .ref g30, .ref g31, .ref g32, .ref g33]))] s.heap.size = A at hD ⊢
  have hA : ∀ q : Nat, s.heap.size ≤ q → A q := fun q h => by rw [← hAe]; exact Or.inr h
  have hS : va_S A s.heap s.heap [] := va_S.rf
  have hl := lv_entry ([.ref mo, .int a1, .int a2, .int a3]) (n := 5) (Nat.le_of_ble_eq_true rfl)
  rw [lg_entry_eq]
  generalize (lg_sl ([.ref mo, .int a1, .int a2, .int a3]) ++ List.replicate (5 - (lg_sl ([.ref mo, .int a1, .int a2, .int a3])).length) Slot.unset).toArray = ls at hl ⊢
  have hl : lv_has ls 5 [(0, .ref mo), (1, .int a1), (2, .int a2), (3, .int a3)] := hl
  refine lv_aload_n hx hb dX12_next_0 rfl (lv_at hl 0 rfl) ?_
  refine lv_iconst (v := 0) hx hb dX12_next_1 (by decide) ?_
  refine va_put (ci := 12) (v := .int 0) (ty := .int) (C := RX12) (T := TX12) (N := 34) hx hb hts (fun _ h => List.mem_cons_of_mem _ (List.mem_append_right _ h)) tyX12 tyX12_ok nmX12 hown hK.1 hP hD hS 0 rfl rfl 0 (by decide) (hts (.fieldLink RX12 85 "CutAtlasModel" "thrown" "I") (by decide +kernel)) (fun _ h9 => h9) rfl (by decide +kernel) rfl rfl (Nat.le_of_ble_eq_true rfl) dX12_next_2 (fun H locs hP hD hS => ?_)
  have hP : va_P D vwCl [(mo, .inr (12, [.int 0, .int 0, .long 0, .int 0, .int 0, .ref g5, .ref g6, .ref g7, .ref g8, .ref g9, .ref g10, .int 0, .ref g12, .ref g13, .ref g14, .ref g15, .ref g16, .ref g17, .ref g18, .ref g19, .ref g20, .int (-9), .ref g22, .ref g23, .ref g24, .int 0, .int 0, .int 0, .int 0, .ref g29, .ref g30, .ref g31, .ref g32, .ref g33]))] H := hP
  have hD : va_D A [(mo, .inr (12, [.int 0, .int 0, .long 0, .int 0, .int 0, .ref g5, .ref g6, .ref g7, .ref g8, .ref g9, .ref g10, .int 0, .ref g12, .ref g13, .ref g14, .ref g15, .ref g16, .ref g17, .ref g18, .ref g19, .ref g20, .int (-9), .ref g22, .ref g23, .ref g24, .int 0, .int 0, .int 0, .int 0, .ref g29, .ref g30, .ref g31, .ref g32, .ref g33]))] := hD
  refine lv_aload_n hx hb dX12_next_5 rfl (lv_at hl 0 rfl) ?_
  refine lv_iload_n hx hb dX12_next_6 rfl (lv_at hl 1 rfl) ?_
  refine lv_iload_n hx hb dX12_next_7 rfl (lv_at hl 2 rfl) ?_
  have hPc := hP.sub (ws' := [(mo, .inr (12, [.int 0, .int 0, .long 0, .int 0, .int 0, .ref g5, .ref g6, .ref g7, .ref g8, .ref g9, .ref g10, .int 0, .ref g12, .ref g13, .ref g14, .ref g15, .ref g16, .ref g17, .ref g18, .ref g19, .ref g20, .int (-9), .ref g22, .ref g23, .ref g24, .int 0, .int 0, .int 0, .int 0, .ref g29, .ref g30, .ref g31, .ref g32, .ref g33]))]) [0] rfl
  have hDc := hD.sub (ws' := [(mo, .inr (12, [.int 0, .int 0, .long 0, .int 0, .int 0, .ref g5, .ref g6, .ref g7, .ref g8, .ref g9, .ref g10, .int 0, .ref g12, .ref g13, .ref g14, .ref g15, .ref g16, .ref g17, .ref g18, .ref g19, .ref g20, .int (-9), .ref g22, .ref g23, .ref g24, .int 0, .int 0, .int 0, .int 0, .ref g29, .ref g30, .ref g31, .ref g32, .ref g33]))]) [0] (by decide) rfl
  have hDw : va_D (fun _ => True) [(mo, .inr (12, [.int 0, .int 0, .long 0, .int 0, .int 0, .ref g5, .ref g6, .ref g7, .ref g8, .ref g9, .ref g10, .int 0, .ref g12, .ref g13, .ref g14, .ref g15, .ref g16, .ref g17, .ref g18, .ref g19, .ref g20, .int (-9), .ref g22, .ref g23, .ref g24, .int 0, .int 0, .int 0, .int 0, .ref g29, .ref g30, .ref g31, .ref g32, .ref g33]))] := hDc.weaken (fun _ _ _ _ => trivial)
  have hFc := va_free (wc := []) hD hS hA [] rfl
  refine va_calli (va_runV (As := [.int a1, .int a2]) (rest := []) ⟨hx, hb, hml, hown, hts⟩ (c_X12_arePlaces l D cy H.size mo g5 g6 g7 g8 g9 g10 g12 g13 g14 g15 g16 g17 g18 g19 g20 g22 g23 g24 g29 g30 g31 g32 g33 a1 a2) (cwV 2 hts gX12_next_X12_arePlaces rfl rfl rfl (by decide +kernel) ⟨Nat.le_of_ble_eq_true rfl, Nat.le_of_ble_eq_true rfl⟩) ⟨bl_, va_recv hK.1 hPc (ci := 12) (q0 := 0) rfl rfl, fun U hU hW => ⟨rfl, by rw [hU], by rw [hU]; exact hPc, kk_mv hW hK, hDw⟩⟩ rfl rfl hl.1 rfl (lv_room (Nat.le_of_ble_eq_true rfl)) dX12_next_8 ⟨Nat.le_of_ble_eq_true rfl, Nat.le_of_ble_eq_true rfl⟩) hS (fun q _ h => hFc q h) hFc (fun r_1 u t H locs ht hvm hw hB hz1 hk1 hS => ?_)
  have hP := ro_keep hP hk1
  have hP : va_P D vwCl [(mo, .inr (12, [.int 0, .int 0, .long 0, .int 0, .int 0, .ref g5, .ref g6, .ref g7, .ref g8, .ref g9, .ref g10, .int 0, .ref g12, .ref g13, .ref g14, .ref g15, .ref g16, .ref g17, .ref g18, .ref g19, .ref g20, .int (-9), .ref g22, .ref g23, .ref g24, .int 0, .int 0, .int 0, .int 0, .ref g29, .ref g30, .ref g31, .ref g32, .ref g33]))] H := hP
  have e_ := hw.symm
  subst e_
  refine lv_if_eq (tgt := 18) hx hb dX12_next_11 (by decide) (fun c_2 => ?_) (fun c_2 => ?_)
  · have _ := c_2
    refine lv_iconst (v := (-1)) hx hb dX12_next_18 (by decide) ?_
    exact W.iret (v := (-1)) hx hb hr (fun t ht hW => ⟨⟨(-1), (), rfl, rfl, trivial⟩, hS.F ht⟩) hS.2.2 dX12_next_19
  · exact absurd c_2 (by decide)

set_option maxHeartbeats 4000000 in
set_option maxRecDepth 100000 in
theorem c_X12_size (l : Launch) (D : va_G) (cy : Nat → ClassId) (sz : Nat) (mo : Nat) (g5 : Nat) (g6 : Nat) (g7 : Nat) (g8 : Nat) (g9 : Nat) (g10 : Nat) (g12 : Nat) (g13 : Nat) (g14 : Nat) (g15 : Nat) (g16 : Nat) (g17 : Nat) (g18 : Nat) (g19 : Nat) (g20 : Nat) (g22 : Nat) (g23 : Nat) (g24 : Nat) (g29 : Nat) (g30 : Nat) (g31 : Nat) (g32 : Nat) (g33 : Nat) (a1 : Int32) (a2 : Int32) (a3 : Int32) : Met l yX12_size wsX12_size ({ frames := 3, cells := 0, slots := 0, locals := 68 }) (va_Pc [.ref mo, .int a1, .int a2, .int a3] (fun U => U.heap.size = sz ∧ va_P D vwCl [(mo, .inr (12, [.int 0, .int 0, .long 0, .int 0, .int 0, .ref g5, .ref g6, .ref g7, .ref g8, .ref g9, .ref g10, .int 0, .ref g12, .ref g13, .ref g14, .ref g15, .ref g16, .ref g17, .ref g18, .ref g19, .ref g20, .int (-9), .ref g22, .ref g23, .ref g24, .int 0, .int 0, .int 0, .int 0, .ref g29, .ref g30, .ref g31, .ref g32, .ref g33]))] U.heap ∧ kk_ D cy U ∧ va_D (fun _ => True) [(mo, .inr (12, [.int 0, .int 0, .long 0, .int 0, .int 0, .ref g5, .ref g6, .ref g7, .ref g8, .ref g9, .ref g10, .int 0, .ref g12, .ref g13, .ref g14, .ref g15, .ref g16, .ref g17, .ref g18, .ref g19, .ref g20, .int (-9), .ref g22, .ref g23, .ref g24, .int 0, .int 0, .int 0, .int 0, .ref g29, .ref g30, .ref g31, .ref g32, .ref g33]))])) (va_Qi (fun (r : Int32) (_ : Unit) => r = (-1)) (fun (_ : Unit) (_ : State) => True) (va_A [(mo, .inr (12, [.int 0, .int 0, .long 0, .int 0, .int 0, .ref g5, .ref g6, .ref g7, .ref g8, .ref g9, .ref g10, .int 0, .ref g12, .ref g13, .ref g14, .ref g15, .ref g16, .ref g17, .ref g18, .ref g19, .ref g20, .int (-9), .ref g22, .ref g23, .ref g24, .int 0, .int 0, .int 0, .int 0, .ref g29, .ref g30, .ref g31, .ref g32, .ref g33]))] sz)) 0 0 (va_A [(mo, .inr (12, [.int 0, .int 0, .long 0, .int 0, .int 0, .ref g5, .ref g6, .ref g7, .ref g8, .ref g9, .ref g10, .int 0, .ref g12, .ref g13, .ref g14, .ref g15, .ref g16, .ref g17, .ref g18, .ref g19, .ref g20, .int (-9), .ref g22, .ref g23, .ref g24, .int 0, .int 0, .int 0, .int 0, .ref g29, .ref g30, .ref g31, .ref g32, .ref g33]))] sz) := by
  refine Met.ofW (cc := cX12_size) (maxL := 5) (ret := (some .int)) (by decide) rfl ?_
  intro p e s m args below meth c s₁ B hml hv
  obtain ⟨rfl, hsz, hP, hK, hD0⟩ := hv
  have hx := B.exec
  have hb := B.bytes
  have hr := B.returns
  have hts := atoms_spec (ws := wsX12_size) B.pre
  have hown : s.vm.findClass RX12 = some m.cls := findClass_of_methodNamed B.named
  have hlocks := B.notSynchronized
  subst hsz
  have hD := hD0.self (sz := s.heap.size)
  generalize hAe : va_A [(mo, .inr (12, [.int 0, .int 0, .long 0, .int 0, .int 0, .ref g5, .ref g6, .ref g7, .ref g8, .ref g9, .ref g10, .int 0, .ref g12, .ref g13, .ref g14, .ref g15, .ref g16, .ref g17, .ref g18, .ref g19, .ref g20, .int (-9), .ref g22, .ref g23, .ref g24, .int 0, .int 0, .int 0, .int 0, .ref g29, .ref g30, .ref g31, .ref g32, .ref g33]))] s.heap.size = A at hD ⊢
  have hA : ∀ q : Nat, s.heap.size ≤ q → A q := fun q h => by rw [← hAe]; exact Or.inr h
  have hS : va_S A s.heap s.heap [] := va_S.rf
  have hl := lv_entry ([.ref mo, .int a1, .int a2, .int a3]) (n := 5) (Nat.le_of_ble_eq_true rfl)
  rw [lg_entry_eq]
  generalize (lg_sl ([.ref mo, .int a1, .int a2, .int a3]) ++ List.replicate (5 - (lg_sl ([.ref mo, .int a1, .int a2, .int a3])).length) Slot.unset).toArray = ls at hl ⊢
  have hl : lv_has ls 5 [(0, .ref mo), (1, .int a1), (2, .int a2), (3, .int a3)] := hl
  refine lv_aload_n hx hb dX12_size_0 rfl (lv_at hl 0 rfl) ?_
  refine lv_iconst (v := 0) hx hb dX12_size_1 (by decide) ?_
  refine va_put (ci := 12) (v := .int 0) (ty := .int) (C := RX12) (T := TX12) (N := 34) hx hb hts (fun _ h => List.mem_cons_of_mem _ (List.mem_append_right _ h)) tyX12 tyX12_ok nmX12 hown hK.1 hP hD hS 0 rfl rfl 0 (by decide) (hts (.fieldLink RX12 85 "CutAtlasModel" "thrown" "I") (by decide +kernel)) (fun _ h9 => h9) rfl (by decide +kernel) rfl rfl (Nat.le_of_ble_eq_true rfl) dX12_size_2 (fun H locs hP hD hS => ?_)
  have hP : va_P D vwCl [(mo, .inr (12, [.int 0, .int 0, .long 0, .int 0, .int 0, .ref g5, .ref g6, .ref g7, .ref g8, .ref g9, .ref g10, .int 0, .ref g12, .ref g13, .ref g14, .ref g15, .ref g16, .ref g17, .ref g18, .ref g19, .ref g20, .int (-9), .ref g22, .ref g23, .ref g24, .int 0, .int 0, .int 0, .int 0, .ref g29, .ref g30, .ref g31, .ref g32, .ref g33]))] H := hP
  have hD : va_D A [(mo, .inr (12, [.int 0, .int 0, .long 0, .int 0, .int 0, .ref g5, .ref g6, .ref g7, .ref g8, .ref g9, .ref g10, .int 0, .ref g12, .ref g13, .ref g14, .ref g15, .ref g16, .ref g17, .ref g18, .ref g19, .ref g20, .int (-9), .ref g22, .ref g23, .ref g24, .int 0, .int 0, .int 0, .int 0, .ref g29, .ref g30, .ref g31, .ref g32, .ref g33]))] := hD
  refine lv_aload_n hx hb dX12_size_5 rfl (lv_at hl 0 rfl) ?_
  refine lv_iload_n hx hb dX12_size_6 rfl (lv_at hl 1 rfl) ?_
  refine lv_iload_n hx hb dX12_size_7 rfl (lv_at hl 2 rfl) ?_
  have hPc := hP.sub (ws' := [(mo, .inr (12, [.int 0, .int 0, .long 0, .int 0, .int 0, .ref g5, .ref g6, .ref g7, .ref g8, .ref g9, .ref g10, .int 0, .ref g12, .ref g13, .ref g14, .ref g15, .ref g16, .ref g17, .ref g18, .ref g19, .ref g20, .int (-9), .ref g22, .ref g23, .ref g24, .int 0, .int 0, .int 0, .int 0, .ref g29, .ref g30, .ref g31, .ref g32, .ref g33]))]) [0] rfl
  have hDc := hD.sub (ws' := [(mo, .inr (12, [.int 0, .int 0, .long 0, .int 0, .int 0, .ref g5, .ref g6, .ref g7, .ref g8, .ref g9, .ref g10, .int 0, .ref g12, .ref g13, .ref g14, .ref g15, .ref g16, .ref g17, .ref g18, .ref g19, .ref g20, .int (-9), .ref g22, .ref g23, .ref g24, .int 0, .int 0, .int 0, .int 0, .ref g29, .ref g30, .ref g31, .ref g32, .ref g33]))]) [0] (by decide) rfl
  have hDw : va_D (fun _ => True) [(mo, .inr (12, [.int 0, .int 0, .long 0, .int 0, .int 0, .ref g5, .ref g6, .ref g7, .ref g8, .ref g9, .ref g10, .int 0, .ref g12, .ref g13, .ref g14, .ref g15, .ref g16, .ref g17, .ref g18, .ref g19, .ref g20, .int (-9), .ref g22, .ref g23, .ref g24, .int 0, .int 0, .int 0, .int 0, .ref g29, .ref g30, .ref g31, .ref g32, .ref g33]))] := hDc.weaken (fun _ _ _ _ => trivial)
  have hFc := va_free (wc := []) hD hS hA [] rfl
  refine va_calli (va_runV (As := [.int a1, .int a2]) (rest := []) ⟨hx, hb, hml, hown, hts⟩ (c_X12_arePlaces l D cy H.size mo g5 g6 g7 g8 g9 g10 g12 g13 g14 g15 g16 g17 g18 g19 g20 g22 g23 g24 g29 g30 g31 g32 g33 a1 a2) (cwV 2 hts gX12_size_X12_arePlaces rfl rfl rfl (by decide +kernel) ⟨Nat.le_of_ble_eq_true rfl, Nat.le_of_ble_eq_true rfl⟩) ⟨bl_, va_recv hK.1 hPc (ci := 12) (q0 := 0) rfl rfl, fun U hU hW => ⟨rfl, by rw [hU], by rw [hU]; exact hPc, kk_mv hW hK, hDw⟩⟩ rfl rfl hl.1 rfl (lv_room (Nat.le_of_ble_eq_true rfl)) dX12_size_8 ⟨Nat.le_of_ble_eq_true rfl, Nat.le_of_ble_eq_true rfl⟩) hS (fun q _ h => hFc q h) hFc (fun r_1 u t H locs ht hvm hw hB hz1 hk1 hS => ?_)
  have hP := ro_keep hP hk1
  have hP : va_P D vwCl [(mo, .inr (12, [.int 0, .int 0, .long 0, .int 0, .int 0, .ref g5, .ref g6, .ref g7, .ref g8, .ref g9, .ref g10, .int 0, .ref g12, .ref g13, .ref g14, .ref g15, .ref g16, .ref g17, .ref g18, .ref g19, .ref g20, .int (-9), .ref g22, .ref g23, .ref g24, .int 0, .int 0, .int 0, .int 0, .ref g29, .ref g30, .ref g31, .ref g32, .ref g33]))] H := hP
  have e_ := hw.symm
  subst e_
  refine lv_if_ne (tgt := 16) hx hb dX12_size_11 (by decide) (fun c_2 => ?_) (fun c_2 => ?_)
  · exact absurd c_2 (by decide)
  · have _ := c_2
    refine lv_iconst (v := (-1)) hx hb dX12_size_14 (by decide) ?_
    exact W.iret (v := (-1)) hx hb hr (fun t ht hW => ⟨⟨(-1), (), rfl, rfl, trivial⟩, hS.F ht⟩) hS.2.2 dX12_size_15

set_option maxHeartbeats 4000000 in
set_option maxRecDepth 100000 in
theorem c_X12_raise (l : Launch) (D : va_G) (cy : Nat → ClassId) (sz : Nat) (mo : Nat) (g5 : Nat) (g6 : Nat) (g7 : Nat) (g8 : Nat) (g9 : Nat) (g10 : Nat) (g12 : Nat) (g13 : Nat) (g14 : Nat) (g15 : Nat) (g16 : Nat) (g17 : Nat) (g18 : Nat) (g19 : Nat) (g20 : Nat) (g22 : Nat) (g23 : Nat) (g24 : Nat) (g29 : Nat) (g30 : Nat) (g31 : Nat) (g32 : Nat) (g33 : Nat) (a1 : Int32) (a2 : Int32) (a3 : Int32) : Met l yX12_raise wsX12_raise ({ frames := 3, cells := 0, slots := 0, locals := 68 }) (va_Pc [.ref mo, .int a1, .int a2, .int a3] (fun U => U.heap.size = sz ∧ va_P D vwCl [(mo, .inr (12, [.int 0, .int 0, .long 0, .int 0, .int 0, .ref g5, .ref g6, .ref g7, .ref g8, .ref g9, .ref g10, .int 0, .ref g12, .ref g13, .ref g14, .ref g15, .ref g16, .ref g17, .ref g18, .ref g19, .ref g20, .int (-9), .ref g22, .ref g23, .ref g24, .int 0, .int 0, .int 0, .int 0, .ref g29, .ref g30, .ref g31, .ref g32, .ref g33]))] U.heap ∧ kk_ D cy U ∧ va_D (fun _ => True) [(mo, .inr (12, [.int 0, .int 0, .long 0, .int 0, .int 0, .ref g5, .ref g6, .ref g7, .ref g8, .ref g9, .ref g10, .int 0, .ref g12, .ref g13, .ref g14, .ref g15, .ref g16, .ref g17, .ref g18, .ref g19, .ref g20, .int (-9), .ref g22, .ref g23, .ref g24, .int 0, .int 0, .int 0, .int 0, .ref g29, .ref g30, .ref g31, .ref g32, .ref g33]))])) (va_Qi (fun (r : Int32) (_ : Unit) => r = (-1)) (fun (_ : Unit) (_ : State) => True) (va_A [(mo, .inr (12, [.int 0, .int 0, .long 0, .int 0, .int 0, .ref g5, .ref g6, .ref g7, .ref g8, .ref g9, .ref g10, .int 0, .ref g12, .ref g13, .ref g14, .ref g15, .ref g16, .ref g17, .ref g18, .ref g19, .ref g20, .int (-9), .ref g22, .ref g23, .ref g24, .int 0, .int 0, .int 0, .int 0, .ref g29, .ref g30, .ref g31, .ref g32, .ref g33]))] sz)) 0 0 (va_A [(mo, .inr (12, [.int 0, .int 0, .long 0, .int 0, .int 0, .ref g5, .ref g6, .ref g7, .ref g8, .ref g9, .ref g10, .int 0, .ref g12, .ref g13, .ref g14, .ref g15, .ref g16, .ref g17, .ref g18, .ref g19, .ref g20, .int (-9), .ref g22, .ref g23, .ref g24, .int 0, .int 0, .int 0, .int 0, .ref g29, .ref g30, .ref g31, .ref g32, .ref g33]))] sz) := by
  refine Met.ofW (cc := cX12_raise) (maxL := 5) (ret := (some .int)) (by decide) rfl ?_
  intro p e s m args below meth c s₁ B hml hv
  obtain ⟨rfl, hsz, hP, hK, hD0⟩ := hv
  have hx := B.exec
  have hb := B.bytes
  have hr := B.returns
  have hts := atoms_spec (ws := wsX12_raise) B.pre
  have hown : s.vm.findClass RX12 = some m.cls := findClass_of_methodNamed B.named
  have hlocks := B.notSynchronized
  subst hsz
  have hD := hD0.self (sz := s.heap.size)
  generalize hAe : va_A [(mo, .inr (12, [.int 0, .int 0, .long 0, .int 0, .int 0, .ref g5, .ref g6, .ref g7, .ref g8, .ref g9, .ref g10, .int 0, .ref g12, .ref g13, .ref g14, .ref g15, .ref g16, .ref g17, .ref g18, .ref g19, .ref g20, .int (-9), .ref g22, .ref g23, .ref g24, .int 0, .int 0, .int 0, .int 0, .ref g29, .ref g30, .ref g31, .ref g32, .ref g33]))] s.heap.size = A at hD ⊢
  have hA : ∀ q : Nat, s.heap.size ≤ q → A q := fun q h => by rw [← hAe]; exact Or.inr h
  have hS : va_S A s.heap s.heap [] := va_S.rf
  have hl := lv_entry ([.ref mo, .int a1, .int a2, .int a3]) (n := 5) (Nat.le_of_ble_eq_true rfl)
  rw [lg_entry_eq]
  generalize (lg_sl ([.ref mo, .int a1, .int a2, .int a3]) ++ List.replicate (5 - (lg_sl ([.ref mo, .int a1, .int a2, .int a3])).length) Slot.unset).toArray = ls at hl ⊢
  have hl : lv_has ls 5 [(0, .ref mo), (1, .int a1), (2, .int a2), (3, .int a3)] := hl
  refine lv_aload_n hx hb dX12_raise_0 rfl (lv_at hl 0 rfl) ?_
  refine lv_iconst (v := 0) hx hb dX12_raise_1 (by decide) ?_
  refine va_put (ci := 12) (v := .int 0) (ty := .int) (C := RX12) (T := TX12) (N := 34) hx hb hts (fun _ h => List.mem_cons_of_mem _ (List.mem_append_right _ h)) tyX12 tyX12_ok nmX12 hown hK.1 hP hD hS 0 rfl rfl 0 (by decide) (hts (.fieldLink RX12 85 "CutAtlasModel" "thrown" "I") (by decide +kernel)) (fun _ h9 => h9) rfl (by decide +kernel) rfl rfl (Nat.le_of_ble_eq_true rfl) dX12_raise_2 (fun H locs hP hD hS => ?_)
  have hP : va_P D vwCl [(mo, .inr (12, [.int 0, .int 0, .long 0, .int 0, .int 0, .ref g5, .ref g6, .ref g7, .ref g8, .ref g9, .ref g10, .int 0, .ref g12, .ref g13, .ref g14, .ref g15, .ref g16, .ref g17, .ref g18, .ref g19, .ref g20, .int (-9), .ref g22, .ref g23, .ref g24, .int 0, .int 0, .int 0, .int 0, .ref g29, .ref g30, .ref g31, .ref g32, .ref g33]))] H := hP
  have hD : va_D A [(mo, .inr (12, [.int 0, .int 0, .long 0, .int 0, .int 0, .ref g5, .ref g6, .ref g7, .ref g8, .ref g9, .ref g10, .int 0, .ref g12, .ref g13, .ref g14, .ref g15, .ref g16, .ref g17, .ref g18, .ref g19, .ref g20, .int (-9), .ref g22, .ref g23, .ref g24, .int 0, .int 0, .int 0, .int 0, .ref g29, .ref g30, .ref g31, .ref g32, .ref g33]))] := hD
  refine lv_aload_n hx hb dX12_raise_5 rfl (lv_at hl 0 rfl) ?_
  refine lv_iload_n hx hb dX12_raise_6 rfl (lv_at hl 1 rfl) ?_
  refine lv_iload_n hx hb dX12_raise_7 rfl (lv_at hl 2 rfl) ?_
  have hPc := hP.sub (ws' := [(mo, .inr (12, [.int 0, .int 0, .long 0, .int 0, .int 0, .ref g5, .ref g6, .ref g7, .ref g8, .ref g9, .ref g10, .int 0, .ref g12, .ref g13, .ref g14, .ref g15, .ref g16, .ref g17, .ref g18, .ref g19, .ref g20, .int (-9), .ref g22, .ref g23, .ref g24, .int 0, .int 0, .int 0, .int 0, .ref g29, .ref g30, .ref g31, .ref g32, .ref g33]))]) [0] rfl
  have hDc := hD.sub (ws' := [(mo, .inr (12, [.int 0, .int 0, .long 0, .int 0, .int 0, .ref g5, .ref g6, .ref g7, .ref g8, .ref g9, .ref g10, .int 0, .ref g12, .ref g13, .ref g14, .ref g15, .ref g16, .ref g17, .ref g18, .ref g19, .ref g20, .int (-9), .ref g22, .ref g23, .ref g24, .int 0, .int 0, .int 0, .int 0, .ref g29, .ref g30, .ref g31, .ref g32, .ref g33]))]) [0] (by decide) rfl
  have hDw : va_D (fun _ => True) [(mo, .inr (12, [.int 0, .int 0, .long 0, .int 0, .int 0, .ref g5, .ref g6, .ref g7, .ref g8, .ref g9, .ref g10, .int 0, .ref g12, .ref g13, .ref g14, .ref g15, .ref g16, .ref g17, .ref g18, .ref g19, .ref g20, .int (-9), .ref g22, .ref g23, .ref g24, .int 0, .int 0, .int 0, .int 0, .ref g29, .ref g30, .ref g31, .ref g32, .ref g33]))] := hDc.weaken (fun _ _ _ _ => trivial)
  have hFc := va_free (wc := []) hD hS hA [] rfl
  refine va_calli (va_runV (As := [.int a1, .int a2]) (rest := []) ⟨hx, hb, hml, hown, hts⟩ (c_X12_arePlaces l D cy H.size mo g5 g6 g7 g8 g9 g10 g12 g13 g14 g15 g16 g17 g18 g19 g20 g22 g23 g24 g29 g30 g31 g32 g33 a1 a2) (cwV 2 hts gX12_raise_X12_arePlaces rfl rfl rfl (by decide +kernel) ⟨Nat.le_of_ble_eq_true rfl, Nat.le_of_ble_eq_true rfl⟩) ⟨bl_, va_recv hK.1 hPc (ci := 12) (q0 := 0) rfl rfl, fun U hU hW => ⟨rfl, by rw [hU], by rw [hU]; exact hPc, kk_mv hW hK, hDw⟩⟩ rfl rfl hl.1 rfl (lv_room (Nat.le_of_ble_eq_true rfl)) dX12_raise_8 ⟨Nat.le_of_ble_eq_true rfl, Nat.le_of_ble_eq_true rfl⟩) hS (fun q _ h => hFc q h) hFc (fun r_1 u t H locs ht hvm hw hB hz1 hk1 hS => ?_)
  have hP := ro_keep hP hk1
  have hP : va_P D vwCl [(mo, .inr (12, [.int 0, .int 0, .long 0, .int 0, .int 0, .ref g5, .ref g6, .ref g7, .ref g8, .ref g9, .ref g10, .int 0, .ref g12, .ref g13, .ref g14, .ref g15, .ref g16, .ref g17, .ref g18, .ref g19, .ref g20, .int (-9), .ref g22, .ref g23, .ref g24, .int 0, .int 0, .int 0, .int 0, .ref g29, .ref g30, .ref g31, .ref g32, .ref g33]))] H := hP
  have e_ := hw.symm
  subst e_
  refine lv_if_eq (tgt := 22) hx hb dX12_raise_11 (by decide) (fun c_2 => ?_) (fun c_2 => ?_)
  · have _ := c_2
    refine lv_iconst (v := (-1)) hx hb dX12_raise_22 (by decide) ?_
    exact W.iret (v := (-1)) hx hb hr (fun t ht hW => ⟨⟨(-1), (), rfl, rfl, trivial⟩, hS.F ht⟩) hS.2.2 dX12_raise_23
  · exact absurd c_2 (by decide)

set_option maxHeartbeats 4000000 in
set_option maxRecDepth 100000 in
theorem c_X12_cheapest (l : Launch) (D : va_G) (cy : Nat → ClassId) (sz : Nat) (mo : Nat) (g5 : Nat) (g6 : Nat) (g7 : Nat) (g8 : Nat) (g9 : Nat) (g10 : Nat) (g12 : Nat) (g13 : Nat) (g14 : Nat) (g15 : Nat) (g16 : Nat) (g17 : Nat) (g18 : Nat) (g19 : Nat) (g20 : Nat) (g22 : Nat) (g23 : Nat) (g24 : Nat) (g29 : Nat) (g30 : Nat) (g31 : Nat) (g32 : Nat) (g33 : Nat) (a1 : Int32) (a2 : Int32) (a3 : Int32) : Met l yX12_cheapest wsX12_cheapest ({ frames := 3, cells := 0, slots := 0, locals := 68 }) (va_Pc [.ref mo, .int a1, .int a2, .int a3] (fun U => U.heap.size = sz ∧ va_P D vwCl [(mo, .inr (12, [.int 0, .int 0, .long 0, .int 0, .int 0, .ref g5, .ref g6, .ref g7, .ref g8, .ref g9, .ref g10, .int 0, .ref g12, .ref g13, .ref g14, .ref g15, .ref g16, .ref g17, .ref g18, .ref g19, .ref g20, .int (-9), .ref g22, .ref g23, .ref g24, .int 0, .int 0, .int 0, .int 0, .ref g29, .ref g30, .ref g31, .ref g32, .ref g33]))] U.heap ∧ kk_ D cy U ∧ va_D (fun _ => True) [(mo, .inr (12, [.int 0, .int 0, .long 0, .int 0, .int 0, .ref g5, .ref g6, .ref g7, .ref g8, .ref g9, .ref g10, .int 0, .ref g12, .ref g13, .ref g14, .ref g15, .ref g16, .ref g17, .ref g18, .ref g19, .ref g20, .int (-9), .ref g22, .ref g23, .ref g24, .int 0, .int 0, .int 0, .int 0, .ref g29, .ref g30, .ref g31, .ref g32, .ref g33]))])) (va_Qi (fun (r : Int32) (_ : Unit) => r = (-1)) (fun (_ : Unit) (_ : State) => True) (va_A [(mo, .inr (12, [.int 0, .int 0, .long 0, .int 0, .int 0, .ref g5, .ref g6, .ref g7, .ref g8, .ref g9, .ref g10, .int 0, .ref g12, .ref g13, .ref g14, .ref g15, .ref g16, .ref g17, .ref g18, .ref g19, .ref g20, .int (-9), .ref g22, .ref g23, .ref g24, .int 0, .int 0, .int 0, .int 0, .ref g29, .ref g30, .ref g31, .ref g32, .ref g33]))] sz)) 0 0 (va_A [(mo, .inr (12, [.int 0, .int 0, .long 0, .int 0, .int 0, .ref g5, .ref g6, .ref g7, .ref g8, .ref g9, .ref g10, .int 0, .ref g12, .ref g13, .ref g14, .ref g15, .ref g16, .ref g17, .ref g18, .ref g19, .ref g20, .int (-9), .ref g22, .ref g23, .ref g24, .int 0, .int 0, .int 0, .int 0, .ref g29, .ref g30, .ref g31, .ref g32, .ref g33]))] sz) := by
  refine Met.ofW (cc := cX12_cheapest) (maxL := 10) (ret := (some .int)) (by decide) rfl ?_
  intro p e s m args below meth c s₁ B hml hv
  obtain ⟨rfl, hsz, hP, hK, hD0⟩ := hv
  have hx := B.exec
  have hb := B.bytes
  have hr := B.returns
  have hts := atoms_spec (ws := wsX12_cheapest) B.pre
  have hown : s.vm.findClass RX12 = some m.cls := findClass_of_methodNamed B.named
  have hlocks := B.notSynchronized
  subst hsz
  have hD := hD0.self (sz := s.heap.size)
  generalize hAe : va_A [(mo, .inr (12, [.int 0, .int 0, .long 0, .int 0, .int 0, .ref g5, .ref g6, .ref g7, .ref g8, .ref g9, .ref g10, .int 0, .ref g12, .ref g13, .ref g14, .ref g15, .ref g16, .ref g17, .ref g18, .ref g19, .ref g20, .int (-9), .ref g22, .ref g23, .ref g24, .int 0, .int 0, .int 0, .int 0, .ref g29, .ref g30, .ref g31, .ref g32, .ref g33]))] s.heap.size = A at hD ⊢
  have hA : ∀ q : Nat, s.heap.size ≤ q → A q := fun q h => by rw [← hAe]; exact Or.inr h
  have hS : va_S A s.heap s.heap [] := va_S.rf
  have hl := lv_entry ([.ref mo, .int a1, .int a2, .int a3]) (n := 10) (Nat.le_of_ble_eq_true rfl)
  rw [lg_entry_eq]
  generalize (lg_sl ([.ref mo, .int a1, .int a2, .int a3]) ++ List.replicate (10 - (lg_sl ([.ref mo, .int a1, .int a2, .int a3])).length) Slot.unset).toArray = ls at hl ⊢
  have hl : lv_has ls 10 [(0, .ref mo), (1, .int a1), (2, .int a2), (3, .int a3)] := hl
  refine lv_aload_n hx hb dX12_cheapest_0 rfl (lv_at hl 0 rfl) ?_
  refine lv_iconst (v := 0) hx hb dX12_cheapest_1 (by decide) ?_
  refine va_put (ci := 12) (v := .int 0) (ty := .int) (C := RX12) (T := TX12) (N := 34) hx hb hts (fun _ h => List.mem_cons_of_mem _ (List.mem_append_right _ h)) tyX12 tyX12_ok nmX12 hown hK.1 hP hD hS 0 rfl rfl 0 (by decide) (hts (.fieldLink RX12 85 "CutAtlasModel" "thrown" "I") (by decide +kernel)) (fun _ h9 => h9) rfl (by decide +kernel) rfl rfl (Nat.le_of_ble_eq_true rfl) dX12_cheapest_2 (fun H locs hP hD hS => ?_)
  have hP : va_P D vwCl [(mo, .inr (12, [.int 0, .int 0, .long 0, .int 0, .int 0, .ref g5, .ref g6, .ref g7, .ref g8, .ref g9, .ref g10, .int 0, .ref g12, .ref g13, .ref g14, .ref g15, .ref g16, .ref g17, .ref g18, .ref g19, .ref g20, .int (-9), .ref g22, .ref g23, .ref g24, .int 0, .int 0, .int 0, .int 0, .ref g29, .ref g30, .ref g31, .ref g32, .ref g33]))] H := hP
  have hD : va_D A [(mo, .inr (12, [.int 0, .int 0, .long 0, .int 0, .int 0, .ref g5, .ref g6, .ref g7, .ref g8, .ref g9, .ref g10, .int 0, .ref g12, .ref g13, .ref g14, .ref g15, .ref g16, .ref g17, .ref g18, .ref g19, .ref g20, .int (-9), .ref g22, .ref g23, .ref g24, .int 0, .int 0, .int 0, .int 0, .ref g29, .ref g30, .ref g31, .ref g32, .ref g33]))] := hD
  refine lv_aload_n hx hb dX12_cheapest_5 rfl (lv_at hl 0 rfl) ?_
  refine lv_iload_n hx hb dX12_cheapest_6 rfl (lv_at hl 1 rfl) ?_
  refine lv_iload_n hx hb dX12_cheapest_7 rfl (lv_at hl 2 rfl) ?_
  have hPc := hP.sub (ws' := [(mo, .inr (12, [.int 0, .int 0, .long 0, .int 0, .int 0, .ref g5, .ref g6, .ref g7, .ref g8, .ref g9, .ref g10, .int 0, .ref g12, .ref g13, .ref g14, .ref g15, .ref g16, .ref g17, .ref g18, .ref g19, .ref g20, .int (-9), .ref g22, .ref g23, .ref g24, .int 0, .int 0, .int 0, .int 0, .ref g29, .ref g30, .ref g31, .ref g32, .ref g33]))]) [0] rfl
  have hDc := hD.sub (ws' := [(mo, .inr (12, [.int 0, .int 0, .long 0, .int 0, .int 0, .ref g5, .ref g6, .ref g7, .ref g8, .ref g9, .ref g10, .int 0, .ref g12, .ref g13, .ref g14, .ref g15, .ref g16, .ref g17, .ref g18, .ref g19, .ref g20, .int (-9), .ref g22, .ref g23, .ref g24, .int 0, .int 0, .int 0, .int 0, .ref g29, .ref g30, .ref g31, .ref g32, .ref g33]))]) [0] (by decide) rfl
  have hDw : va_D (fun _ => True) [(mo, .inr (12, [.int 0, .int 0, .long 0, .int 0, .int 0, .ref g5, .ref g6, .ref g7, .ref g8, .ref g9, .ref g10, .int 0, .ref g12, .ref g13, .ref g14, .ref g15, .ref g16, .ref g17, .ref g18, .ref g19, .ref g20, .int (-9), .ref g22, .ref g23, .ref g24, .int 0, .int 0, .int 0, .int 0, .ref g29, .ref g30, .ref g31, .ref g32, .ref g33]))] := hDc.weaken (fun _ _ _ _ => trivial)
  have hFc := va_free (wc := []) hD hS hA [] rfl
  refine va_calli (va_runV (As := [.int a1, .int a2]) (rest := []) ⟨hx, hb, hml, hown, hts⟩ (c_X12_arePlaces l D cy H.size mo g5 g6 g7 g8 g9 g10 g12 g13 g14 g15 g16 g17 g18 g19 g20 g22 g23 g24 g29 g30 g31 g32 g33 a1 a2) (cwV 2 hts gX12_cheapest_X12_arePlaces rfl rfl rfl (by decide +kernel) ⟨Nat.le_of_ble_eq_true rfl, Nat.le_of_ble_eq_true rfl⟩) ⟨bl_, va_recv hK.1 hPc (ci := 12) (q0 := 0) rfl rfl, fun U hU hW => ⟨rfl, by rw [hU], by rw [hU]; exact hPc, kk_mv hW hK, hDw⟩⟩ rfl rfl hl.1 rfl (lv_room (Nat.le_of_ble_eq_true rfl)) dX12_cheapest_8 ⟨Nat.le_of_ble_eq_true rfl, Nat.le_of_ble_eq_true rfl⟩) hS (fun q _ h => hFc q h) hFc (fun r_1 u t H locs ht hvm hw hB hz1 hk1 hS => ?_)
  have hP := ro_keep hP hk1
  have hP : va_P D vwCl [(mo, .inr (12, [.int 0, .int 0, .long 0, .int 0, .int 0, .ref g5, .ref g6, .ref g7, .ref g8, .ref g9, .ref g10, .int 0, .ref g12, .ref g13, .ref g14, .ref g15, .ref g16, .ref g17, .ref g18, .ref g19, .ref g20, .int (-9), .ref g22, .ref g23, .ref g24, .int 0, .int 0, .int 0, .int 0, .ref g29, .ref g30, .ref g31, .ref g32, .ref g33]))] H := hP
  have e_ := hw.symm
  subst e_
  refine lv_if_eq (tgt := 26) hx hb dX12_cheapest_11 (by decide) (fun c_2 => ?_) (fun c_2 => ?_)
  · have _ := c_2
    refine lv_iconst (v := (-1)) hx hb dX12_cheapest_26 (by decide) ?_
    exact W.iret (v := (-1)) hx hb hr (fun t ht hW => ⟨⟨(-1), (), rfl, rfl, trivial⟩, hS.F ht⟩) hS.2.2 dX12_cheapest_27
  · exact absurd c_2 (by decide)

set_option maxHeartbeats 4000000 in
set_option maxRecDepth 100000 in
theorem c_X12_weak (l : Launch) (D : va_G) (cy : Nat → ClassId) (sz : Nat) (mo : Nat) (g5 : Nat) (g6 : Nat) (g7 : Nat) (g8 : Nat) (g9 : Nat) (g10 : Nat) (g12 : Nat) (g13 : Nat) (g14 : Nat) (g15 : Nat) (g16 : Nat) (g17 : Nat) (g18 : Nat) (g19 : Nat) (g20 : Nat) (g22 : Nat) (g23 : Nat) (g24 : Nat) (g29 : Nat) (g30 : Nat) (g31 : Nat) (g32 : Nat) (g33 : Nat) (a1 : Int32) : Met l yX12_weak wsX12_weak ({ frames := 2, cells := 0, slots := 0, locals := 46 }) (va_Pc [.ref mo, .int a1] (fun U => U.heap.size = sz ∧ va_P D vwCl [(mo, .inr (12, [.int 0, .int 0, .long 0, .int 0, .int 0, .ref g5, .ref g6, .ref g7, .ref g8, .ref g9, .ref g10, .int 0, .ref g12, .ref g13, .ref g14, .ref g15, .ref g16, .ref g17, .ref g18, .ref g19, .ref g20, .int (-9), .ref g22, .ref g23, .ref g24, .int 0, .int 0, .int 0, .int 0, .ref g29, .ref g30, .ref g31, .ref g32, .ref g33]))] U.heap ∧ kk_ D cy U ∧ va_D (fun _ => True) [(mo, .inr (12, [.int 0, .int 0, .long 0, .int 0, .int 0, .ref g5, .ref g6, .ref g7, .ref g8, .ref g9, .ref g10, .int 0, .ref g12, .ref g13, .ref g14, .ref g15, .ref g16, .ref g17, .ref g18, .ref g19, .ref g20, .int (-9), .ref g22, .ref g23, .ref g24, .int 0, .int 0, .int 0, .int 0, .ref g29, .ref g30, .ref g31, .ref g32, .ref g33]))])) (va_Qi (fun (r : Int32) (_ : Unit) => r = (-1)) (fun (_ : Unit) (_ : State) => True) (va_A [(mo, .inr (12, [.int 0, .int 0, .long 0, .int 0, .int 0, .ref g5, .ref g6, .ref g7, .ref g8, .ref g9, .ref g10, .int 0, .ref g12, .ref g13, .ref g14, .ref g15, .ref g16, .ref g17, .ref g18, .ref g19, .ref g20, .int (-9), .ref g22, .ref g23, .ref g24, .int 0, .int 0, .int 0, .int 0, .ref g29, .ref g30, .ref g31, .ref g32, .ref g33]))] sz)) 0 0 (va_A [(mo, .inr (12, [.int 0, .int 0, .long 0, .int 0, .int 0, .ref g5, .ref g6, .ref g7, .ref g8, .ref g9, .ref g10, .int 0, .ref g12, .ref g13, .ref g14, .ref g15, .ref g16, .ref g17, .ref g18, .ref g19, .ref g20, .int (-9), .ref g22, .ref g23, .ref g24, .int 0, .int 0, .int 0, .int 0, .ref g29, .ref g30, .ref g31, .ref g32, .ref g33]))] sz) := by
  refine Met.ofW (cc := cX12_weak) (maxL := 4) (ret := (some .int)) (by decide) rfl ?_
  intro p e s m args below meth c s₁ B hml hv
  obtain ⟨rfl, hsz, hP, hK, hD0⟩ := hv
  have hx := B.exec
  have hb := B.bytes
  have hr := B.returns
  have hts := atoms_spec (ws := wsX12_weak) B.pre
  have hown : s.vm.findClass RX12 = some m.cls := findClass_of_methodNamed B.named
  have hlocks := B.notSynchronized
  subst hsz
  have hD := hD0.self (sz := s.heap.size)
  generalize hAe : va_A [(mo, .inr (12, [.int 0, .int 0, .long 0, .int 0, .int 0, .ref g5, .ref g6, .ref g7, .ref g8, .ref g9, .ref g10, .int 0, .ref g12, .ref g13, .ref g14, .ref g15, .ref g16, .ref g17, .ref g18, .ref g19, .ref g20, .int (-9), .ref g22, .ref g23, .ref g24, .int 0, .int 0, .int 0, .int 0, .ref g29, .ref g30, .ref g31, .ref g32, .ref g33]))] s.heap.size = A at hD ⊢
  have hA : ∀ q : Nat, s.heap.size ≤ q → A q := fun q h => by rw [← hAe]; exact Or.inr h
  have hS : va_S A s.heap s.heap [] := va_S.rf
  have hl := lv_entry ([.ref mo, .int a1]) (n := 4) (Nat.le_of_ble_eq_true rfl)
  rw [lg_entry_eq]
  generalize (lg_sl ([.ref mo, .int a1]) ++ List.replicate (4 - (lg_sl ([.ref mo, .int a1])).length) Slot.unset).toArray = ls at hl ⊢
  have hl : lv_has ls 4 [(0, .ref mo), (1, .int a1)] := hl
  refine lv_aload_n hx hb dX12_weak_0 rfl (lv_at hl 0 rfl) ?_
  refine lv_iconst (v := 0) hx hb dX12_weak_1 (by decide) ?_
  refine va_put (ci := 12) (v := .int 0) (ty := .int) (C := RX12) (T := TX12) (N := 34) hx hb hts (fun _ h => List.mem_cons_of_mem _ (List.mem_append_right _ h)) tyX12 tyX12_ok nmX12 hown hK.1 hP hD hS 0 rfl rfl 0 (by decide) (hts (.fieldLink RX12 85 "CutAtlasModel" "thrown" "I") (by decide +kernel)) (fun _ h9 => h9) rfl (by decide +kernel) rfl rfl (Nat.le_of_ble_eq_true rfl) dX12_weak_2 (fun H locs hP hD hS => ?_)
  have hP : va_P D vwCl [(mo, .inr (12, [.int 0, .int 0, .long 0, .int 0, .int 0, .ref g5, .ref g6, .ref g7, .ref g8, .ref g9, .ref g10, .int 0, .ref g12, .ref g13, .ref g14, .ref g15, .ref g16, .ref g17, .ref g18, .ref g19, .ref g20, .int (-9), .ref g22, .ref g23, .ref g24, .int 0, .int 0, .int 0, .int 0, .ref g29, .ref g30, .ref g31, .ref g32, .ref g33]))] H := hP
  have hD : va_D A [(mo, .inr (12, [.int 0, .int 0, .long 0, .int 0, .int 0, .ref g5, .ref g6, .ref g7, .ref g8, .ref g9, .ref g10, .int 0, .ref g12, .ref g13, .ref g14, .ref g15, .ref g16, .ref g17, .ref g18, .ref g19, .ref g20, .int (-9), .ref g22, .ref g23, .ref g24, .int 0, .int 0, .int 0, .int 0, .ref g29, .ref g30, .ref g31, .ref g32, .ref g33]))] := hD
  refine lv_aload_n hx hb dX12_weak_5 rfl (lv_at hl 0 rfl) ?_
  refine lv_iload_n hx hb dX12_weak_6 rfl (lv_at hl 1 rfl) ?_
  have hPc := hP.sub (ws' := [(mo, .inr (12, [.int 0, .int 0, .long 0, .int 0, .int 0, .ref g5, .ref g6, .ref g7, .ref g8, .ref g9, .ref g10, .int 0, .ref g12, .ref g13, .ref g14, .ref g15, .ref g16, .ref g17, .ref g18, .ref g19, .ref g20, .int (-9), .ref g22, .ref g23, .ref g24, .int 0, .int 0, .int 0, .int 0, .ref g29, .ref g30, .ref g31, .ref g32, .ref g33]))]) [0] rfl
  have hDc := hD.sub (ws' := [(mo, .inr (12, [.int 0, .int 0, .long 0, .int 0, .int 0, .ref g5, .ref g6, .ref g7, .ref g8, .ref g9, .ref g10, .int 0, .ref g12, .ref g13, .ref g14, .ref g15, .ref g16, .ref g17, .ref g18, .ref g19, .ref g20, .int (-9), .ref g22, .ref g23, .ref g24, .int 0, .int 0, .int 0, .int 0, .ref g29, .ref g30, .ref g31, .ref g32, .ref g33]))]) [0] (by decide) rfl
  have hDw : va_D (fun _ => True) [(mo, .inr (12, [.int 0, .int 0, .long 0, .int 0, .int 0, .ref g5, .ref g6, .ref g7, .ref g8, .ref g9, .ref g10, .int 0, .ref g12, .ref g13, .ref g14, .ref g15, .ref g16, .ref g17, .ref g18, .ref g19, .ref g20, .int (-9), .ref g22, .ref g23, .ref g24, .int 0, .int 0, .int 0, .int 0, .ref g29, .ref g30, .ref g31, .ref g32, .ref g33]))] := hDc.weaken (fun _ _ _ _ => trivial)
  have hFc := va_free (wc := []) hD hS hA [] rfl
  refine va_calli (va_runV (As := [.int a1]) (rest := []) ⟨hx, hb, hml, hown, hts⟩ (c_X12_isLine l D cy H.size mo g5 g6 g7 g8 g9 g10 g12 g13 g14 g15 g16 g17 g18 g19 g20 g22 g23 g24 g29 g30 g31 g32 g33 a1) (cwV 1 hts gX12_weak_X12_isLine rfl rfl rfl (by decide +kernel) ⟨Nat.le_of_ble_eq_true rfl, Nat.le_of_ble_eq_true rfl⟩) ⟨bl_, va_recv hK.1 hPc (ci := 12) (q0 := 0) rfl rfl, fun U hU hW => ⟨rfl, by rw [hU], by rw [hU]; exact hPc, kk_mv hW hK, hDw⟩⟩ rfl rfl hl.1 rfl (lv_room (Nat.le_of_ble_eq_true rfl)) dX12_weak_7 ⟨Nat.le_of_ble_eq_true rfl, Nat.le_of_ble_eq_true rfl⟩) hS (fun q _ h => hFc q h) hFc (fun r_1 u t H locs ht hvm hw hB hz1 hk1 hS => ?_)
  have hP := ro_keep hP hk1
  have hP : va_P D vwCl [(mo, .inr (12, [.int 0, .int 0, .long 0, .int 0, .int 0, .ref g5, .ref g6, .ref g7, .ref g8, .ref g9, .ref g10, .int 0, .ref g12, .ref g13, .ref g14, .ref g15, .ref g16, .ref g17, .ref g18, .ref g19, .ref g20, .int (-9), .ref g22, .ref g23, .ref g24, .int 0, .int 0, .int 0, .int 0, .ref g29, .ref g30, .ref g31, .ref g32, .ref g33]))] H := hP
  have e_ := hw.symm
  subst e_
  refine lv_if_ne (tgt := 15) hx hb dX12_weak_10 (by decide) (fun c_2 => ?_) (fun c_2 => ?_)
  · exact absurd c_2 (by decide)
  · have _ := c_2
    refine lv_iconst (v := (-1)) hx hb dX12_weak_13 (by decide) ?_
    exact W.iret (v := (-1)) hx hb hr (fun t ht hW => ⟨⟨(-1), (), rfl, rfl, trivial⟩, hS.F ht⟩) hS.2.2 dX12_weak_14

set_option maxHeartbeats 4000000 in
set_option maxRecDepth 100000 in
theorem c_X12_flow (l : Launch) (D : va_G) (cy : Nat → ClassId) (sz : Nat) (mo : Nat) (g5 : Nat) (g6 : Nat) (g7 : Nat) (g8 : Nat) (g9 : Nat) (g10 : Nat) (g12 : Nat) (g13 : Nat) (g14 : Nat) (g15 : Nat) (g16 : Nat) (g17 : Nat) (g18 : Nat) (g19 : Nat) (g20 : Nat) (g22 : Nat) (g23 : Nat) (g24 : Nat) (g29 : Nat) (g30 : Nat) (g31 : Nat) (g32 : Nat) (g33 : Nat) (a1 : Int32) (a2 : Int32) (a3 : Int32) : Met l yX12_flow wsX12_flow ({ frames := 3, cells := 0, slots := 0, locals := 68 }) (va_Pc [.ref mo, .int a1, .int a2, .int a3] (fun U => U.heap.size = sz ∧ va_P D vwCl [(mo, .inr (12, [.int 0, .int 0, .long 0, .int 0, .int 0, .ref g5, .ref g6, .ref g7, .ref g8, .ref g9, .ref g10, .int 0, .ref g12, .ref g13, .ref g14, .ref g15, .ref g16, .ref g17, .ref g18, .ref g19, .ref g20, .int (-9), .ref g22, .ref g23, .ref g24, .int 0, .int 0, .int 0, .int 0, .ref g29, .ref g30, .ref g31, .ref g32, .ref g33]))] U.heap ∧ kk_ D cy U ∧ va_D (fun _ => True) [(mo, .inr (12, [.int 0, .int 0, .long 0, .int 0, .int 0, .ref g5, .ref g6, .ref g7, .ref g8, .ref g9, .ref g10, .int 0, .ref g12, .ref g13, .ref g14, .ref g15, .ref g16, .ref g17, .ref g18, .ref g19, .ref g20, .int (-9), .ref g22, .ref g23, .ref g24, .int 0, .int 0, .int 0, .int 0, .ref g29, .ref g30, .ref g31, .ref g32, .ref g33]))])) (va_Qi (fun (r : Int32) (_ : Unit) => r = (-1000000)) (fun (_ : Unit) (_ : State) => True) (va_A [(mo, .inr (12, [.int 0, .int 0, .long 0, .int 0, .int 0, .ref g5, .ref g6, .ref g7, .ref g8, .ref g9, .ref g10, .int 0, .ref g12, .ref g13, .ref g14, .ref g15, .ref g16, .ref g17, .ref g18, .ref g19, .ref g20, .int (-9), .ref g22, .ref g23, .ref g24, .int 0, .int 0, .int 0, .int 0, .ref g29, .ref g30, .ref g31, .ref g32, .ref g33]))] sz)) 0 0 (va_A [(mo, .inr (12, [.int 0, .int 0, .long 0, .int 0, .int 0, .ref g5, .ref g6, .ref g7, .ref g8, .ref g9, .ref g10, .int 0, .ref g12, .ref g13, .ref g14, .ref g15, .ref g16, .ref g17, .ref g18, .ref g19, .ref g20, .int (-9), .ref g22, .ref g23, .ref g24, .int 0, .int 0, .int 0, .int 0, .ref g29, .ref g30, .ref g31, .ref g32, .ref g33]))] sz) := by
  refine Met.ofW (cc := cX12_flow) (maxL := 4) (ret := (some .int)) (by decide) rfl ?_
  intro p e s m args below meth c s₁ B hml hv
  obtain ⟨rfl, hsz, hP, hK, hD0⟩ := hv
  have hx := B.exec
  have hb := B.bytes
  have hr := B.returns
  have hts := atoms_spec (ws := wsX12_flow) B.pre
  have hown : s.vm.findClass RX12 = some m.cls := findClass_of_methodNamed B.named
  have hlocks := B.notSynchronized
  subst hsz
  have hD := hD0.self (sz := s.heap.size)
  generalize hAe : va_A [(mo, .inr (12, [.int 0, .int 0, .long 0, .int 0, .int 0, .ref g5, .ref g6, .ref g7, .ref g8, .ref g9, .ref g10, .int 0, .ref g12, .ref g13, .ref g14, .ref g15, .ref g16, .ref g17, .ref g18, .ref g19, .ref g20, .int (-9), .ref g22, .ref g23, .ref g24, .int 0, .int 0, .int 0, .int 0, .ref g29, .ref g30, .ref g31, .ref g32, .ref g33]))] s.heap.size = A at hD ⊢
  have hA : ∀ q : Nat, s.heap.size ≤ q → A q := fun q h => by rw [← hAe]; exact Or.inr h
  have hS : va_S A s.heap s.heap [] := va_S.rf
  have hl := lv_entry ([.ref mo, .int a1, .int a2, .int a3]) (n := 4) (Nat.le_of_ble_eq_true rfl)
  rw [lg_entry_eq]
  generalize (lg_sl ([.ref mo, .int a1, .int a2, .int a3]) ++ List.replicate (4 - (lg_sl ([.ref mo, .int a1, .int a2, .int a3])).length) Slot.unset).toArray = ls at hl ⊢
  have hl : lv_has ls 4 [(0, .ref mo), (1, .int a1), (2, .int a2), (3, .int a3)] := hl
  refine lv_aload_n hx hb dX12_flow_0 rfl (lv_at hl 0 rfl) ?_
  refine lv_iconst (v := 0) hx hb dX12_flow_1 (by decide) ?_
  refine va_put (ci := 12) (v := .int 0) (ty := .int) (C := RX12) (T := TX12) (N := 34) hx hb hts (fun _ h => List.mem_cons_of_mem _ (List.mem_append_right _ h)) tyX12 tyX12_ok nmX12 hown hK.1 hP hD hS 0 rfl rfl 0 (by decide) (hts (.fieldLink RX12 85 "CutAtlasModel" "thrown" "I") (by decide +kernel)) (fun _ h9 => h9) rfl (by decide +kernel) rfl rfl (Nat.le_of_ble_eq_true rfl) dX12_flow_2 (fun H locs hP hD hS => ?_)
  have hP : va_P D vwCl [(mo, .inr (12, [.int 0, .int 0, .long 0, .int 0, .int 0, .ref g5, .ref g6, .ref g7, .ref g8, .ref g9, .ref g10, .int 0, .ref g12, .ref g13, .ref g14, .ref g15, .ref g16, .ref g17, .ref g18, .ref g19, .ref g20, .int (-9), .ref g22, .ref g23, .ref g24, .int 0, .int 0, .int 0, .int 0, .ref g29, .ref g30, .ref g31, .ref g32, .ref g33]))] H := hP
  have hD : va_D A [(mo, .inr (12, [.int 0, .int 0, .long 0, .int 0, .int 0, .ref g5, .ref g6, .ref g7, .ref g8, .ref g9, .ref g10, .int 0, .ref g12, .ref g13, .ref g14, .ref g15, .ref g16, .ref g17, .ref g18, .ref g19, .ref g20, .int (-9), .ref g22, .ref g23, .ref g24, .int 0, .int 0, .int 0, .int 0, .ref g29, .ref g30, .ref g31, .ref g32, .ref g33]))] := hD
  refine lv_aload_n hx hb dX12_flow_5 rfl (lv_at hl 0 rfl) ?_
  refine lv_iload_n hx hb dX12_flow_6 rfl (lv_at hl 1 rfl) ?_
  refine lv_iload_n hx hb dX12_flow_7 rfl (lv_at hl 2 rfl) ?_
  have hPc := hP.sub (ws' := [(mo, .inr (12, [.int 0, .int 0, .long 0, .int 0, .int 0, .ref g5, .ref g6, .ref g7, .ref g8, .ref g9, .ref g10, .int 0, .ref g12, .ref g13, .ref g14, .ref g15, .ref g16, .ref g17, .ref g18, .ref g19, .ref g20, .int (-9), .ref g22, .ref g23, .ref g24, .int 0, .int 0, .int 0, .int 0, .ref g29, .ref g30, .ref g31, .ref g32, .ref g33]))]) [0] rfl
  have hDc := hD.sub (ws' := [(mo, .inr (12, [.int 0, .int 0, .long 0, .int 0, .int 0, .ref g5, .ref g6, .ref g7, .ref g8, .ref g9, .ref g10, .int 0, .ref g12, .ref g13, .ref g14, .ref g15, .ref g16, .ref g17, .ref g18, .ref g19, .ref g20, .int (-9), .ref g22, .ref g23, .ref g24, .int 0, .int 0, .int 0, .int 0, .ref g29, .ref g30, .ref g31, .ref g32, .ref g33]))]) [0] (by decide) rfl
  have hDw : va_D (fun _ => True) [(mo, .inr (12, [.int 0, .int 0, .long 0, .int 0, .int 0, .ref g5, .ref g6, .ref g7, .ref g8, .ref g9, .ref g10, .int 0, .ref g12, .ref g13, .ref g14, .ref g15, .ref g16, .ref g17, .ref g18, .ref g19, .ref g20, .int (-9), .ref g22, .ref g23, .ref g24, .int 0, .int 0, .int 0, .int 0, .ref g29, .ref g30, .ref g31, .ref g32, .ref g33]))] := hDc.weaken (fun _ _ _ _ => trivial)
  have hFc := va_free (wc := []) hD hS hA [] rfl
  refine va_calli (va_runV (As := [.int a1, .int a2]) (rest := []) ⟨hx, hb, hml, hown, hts⟩ (c_X12_arePlaces l D cy H.size mo g5 g6 g7 g8 g9 g10 g12 g13 g14 g15 g16 g17 g18 g19 g20 g22 g23 g24 g29 g30 g31 g32 g33 a1 a2) (cwV 2 hts gX12_flow_X12_arePlaces rfl rfl rfl (by decide +kernel) ⟨Nat.le_of_ble_eq_true rfl, Nat.le_of_ble_eq_true rfl⟩) ⟨bl_, va_recv hK.1 hPc (ci := 12) (q0 := 0) rfl rfl, fun U hU hW => ⟨rfl, by rw [hU], by rw [hU]; exact hPc, kk_mv hW hK, hDw⟩⟩ rfl rfl hl.1 rfl (lv_room (Nat.le_of_ble_eq_true rfl)) dX12_flow_8 ⟨Nat.le_of_ble_eq_true rfl, Nat.le_of_ble_eq_true rfl⟩) hS (fun q _ h => hFc q h) hFc (fun r_1 u t H locs ht hvm hw hB hz1 hk1 hS => ?_)
  have hP := ro_keep hP hk1
  have hP : va_P D vwCl [(mo, .inr (12, [.int 0, .int 0, .long 0, .int 0, .int 0, .ref g5, .ref g6, .ref g7, .ref g8, .ref g9, .ref g10, .int 0, .ref g12, .ref g13, .ref g14, .ref g15, .ref g16, .ref g17, .ref g18, .ref g19, .ref g20, .int (-9), .ref g22, .ref g23, .ref g24, .int 0, .int 0, .int 0, .int 0, .ref g29, .ref g30, .ref g31, .ref g32, .ref g33]))] H := hP
  have e_ := hw.symm
  subst e_
  refine lv_if_eq (tgt := 42) hx hb dX12_flow_11 (by decide) (fun c_2 => ?_) (fun c_2 => ?_)
  · have _ := c_2
    refine lv_ldc (v := (-1000000)) hx hb hown (hts (.constant RX12 187 (-1000000)) (by decide +kernel)) dX12_flow_42 ?_
    exact W.iret (v := (-1000000)) hx hb hr (fun t ht hW => ⟨⟨(-1000000), (), rfl, rfl, trivial⟩, hS.F ht⟩) hS.2.2 dX12_flow_44
  · exact absurd c_2 (by decide)

set_option maxHeartbeats 4000000 in
set_option maxRecDepth 100000 in
theorem c_X12_between (l : Launch) (D : va_G) (cy : Nat → ClassId) (sz : Nat) (mo : Nat) (g5 : Nat) (g6 : Nat) (g7 : Nat) (g8 : Nat) (g9 : Nat) (g10 : Nat) (g12 : Nat) (g13 : Nat) (g14 : Nat) (g15 : Nat) (g16 : Nat) (g17 : Nat) (g18 : Nat) (g19 : Nat) (g20 : Nat) (g22 : Nat) (g23 : Nat) (g24 : Nat) (g29 : Nat) (g30 : Nat) (g31 : Nat) (g32 : Nat) (g33 : Nat) (a1 : Int32) (a2 : Int32) : Met l yX12_between wsX12_between ({ frames := 1, cells := 0, slots := 0, locals := 22 }) (va_Pc [.ref mo, .int a1, .int a2] (fun U => U.heap.size = sz ∧ va_P D vwCl [(mo, .inr (12, [.int 0, .int 0, .long 0, .int 0, .int 0, .ref g5, .ref g6, .ref g7, .ref g8, .ref g9, .ref g10, .int 0, .ref g12, .ref g13, .ref g14, .ref g15, .ref g16, .ref g17, .ref g18, .ref g19, .ref g20, .int (-9), .ref g22, .ref g23, .ref g24, .int 0, .int 0, .int 0, .int 0, .ref g29, .ref g30, .ref g31, .ref g32, .ref g33]))] U.heap ∧ kk_ D cy U ∧ va_D (fun _ => True) [(mo, .inr (12, [.int 0, .int 0, .long 0, .int 0, .int 0, .ref g5, .ref g6, .ref g7, .ref g8, .ref g9, .ref g10, .int 0, .ref g12, .ref g13, .ref g14, .ref g15, .ref g16, .ref g17, .ref g18, .ref g19, .ref g20, .int (-9), .ref g22, .ref g23, .ref g24, .int 0, .int 0, .int 0, .int 0, .ref g29, .ref g30, .ref g31, .ref g32, .ref g33]))])) (va_Qi (fun (r : Int32) (_ : Unit) => r = (-2)) (fun (_ : Unit) (_ : State) => True) (va_A [(mo, .inr (12, [.int 0, .int 0, .long 0, .int 0, .int 0, .ref g5, .ref g6, .ref g7, .ref g8, .ref g9, .ref g10, .int 0, .ref g12, .ref g13, .ref g14, .ref g15, .ref g16, .ref g17, .ref g18, .ref g19, .ref g20, .int (-9), .ref g22, .ref g23, .ref g24, .int 0, .int 0, .int 0, .int 0, .ref g29, .ref g30, .ref g31, .ref g32, .ref g33]))] sz)) 0 0 (va_A [(mo, .inr (12, [.int 0, .int 0, .long 0, .int 0, .int 0, .ref g5, .ref g6, .ref g7, .ref g8, .ref g9, .ref g10, .int 0, .ref g12, .ref g13, .ref g14, .ref g15, .ref g16, .ref g17, .ref g18, .ref g19, .ref g20, .int (-9), .ref g22, .ref g23, .ref g24, .int 0, .int 0, .int 0, .int 0, .ref g29, .ref g30, .ref g31, .ref g32, .ref g33]))] sz) := by
  refine Met.ofW (cc := cX12_between) (maxL := 3) (ret := (some .int)) (by decide) rfl ?_
  intro p e s m args below meth c s₁ B hml hv
  obtain ⟨rfl, hsz, hP, hK, hD0⟩ := hv
  have hx := B.exec
  have hb := B.bytes
  have hr := B.returns
  have hts := atoms_spec (ws := wsX12_between) B.pre
  have hown : s.vm.findClass RX12 = some m.cls := findClass_of_methodNamed B.named
  have hlocks := B.notSynchronized
  subst hsz
  have hD := hD0.self (sz := s.heap.size)
  generalize hAe : va_A [(mo, .inr (12, [.int 0, .int 0, .long 0, .int 0, .int 0, .ref g5, .ref g6, .ref g7, .ref g8, .ref g9, .ref g10, .int 0, .ref g12, .ref g13, .ref g14, .ref g15, .ref g16, .ref g17, .ref g18, .ref g19, .ref g20, .int (-9), .ref g22, .ref g23, .ref g24, .int 0, .int 0, .int 0, .int 0, .ref g29, .ref g30, .ref g31, .ref g32, .ref g33]))] s.heap.size = A at hD ⊢
  have hA : ∀ q : Nat, s.heap.size ≤ q → A q := fun q h => by rw [← hAe]; exact Or.inr h
  have hS : va_S A s.heap s.heap [] := va_S.rf
  have hl := lv_entry ([.ref mo, .int a1, .int a2]) (n := 3) (Nat.le_of_ble_eq_true rfl)
  rw [lg_entry_eq]
  generalize (lg_sl ([.ref mo, .int a1, .int a2]) ++ List.replicate (3 - (lg_sl ([.ref mo, .int a1, .int a2])).length) Slot.unset).toArray = ls at hl ⊢
  have hl : lv_has ls 3 [(0, .ref mo), (1, .int a1), (2, .int a2)] := hl
  refine lv_aload_n hx hb dX12_between_0 rfl (lv_at hl 0 rfl) ?_
  refine lv_iconst (v := 0) hx hb dX12_between_1 (by decide) ?_
  refine va_put (ci := 12) (v := .int 0) (ty := .int) (C := RX12) (T := TX12) (N := 34) hx hb hts (fun _ h => List.mem_cons_of_mem _ (List.mem_append_right _ h)) tyX12 tyX12_ok nmX12 hown hK.1 hP hD hS 0 rfl rfl 0 (by decide) (hts (.fieldLink RX12 85 "CutAtlasModel" "thrown" "I") (by decide +kernel)) (fun _ h9 => h9) rfl (by decide +kernel) rfl rfl (Nat.le_of_ble_eq_true rfl) dX12_between_2 (fun H locs hP hD hS => ?_)
  have hP : va_P D vwCl [(mo, .inr (12, [.int 0, .int 0, .long 0, .int 0, .int 0, .ref g5, .ref g6, .ref g7, .ref g8, .ref g9, .ref g10, .int 0, .ref g12, .ref g13, .ref g14, .ref g15, .ref g16, .ref g17, .ref g18, .ref g19, .ref g20, .int (-9), .ref g22, .ref g23, .ref g24, .int 0, .int 0, .int 0, .int 0, .ref g29, .ref g30, .ref g31, .ref g32, .ref g33]))] H := hP
  have hD : va_D A [(mo, .inr (12, [.int 0, .int 0, .long 0, .int 0, .int 0, .ref g5, .ref g6, .ref g7, .ref g8, .ref g9, .ref g10, .int 0, .ref g12, .ref g13, .ref g14, .ref g15, .ref g16, .ref g17, .ref g18, .ref g19, .ref g20, .int (-9), .ref g22, .ref g23, .ref g24, .int 0, .int 0, .int 0, .int 0, .ref g29, .ref g30, .ref g31, .ref g32, .ref g33]))] := hD
  refine lv_aload_n hx hb dX12_between_5 rfl (lv_at hl 0 rfl) ?_
  have hPc := hP.sub (ws' := [(mo, .inr (12, [.int 0, .int 0, .long 0, .int 0, .int 0, .ref g5, .ref g6, .ref g7, .ref g8, .ref g9, .ref g10, .int 0, .ref g12, .ref g13, .ref g14, .ref g15, .ref g16, .ref g17, .ref g18, .ref g19, .ref g20, .int (-9), .ref g22, .ref g23, .ref g24, .int 0, .int 0, .int 0, .int 0, .ref g29, .ref g30, .ref g31, .ref g32, .ref g33]))]) [0] rfl
  have hDc := hD.sub (ws' := [(mo, .inr (12, [.int 0, .int 0, .long 0, .int 0, .int 0, .ref g5, .ref g6, .ref g7, .ref g8, .ref g9, .ref g10, .int 0, .ref g12, .ref g13, .ref g14, .ref g15, .ref g16, .ref g17, .ref g18, .ref g19, .ref g20, .int (-9), .ref g22, .ref g23, .ref g24, .int 0, .int 0, .int 0, .int 0, .ref g29, .ref g30, .ref g31, .ref g32, .ref g33]))]) [0] (by decide) rfl
  have hDw : va_D (fun _ => True) [(mo, .inr (12, [.int 0, .int 0, .long 0, .int 0, .int 0, .ref g5, .ref g6, .ref g7, .ref g8, .ref g9, .ref g10, .int 0, .ref g12, .ref g13, .ref g14, .ref g15, .ref g16, .ref g17, .ref g18, .ref g19, .ref g20, .int (-9), .ref g22, .ref g23, .ref g24, .int 0, .int 0, .int 0, .int 0, .ref g29, .ref g30, .ref g31, .ref g32, .ref g33]))] := hDc.weaken (fun _ _ _ _ => trivial)
  have hFc := va_free (wc := []) hD hS hA [] rfl
  refine va_calli (va_runV (As := []) (rest := []) ⟨hx, hb, hml, hown, hts⟩ (c_X12_isWhole l D cy H.size mo g5 g6 g7 g8 g9 g10 g12 g13 g14 g15 g16 g17 g18 g19 g20 g22 g23 g24 g29 g30 g31 g32 g33) (cwV 0 hts gX12_between_X12_isWhole rfl rfl rfl (by decide +kernel) ⟨Nat.le_of_ble_eq_true rfl, Nat.le_of_ble_eq_true rfl⟩) ⟨bl_, va_recv hK.1 hPc (ci := 12) (q0 := 0) rfl rfl, fun U hU hW => ⟨rfl, by rw [hU], by rw [hU]; exact hPc, kk_mv hW hK, hDw⟩⟩ rfl rfl hl.1 rfl (lv_room (Nat.le_of_ble_eq_true rfl)) dX12_between_6 ⟨Nat.le_of_ble_eq_true rfl, Nat.le_of_ble_eq_true rfl⟩) hS (fun q _ h => hFc q h) hFc (fun r_1 u t H locs ht hvm hw hB hz1 hk1 hS => ?_)
  have hP := ro_keep hP hk1
  have hP : va_P D vwCl [(mo, .inr (12, [.int 0, .int 0, .long 0, .int 0, .int 0, .ref g5, .ref g6, .ref g7, .ref g8, .ref g9, .ref g10, .int 0, .ref g12, .ref g13, .ref g14, .ref g15, .ref g16, .ref g17, .ref g18, .ref g19, .ref g20, .int (-9), .ref g22, .ref g23, .ref g24, .int 0, .int 0, .int 0, .int 0, .ref g29, .ref g30, .ref g31, .ref g32, .ref g33]))] H := hP
  have e_ := hw.symm
  subst e_
  refine lv_if_ne (tgt := 15) hx hb dX12_between_9 (by decide) (fun c_2 => ?_) (fun c_2 => ?_)
  · exact absurd c_2 (by decide)
  · have _ := c_2
    refine lv_bipush (v := (-2)) hx hb dX12_between_12 (by decide) ?_
    exact W.iret (v := (-2)) hx hb hr (fun t ht hW => ⟨⟨(-2), (), rfl, rfl, trivial⟩, hS.F ht⟩) hS.2.2 dX12_between_14

set_option maxHeartbeats 4000000 in
set_option maxRecDepth 100000 in
theorem c_X12_least (l : Launch) (D : va_G) (cy : Nat → ClassId) (sz : Nat) (mo : Nat) (g5 : Nat) (g6 : Nat) (g7 : Nat) (g8 : Nat) (g9 : Nat) (g10 : Nat) (g12 : Nat) (g13 : Nat) (g14 : Nat) (g15 : Nat) (g16 : Nat) (g17 : Nat) (g18 : Nat) (g19 : Nat) (g20 : Nat) (g22 : Nat) (g23 : Nat) (g24 : Nat) (g29 : Nat) (g30 : Nat) (g31 : Nat) (g32 : Nat) (g33 : Nat) : Met l yX12_least wsX12_least ({ frames := 1, cells := 0, slots := 0, locals := 22 }) (va_Pc [.ref mo] (fun U => U.heap.size = sz ∧ va_P D vwCl [(mo, .inr (12, [.int 0, .int 0, .long 0, .int 0, .int 0, .ref g5, .ref g6, .ref g7, .ref g8, .ref g9, .ref g10, .int 0, .ref g12, .ref g13, .ref g14, .ref g15, .ref g16, .ref g17, .ref g18, .ref g19, .ref g20, .int (-9), .ref g22, .ref g23, .ref g24, .int 0, .int 0, .int 0, .int 0, .ref g29, .ref g30, .ref g31, .ref g32, .ref g33]))] U.heap ∧ kk_ D cy U ∧ va_D (fun _ => True) [(mo, .inr (12, [.int 0, .int 0, .long 0, .int 0, .int 0, .ref g5, .ref g6, .ref g7, .ref g8, .ref g9, .ref g10, .int 0, .ref g12, .ref g13, .ref g14, .ref g15, .ref g16, .ref g17, .ref g18, .ref g19, .ref g20, .int (-9), .ref g22, .ref g23, .ref g24, .int 0, .int 0, .int 0, .int 0, .ref g29, .ref g30, .ref g31, .ref g32, .ref g33]))])) (va_Qi (fun (r : Int32) (_ : Unit) => r = (-2)) (fun (_ : Unit) (_ : State) => True) (va_A [(mo, .inr (12, [.int 0, .int 0, .long 0, .int 0, .int 0, .ref g5, .ref g6, .ref g7, .ref g8, .ref g9, .ref g10, .int 0, .ref g12, .ref g13, .ref g14, .ref g15, .ref g16, .ref g17, .ref g18, .ref g19, .ref g20, .int (-9), .ref g22, .ref g23, .ref g24, .int 0, .int 0, .int 0, .int 0, .ref g29, .ref g30, .ref g31, .ref g32, .ref g33]))] sz)) 0 0 (va_A [(mo, .inr (12, [.int 0, .int 0, .long 0, .int 0, .int 0, .ref g5, .ref g6, .ref g7, .ref g8, .ref g9, .ref g10, .int 0, .ref g12, .ref g13, .ref g14, .ref g15, .ref g16, .ref g17, .ref g18, .ref g19, .ref g20, .int (-9), .ref g22, .ref g23, .ref g24, .int 0, .int 0, .int 0, .int 0, .ref g29, .ref g30, .ref g31, .ref g32, .ref g33]))] sz) := by
  refine Met.ofW (cc := cX12_least) (maxL := 1) (ret := (some .int)) (by decide) rfl ?_
  intro p e s m args below meth c s₁ B hml hv
  obtain ⟨rfl, hsz, hP, hK, hD0⟩ := hv
  have hx := B.exec
  have hb := B.bytes
  have hr := B.returns
  have hts := atoms_spec (ws := wsX12_least) B.pre
  have hown : s.vm.findClass RX12 = some m.cls := findClass_of_methodNamed B.named
  have hlocks := B.notSynchronized
  subst hsz
  have hD := hD0.self (sz := s.heap.size)
  generalize hAe : va_A [(mo, .inr (12, [.int 0, .int 0, .long 0, .int 0, .int 0, .ref g5, .ref g6, .ref g7, .ref g8, .ref g9, .ref g10, .int 0, .ref g12, .ref g13, .ref g14, .ref g15, .ref g16, .ref g17, .ref g18, .ref g19, .ref g20, .int (-9), .ref g22, .ref g23, .ref g24, .int 0, .int 0, .int 0, .int 0, .ref g29, .ref g30, .ref g31, .ref g32, .ref g33]))] s.heap.size = A at hD ⊢
  have hA : ∀ q : Nat, s.heap.size ≤ q → A q := fun q h => by rw [← hAe]; exact Or.inr h
  have hS : va_S A s.heap s.heap [] := va_S.rf
  have hl := lv_entry ([.ref mo]) (n := 1) (Nat.le_of_ble_eq_true rfl)
  rw [lg_entry_eq]
  generalize (lg_sl ([.ref mo]) ++ List.replicate (1 - (lg_sl ([.ref mo])).length) Slot.unset).toArray = ls at hl ⊢
  have hl : lv_has ls 1 [(0, .ref mo)] := hl
  refine lv_aload_n hx hb dX12_least_0 rfl (lv_at hl 0 rfl) ?_
  refine lv_iconst (v := 0) hx hb dX12_least_1 (by decide) ?_
  refine va_put (ci := 12) (v := .int 0) (ty := .int) (C := RX12) (T := TX12) (N := 34) hx hb hts (fun _ h => List.mem_cons_of_mem _ (List.mem_append_right _ h)) tyX12 tyX12_ok nmX12 hown hK.1 hP hD hS 0 rfl rfl 0 (by decide) (hts (.fieldLink RX12 85 "CutAtlasModel" "thrown" "I") (by decide +kernel)) (fun _ h9 => h9) rfl (by decide +kernel) rfl rfl (Nat.le_of_ble_eq_true rfl) dX12_least_2 (fun H locs hP hD hS => ?_)
  have hP : va_P D vwCl [(mo, .inr (12, [.int 0, .int 0, .long 0, .int 0, .int 0, .ref g5, .ref g6, .ref g7, .ref g8, .ref g9, .ref g10, .int 0, .ref g12, .ref g13, .ref g14, .ref g15, .ref g16, .ref g17, .ref g18, .ref g19, .ref g20, .int (-9), .ref g22, .ref g23, .ref g24, .int 0, .int 0, .int 0, .int 0, .ref g29, .ref g30, .ref g31, .ref g32, .ref g33]))] H := hP
  have hD : va_D A [(mo, .inr (12, [.int 0, .int 0, .long 0, .int 0, .int 0, .ref g5, .ref g6, .ref g7, .ref g8, .ref g9, .ref g10, .int 0, .ref g12, .ref g13, .ref g14, .ref g15, .ref g16, .ref g17, .ref g18, .ref g19, .ref g20, .int (-9), .ref g22, .ref g23, .ref g24, .int 0, .int 0, .int 0, .int 0, .ref g29, .ref g30, .ref g31, .ref g32, .ref g33]))] := hD
  refine lv_aload_n hx hb dX12_least_5 rfl (lv_at hl 0 rfl) ?_
  have hPc := hP.sub (ws' := [(mo, .inr (12, [.int 0, .int 0, .long 0, .int 0, .int 0, .ref g5, .ref g6, .ref g7, .ref g8, .ref g9, .ref g10, .int 0, .ref g12, .ref g13, .ref g14, .ref g15, .ref g16, .ref g17, .ref g18, .ref g19, .ref g20, .int (-9), .ref g22, .ref g23, .ref g24, .int 0, .int 0, .int 0, .int 0, .ref g29, .ref g30, .ref g31, .ref g32, .ref g33]))]) [0] rfl
  have hDc := hD.sub (ws' := [(mo, .inr (12, [.int 0, .int 0, .long 0, .int 0, .int 0, .ref g5, .ref g6, .ref g7, .ref g8, .ref g9, .ref g10, .int 0, .ref g12, .ref g13, .ref g14, .ref g15, .ref g16, .ref g17, .ref g18, .ref g19, .ref g20, .int (-9), .ref g22, .ref g23, .ref g24, .int 0, .int 0, .int 0, .int 0, .ref g29, .ref g30, .ref g31, .ref g32, .ref g33]))]) [0] (by decide) rfl
  have hDw : va_D (fun _ => True) [(mo, .inr (12, [.int 0, .int 0, .long 0, .int 0, .int 0, .ref g5, .ref g6, .ref g7, .ref g8, .ref g9, .ref g10, .int 0, .ref g12, .ref g13, .ref g14, .ref g15, .ref g16, .ref g17, .ref g18, .ref g19, .ref g20, .int (-9), .ref g22, .ref g23, .ref g24, .int 0, .int 0, .int 0, .int 0, .ref g29, .ref g30, .ref g31, .ref g32, .ref g33]))] := hDc.weaken (fun _ _ _ _ => trivial)
  have hFc := va_free (wc := []) hD hS hA [] rfl
  refine va_calli (va_runV (As := []) (rest := []) ⟨hx, hb, hml, hown, hts⟩ (c_X12_isWhole l D cy H.size mo g5 g6 g7 g8 g9 g10 g12 g13 g14 g15 g16 g17 g18 g19 g20 g22 g23 g24 g29 g30 g31 g32 g33) (cwV 0 hts gX12_least_X12_isWhole rfl rfl rfl (by decide +kernel) ⟨Nat.le_of_ble_eq_true rfl, Nat.le_of_ble_eq_true rfl⟩) ⟨bl_, va_recv hK.1 hPc (ci := 12) (q0 := 0) rfl rfl, fun U hU hW => ⟨rfl, by rw [hU], by rw [hU]; exact hPc, kk_mv hW hK, hDw⟩⟩ rfl rfl hl.1 rfl (lv_room (Nat.le_of_ble_eq_true rfl)) dX12_least_6 ⟨Nat.le_of_ble_eq_true rfl, Nat.le_of_ble_eq_true rfl⟩) hS (fun q _ h => hFc q h) hFc (fun r_1 u t H locs ht hvm hw hB hz1 hk1 hS => ?_)
  have hP := ro_keep hP hk1
  have hP : va_P D vwCl [(mo, .inr (12, [.int 0, .int 0, .long 0, .int 0, .int 0, .ref g5, .ref g6, .ref g7, .ref g8, .ref g9, .ref g10, .int 0, .ref g12, .ref g13, .ref g14, .ref g15, .ref g16, .ref g17, .ref g18, .ref g19, .ref g20, .int (-9), .ref g22, .ref g23, .ref g24, .int 0, .int 0, .int 0, .int 0, .ref g29, .ref g30, .ref g31, .ref g32, .ref g33]))] H := hP
  have e_ := hw.symm
  subst e_
  refine lv_if_eq (tgt := 19) hx hb dX12_least_9 (by decide) (fun c_2 => ?_) (fun c_2 => ?_)
  · have _ := c_2
    refine lv_bipush (v := (-2)) hx hb dX12_least_19 (by decide) ?_
    exact W.iret (v := (-2)) hx hb hr (fun t ht hW => ⟨⟨(-2), (), rfl, rfl, trivial⟩, hS.F ht⟩) hS.2.2 dX12_least_21
  · exact absurd c_2 (by decide)

set_option maxHeartbeats 4000000 in
set_option maxRecDepth 100000 in
theorem c_X12_cuts (l : Launch) (D : va_G) (cy : Nat → ClassId) (sz : Nat) (mo : Nat) (g5 : Nat) (g6 : Nat) (g7 : Nat) (g8 : Nat) (g9 : Nat) (g10 : Nat) (g12 : Nat) (g13 : Nat) (g14 : Nat) (g15 : Nat) (g16 : Nat) (g17 : Nat) (g18 : Nat) (g19 : Nat) (g20 : Nat) (g22 : Nat) (g23 : Nat) (g24 : Nat) (g29 : Nat) (g30 : Nat) (g31 : Nat) (g32 : Nat) (g33 : Nat) : Met l yX12_cuts wsX12_cuts ({ frames := 1, cells := 0, slots := 0, locals := 22 }) (va_Pc [.ref mo] (fun U => U.heap.size = sz ∧ va_P D vwCl [(mo, .inr (12, [.int 0, .int 0, .long 0, .int 0, .int 0, .ref g5, .ref g6, .ref g7, .ref g8, .ref g9, .ref g10, .int 0, .ref g12, .ref g13, .ref g14, .ref g15, .ref g16, .ref g17, .ref g18, .ref g19, .ref g20, .int (-9), .ref g22, .ref g23, .ref g24, .int 0, .int 0, .int 0, .int 0, .ref g29, .ref g30, .ref g31, .ref g32, .ref g33]))] U.heap ∧ kk_ D cy U ∧ va_D (fun _ => True) [(mo, .inr (12, [.int 0, .int 0, .long 0, .int 0, .int 0, .ref g5, .ref g6, .ref g7, .ref g8, .ref g9, .ref g10, .int 0, .ref g12, .ref g13, .ref g14, .ref g15, .ref g16, .ref g17, .ref g18, .ref g19, .ref g20, .int (-9), .ref g22, .ref g23, .ref g24, .int 0, .int 0, .int 0, .int 0, .ref g29, .ref g30, .ref g31, .ref g32, .ref g33]))])) (va_Qi (fun (r : Int32) (_ : Unit) => r = (-2)) (fun (_ : Unit) (_ : State) => True) (va_A [(mo, .inr (12, [.int 0, .int 0, .long 0, .int 0, .int 0, .ref g5, .ref g6, .ref g7, .ref g8, .ref g9, .ref g10, .int 0, .ref g12, .ref g13, .ref g14, .ref g15, .ref g16, .ref g17, .ref g18, .ref g19, .ref g20, .int (-9), .ref g22, .ref g23, .ref g24, .int 0, .int 0, .int 0, .int 0, .ref g29, .ref g30, .ref g31, .ref g32, .ref g33]))] sz)) 0 0 (va_A [(mo, .inr (12, [.int 0, .int 0, .long 0, .int 0, .int 0, .ref g5, .ref g6, .ref g7, .ref g8, .ref g9, .ref g10, .int 0, .ref g12, .ref g13, .ref g14, .ref g15, .ref g16, .ref g17, .ref g18, .ref g19, .ref g20, .int (-9), .ref g22, .ref g23, .ref g24, .int 0, .int 0, .int 0, .int 0, .ref g29, .ref g30, .ref g31, .ref g32, .ref g33]))] sz) := by
  refine Met.ofW (cc := cX12_cuts) (maxL := 1) (ret := (some .int)) (by decide) rfl ?_
  intro p e s m args below meth c s₁ B hml hv
  obtain ⟨rfl, hsz, hP, hK, hD0⟩ := hv
  have hx := B.exec
  have hb := B.bytes
  have hr := B.returns
  have hts := atoms_spec (ws := wsX12_cuts) B.pre
  have hown : s.vm.findClass RX12 = some m.cls := findClass_of_methodNamed B.named
  have hlocks := B.notSynchronized
  subst hsz
  have hD := hD0.self (sz := s.heap.size)
  generalize hAe : va_A [(mo, .inr (12, [.int 0, .int 0, .long 0, .int 0, .int 0, .ref g5, .ref g6, .ref g7, .ref g8, .ref g9, .ref g10, .int 0, .ref g12, .ref g13, .ref g14, .ref g15, .ref g16, .ref g17, .ref g18, .ref g19, .ref g20, .int (-9), .ref g22, .ref g23, .ref g24, .int 0, .int 0, .int 0, .int 0, .ref g29, .ref g30, .ref g31, .ref g32, .ref g33]))] s.heap.size = A at hD ⊢
  have hA : ∀ q : Nat, s.heap.size ≤ q → A q := fun q h => by rw [← hAe]; exact Or.inr h
  have hS : va_S A s.heap s.heap [] := va_S.rf
  have hl := lv_entry ([.ref mo]) (n := 1) (Nat.le_of_ble_eq_true rfl)
  rw [lg_entry_eq]
  generalize (lg_sl ([.ref mo]) ++ List.replicate (1 - (lg_sl ([.ref mo])).length) Slot.unset).toArray = ls at hl ⊢
  have hl : lv_has ls 1 [(0, .ref mo)] := hl
  refine lv_aload_n hx hb dX12_cuts_0 rfl (lv_at hl 0 rfl) ?_
  refine lv_iconst (v := 0) hx hb dX12_cuts_1 (by decide) ?_
  refine va_put (ci := 12) (v := .int 0) (ty := .int) (C := RX12) (T := TX12) (N := 34) hx hb hts (fun _ h => List.mem_cons_of_mem _ (List.mem_append_right _ h)) tyX12 tyX12_ok nmX12 hown hK.1 hP hD hS 0 rfl rfl 0 (by decide) (hts (.fieldLink RX12 85 "CutAtlasModel" "thrown" "I") (by decide +kernel)) (fun _ h9 => h9) rfl (by decide +kernel) rfl rfl (Nat.le_of_ble_eq_true rfl) dX12_cuts_2 (fun H locs hP hD hS => ?_)
  have hP : va_P D vwCl [(mo, .inr (12, [.int 0, .int 0, .long 0, .int 0, .int 0, .ref g5, .ref g6, .ref g7, .ref g8, .ref g9, .ref g10, .int 0, .ref g12, .ref g13, .ref g14, .ref g15, .ref g16, .ref g17, .ref g18, .ref g19, .ref g20, .int (-9), .ref g22, .ref g23, .ref g24, .int 0, .int 0, .int 0, .int 0, .ref g29, .ref g30, .ref g31, .ref g32, .ref g33]))] H := hP
  have hD : va_D A [(mo, .inr (12, [.int 0, .int 0, .long 0, .int 0, .int 0, .ref g5, .ref g6, .ref g7, .ref g8, .ref g9, .ref g10, .int 0, .ref g12, .ref g13, .ref g14, .ref g15, .ref g16, .ref g17, .ref g18, .ref g19, .ref g20, .int (-9), .ref g22, .ref g23, .ref g24, .int 0, .int 0, .int 0, .int 0, .ref g29, .ref g30, .ref g31, .ref g32, .ref g33]))] := hD
  refine lv_aload_n hx hb dX12_cuts_5 rfl (lv_at hl 0 rfl) ?_
  have hPc := hP.sub (ws' := [(mo, .inr (12, [.int 0, .int 0, .long 0, .int 0, .int 0, .ref g5, .ref g6, .ref g7, .ref g8, .ref g9, .ref g10, .int 0, .ref g12, .ref g13, .ref g14, .ref g15, .ref g16, .ref g17, .ref g18, .ref g19, .ref g20, .int (-9), .ref g22, .ref g23, .ref g24, .int 0, .int 0, .int 0, .int 0, .ref g29, .ref g30, .ref g31, .ref g32, .ref g33]))]) [0] rfl
  have hDc := hD.sub (ws' := [(mo, .inr (12, [.int 0, .int 0, .long 0, .int 0, .int 0, .ref g5, .ref g6, .ref g7, .ref g8, .ref g9, .ref g10, .int 0, .ref g12, .ref g13, .ref g14, .ref g15, .ref g16, .ref g17, .ref g18, .ref g19, .ref g20, .int (-9), .ref g22, .ref g23, .ref g24, .int 0, .int 0, .int 0, .int 0, .ref g29, .ref g30, .ref g31, .ref g32, .ref g33]))]) [0] (by decide) rfl
  have hDw : va_D (fun _ => True) [(mo, .inr (12, [.int 0, .int 0, .long 0, .int 0, .int 0, .ref g5, .ref g6, .ref g7, .ref g8, .ref g9, .ref g10, .int 0, .ref g12, .ref g13, .ref g14, .ref g15, .ref g16, .ref g17, .ref g18, .ref g19, .ref g20, .int (-9), .ref g22, .ref g23, .ref g24, .int 0, .int 0, .int 0, .int 0, .ref g29, .ref g30, .ref g31, .ref g32, .ref g33]))] := hDc.weaken (fun _ _ _ _ => trivial)
  have hFc := va_free (wc := []) hD hS hA [] rfl
  refine va_calli (va_runV (As := []) (rest := []) ⟨hx, hb, hml, hown, hts⟩ (c_X12_isWhole l D cy H.size mo g5 g6 g7 g8 g9 g10 g12 g13 g14 g15 g16 g17 g18 g19 g20 g22 g23 g24 g29 g30 g31 g32 g33) (cwV 0 hts gX12_cuts_X12_isWhole rfl rfl rfl (by decide +kernel) ⟨Nat.le_of_ble_eq_true rfl, Nat.le_of_ble_eq_true rfl⟩) ⟨bl_, va_recv hK.1 hPc (ci := 12) (q0 := 0) rfl rfl, fun U hU hW => ⟨rfl, by rw [hU], by rw [hU]; exact hPc, kk_mv hW hK, hDw⟩⟩ rfl rfl hl.1 rfl (lv_room (Nat.le_of_ble_eq_true rfl)) dX12_cuts_6 ⟨Nat.le_of_ble_eq_true rfl, Nat.le_of_ble_eq_true rfl⟩) hS (fun q _ h => hFc q h) hFc (fun r_1 u t H locs ht hvm hw hB hz1 hk1 hS => ?_)
  have hP := ro_keep hP hk1
  have hP : va_P D vwCl [(mo, .inr (12, [.int 0, .int 0, .long 0, .int 0, .int 0, .ref g5, .ref g6, .ref g7, .ref g8, .ref g9, .ref g10, .int 0, .ref g12, .ref g13, .ref g14, .ref g15, .ref g16, .ref g17, .ref g18, .ref g19, .ref g20, .int (-9), .ref g22, .ref g23, .ref g24, .int 0, .int 0, .int 0, .int 0, .ref g29, .ref g30, .ref g31, .ref g32, .ref g33]))] H := hP
  have e_ := hw.symm
  subst e_
  refine lv_if_ne (tgt := 15) hx hb dX12_cuts_9 (by decide) (fun c_2 => ?_) (fun c_2 => ?_)
  · exact absurd c_2 (by decide)
  · have _ := c_2
    refine lv_bipush (v := (-2)) hx hb dX12_cuts_12 (by decide) ?_
    exact W.iret (v := (-2)) hx hb hr (fun t ht hW => ⟨⟨(-2), (), rfl, rfl, trivial⟩, hS.F ht⟩) hS.2.2 dX12_cuts_14

set_option maxHeartbeats 4000000 in
set_option maxRecDepth 100000 in
theorem c_X12_undo (l : Launch) (D : va_G) (cy : Nat → ClassId) (sz : Nat) (mo : Nat) (g5 : Nat) (g6 : Nat) (g7 : Nat) (g8 : Nat) (g9 : Nat) (g10 : Nat) (g12 : Nat) (g13 : Nat) (g14 : Nat) (g15 : Nat) (g16 : Nat) (g17 : Nat) (g18 : Nat) (g19 : Nat) (g20 : Nat) (g22 : Nat) (g23 : Nat) (g24 : Nat) (g29 : Nat) (g30 : Nat) (g31 : Nat) (g32 : Nat) (g33 : Nat) : Met l yX12_undo wsX12_undo ({ frames := 0, cells := 0, slots := 0, locals := 0 }) (va_Pc [.ref mo] (fun U => U.heap.size = sz ∧ va_P D vwCl [(mo, .inr (12, [.int 0, .int 0, .long 0, .int 0, .int 0, .ref g5, .ref g6, .ref g7, .ref g8, .ref g9, .ref g10, .int 0, .ref g12, .ref g13, .ref g14, .ref g15, .ref g16, .ref g17, .ref g18, .ref g19, .ref g20, .int (-9), .ref g22, .ref g23, .ref g24, .int 0, .int 0, .int 0, .int 0, .ref g29, .ref g30, .ref g31, .ref g32, .ref g33]))] U.heap ∧ kk_ D cy U ∧ va_D (fun _ => True) [(mo, .inr (12, [.int 0, .int 0, .long 0, .int 0, .int 0, .ref g5, .ref g6, .ref g7, .ref g8, .ref g9, .ref g10, .int 0, .ref g12, .ref g13, .ref g14, .ref g15, .ref g16, .ref g17, .ref g18, .ref g19, .ref g20, .int (-9), .ref g22, .ref g23, .ref g24, .int 0, .int 0, .int 0, .int 0, .ref g29, .ref g30, .ref g31, .ref g32, .ref g33]))])) (va_Qi (fun (r : Int32) (_ : Unit) => r = (-2)) (fun (_ : Unit) (_ : State) => True) (va_A [(mo, .inr (12, [.int 0, .int 0, .long 0, .int 0, .int 0, .ref g5, .ref g6, .ref g7, .ref g8, .ref g9, .ref g10, .int 0, .ref g12, .ref g13, .ref g14, .ref g15, .ref g16, .ref g17, .ref g18, .ref g19, .ref g20, .int (-9), .ref g22, .ref g23, .ref g24, .int 0, .int 0, .int 0, .int 0, .ref g29, .ref g30, .ref g31, .ref g32, .ref g33]))] sz)) 0 0 (va_A [(mo, .inr (12, [.int 0, .int 0, .long 0, .int 0, .int 0, .ref g5, .ref g6, .ref g7, .ref g8, .ref g9, .ref g10, .int 0, .ref g12, .ref g13, .ref g14, .ref g15, .ref g16, .ref g17, .ref g18, .ref g19, .ref g20, .int (-9), .ref g22, .ref g23, .ref g24, .int 0, .int 0, .int 0, .int 0, .ref g29, .ref g30, .ref g31, .ref g32, .ref g33]))] sz) := by
  refine Met.ofW (cc := cX12_undo) (maxL := 3) (ret := (some .int)) (by decide) rfl ?_
  intro p e s m args below meth c s₁ B hml hv
  obtain ⟨rfl, hsz, hP, hK, hD0⟩ := hv
  have hx := B.exec
  have hb := B.bytes
  have hr := B.returns
  have hts := atoms_spec (ws := wsX12_undo) B.pre
  have hown : s.vm.findClass RX12 = some m.cls := findClass_of_methodNamed B.named
  have hlocks := B.notSynchronized
  subst hsz
  have hD := hD0.self (sz := s.heap.size)
  generalize hAe : va_A [(mo, .inr (12, [.int 0, .int 0, .long 0, .int 0, .int 0, .ref g5, .ref g6, .ref g7, .ref g8, .ref g9, .ref g10, .int 0, .ref g12, .ref g13, .ref g14, .ref g15, .ref g16, .ref g17, .ref g18, .ref g19, .ref g20, .int (-9), .ref g22, .ref g23, .ref g24, .int 0, .int 0, .int 0, .int 0, .ref g29, .ref g30, .ref g31, .ref g32, .ref g33]))] s.heap.size = A at hD ⊢
  have hA : ∀ q : Nat, s.heap.size ≤ q → A q := fun q h => by rw [← hAe]; exact Or.inr h
  have hS : va_S A s.heap s.heap [] := va_S.rf
  have hl := lv_entry ([.ref mo]) (n := 3) (Nat.le_of_ble_eq_true rfl)
  rw [lg_entry_eq]
  generalize (lg_sl ([.ref mo]) ++ List.replicate (3 - (lg_sl ([.ref mo])).length) Slot.unset).toArray = ls at hl ⊢
  have hl : lv_has ls 3 [(0, .ref mo)] := hl
  refine lv_aload_n hx hb dX12_undo_0 rfl (lv_at hl 0 rfl) ?_
  refine lv_iconst (v := 0) hx hb dX12_undo_1 (by decide) ?_
  refine va_put (ci := 12) (v := .int 0) (ty := .int) (C := RX12) (T := TX12) (N := 34) hx hb hts (fun _ h => List.mem_cons_of_mem _ (List.mem_append_right _ h)) tyX12 tyX12_ok nmX12 hown hK.1 hP hD hS 0 rfl rfl 0 (by decide) (hts (.fieldLink RX12 85 "CutAtlasModel" "thrown" "I") (by decide +kernel)) (fun _ h9 => h9) rfl (by decide +kernel) rfl rfl (Nat.le_of_ble_eq_true rfl) dX12_undo_2 (fun H locs hP hD hS => ?_)
  have hP : va_P D vwCl [(mo, .inr (12, [.int 0, .int 0, .long 0, .int 0, .int 0, .ref g5, .ref g6, .ref g7, .ref g8, .ref g9, .ref g10, .int 0, .ref g12, .ref g13, .ref g14, .ref g15, .ref g16, .ref g17, .ref g18, .ref g19, .ref g20, .int (-9), .ref g22, .ref g23, .ref g24, .int 0, .int 0, .int 0, .int 0, .ref g29, .ref g30, .ref g31, .ref g32, .ref g33]))] H := hP
  have hD : va_D A [(mo, .inr (12, [.int 0, .int 0, .long 0, .int 0, .int 0, .ref g5, .ref g6, .ref g7, .ref g8, .ref g9, .ref g10, .int 0, .ref g12, .ref g13, .ref g14, .ref g15, .ref g16, .ref g17, .ref g18, .ref g19, .ref g20, .int (-9), .ref g22, .ref g23, .ref g24, .int 0, .int 0, .int 0, .int 0, .ref g29, .ref g30, .ref g31, .ref g32, .ref g33]))] := hD
  refine lv_aload_n hx hb dX12_undo_5 rfl (lv_at hl 0 rfl) ?_
  refine va_get (ci := 12) (v := .int 0) (C := RX12) (T := TX12) (N := 34) hx hb hts (fun _ h => List.mem_cons_of_mem _ (List.mem_append_right _ h)) hown hK.1 hP 0 rfl rfl 11 (by decide) (hts (.fieldLink RX12 102 "CutAtlasModel" "undone" "I") (by decide +kernel)) (fun _ h9 => h9) rfl dX12_undo_6 ?_
  refine lv_if_ne (tgt := 15) hx hb dX12_undo_9 (by decide) (fun c_1 => ?_) (fun c_1 => ?_)
  · exact absurd c_1 (by decide)
  · have _ := c_1
    refine lv_bipush (v := (-2)) hx hb dX12_undo_12 (by decide) ?_
    exact W.iret (v := (-2)) hx hb hr (fun t ht hW => ⟨⟨(-2), (), rfl, rfl, trivial⟩, hS.F ht⟩) hS.2.2 dX12_undo_14

set_option maxHeartbeats 4000000 in
set_option maxRecDepth 100000 in
theorem c_X12_trace (l : Launch) (D : va_G) (cy : Nat → ClassId) (sz : Nat) (mo : Nat) (g5 : Nat) (g6 : Nat) (g7 : Nat) (g8 : Nat) (g9 : Nat) (g10 : Nat) (g12 : Nat) (g13 : Nat) (g14 : Nat) (g15 : Nat) (g16 : Nat) (g17 : Nat) (g18 : Nat) (g19 : Nat) (g20 : Nat) (g22 : Nat) (g23 : Nat) (g24 : Nat) (g29 : Nat) (g30 : Nat) (g31 : Nat) (g32 : Nat) (g33 : Nat) : Met l yX12_trace wsX12_trace ({ frames := 0, cells := 0, slots := 0, locals := 0 }) (va_Pc [.ref mo] (fun U => U.heap.size = sz ∧ va_P D vwCl [(mo, .inr (12, [.int 0, .int 0, .long 0, .int 0, .int 0, .ref g5, .ref g6, .ref g7, .ref g8, .ref g9, .ref g10, .int 0, .ref g12, .ref g13, .ref g14, .ref g15, .ref g16, .ref g17, .ref g18, .ref g19, .ref g20, .int (-9), .ref g22, .ref g23, .ref g24, .int 0, .int 0, .int 0, .int 0, .ref g29, .ref g30, .ref g31, .ref g32, .ref g33]))] U.heap ∧ kk_ D cy U ∧ va_D (fun _ => True) [(mo, .inr (12, [.int 0, .int 0, .long 0, .int 0, .int 0, .ref g5, .ref g6, .ref g7, .ref g8, .ref g9, .ref g10, .int 0, .ref g12, .ref g13, .ref g14, .ref g15, .ref g16, .ref g17, .ref g18, .ref g19, .ref g20, .int (-9), .ref g22, .ref g23, .ref g24, .int 0, .int 0, .int 0, .int 0, .ref g29, .ref g30, .ref g31, .ref g32, .ref g33]))])) (va_Ql (fun (r : Int64) (_ : Unit) => r = 0) (fun (_ : Unit) (_ : State) => True) (va_A [(mo, .inr (12, [.int 0, .int 0, .long 0, .int 0, .int 0, .ref g5, .ref g6, .ref g7, .ref g8, .ref g9, .ref g10, .int 0, .ref g12, .ref g13, .ref g14, .ref g15, .ref g16, .ref g17, .ref g18, .ref g19, .ref g20, .int (-9), .ref g22, .ref g23, .ref g24, .int 0, .int 0, .int 0, .int 0, .ref g29, .ref g30, .ref g31, .ref g32, .ref g33]))] sz)) 0 0 (va_A [(mo, .inr (12, [.int 0, .int 0, .long 0, .int 0, .int 0, .ref g5, .ref g6, .ref g7, .ref g8, .ref g9, .ref g10, .int 0, .ref g12, .ref g13, .ref g14, .ref g15, .ref g16, .ref g17, .ref g18, .ref g19, .ref g20, .int (-9), .ref g22, .ref g23, .ref g24, .int 0, .int 0, .int 0, .int 0, .ref g29, .ref g30, .ref g31, .ref g32, .ref g33]))] sz) := by
  refine Met.ofW (cc := cX12_trace) (maxL := 1) (ret := (some .long)) (by decide) rfl ?_
  intro p e s m args below meth c s₁ B hml hv
  obtain ⟨rfl, hsz, hP, hK, hD0⟩ := hv
  have hx := B.exec
  have hb := B.bytes
  have hr := B.returns
  have hts := atoms_spec (ws := wsX12_trace) B.pre
  have hown : s.vm.findClass RX12 = some m.cls := findClass_of_methodNamed B.named
  have hlocks := B.notSynchronized
  subst hsz
  have hD := hD0.self (sz := s.heap.size)
  generalize hAe : va_A [(mo, .inr (12, [.int 0, .int 0, .long 0, .int 0, .int 0, .ref g5, .ref g6, .ref g7, .ref g8, .ref g9, .ref g10, .int 0, .ref g12, .ref g13, .ref g14, .ref g15, .ref g16, .ref g17, .ref g18, .ref g19, .ref g20, .int (-9), .ref g22, .ref g23, .ref g24, .int 0, .int 0, .int 0, .int 0, .ref g29, .ref g30, .ref g31, .ref g32, .ref g33]))] s.heap.size = A at hD ⊢
  have hA : ∀ q : Nat, s.heap.size ≤ q → A q := fun q h => by rw [← hAe]; exact Or.inr h
  have hS : va_S A s.heap s.heap [] := va_S.rf
  have hl := lv_entry ([.ref mo]) (n := 1) (Nat.le_of_ble_eq_true rfl)
  rw [lg_entry_eq]
  generalize (lg_sl ([.ref mo]) ++ List.replicate (1 - (lg_sl ([.ref mo])).length) Slot.unset).toArray = ls at hl ⊢
  have hl : lv_has ls 1 [(0, .ref mo)] := hl
  refine lv_aload_n hx hb dX12_trace_0 rfl (lv_at hl 0 rfl) ?_
  refine lv_iconst (v := 0) hx hb dX12_trace_1 (by decide) ?_
  refine va_put (ci := 12) (v := .int 0) (ty := .int) (C := RX12) (T := TX12) (N := 34) hx hb hts (fun _ h => List.mem_cons_of_mem _ (List.mem_append_right _ h)) tyX12 tyX12_ok nmX12 hown hK.1 hP hD hS 0 rfl rfl 0 (by decide) (hts (.fieldLink RX12 85 "CutAtlasModel" "thrown" "I") (by decide +kernel)) (fun _ h9 => h9) rfl (by decide +kernel) rfl rfl (Nat.le_of_ble_eq_true rfl) dX12_trace_2 (fun H locs hP hD hS => ?_)
  have hP : va_P D vwCl [(mo, .inr (12, [.int 0, .int 0, .long 0, .int 0, .int 0, .ref g5, .ref g6, .ref g7, .ref g8, .ref g9, .ref g10, .int 0, .ref g12, .ref g13, .ref g14, .ref g15, .ref g16, .ref g17, .ref g18, .ref g19, .ref g20, .int (-9), .ref g22, .ref g23, .ref g24, .int 0, .int 0, .int 0, .int 0, .ref g29, .ref g30, .ref g31, .ref g32, .ref g33]))] H := hP
  have hD : va_D A [(mo, .inr (12, [.int 0, .int 0, .long 0, .int 0, .int 0, .ref g5, .ref g6, .ref g7, .ref g8, .ref g9, .ref g10, .int 0, .ref g12, .ref g13, .ref g14, .ref g15, .ref g16, .ref g17, .ref g18, .ref g19, .ref g20, .int (-9), .ref g22, .ref g23, .ref g24, .int 0, .int 0, .int 0, .int 0, .ref g29, .ref g30, .ref g31, .ref g32, .ref g33]))] := hD
  refine lv_aload_n hx hb dX12_trace_5 rfl (lv_at hl 0 rfl) ?_
  refine va_get (ci := 12) (v := .long 0) (C := RX12) (T := TX12) (N := 34) hx hb hts (fun _ h => List.mem_cons_of_mem _ (List.mem_append_right _ h)) hown hK.1 hP 0 rfl rfl 2 (by decide) (hts (.fieldLink RX12 114 "CutAtlasModel" "trace" "J") (by decide +kernel)) (fun _ h9 => h9) rfl dX12_trace_6 ?_
  exact W.lret (v := 0) hx hb hr (fun t ht hW => ⟨⟨0, (), rfl, rfl, trivial⟩, hS.F ht⟩) hS.2.2 dX12_trace_9

set_option maxHeartbeats 4000000 in
set_option maxRecDepth 100000 in
theorem c_X12_status (l : Launch) (D : va_G) (cy : Nat → ClassId) (sz : Nat) (mo : Nat) (g5 : Nat) (g6 : Nat) (g7 : Nat) (g8 : Nat) (g9 : Nat) (g10 : Nat) (g12 : Nat) (g13 : Nat) (g14 : Nat) (g15 : Nat) (g16 : Nat) (g17 : Nat) (g18 : Nat) (g19 : Nat) (g20 : Nat) (g22 : Nat) (g23 : Nat) (g24 : Nat) (g29 : Nat) (g30 : Nat) (g31 : Nat) (g32 : Nat) (g33 : Nat) : Met l yX12_status wsX12_status ({ frames := 0, cells := 0, slots := 0, locals := 0 }) (va_Pc [.ref mo] (fun U => U.heap.size = sz ∧ va_P D vwCl [(mo, .inr (12, [.int 0, .int 0, .long 0, .int 0, .int 0, .ref g5, .ref g6, .ref g7, .ref g8, .ref g9, .ref g10, .int 0, .ref g12, .ref g13, .ref g14, .ref g15, .ref g16, .ref g17, .ref g18, .ref g19, .ref g20, .int (-9), .ref g22, .ref g23, .ref g24, .int 0, .int 0, .int 0, .int 0, .ref g29, .ref g30, .ref g31, .ref g32, .ref g33]))] U.heap ∧ kk_ D cy U ∧ va_D (fun _ => True) [(mo, .inr (12, [.int 0, .int 0, .long 0, .int 0, .int 0, .ref g5, .ref g6, .ref g7, .ref g8, .ref g9, .ref g10, .int 0, .ref g12, .ref g13, .ref g14, .ref g15, .ref g16, .ref g17, .ref g18, .ref g19, .ref g20, .int (-9), .ref g22, .ref g23, .ref g24, .int 0, .int 0, .int 0, .int 0, .ref g29, .ref g30, .ref g31, .ref g32, .ref g33]))])) (va_Qi (fun (r : Int32) (_ : Unit) => r = 0) (fun (_ : Unit) (_ : State) => True) (va_A [(mo, .inr (12, [.int 0, .int 0, .long 0, .int 0, .int 0, .ref g5, .ref g6, .ref g7, .ref g8, .ref g9, .ref g10, .int 0, .ref g12, .ref g13, .ref g14, .ref g15, .ref g16, .ref g17, .ref g18, .ref g19, .ref g20, .int (-9), .ref g22, .ref g23, .ref g24, .int 0, .int 0, .int 0, .int 0, .ref g29, .ref g30, .ref g31, .ref g32, .ref g33]))] sz)) 0 0 (va_A [(mo, .inr (12, [.int 0, .int 0, .long 0, .int 0, .int 0, .ref g5, .ref g6, .ref g7, .ref g8, .ref g9, .ref g10, .int 0, .ref g12, .ref g13, .ref g14, .ref g15, .ref g16, .ref g17, .ref g18, .ref g19, .ref g20, .int (-9), .ref g22, .ref g23, .ref g24, .int 0, .int 0, .int 0, .int 0, .ref g29, .ref g30, .ref g31, .ref g32, .ref g33]))] sz) := by
  refine Met.ofW (cc := cX12_status) (maxL := 1) (ret := (some .int)) (by decide) rfl ?_
  intro p e s m args below meth c s₁ B hml hv
  obtain ⟨rfl, hsz, hP, hK, hD0⟩ := hv
  have hx := B.exec
  have hb := B.bytes
  have hr := B.returns
  have hts := atoms_spec (ws := wsX12_status) B.pre
  have hown : s.vm.findClass RX12 = some m.cls := findClass_of_methodNamed B.named
  have hlocks := B.notSynchronized
  subst hsz
  have hD := hD0.self (sz := s.heap.size)
  generalize hAe : va_A [(mo, .inr (12, [.int 0, .int 0, .long 0, .int 0, .int 0, .ref g5, .ref g6, .ref g7, .ref g8, .ref g9, .ref g10, .int 0, .ref g12, .ref g13, .ref g14, .ref g15, .ref g16, .ref g17, .ref g18, .ref g19, .ref g20, .int (-9), .ref g22, .ref g23, .ref g24, .int 0, .int 0, .int 0, .int 0, .ref g29, .ref g30, .ref g31, .ref g32, .ref g33]))] s.heap.size = A at hD ⊢
  have hA : ∀ q : Nat, s.heap.size ≤ q → A q := fun q h => by rw [← hAe]; exact Or.inr h
  have hS : va_S A s.heap s.heap [] := va_S.rf
  have hl := lv_entry ([.ref mo]) (n := 1) (Nat.le_of_ble_eq_true rfl)
  rw [lg_entry_eq]
  generalize (lg_sl ([.ref mo]) ++ List.replicate (1 - (lg_sl ([.ref mo])).length) Slot.unset).toArray = ls at hl ⊢
  have hl : lv_has ls 1 [(0, .ref mo)] := hl
  refine lv_aload_n hx hb dX12_status_0 rfl (lv_at hl 0 rfl) ?_
  refine lv_iconst (v := 0) hx hb dX12_status_1 (by decide) ?_
  refine va_put (ci := 12) (v := .int 0) (ty := .int) (C := RX12) (T := TX12) (N := 34) hx hb hts (fun _ h => List.mem_cons_of_mem _ (List.mem_append_right _ h)) tyX12 tyX12_ok nmX12 hown hK.1 hP hD hS 0 rfl rfl 0 (by decide) (hts (.fieldLink RX12 85 "CutAtlasModel" "thrown" "I") (by decide +kernel)) (fun _ h9 => h9) rfl (by decide +kernel) rfl rfl (Nat.le_of_ble_eq_true rfl) dX12_status_2 (fun H locs hP hD hS => ?_)
  have hP : va_P D vwCl [(mo, .inr (12, [.int 0, .int 0, .long 0, .int 0, .int 0, .ref g5, .ref g6, .ref g7, .ref g8, .ref g9, .ref g10, .int 0, .ref g12, .ref g13, .ref g14, .ref g15, .ref g16, .ref g17, .ref g18, .ref g19, .ref g20, .int (-9), .ref g22, .ref g23, .ref g24, .int 0, .int 0, .int 0, .int 0, .ref g29, .ref g30, .ref g31, .ref g32, .ref g33]))] H := hP
  have hD : va_D A [(mo, .inr (12, [.int 0, .int 0, .long 0, .int 0, .int 0, .ref g5, .ref g6, .ref g7, .ref g8, .ref g9, .ref g10, .int 0, .ref g12, .ref g13, .ref g14, .ref g15, .ref g16, .ref g17, .ref g18, .ref g19, .ref g20, .int (-9), .ref g22, .ref g23, .ref g24, .int 0, .int 0, .int 0, .int 0, .ref g29, .ref g30, .ref g31, .ref g32, .ref g33]))] := hD
  refine lv_aload_n hx hb dX12_status_5 rfl (lv_at hl 0 rfl) ?_
  refine va_get (ci := 12) (v := .int 0) (C := RX12) (T := TX12) (N := 34) hx hb hts (fun _ h => List.mem_cons_of_mem _ (List.mem_append_right _ h)) hown hK.1 hP 0 rfl rfl 1 (by decide) (hts (.fieldLink RX12 240 "CutAtlasModel" "status" "I") (by decide +kernel)) (fun _ h9 => h9) rfl dX12_status_6 ?_
  exact W.iret (v := 0) hx hb hr (fun t ht hW => ⟨⟨0, (), rfl, rfl, trivial⟩, hS.F ht⟩) hS.2.2 dX12_status_9
