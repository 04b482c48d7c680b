/-- what a LINE of kind k and width w lets, in the reference's numbers; b: from its first end -/
noncomputable def ml_lets (k w b : Int32) : Int32 := if k = 2 then (-5) else if k = 1 ∧ b = 0 then 0 else w
/-- the same with ENDLESS as 1000000; z: the line that is raised -/
noncomputable def ml_room (k w b l z : Int32) : Int32 := if ml_lets k w b = (-5) then 1000000 else if l = z ∧ ¬ (k = 1 ∧ b = 0) then ml_lets k w b + 1 else ml_lets k w b

set_option maxHeartbeats 4000000 in
set_option maxRecDepth 100000 in
theorem c_X12_in (l : Launch) (D : va_G) (cy : Nat → ClassId) (sz : Nat) (v : Int64) (lo : Int64) (hi : Int64) : Met l yX12_in wsX12_in ({ frames := 0, cells := 0, slots := 0, locals := 0 }) (va_Pc [.long v, .long lo, .long hi] (fun U => U.heap.size = sz ∧ va_P D vwCl [] U.heap ∧ kk_ D cy U ∧ va_D (fun _ => True) [])) (va_Qi (fun (r : Int32) (_ : Unit) => ((lo.toInt ≤ v.toInt ∧ v.toInt ≤ hi.toInt) ∧ r = 1) ∨ ((¬ (lo.toInt ≤ v.toInt ∧ v.toInt ≤ hi.toInt)) ∧ r = 0)) (fun (_ : Unit) (_ : State) => True) (va_A [] sz)) 0 0 (va_A [] sz) := by
  refine ofQ (cc := cX12_in) (maxL := 6) (ret := (some .boolean)) (by decide) rfl ?_
  intro p e s m args below meth c s₁ Q hQ B hml hv
  obtain ⟨rfl, hsz, hP, hK, hD0⟩ := hv
  have hx := B.exec
  have hb := B.bytes
  have hr := B.returns
  have hts := atoms_spec (ws := wsX12_in) B.pre
  have hown : s.vm.findClass RX12 = some m.cls := by have h_ := findClass_of_methodNamed B.named; exact h_
  have hlocks := B.notSynchronized
  subst hsz
  have hD : va_D (va_A [] s.heap.size) [] := dd_nil
  generalize hAe : va_A [] s.heap.size = A at hD hQ
  have hA : ∀ q : Nat, s.heap.size ≤ q → A q := fun q h => by rw [← hAe]; exact Or.inr h
  have hS : va_S A s.heap s.heap [] := va_S.rf
  have hl := lv_entry ([.long v, .long lo, .long hi]) (n := 6) (Nat.le_of_ble_eq_true rfl)
  rw [lg_entry_eq]
  generalize (lg_sl ([.long v, .long lo, .long hi]) ++ List.replicate (6 - (lg_sl ([.long v, .long lo, .long hi])).length) Slot.unset).toArray = ls at hl ⊢
  have hl : lv_has ls 6 [(0, .long v), (2, .long lo), (4, .long hi)] := hl
  have z0 : (0 : Int32).toInt = 0 := by decide
  have z1 : (1 : Int32).toInt = 1 := by decide
  refine lv_lload_n hx hb dX12_in_0 rfl (lv_at hl 0 rfl) ?_
  refine lv_lload_n hx hb dX12_in_1 rfl (lv_at hl 1 rfl) ?_
  refine W.lcmp hx hb dX12_in_2 ?_
  refine lv_if_lt (tgt := 17) hx hb dX12_in_3 (by decide) (fun c_1 => ?_) (fun c_1 => ?_)
  · have t_1 : v.toInt < lo.toInt := Int64.lt_iff_toInt_lt.mp ((lg_cmp_lt v lo).mp c_1)
    refine lv_iconst (v := 0) hx hb dX12_in_17 (by decide) ?_
    rw [hQ]
    exact W.zret (ty := .boolean) (v := 0) hx hb hr (by decide) (fun t ht hW => ⟨⟨0, (), rfl, Or.inr (⟨by omega, rfl⟩), trivial⟩, hS.F ht⟩) hS.2.2 dX12_in_18
  · have t_1 : ¬ v.toInt < lo.toInt := fun h => c_1 ((lg_cmp_lt v lo).mpr (Int64.lt_iff_toInt_lt.mpr h))
    refine lv_lload_n hx hb dX12_in_6 rfl (lv_at hl 0 rfl) ?_
    refine lv_lload hx hb dX12_in_7 (lv_at hl 2 rfl) ?_
    refine W.lcmp hx hb dX12_in_9 ?_
    refine lv_if_gt (tgt := 17) hx hb dX12_in_10 (by decide) (fun c_2 => ?_) (fun c_2 => ?_)
    · have t_2 : hi.toInt < v.toInt := Int64.lt_iff_toInt_lt.mp ((lg_cmp_gt v hi).mp c_2)
      refine lv_iconst (v := 0) hx hb dX12_in_17 (by decide) ?_
      rw [hQ]
      exact W.zret (ty := .boolean) (v := 0) hx hb hr (by decide) (fun t ht hW => ⟨⟨0, (), rfl, Or.inr (⟨by omega, rfl⟩), trivial⟩, hS.F ht⟩) hS.2.2 dX12_in_18
    · have t_2 : ¬ hi.toInt < v.toInt := fun h => c_2 ((lg_cmp_gt v hi).mpr (Int64.lt_iff_toInt_lt.mpr h))
      refine lv_iconst (v := 1) hx hb dX12_in_13 (by decide) ?_
      refine lv_goto (tgt := 18) hx hb dX12_in_14 (by decide) ?_
      rw [hQ]
      exact W.zret (ty := .boolean) (v := 1) hx hb hr (by decide) (fun t ht hW => ⟨⟨1, (), rfl, Or.inl (⟨by omega, rfl⟩), trivial⟩, hS.F ht⟩) hS.2.2 dX12_in_18

set_option maxHeartbeats 4000000 in
set_option maxRecDepth 100000 in
theorem c_X12_isPlace (l : Launch) (D : va_G) (cy : Nat → ClassId) (sz : Nat) (mo : Nat) (g5 : Nat) (g6 : Nat) (g7 : Nat) (g8 : Nat) (g9 : Nat) (g10 : Nat) (g12 : Nat) (g13 : Nat) (g14 : Nat) (g15 : Nat) (g16 : Nat) (g17 : Nat) (g18 : Nat) (g19 : Nat) (g20 : Nat) (g22 : Nat) (g23 : Nat) (g24 : Nat) (g29 : Nat) (g30 : Nat) (g31 : Nat) (g32 : Nat) (g33 : Nat) (s0 : Int32) (s1 : Int32) (s3 : Int32) (s4 : Int32) (s11 : Int32) (s21 : Int32) (s25 : Int32) (s26 : Int32) (s27 : Int32) (s28 : Int32) (t2 : Int64) (a1 : Int32) (hPl : 0 ≤ s3.toInt ∧ s3.toInt ≤ 12) : Met l yX12_isPlace wsX12_isPlace ({ frames := 1, cells := 0, slots := 0, locals := 25 }) (va_Pc [.ref mo, .int a1] (fun U => U.heap.size = sz ∧ va_P D vwCl [(mo, .inr (12, [.int s0, .int s1, .long t2, .int s3, .int s4, .ref g5, .ref g6, .ref g7, .ref g8, .ref g9, .ref g10, .int s11, .ref g12, .ref g13, .ref g14, .ref g15, .ref g16, .ref g17, .ref g18, .ref g19, .ref g20, .int s21, .ref g22, .ref g23, .ref g24, .int s25, .int s26, .int s27, .int s28, .ref g29, .ref g30, .ref g31, .ref g32, .ref g33]))] U.heap ∧ kk_ D cy U ∧ va_D (fun _ => True) [(mo, .inr (12, [.int s0, .int s1, .long t2, .int s3, .int s4, .ref g5, .ref g6, .ref g7, .ref g8, .ref g9, .ref g10, .int s11, .ref g12, .ref g13, .ref g14, .ref g15, .ref g16, .ref g17, .ref g18, .ref g19, .ref g20, .int s21, .ref g22, .ref g23, .ref g24, .int s25, .int s26, .int s27, .int s28, .ref g29, .ref g30, .ref g31, .ref g32, .ref g33]))])) (va_Qi (fun (r : Int32) (_ : Unit) => ((0 ≤ a1.toInt ∧ a1.toInt < s3.toInt) ∧ r = 1) ∨ ((¬ (0 ≤ a1.toInt ∧ a1.toInt < s3.toInt)) ∧ r = 0)) (fun (_ : Unit) (_ : State) => True) (va_A [] sz)) 0 0 (va_A [] sz) := by
  refine ofQ (cc := cX12_isPlace) (maxL := 2) (ret := (some .boolean)) (by decide) rfl ?_
  intro p e s m args below meth c s₁ Q hQ B hml hv
  obtain ⟨rfl, hsz, hP, hK, hD0⟩ := hv
  have hx := B.exec
  have hb := B.bytes
  have hr := B.returns
  have hts := atoms_spec (ws := wsX12_isPlace) B.pre
  have hown : s.vm.findClass RX12 = some m.cls := by have h_ := findClass_of_methodNamed B.named; exact h_
  have hlocks := B.notSynchronized
  subst hsz
  have hD : va_D (va_A [] s.heap.size) [] := dd_nil
  generalize hAe : va_A [] s.heap.size = A at hD hQ
  have hA : ∀ q : Nat, s.heap.size ≤ q → A q := fun q h => by rw [← hAe]; exact Or.inr h
  have hS : va_S A s.heap s.heap [] := va_S.rf
  have hl := lv_entry ([.ref mo, .int a1]) (n := 2) (Nat.le_of_ble_eq_true rfl)
  rw [lg_entry_eq]
  generalize (lg_sl ([.ref mo, .int a1]) ++ List.replicate (2 - (lg_sl ([.ref mo, .int a1])).length) Slot.unset).toArray = ls at hl ⊢
  have hl : lv_has ls 2 [(0, .ref mo), (1, .int a1)] := hl
  have z0 : (0 : Int32).toInt = 0 := by decide
  have zl0 : (0 : Int64).toInt = 0 := by decide
  have z1 : (1 : Int32).toInt = 1 := by decide
  refine lv_iload_n hx hb dX12_isPlace_0 rfl (lv_at hl 1 rfl) ?_
  refine lv_i2l (v := a1.toInt64) hx hb dX12_isPlace_1 rfl ?_
  have q_1 : (a1.toInt64).toInt = a1.toInt := Int32.toInt_toInt64 a1
  refine lv_lconst (v := 0) hx hb dX12_isPlace_2 (by decide) ?_
  refine lv_aload_n hx hb dX12_isPlace_3 rfl (lv_at hl 0 rfl) ?_
  refine va_get (ci := 12) (v := .int s3) (C := RX12) (T := TX12) (N := 34) hx hb hts (fun _ h => List.mem_cons_of_mem _ (List.mem_append_right _ h)) hown hK.1 hP 0 rfl rfl 3 (by decide) (hts (.fieldLink RX12 88 "CutAtlasModel" "places" "I") (by decide +kernel)) (fun _ h9 => h9) rfl dX12_isPlace_4 ?_
  refine lv_iconst (v := 1) hx hb dX12_isPlace_7 (by decide) ?_
  refine lv_isub hx hb dX12_isPlace_8 ?_
  refine lv_topi (fun y_1 ey_1 => ?_)
  have ty_1 : y_1.toInt = s3.toInt - (1 : Int32).toInt := by rw [ey_1]; exact subI (by omega) (by omega)
  refine lv_i2l (v := y_1.toInt64) hx hb dX12_isPlace_9 rfl ?_
  have q_9 : (y_1.toInt64).toInt = y_1.toInt := Int32.toInt_toInt64 y_1
  refine ct_R hP hD0 [] [] (by decide) rfl (fun hPc hDw => ?_)
  have hFc := va_free (wc := []) hD hS hA [] rfl
  refine va_calli (va_runS (As := [.long a1.toInt64, .long 0, .long y_1.toInt64]) (rest := []) ⟨hx, hb, hml, hown, hts⟩ (c_X12_in l D cy s.heap.size a1.toInt64 (0 : Int64) y_1.toInt64) (va_cwS 3 hts gX12_isPlace_X12_in rfl rfl rfl (by decide +kernel) ⟨Nat.le_of_ble_eq_true rfl, Nat.le_of_ble_eq_true rfl⟩) ⟨bl_, fun U hU hW => ⟨rfl, by rw [hU], by rw [hU]; exact hPc, kk_mv hW hK, hDw⟩⟩ rfl rfl hl.1 rfl (lv_room (Nat.le_of_ble_eq_true rfl)) dX12_isPlace_10 ⟨Nat.le_of_ble_eq_true rfl, Nat.le_of_ble_eq_true rfl⟩) hS (fun q _ h => hFc q h) hFc (fun r_2 u t H locs ht hvm hw hB hz1 hk1 hS => ?_)
  have hP : va_P D vwCl _ H := ro_keep hP hk1
  rcases hw with ⟨w_3, e_⟩ | ⟨w_3, e_⟩
  · have e_ := e_.symm
    subst e_
    rw [hQ]
    exact W.zret (ty := .boolean) (v := 1) hx hb hr (by decide) (fun t ht hW => ⟨⟨1, (), rfl, Or.inl (⟨by omega, rfl⟩), trivial⟩, hS.F ht⟩) hS.2.2 dX12_isPlace_13
  · have e_ := e_.symm
    subst e_
    rw [hQ]
    exact W.zret (ty := .boolean) (v := 0) hx hb hr (by decide) (fun t ht hW => ⟨⟨0, (), rfl, Or.inr (⟨by omega, rfl⟩), trivial⟩, hS.F ht⟩) hS.2.2 dX12_isPlace_13

set_option maxHeartbeats 4000000 in
set_option maxRecDepth 100000 in
theorem c_X12_isLine (l : Launch) (D : va_G) (cy : Nat → ClassId) (sz : Nat) (mo : Nat) (g5 : Nat) (g6 : Nat) (g7 : Nat) (g8 : Nat) (g9 : Nat) (g10 : Nat) (g12 : Nat) (g13 : Nat) (g14 : Nat) (g15 : Nat) (g16 : Nat) (g17 : Nat) (g18 : Nat) (g19 : Nat) (g20 : Nat) (g22 : Nat) (g23 : Nat) (g24 : Nat) (g29 : Nat) (g30 : Nat) (g31 : Nat) (g32 : Nat) (g33 : Nat) (s0 : Int32) (s1 : Int32) (s3 : Int32) (s4 : Int32) (s11 : Int32) (s21 : Int32) (s25 : Int32) (s26 : Int32) (s27 : Int32) (s28 : Int32) (t2 : Int64) (a1 : Int32) (hN : 0 ≤ s4.toInt ∧ s4.toInt ≤ 40) : Met l yX12_isLine wsX12_isLine ({ frames := 1, cells := 0, slots := 0, locals := 25 }) (va_Pc [.ref mo, .int a1] (fun U => U.heap.size = sz ∧ va_P D vwCl [(mo, .inr (12, [.int s0, .int s1, .long t2, .int s3, .int s4, .ref g5, .ref g6, .ref g7, .ref g8, .ref g9, .ref g10, .int s11, .ref g12, .ref g13, .ref g14, .ref g15, .ref g16, .ref g17, .ref g18, .ref g19, .ref g20, .int s21, .ref g22, .ref g23, .ref g24, .int s25, .int s26, .int s27, .int s28, .ref g29, .ref g30, .ref g31, .ref g32, .ref g33]))] U.heap ∧ kk_ D cy U ∧ va_D (fun _ => True) [(mo, .inr (12, [.int s0, .int s1, .long t2, .int s3, .int s4, .ref g5, .ref g6, .ref g7, .ref g8, .ref g9, .ref g10, .int s11, .ref g12, .ref g13, .ref g14, .ref g15, .ref g16, .ref g17, .ref g18, .ref g19, .ref g20, .int s21, .ref g22, .ref g23, .ref g24, .int s25, .int s26, .int s27, .int s28, .ref g29, .ref g30, .ref g31, .ref g32, .ref g33]))])) (va_Qi (fun (r : Int32) (_ : Unit) => ((0 ≤ a1.toInt ∧ a1.toInt < s4.toInt) ∧ r = 1) ∨ ((¬ (0 ≤ a1.toInt ∧ a1.toInt < s4.toInt)) ∧ r = 0)) (fun (_ : Unit) (_ : State) => True) (va_A [] sz)) 0 0 (va_A [] sz) := by
  refine ofQ (cc := cX12_isLine) (maxL := 2) (ret := (some .boolean)) (by decide) rfl ?_
  intro p e s m args below meth c s₁ Q hQ B hml hv
  obtain ⟨rfl, hsz, hP, hK, hD0⟩ := hv
  have hx := B.exec
  have hb := B.bytes
  have hr := B.returns
  have hts := atoms_spec (ws := wsX12_isLine) B.pre
  have hown : s.vm.findClass RX12 = some m.cls := by have h_ := findClass_of_methodNamed B.named; exact h_
  have hlocks := B.notSynchronized
  subst hsz
  have hD : va_D (va_A [] s.heap.size) [] := dd_nil
  generalize hAe : va_A [] s.heap.size = A at hD hQ
  have hA : ∀ q : Nat, s.heap.size ≤ q → A q := fun q h => by rw [← hAe]; exact Or.inr h
  have hS : va_S A s.heap s.heap [] := va_S.rf
  have hl := lv_entry ([.ref mo, .int a1]) (n := 2) (Nat.le_of_ble_eq_true rfl)
  rw [lg_entry_eq]
  generalize (lg_sl ([.ref mo, .int a1]) ++ List.replicate (2 - (lg_sl ([.ref mo, .int a1])).length) Slot.unset).toArray = ls at hl ⊢
  have hl : lv_has ls 2 [(0, .ref mo), (1, .int a1)] := hl
  have z0 : (0 : Int32).toInt = 0 := by decide
  have zl0 : (0 : Int64).toInt = 0 := by decide
  have z1 : (1 : Int32).toInt = 1 := by decide
  refine lv_iload_n hx hb dX12_isLine_0 rfl (lv_at hl 1 rfl) ?_
  refine lv_i2l (v := a1.toInt64) hx hb dX12_isLine_1 rfl ?_
  have q_1 : (a1.toInt64).toInt = a1.toInt := Int32.toInt_toInt64 a1
  refine lv_lconst (v := 0) hx hb dX12_isLine_2 (by decide) ?_
  refine lv_aload_n hx hb dX12_isLine_3 rfl (lv_at hl 0 rfl) ?_
  refine va_get (ci := 12) (v := .int s4) (C := RX12) (T := TX12) (N := 34) hx hb hts (fun _ h => List.mem_cons_of_mem _ (List.mem_append_right _ h)) hown hK.1 hP 0 rfl rfl 4 (by decide) (hts (.fieldLink RX12 95 "CutAtlasModel" "lines" "I") (by decide +kernel)) (fun _ h9 => h9) rfl dX12_isLine_4 ?_
  refine lv_iconst (v := 1) hx hb dX12_isLine_7 (by decide) ?_
  refine lv_isub hx hb dX12_isLine_8 ?_
  refine lv_topi (fun y_1 ey_1 => ?_)
  have ty_1 : y_1.toInt = s4.toInt - (1 : Int32).toInt := by rw [ey_1]; exact subI (by omega) (by omega)
  refine lv_i2l (v := y_1.toInt64) hx hb dX12_isLine_9 rfl ?_
  have q_9 : (y_1.toInt64).toInt = y_1.toInt := Int32.toInt_toInt64 y_1
  refine ct_R hP hD0 [] [] (by decide) rfl (fun hPc hDw => ?_)
  have hFc := va_free (wc := []) hD hS hA [] rfl
  refine va_calli (va_runS (As := [.long a1.toInt64, .long 0, .long y_1.toInt64]) (rest := []) ⟨hx, hb, hml, hown, hts⟩ (c_X12_in l D cy s.heap.size a1.toInt64 (0 : Int64) y_1.toInt64) (va_cwS 3 hts gX12_isLine_X12_in rfl rfl rfl (by decide +kernel) ⟨Nat.le_of_ble_eq_true rfl, Nat.le_of_ble_eq_true rfl⟩) ⟨bl_, fun U hU hW => ⟨rfl, by rw [hU], by rw [hU]; exact hPc, kk_mv hW hK, hDw⟩⟩ rfl rfl hl.1 rfl (lv_room (Nat.le_of_ble_eq_true rfl)) dX12_isLine_10 ⟨Nat.le_of_ble_eq_true rfl, Nat.le_of_ble_eq_true rfl⟩) hS (fun q _ h => hFc q h) hFc (fun r_2 u t H locs ht hvm hw hB hz1 hk1 hS => ?_)
  have hP : va_P D vwCl _ H := ro_keep hP hk1
  rcases hw with ⟨w_3, e_⟩ | ⟨w_3, e_⟩
  · have e_ := e_.symm
    subst e_
    rw [hQ]
    exact W.zret (ty := .boolean) (v := 1) hx hb hr (by decide) (fun t ht hW => ⟨⟨1, (), rfl, Or.inl (⟨by omega, rfl⟩), trivial⟩, hS.F ht⟩) hS.2.2 dX12_isLine_13
  · have e_ := e_.symm
    subst e_
    rw [hQ]
    exact W.zret (ty := .boolean) (v := 0) hx hb hr (by decide) (fun t ht hW => ⟨⟨0, (), rfl, Or.inr (⟨by omega, rfl⟩), trivial⟩, hS.F ht⟩) hS.2.2 dX12_isLine_13

set_option maxHeartbeats 4000000 in
set_option maxRecDepth 100000 in
theorem c_X12_arePlaces (l : Launch) (D : va_G) (cy : Nat → ClassId) (sz : Nat) (mo : Nat) (g5 : Nat) (g6 : Nat) (g7 : Nat) (g8 : Nat) (g9 : Nat) (g10 : Nat) (g12 : Nat) (g13 : Nat) (g14 : Nat) (g15 : Nat) (g16 : Nat) (g17 : Nat) (g18 : Nat) (g19 : Nat) (g20 : Nat) (g22 : Nat) (g23 : Nat) (g24 : Nat) (g29 : Nat) (g30 : Nat) (g31 : Nat) (g32 : Nat) (g33 : Nat) (s0 : Int32) (s1 : Int32) (s3 : Int32) (s4 : Int32) (s11 : Int32) (s21 : Int32) (s25 : Int32) (s26 : Int32) (s27 : Int32) (s28 : Int32) (t2 : Int64) (a1 : Int32) (a2 : Int32) (hPl : 0 ≤ s3.toInt ∧ s3.toInt ≤ 12) : Met l yX12_arePlaces wsX12_arePlaces ({ frames := 2, cells := 0, slots := 0, locals := 46 }) (va_Pc [.ref mo, .int a1, .int a2] (fun U => U.heap.size = sz ∧ va_P D vwCl [(mo, .inr (12, [.int s0, .int s1, .long t2, .int s3, .int s4, .ref g5, .ref g6, .ref g7, .ref g8, .ref g9, .ref g10, .int s11, .ref g12, .ref g13, .ref g14, .ref g15, .ref g16, .ref g17, .ref g18, .ref g19, .ref g20, .int s21, .ref g22, .ref g23, .ref g24, .int s25, .int s26, .int s27, .int s28, .ref g29, .ref g30, .ref g31, .ref g32, .ref g33]))] U.heap ∧ kk_ D cy U ∧ va_D (fun _ => True) [(mo, .inr (12, [.int s0, .int s1, .long t2, .int s3, .int s4, .ref g5, .ref g6, .ref g7, .ref g8, .ref g9, .ref g10, .int s11, .ref g12, .ref g13, .ref g14, .ref g15, .ref g16, .ref g17, .ref g18, .ref g19, .ref g20, .int s21, .ref g22, .ref g23, .ref g24, .int s25, .int s26, .int s27, .int s28, .ref g29, .ref g30, .ref g31, .ref g32, .ref g33]))])) (va_Qi (fun (r : Int32) (_ : Unit) => (((0 ≤ a1.toInt ∧ a1.toInt < s3.toInt) ∧ (0 ≤ a2.toInt ∧ a2.toInt < s3.toInt) ∧ a1.toInt ≠ a2.toInt) ∧ r = 1) ∨ ((¬ ((0 ≤ a1.toInt ∧ a1.toInt < s3.toInt) ∧ (0 ≤ a2.toInt ∧ a2.toInt < s3.toInt) ∧ a1.toInt ≠ a2.toInt)) ∧ r = 0)) (fun (_ : Unit) (_ : State) => True) (va_A [] sz)) 0 0 (va_A [] sz) := by
  refine ofQ (cc := cX12_arePlaces) (maxL := 3) (ret := (some .boolean)) (by decide) rfl ?_
  intro p e s m args below meth c s₁ Q hQ B hml hv
  obtain ⟨rfl, hsz, hP, hK, hD0⟩ := hv
  have hx := B.exec
  have hb := B.bytes
  have hr := B.returns
  have hts := atoms_spec (ws := wsX12_arePlaces) B.pre
  have hown : s.vm.findClass RX12 = some m.cls := by have h_ := findClass_of_methodNamed B.named; exact h_
  have hlocks := B.notSynchronized
  subst hsz
  have hD : va_D (va_A [] s.heap.size) [] := dd_nil
  generalize hAe : va_A [] s.heap.size = A at hD hQ
  have hA : ∀ q : Nat, s.heap.size ≤ q → A q := fun q h => by rw [← hAe]; exact Or.inr h
  have hS : va_S A s.heap s.heap [] := va_S.rf
  have hl := lv_entry ([.ref mo, .int a1, .int a2]) (n := 3) (Nat.le_of_ble_eq_true rfl)
  rw [lg_entry_eq]
  generalize (lg_sl ([.ref mo, .int a1, .int a2]) ++ List.replicate (3 - (lg_sl ([.ref mo, .int a1, .int a2])).length) Slot.unset).toArray = ls at hl ⊢
  have hl : lv_has ls 3 [(0, .ref mo), (1, .int a1), (2, .int a2)] := hl
  have z0 : (0 : Int32).toInt = 0 := by decide
  have z1 : (1 : Int32).toInt = 1 := by decide
  refine lv_aload_n hx hb dX12_arePlaces_0 rfl (lv_at hl 0 rfl) ?_
  refine lv_iload_n hx hb dX12_arePlaces_1 rfl (lv_at hl 1 rfl) ?_
  refine ct_R hP hD0 [(mo, .inr (12, [.int s0, .int s1, .long t2, .int s3, .int s4, .ref g5, .ref g6, .ref g7, .ref g8, .ref g9, .ref g10, .int s11, .ref g12, .ref g13, .ref g14, .ref g15, .ref g16, .ref g17, .ref g18, .ref g19, .ref g20, .int s21, .ref g22, .ref g23, .ref g24, .int s25, .int s26, .int s27, .int s28, .ref g29, .ref g30, .ref g31, .ref g32, .ref g33]))] [0] (by decide) rfl (fun hPc hDw => ?_)
  have hFc := va_free (wc := []) hD hS hA [] rfl
  refine va_calli (va_runV (As := [.int a1]) (rest := []) ⟨hx, hb, hml, hown, hts⟩ (c_X12_isPlace l D cy s.heap.size mo g5 g6 g7 g8 g9 g10 g12 g13 g14 g15 g16 g17 g18 g19 g20 g22 g23 g24 g29 g30 g31 g32 g33 s0 s1 s3 s4 s11 s21 s25 s26 s27 s28 t2 a1 (by first | with_reducible assumption | assumption | omega)) (cwV 1 hts gX12_arePlaces_X12_isPlace rfl rfl rfl (by decide +kernel) ⟨Nat.le_of_ble_eq_true rfl, Nat.le_of_ble_eq_true rfl⟩) ⟨bl_, va_recvX hK.1 hP (ci := 12) (q0 := 0) rfl rfl, fun U hU hW => ⟨rfl, by rw [hU], by rw [hU]; exact hPc, kk_mv hW hK, hDw⟩⟩ rfl rfl hl.1 rfl (lv_room (Nat.le_of_ble_eq_true rfl)) dX12_arePlaces_2 ⟨Nat.le_of_ble_eq_true rfl, Nat.le_of_ble_eq_true rfl⟩) hS (fun q _ h => hFc q h) hFc (fun r_1 u t H locs ht hvm hw hB hz1 hk1 hS => ?_)
  have hP : va_P D vwCl _ H := ro_keep hP hk1
  rcases hw with ⟨w_2, e_⟩ | ⟨w_2, e_⟩
  · have e_ := e_.symm
    subst e_
    refine lv_if_eq (tgt := 25) hx hb dX12_arePlaces_5 (by decide) (fun c_3 => ?_) (fun c_3 => ?_)
    · exact absurd c_3 (by decide)
    · have _ := c_3
      refine lv_aload_n hx hb dX12_arePlaces_8 rfl (lv_at hl 0 rfl) ?_
      refine lv_iload_n hx hb dX12_arePlaces_9 rfl (lv_at hl 2 rfl) ?_
      refine ct_R hP hD0 [(mo, .inr (12, [.int s0, .int s1, .long t2, .int s3, .int s4, .ref g5, .ref g6, .ref g7, .ref g8, .ref g9, .ref g10, .int s11, .ref g12, .ref g13, .ref g14, .ref g15, .ref g16, .ref g17, .ref g18, .ref g19, .ref g20, .int s21, .ref g22, .ref g23, .ref g24, .int s25, .int s26, .int s27, .int s28, .ref g29, .ref g30, .ref g31, .ref g32, .ref g33]))] [0] (by decide) rfl (fun hPc hDw => ?_)
      have hFc := va_free (wc := []) hD hS hA [] rfl
      refine va_calli (va_runV (As := [.int a2]) (rest := []) ⟨hx, hb, hml, hown, hts⟩ (c_X12_isPlace l D cy H.size mo g5 g6 g7 g8 g9 g10 g12 g13 g14 g15 g16 g17 g18 g19 g20 g22 g23 g24 g29 g30 g31 g32 g33 s0 s1 s3 s4 s11 s21 s25 s26 s27 s28 t2 a2 (by first | with_reducible assumption | assumption | omega)) (cwV 1 hts gX12_arePlaces_X12_isPlace rfl rfl rfl (by decide +kernel) ⟨Nat.le_of_ble_eq_true rfl, Nat.le_of_ble_eq_true rfl⟩) ⟨bl_, va_recvX hK.1 hP (ci := 12) (q0 := 0) rfl rfl, fun U hU hW => ⟨rfl, by rw [hU], by rw [hU]; exact hPc, kk_mv hW hK, hDw⟩⟩ rfl rfl hl.1 rfl (lv_room (Nat.le_of_ble_eq_true rfl)) dX12_arePlaces_10 ⟨Nat.le_of_ble_eq_true rfl, Nat.le_of_ble_eq_true rfl⟩) hS (fun q _ h => hFc q h) hFc (fun r_4 u t H locs ht hvm hw hB hz1 hk1 hS => ?_)
      have hP : va_P D vwCl _ H := ro_keep hP hk1
      rcases hw with ⟨w_5, e_⟩ | ⟨w_5, e_⟩
      · have e_ := e_.symm
        subst e_
        refine lv_if_eq (tgt := 25) hx hb dX12_arePlaces_13 (by decide) (fun c_6 => ?_) (fun c_6 => ?_)
        · exact absurd c_6 (by decide)
        · have _ := c_6
          refine lv_iload_n hx hb dX12_arePlaces_16 rfl (lv_at hl 1 rfl) ?_
          refine lv_iload_n hx hb dX12_arePlaces_17 rfl (lv_at hl 2 rfl) ?_
          refine lv_icmp_eq (tgt := 25) hx hb dX12_arePlaces_18 (by decide) (fun c_7 => ?_) (fun c_7 => ?_)
          · have t_7 : a1.toInt = a2.toInt := congrArg Int32.toInt c_7
            refine lv_iconst (v := 0) hx hb dX12_arePlaces_25 (by decide) ?_
            rw [hQ]
            exact W.zret (ty := .boolean) (v := 0) hx hb hr (by decide) (fun t ht hW => ⟨⟨0, (), rfl, Or.inr (⟨by omega, rfl⟩), trivial⟩, hS.F ht⟩) hS.2.2 dX12_arePlaces_26
          · have t_7 : ¬ a1.toInt = a2.toInt := fun h => c_7 (Int32.toInt_inj.mp h)
            refine lv_iconst (v := 1) hx hb dX12_arePlaces_21 (by decide) ?_
            refine lv_goto (tgt := 26) hx hb dX12_arePlaces_22 (by decide) ?_
            rw [hQ]
            exact W.zret (ty := .boolean) (v := 1) hx hb hr (by decide) (fun t ht hW => ⟨⟨1, (), rfl, Or.inl (⟨by omega, rfl⟩), trivial⟩, hS.F ht⟩) hS.2.2 dX12_arePlaces_26
      · have e_ := e_.symm
        subst e_
        refine lv_if_eq (tgt := 25) hx hb dX12_arePlaces_13 (by decide) (fun c_8 => ?_) (fun c_8 => ?_)
        · have _ := c_8
          refine lv_iconst (v := 0) hx hb dX12_arePlaces_25 (by decide) ?_
          rw [hQ]
          exact W.zret (ty := .boolean) (v := 0) hx hb hr (by decide) (fun t ht hW => ⟨⟨0, (), rfl, Or.inr (⟨by omega, rfl⟩), trivial⟩, hS.F ht⟩) hS.2.2 dX12_arePlaces_26
        · exact absurd c_8 (by decide)
  · have e_ := e_.symm
    subst e_
    refine lv_if_eq (tgt := 25) hx hb dX12_arePlaces_5 (by decide) (fun c_9 => ?_) (fun c_9 => ?_)
    · have _ := c_9
      refine lv_iconst (v := 0) hx hb dX12_arePlaces_25 (by decide) ?_
      rw [hQ]
      exact W.zret (ty := .boolean) (v := 0) hx hb hr (by decide) (fun t ht hW => ⟨⟨0, (), rfl, Or.inr (⟨by omega, rfl⟩), trivial⟩, hS.F ht⟩) hS.2.2 dX12_arePlaces_26
    · exact absurd c_9 (by decide)

set_option maxHeartbeats 4000000 in
set_option maxRecDepth 100000 in
theorem c_X12_lets (l : Launch) (D : va_G) (cy : Nat → ClassId) (sz : Nat) (mo : Nat) (g5 : Nat) (g6 : Nat) (g7 : Nat) (g8 : Nat) (g9 : Nat) (g10 : Nat) (g12 : Nat) (g13 : Nat) (g14 : Nat) (g15 : Nat) (g16 : Nat) (g17 : Nat) (g18 : Nat) (g19 : Nat) (g20 : Nat) (g22 : Nat) (g23 : Nat) (g24 : Nat) (g29 : Nat) (g30 : Nat) (g31 : Nat) (g32 : Nat) (g33 : Nat) (s0 : Int32) (s1 : Int32) (s3 : Int32) (s4 : Int32) (s11 : Int32) (s21 : Int32) (s25 : Int32) (s26 : Int32) (s27 : Int32) (s28 : Int32) (t2 : Int64) (f5 : Nat → Int32) (f8 : Nat → Int32) (a1 : Int32) (a2 : Int32) (q1 : 0 ≤ a1.toInt ∧ a1.toInt < 40) : Met l yX12_lets wsX12_lets ({ frames := 0, cells := 0, slots := 0, locals := 0 }) (va_Pc [.ref mo, .int a1, .int a2] (fun U => U.heap.size = sz ∧ va_P D vwCl [(mo, .inr (12, [.int s0, .int s1, .long t2, .int s3, .int s4, .ref g5, .ref g6, .ref g7, .ref g8, .ref g9, .ref g10, .int s11, .ref g12, .ref g13, .ref g14, .ref g15, .ref g16, .ref g17, .ref g18, .ref g19, .ref g20, .int s21, .ref g22, .ref g23, .ref g24, .int s25, .int s26, .int s27, .int s28, .ref g29, .ref g30, .ref g31, .ref g32, .ref g33])), (g5, .inl (cy 0, 40, .inl f5)), (g8, .inl (cy 0, 40, .inl f8))] U.heap ∧ kk_ D cy U ∧ va_D (fun _ => True) [(mo, .inr (12, [.int s0, .int s1, .long t2, .int s3, .int s4, .ref g5, .ref g6, .ref g7, .ref g8, .ref g9, .ref g10, .int s11, .ref g12, .ref g13, .ref g14, .ref g15, .ref g16, .ref g17, .ref g18, .ref g19, .ref g20, .int s21, .ref g22, .ref g23, .ref g24, .int s25, .int s26, .int s27, .int s28, .ref g29, .ref g30, .ref g31, .ref g32, .ref g33])), (g5, .inl (cy 0, 40, .inl f5)), (g8, .inl (cy 0, 40, .inl f8))])) (va_Qi (fun (r : Int32) (_ : Unit) => (r = ml_lets (f5 a1.toNatClampNeg) (f8 a1.toNatClampNeg) a2)) (fun (_ : Unit) (_ : State) => True) (va_A [] sz)) 0 0 (va_A [] sz) := by
  refine ofQ (cc := cX12_lets) (maxL := 3) (ret := (some .int)) (by decide) rfl ?_
  intro p e s m args below meth c s₁ Q hQ B hml hv
  obtain ⟨rfl, hsz, hP, hK, hD0⟩ := hv
  have hx := B.exec
  have hb := B.bytes
  have hr := B.returns
  have hts := atoms_spec (ws := wsX12_lets) B.pre
  have hown : s.vm.findClass RX12 = some m.cls := by have h_ := findClass_of_methodNamed B.named; exact h_
  have hlocks := B.notSynchronized
  subst hsz
  have hD : va_D (va_A [] s.heap.size) [] := dd_nil
  generalize hAe : va_A [] s.heap.size = A at hD hQ
  have hA : ∀ q : Nat, s.heap.size ≤ q → A q := fun q h => by rw [← hAe]; exact Or.inr h
  have hS : va_S A s.heap s.heap [] := va_S.rf
  have hl := lv_entry ([.ref mo, .int a1, .int a2]) (n := 3) (Nat.le_of_ble_eq_true rfl)
  rw [lg_entry_eq]
  generalize (lg_sl ([.ref mo, .int a1, .int a2]) ++ List.replicate (3 - (lg_sl ([.ref mo, .int a1, .int a2])).length) Slot.unset).toArray = ls at hl ⊢
  have hl : lv_has ls 3 [(0, .ref mo), (1, .int a1), (2, .int a2)] := hl
  have zm5 : ((-5) : Int32).toInt = -5 := by decide
  have z0 : (0 : Int32).toInt = 0 := by decide
  have z1 : (1 : Int32).toInt = 1 := by decide
  have z2 : (2 : Int32).toInt = 2 := by decide
  refine lv_aload_n hx hb dX12_lets_0 rfl (lv_at hl 0 rfl) ?_
  refine va_get (ci := 12) (v := .ref g5) (C := RX12) (T := TX12) (N := 34) hx hb hts (fun _ h => List.mem_cons_of_mem _ (List.mem_append_right _ h)) hown hK.1 hP 0 rfl rfl 5 (by decide) (hts (.fieldLink RX12 7 "CutAtlasModel" "kind" "[I") (by decide +kernel)) (fun _ h9 => h9) rfl dX12_lets_1 ?_
  refine lv_iload_n hx hb dX12_lets_4 rfl (lv_at hl 1 rfl) ?_
  have h_1 : vp_in a1 40 := in_I (by omega) (by omega)
  refine va_iald hx hb hK.1 hP 1 0 rfl rfl (i := a1) h_1 dX12_lets_5 ?_
  refine lv_topi (fun y_2 ey_2 => ?_)
  refine lv_iconst (v := 2) hx hb dX12_lets_6 (by decide) ?_
  refine lv_icmp_ne (tgt := 15) hx hb dX12_lets_7 (by decide) (fun c_3 => ?_) (fun c_3 => ?_)
  · have t_3 : ¬ y_2.toInt = (2 : Int32).toInt := fun h => c_3 (Int32.toInt_inj.mp h)
    refine lv_aload_n hx hb dX12_lets_15 rfl (lv_at hl 0 rfl) ?_
    refine va_get (ci := 12) (v := .ref g5) (C := RX12) (T := TX12) (N := 34) hx hb hts (fun _ h => List.mem_cons_of_mem _ (List.mem_append_right _ h)) hown hK.1 hP 0 rfl rfl 5 (by decide) (hts (.fieldLink RX12 7 "CutAtlasModel" "kind" "[I") (by decide +kernel)) (fun _ h9 => h9) rfl dX12_lets_16 ?_
    refine lv_iload_n hx hb dX12_lets_19 rfl (lv_at hl 1 rfl) ?_
    have h_4 : vp_in a1 40 := in_I (by omega) (by omega)
    refine va_iald hx hb hK.1 hP 1 0 rfl rfl (i := a1) h_4 dX12_lets_20 ?_
    refine lv_topi (fun y_5 ey_5 => ?_)
    have e_ := (ey_5.trans ey_2.symm).symm
    subst e_
    skip
    refine lv_iconst (v := 1) hx hb dX12_lets_21 (by decide) ?_
    refine lv_icmp_ne (tgt := 33) hx hb dX12_lets_22 (by decide) (fun c_6 => ?_) (fun c_6 => ?_)
    · have t_6 : ¬ y_2.toInt = (1 : Int32).toInt := fun h => c_6 (Int32.toInt_inj.mp h)
      refine lv_aload_n hx hb dX12_lets_33 rfl (lv_at hl 0 rfl) ?_
      refine va_get (ci := 12) (v := .ref g8) (C := RX12) (T := TX12) (N := 34) hx hb hts (fun _ h => List.mem_cons_of_mem _ (List.mem_append_right _ h)) hown hK.1 hP 0 rfl rfl 8 (by decide) (hts (.fieldLink RX12 19 "CutAtlasModel" "width" "[I") (by decide +kernel)) (fun _ h9 => h9) rfl dX12_lets_34 ?_
      refine lv_iload_n hx hb dX12_lets_37 rfl (lv_at hl 1 rfl) ?_
      have h_7 : vp_in a1 40 := in_I (by omega) (by omega)
      refine va_iald hx hb hK.1 hP 2 0 rfl rfl (i := a1) h_7 dX12_lets_38 ?_
      refine lv_topi (fun y_8 ey_8 => ?_)
      rw [hQ]
      exact W.iret (v := y_8) hx hb hr (fun t ht hW => ⟨⟨y_8, (), rfl, (by first | (simp only [ml_lets]; try simp only [← ey_2]; try simp only [← ey_8]; simp [c_3, c_6]; done) | (simp only [ml_lets]; try simp only [← ey_2]; try simp only [← ey_8]; done) | (exfalso; omega)), trivial⟩, hS.F ht⟩) hS.2.2 dX12_lets_39
    · have t_6 : y_2.toInt = (1 : Int32).toInt := congrArg Int32.toInt c_6
      refine lv_iload_n hx hb dX12_lets_25 rfl (lv_at hl 2 rfl) ?_
      refine lv_if_ne (tgt := 33) hx hb dX12_lets_26 (by decide) (fun c_9 => ?_) (fun c_9 => ?_)
      · have t_9 : ¬ a2.toInt = (0 : Int32).toInt := fun h => c_9 (Int32.toInt_inj.mp h)
        refine lv_aload_n hx hb dX12_lets_33 rfl (lv_at hl 0 rfl) ?_
        refine va_get (ci := 12) (v := .ref g8) (C := RX12) (T := TX12) (N := 34) hx hb hts (fun _ h => List.mem_cons_of_mem _ (List.mem_append_right _ h)) hown hK.1 hP 0 rfl rfl 8 (by decide) (hts (.fieldLink RX12 19 "CutAtlasModel" "width" "[I") (by decide +kernel)) (fun _ h9 => h9) rfl dX12_lets_34 ?_
        refine lv_iload_n hx hb dX12_lets_37 rfl (lv_at hl 1 rfl) ?_
        have h_10 : vp_in a1 40 := in_I (by omega) (by omega)
        refine va_iald hx hb hK.1 hP 2 0 rfl rfl (i := a1) h_10 dX12_lets_38 ?_
        refine lv_topi (fun y_11 ey_11 => ?_)
        rw [hQ]
        exact W.iret (v := y_11) hx hb hr (fun t ht hW => ⟨⟨y_11, (), rfl, (by first | (simp only [ml_lets]; try simp only [← ey_2]; try simp only [← ey_11]; simp [c_3, c_6, c_9]; done) | (simp only [ml_lets]; try simp only [← ey_2]; try simp only [← ey_11]; done) | (exfalso; omega)), trivial⟩, hS.F ht⟩) hS.2.2 dX12_lets_39
      · have t_9 : a2.toInt = (0 : Int32).toInt := congrArg Int32.toInt c_9
        refine lv_iconst (v := 0) hx hb dX12_lets_29 (by decide) ?_
        refine lv_goto (tgt := 39) hx hb dX12_lets_30 (by decide) ?_
        rw [hQ]
        exact W.iret (v := 0) hx hb hr (fun t ht hW => ⟨⟨0, (), rfl, (by first | (simp only [ml_lets]; try simp only [← ey_2]; simp [c_3, c_6, c_9]; done) | (simp only [ml_lets]; try simp only [← ey_2]; done) | (exfalso; omega)), trivial⟩, hS.F ht⟩) hS.2.2 dX12_lets_39
  · have t_3 : y_2.toInt = (2 : Int32).toInt := congrArg Int32.toInt c_3
    refine lv_bipush (v := (-5)) hx hb dX12_lets_10 (by decide) ?_
    refine lv_goto (tgt := 39) hx hb dX12_lets_12 (by decide) ?_
    rw [hQ]
    exact W.iret (v := (-5)) hx hb hr (fun t ht hW => ⟨⟨(-5), (), rfl, (by first | (simp only [ml_lets]; try simp only [← ey_2]; simp [c_3]; done) | (simp only [ml_lets]; try simp only [← ey_2]; done) | (exfalso; omega)), trivial⟩, hS.F ht⟩) hS.2.2 dX12_lets_39

set_option maxHeartbeats 4000000 in
set_option maxRecDepth 100000 in
theorem c_X12_room (l : Launch) (D : va_G) (cy : Nat → ClassId) (sz : Nat) (mo : Nat) (g5 : Nat) (g6 : Nat) (g7 : Nat) (g8 : Nat) (g9 : Nat) (g10 : Nat) (g12 : Nat) (g13 : Nat) (g14 : Nat) (g15 : Nat) (g16 : Nat) (g17 : Nat) (g18 : Nat) (g19 : Nat) (g20 : Nat) (g22 : Nat) (g23 : Nat) (g24 : Nat) (g29 : Nat) (g30 : Nat) (g31 : Nat) (g32 : Nat) (g33 : Nat) (s0 : Int32) (s1 : Int32) (s3 : Int32) (s4 : Int32) (s11 : Int32) (s21 : Int32) (s25 : Int32) (s26 : Int32) (s27 : Int32) (s28 : Int32) (t2 : Int64) (f5 : Nat → Int32) (f8 : Nat → Int32) (a1 : Int32) (a2 : Int32) (q1 : 0 ≤ a1.toInt ∧ a1.toInt < 40) : Met l yX12_room wsX12_room ({ frames := 1, cells := 0, slots := 0, locals := 22 }) (va_Pc [.ref mo, .int a1, .int a2] (fun U => U.heap.size = sz ∧ va_P D vwCl [(mo, .inr (12, [.int s0, .int s1, .long t2, .int s3, .int s4, .ref g5, .ref g6, .ref g7, .ref g8, .ref g9, .ref g10, .int s11, .ref g12, .ref g13, .ref g14, .ref g15, .ref g16, .ref g17, .ref g18, .ref g19, .ref g20, .int s21, .ref g22, .ref g23, .ref g24, .int s25, .int s26, .int s27, .int s28, .ref g29, .ref g30, .ref g31, .ref g32, .ref g33])), (g5, .inl (cy 0, 40, .inl f5)), (g8, .inl (cy 0, 40, .inl f8))] U.heap ∧ kk_ D cy U ∧ va_D (fun _ => True) [(mo, .inr (12, [.int s0, .int s1, .long t2, .int s3, .int s4, .ref g5, .ref g6, .ref g7, .ref g8, .ref g9, .ref g10, .int s11, .ref g12, .ref g13, .ref g14, .ref g15, .ref g16, .ref g17, .ref g18, .ref g19, .ref g20, .int s21, .ref g22, .ref g23, .ref g24, .int s25, .int s26, .int s27, .int s28, .ref g29, .ref g30, .ref g31, .ref g32, .ref g33])), (g5, .inl (cy 0, 40, .inl f5)), (g8, .inl (cy 0, 40, .inl f8))])) (va_Qi (fun (r : Int32) (_ : Unit) => (r = ml_room (f5 a1.toNatClampNeg) (f8 a1.toNatClampNeg) a2 a1 s21)) (fun (_ : Unit) (_ : State) => True) (va_A [] sz)) 0 0 (va_A [] sz) := by
  refine ofQ (cc := cX12_room) (maxL := 5) (ret := (some .int)) (by decide) rfl ?_
  intro p e s m args below meth c s₁ Q hQ B hml hv
  obtain ⟨rfl, hsz, hP, hK, hD0⟩ := hv
  have hx := B.exec
  have hb := B.bytes
  have hr := B.returns
  have hts := atoms_spec (ws := wsX12_room) B.pre
  have hown : s.vm.findClass RX12 = some m.cls := by have h_ := findClass_of_methodNamed B.named; exact h_
  have hlocks := B.notSynchronized
  subst hsz
  have hD : va_D (va_A [] s.heap.size) [] := dd_nil
  generalize hAe : va_A [] s.heap.size = A at hD hQ
  have hA : ∀ q : Nat, s.heap.size ≤ q → A q := fun q h => by rw [← hAe]; exact Or.inr h
  have hS : va_S A s.heap s.heap [] := va_S.rf
  have hl := lv_entry ([.ref mo, .int a1, .int a2]) (n := 5) (Nat.le_of_ble_eq_true rfl)
  rw [lg_entry_eq]
  generalize (lg_sl ([.ref mo, .int a1, .int a2]) ++ List.replicate (5 - (lg_sl ([.ref mo, .int a1, .int a2])).length) Slot.unset).toArray = ls at hl ⊢
  have hl : lv_has ls 5 [(0, .ref mo), (1, .int a1), (2, .int a2)] := hl
  have zm5 : ((-5) : Int32).toInt = -5 := by decide
  have z0 : (0 : Int32).toInt = 0 := by decide
  have z1 : (1 : Int32).toInt = 1 := by decide
  have z1000000 : (1000000 : Int32).toInt = 1000000 := by decide
  refine lv_aload_n hx hb dX12_room_0 rfl (lv_at hl 0 rfl) ?_
  refine lv_iload_n hx hb dX12_room_1 rfl (lv_at hl 1 rfl) ?_
  refine lv_iload_n hx hb dX12_room_2 rfl (lv_at hl 2 rfl) ?_
  refine ct_R hP hD0 [(mo, .inr (12, [.int s0, .int s1, .long t2, .int s3, .int s4, .ref g5, .ref g6, .ref g7, .ref g8, .ref g9, .ref g10, .int s11, .ref g12, .ref g13, .ref g14, .ref g15, .ref g16, .ref g17, .ref g18, .ref g19, .ref g20, .int s21, .ref g22, .ref g23, .ref g24, .int s25, .int s26, .int s27, .int s28, .ref g29, .ref g30, .ref g31, .ref g32, .ref g33])), (g5, .inl (cy 0, 40, .inl f5)), (g8, .inl (cy 0, 40, .inl f8))] [0, 1, 2] (by decide) rfl (fun hPc hDw => ?_)
  have hFc := va_free (wc := []) hD hS hA [] rfl
  refine va_calli (va_runV (As := [.int a1, .int a2]) (rest := []) ⟨hx, hb, hml, hown, hts⟩ (c_X12_lets l D cy s.heap.size mo g5 g6 g7 g8 g9 g10 g12 g13 g14 g15 g16 g17 g18 g19 g20 g22 g23 g24 g29 g30 g31 g32 g33 s0 s1 s3 s4 s11 s21 s25 s26 s27 s28 t2 f5 f8 a1 a2 (by first | with_reducible assumption | assumption | omega)) (cwV 2 hts gX12_room_X12_lets rfl rfl rfl (by decide +kernel) ⟨Nat.le_of_ble_eq_true rfl, Nat.le_of_ble_eq_true rfl⟩) ⟨bl_, va_recvX hK.1 hP (ci := 12) (q0 := 0) rfl rfl, fun U hU hW => ⟨rfl, by rw [hU], by rw [hU]; exact hPc, kk_mv hW hK, hDw⟩⟩ rfl rfl hl.1 rfl (lv_room (Nat.le_of_ble_eq_true rfl)) dX12_room_3 ⟨Nat.le_of_ble_eq_true rfl, Nat.le_of_ble_eq_true rfl⟩) hS (fun q _ h => hFc q h) hFc (fun r_1 u t H locs ht hvm hw hB hz1 hk1 hS => ?_)
  have hP : va_P D vwCl _ H := ro_keep hP hk1
  have f0_r_1 := hw
  refine lv_istore_n (lv' := [(3, .int r_1), (0, .ref mo), (1, .int a1), (2, .int a2)]) hx hb dX12_room_6 rfl hl (by decide) rfl (fun ls hl => ?_)
  refine lv_iload_n hx hb dX12_room_7 rfl (lv_at hl 2 rfl) ?_
  refine lv_aload_n hx hb dX12_room_8 rfl (lv_at hl 1 rfl) ?_
  refine va_get (ci := 12) (v := .int s21) (C := RX12) (T := TX12) (N := 34) hx hb hts (fun _ h => List.mem_cons_of_mem _ (List.mem_append_right _ h)) hown hK.1 hP 0 rfl rfl 21 (by decide) (hts (.fieldLink RX12 57 "CutAtlasModel" "raised" "I") (by decide +kernel)) (fun _ h9 => h9) rfl dX12_room_9 ?_
  refine lv_icmp_ne (tgt := 39) hx hb dX12_room_12 (by decide) (fun c_2 => ?_) (fun c_2 => ?_)
  · have t_2 : ¬ a1.toInt = s21.toInt := fun h => c_2 (Int32.toInt_inj.mp h)
    refine lv_iconst (v := 0) hx hb dX12_room_39 (by decide) ?_
    refine lv_istore (lv' := [(4, .int 0), (3, .int r_1), (0, .ref mo), (1, .int a1), (2, .int a2)]) hx hb dX12_room_40 hl (by decide) rfl (fun ls hl => ?_)
    refine lv_iload_n hx hb dX12_room_42 rfl (lv_at hl 1 rfl) ?_
    refine lv_bipush (v := (-5)) hx hb dX12_room_43 (by decide) ?_
    refine lv_icmp_ne (tgt := 53) hx hb dX12_room_45 (by decide) (fun c_3 => ?_) (fun c_3 => ?_)
    · have t_3 : ¬ r_1.toInt = ((-5) : Int32).toInt := fun h => c_3 (Int32.toInt_inj.mp h)
      refine lv_iload hx hb dX12_room_53 (lv_at hl 0 rfl) ?_
      refine lv_if_eq (tgt := 64) hx hb dX12_room_55 (by decide) (fun c_4 => ?_) (fun c_4 => ?_)
      · have _ := c_4
        refine lv_iload_n hx hb dX12_room_64 rfl (lv_at hl 1 rfl) ?_
        rw [hQ]
        exact W.iret (v := r_1) hx hb hr (fun t ht hW => ⟨⟨r_1, (), rfl, (by first | (simp only [ml_room]; try simp only [← f0_r_1]; simp [c_2, c_3]; done) | (simp only [ml_room]; try simp only [← f0_r_1]; done) | (exfalso; omega)), trivial⟩, hS.F ht⟩) hS.2.2 dX12_room_65
      · exact absurd c_4 (by decide)
    · have t_3 : r_1.toInt = ((-5) : Int32).toInt := congrArg Int32.toInt c_3
      refine lv_ldc (v := 1000000) hx hb hown (hts (.constant RX12 159 (1000000)) (by decide +kernel)) dX12_room_48 ?_
      refine lv_goto (tgt := 65) hx hb dX12_room_50 (by decide) ?_
      rw [hQ]
      exact W.iret (v := 1000000) hx hb hr (fun t ht hW => ⟨⟨1000000, (), rfl, (by first | (simp only [ml_room]; try simp only [← f0_r_1]; simp [c_2, c_3]; done) | (simp only [ml_room]; try simp only [← f0_r_1]; done) | (exfalso; omega)), trivial⟩, hS.F ht⟩) hS.2.2 dX12_room_65
  · have t_2 : a1.toInt = s21.toInt := congrArg Int32.toInt c_2
    refine lv_iload_n hx hb dX12_room_15 rfl (lv_at hl 0 rfl) ?_
    refine lv_bipush (v := (-5)) hx hb dX12_room_16 (by decide) ?_
    refine lv_icmp_eq (tgt := 39) hx hb dX12_room_18 (by decide) (fun c_5 => ?_) (fun c_5 => ?_)
    · have t_5 : r_1.toInt = ((-5) : Int32).toInt := congrArg Int32.toInt c_5
      refine lv_iconst (v := 0) hx hb dX12_room_39 (by decide) ?_
      refine lv_istore (lv' := [(4, .int 0), (3, .int r_1), (0, .ref mo), (1, .int a1), (2, .int a2)]) hx hb dX12_room_40 hl (by decide) rfl (fun ls hl => ?_)
      refine lv_iload_n hx hb dX12_room_42 rfl (lv_at hl 1 rfl) ?_
      refine lv_bipush (v := (-5)) hx hb dX12_room_43 (by decide) ?_
      refine lv_icmp_ne (tgt := 53) hx hb dX12_room_45 (by decide) (fun c_6 => ?_) (fun c_6 => ?_)
      · have t_6 : ¬ r_1.toInt = ((-5) : Int32).toInt := fun h => c_6 (Int32.toInt_inj.mp h)
        exfalso; omega
      · have t_6 : r_1.toInt = ((-5) : Int32).toInt := congrArg Int32.toInt c_6
        refine lv_ldc (v := 1000000) hx hb hown (hts (.constant RX12 159 (1000000)) (by decide +kernel)) dX12_room_48 ?_
        refine lv_goto (tgt := 65) hx hb dX12_room_50 (by decide) ?_
        rw [hQ]
        exact W.iret (v := 1000000) hx hb hr (fun t ht hW => ⟨⟨1000000, (), rfl, (by first | (simp only [ml_room]; try simp only [← f0_r_1]; simp [c_2, c_5, c_6]; done) | (simp only [ml_room]; try simp only [← f0_r_1]; done) | (exfalso; omega)), trivial⟩, hS.F ht⟩) hS.2.2 dX12_room_65
    · have t_5 : ¬ r_1.toInt = ((-5) : Int32).toInt := fun h => c_5 (Int32.toInt_inj.mp h)
      refine lv_aload_n hx hb dX12_room_21 rfl (lv_at hl 1 rfl) ?_
      refine va_get (ci := 12) (v := .ref g5) (C := RX12) (T := TX12) (N := 34) hx hb hts (fun _ h => List.mem_cons_of_mem _ (List.mem_append_right _ h)) hown hK.1 hP 0 rfl rfl 5 (by decide) (hts (.fieldLink RX12 7 "CutAtlasModel" "kind" "[I") (by decide +kernel)) (fun _ h9 => h9) rfl dX12_room_22 ?_
      refine lv_iload_n hx hb dX12_room_25 rfl (lv_at hl 2 rfl) ?_
      have h_7 : vp_in a1 40 := in_I (by omega) (by omega)
      refine va_iald hx hb hK.1 hP 1 0 rfl rfl (i := a1) h_7 dX12_room_26 ?_
      refine lv_topi (fun y_8 ey_8 => ?_)
      refine lv_iconst (v := 1) hx hb dX12_room_27 (by decide) ?_
      refine lv_icmp_ne (tgt := 35) hx hb dX12_room_28 (by decide) (fun c_9 => ?_) (fun c_9 => ?_)
      · have t_9 : ¬ y_8.toInt = (1 : Int32).toInt := fun h => c_9 (Int32.toInt_inj.mp h)
        refine lv_iconst (v := 1) hx hb dX12_room_35 (by decide) ?_
        refine lv_goto (tgt := 40) hx hb dX12_room_36 (by decide) ?_
        refine lv_istore (lv' := [(4, .int 1), (3, .int r_1), (0, .ref mo), (1, .int a1), (2, .int a2)]) hx hb dX12_room_40 hl (by decide) rfl (fun ls hl => ?_)
        refine lv_iload_n hx hb dX12_room_42 rfl (lv_at hl 1 rfl) ?_
        refine lv_bipush (v := (-5)) hx hb dX12_room_43 (by decide) ?_
        refine lv_icmp_ne (tgt := 53) hx hb dX12_room_45 (by decide) (fun c_10 => ?_) (fun c_10 => ?_)
        · have t_10 : ¬ r_1.toInt = ((-5) : Int32).toInt := fun h => c_10 (Int32.toInt_inj.mp h)
          refine lv_iload hx hb dX12_room_53 (lv_at hl 0 rfl) ?_
          refine lv_if_eq (tgt := 64) hx hb dX12_room_55 (by decide) (fun c_11 => ?_) (fun c_11 => ?_)
          · exact absurd c_11 (by decide)
          · have _ := c_11
            refine lv_iload_n hx hb dX12_room_58 rfl (lv_at hl 1 rfl) ?_
            refine lv_iconst (v := 1) hx hb dX12_room_59 (by decide) ?_
            refine lv_iadd hx hb dX12_room_60 ?_
            refine lv_topi (fun y_12 ey_12 => ?_)
            refine lv_goto (tgt := 65) hx hb dX12_room_61 (by decide) ?_
            rw [hQ]
            exact W.iret (v := y_12) hx hb hr (fun t ht hW => ⟨⟨y_12, (), rfl, (by first | (simp only [ml_room]; try simp only [← f0_r_1]; try simp only [← ey_8]; simp [c_2, c_5, c_9, c_10, ey_12]; done) | (simp only [ml_room]; try simp only [← f0_r_1]; try simp only [← ey_8]; done) | (exfalso; omega)), trivial⟩, hS.F ht⟩) hS.2.2 dX12_room_65
        · have t_10 : r_1.toInt = ((-5) : Int32).toInt := congrArg Int32.toInt c_10
          refine lv_ldc (v := 1000000) hx hb hown (hts (.constant RX12 159 (1000000)) (by decide +kernel)) dX12_room_48 ?_
          refine lv_goto (tgt := 65) hx hb dX12_room_50 (by decide) ?_
          rw [hQ]
          exact W.iret (v := 1000000) hx hb hr (fun t ht hW => ⟨⟨1000000, (), rfl, (by first | (simp only [ml_room]; try simp only [← f0_r_1]; try simp only [← ey_8]; simp [c_2, c_5, c_9, c_10]; done) | (simp only [ml_room]; try simp only [← f0_r_1]; try simp only [← ey_8]; done) | (exfalso; omega)), trivial⟩, hS.F ht⟩) hS.2.2 dX12_room_65
      · have t_9 : y_8.toInt = (1 : Int32).toInt := congrArg Int32.toInt c_9
        refine lv_iload_n hx hb dX12_room_31 rfl (lv_at hl 3 rfl) ?_
        refine lv_if_eq (tgt := 39) hx hb dX12_room_32 (by decide) (fun c_13 => ?_) (fun c_13 => ?_)
        · have t_13 : a2.toInt = (0 : Int32).toInt := congrArg Int32.toInt c_13
          refine lv_iconst (v := 0) hx hb dX12_room_39 (by decide) ?_
          refine lv_istore (lv' := [(4, .int 0), (3, .int r_1), (0, .ref mo), (1, .int a1), (2, .int a2)]) hx hb dX12_room_40 hl (by decide) rfl (fun ls hl => ?_)
          refine lv_iload_n hx hb dX12_room_42 rfl (lv_at hl 1 rfl) ?_
          refine lv_bipush (v := (-5)) hx hb dX12_room_43 (by decide) ?_
          refine lv_icmp_ne (tgt := 53) hx hb dX12_room_45 (by decide) (fun c_14 => ?_) (fun c_14 => ?_)
          · have t_14 : ¬ r_1.toInt = ((-5) : Int32).toInt := fun h => c_14 (Int32.toInt_inj.mp h)
            refine lv_iload hx hb dX12_room_53 (lv_at hl 0 rfl) ?_
            refine lv_if_eq (tgt := 64) hx hb dX12_room_55 (by decide) (fun c_15 => ?_) (fun c_15 => ?_)
            · have _ := c_15
              refine lv_iload_n hx hb dX12_room_64 rfl (lv_at hl 1 rfl) ?_
              rw [hQ]
              exact W.iret (v := r_1) hx hb hr (fun t ht hW => ⟨⟨r_1, (), rfl, (by first | (simp only [ml_room]; try simp only [← f0_r_1]; try simp only [← ey_8]; simp [c_2, c_5, c_9, c_13, c_14]; done) | (simp only [ml_room]; try simp only [← f0_r_1]; try simp only [← ey_8]; done) | (exfalso; omega)), trivial⟩, hS.F ht⟩) hS.2.2 dX12_room_65
            · exact absurd c_15 (by decide)
          · have t_14 : r_1.toInt = ((-5) : Int32).toInt := congrArg Int32.toInt c_14
            refine lv_ldc (v := 1000000) hx hb hown (hts (.constant RX12 159 (1000000)) (by decide +kernel)) dX12_room_48 ?_
            refine lv_goto (tgt := 65) hx hb dX12_room_50 (by decide) ?_
            rw [hQ]
            exact W.iret (v := 1000000) hx hb hr (fun t ht hW => ⟨⟨1000000, (), rfl, (by first | (simp only [ml_room]; try simp only [← f0_r_1]; try simp only [← ey_8]; simp [c_2, c_5, c_9, c_13, c_14]; done) | (simp only [ml_room]; try simp only [← f0_r_1]; try simp only [← ey_8]; done) | (exfalso; omega)), trivial⟩, hS.F ht⟩) hS.2.2 dX12_room_65
        · have t_13 : ¬ a2.toInt = (0 : Int32).toInt := fun h => c_13 (Int32.toInt_inj.mp h)
          refine lv_iconst (v := 1) hx hb dX12_room_35 (by decide) ?_
          refine lv_goto (tgt := 40) hx hb dX12_room_36 (by decide) ?_
          refine lv_istore (lv' := [(4, .int 1), (3, .int r_1), (0, .ref mo), (1, .int a1), (2, .int a2)]) hx hb dX12_room_40 hl (by decide) rfl (fun ls hl => ?_)
          refine lv_iload_n hx hb dX12_room_42 rfl (lv_at hl 1 rfl) ?_
          refine lv_bipush (v := (-5)) hx hb dX12_room_43 (by decide) ?_
          refine lv_icmp_ne (tgt := 53) hx hb dX12_room_45 (by decide) (fun c_16 => ?_) (fun c_16 => ?_)
          · have t_16 : ¬ r_1.toInt = ((-5) : Int32).toInt := fun h => c_16 (Int32.toInt_inj.mp h)
            refine lv_iload hx hb dX12_room_53 (lv_at hl 0 rfl) ?_
            refine lv_if_eq (tgt := 64) hx hb dX12_room_55 (by decide) (fun c_17 => ?_) (fun c_17 => ?_)
            · exact absurd c_17 (by decide)
            · have _ := c_17
              refine lv_iload_n hx hb dX12_room_58 rfl (lv_at hl 1 rfl) ?_
              refine lv_iconst (v := 1) hx hb dX12_room_59 (by decide) ?_
              refine lv_iadd hx hb dX12_room_60 ?_
              refine lv_topi (fun y_18 ey_18 => ?_)
              refine lv_goto (tgt := 65) hx hb dX12_room_61 (by decide) ?_
              rw [hQ]
              exact W.iret (v := y_18) hx hb hr (fun t ht hW => ⟨⟨y_18, (), rfl, (by first | (simp only [ml_room]; try simp only [← f0_r_1]; try simp only [← ey_8]; simp [c_2, c_5, c_9, c_13, c_16, ey_18]; done) | (simp only [ml_room]; try simp only [← f0_r_1]; try simp only [← ey_8]; done) | (exfalso; omega)), trivial⟩, hS.F ht⟩) hS.2.2 dX12_room_65
          · have t_16 : r_1.toInt = ((-5) : Int32).toInt := congrArg Int32.toInt c_16
            refine lv_ldc (v := 1000000) hx hb hown (hts (.constant RX12 159 (1000000)) (by decide +kernel)) dX12_room_48 ?_
            refine lv_goto (tgt := 65) hx hb dX12_room_50 (by decide) ?_
            rw [hQ]
            exact W.iret (v := 1000000) hx hb hr (fun t ht hW => ⟨⟨1000000, (), rfl, (by first | (simp only [ml_room]; try simp only [← f0_r_1]; try simp only [← ey_8]; simp [c_2, c_5, c_9, c_13, c_16]; done) | (simp only [ml_room]; try simp only [← f0_r_1]; try simp only [← ey_8]; done) | (exfalso; omega)), trivial⟩, hS.F ht⟩) hS.2.2 dX12_room_65

set_option maxHeartbeats 4000000 in
set_option maxRecDepth 100000 in
theorem c_X12_costs (l : Launch) (D : va_G) (cy : Nat → ClassId) (sz : Nat) (mo : Nat) (g5 : Nat) (g6 : Nat) (g7 : Nat) (g8 : Nat) (g9 : Nat) (g10 : Nat) (g12 : Nat) (g13 : Nat) (g14 : Nat) (g15 : Nat) (g16 : Nat) (g17 : Nat) (g18 : Nat) (g19 : Nat) (g20 : Nat) (g22 : Nat) (g23 : Nat) (g24 : Nat) (g29 : Nat) (g30 : Nat) (g31 : Nat) (g32 : Nat) (g33 : Nat) (s0 : Int32) (s1 : Int32) (s3 : Int32) (s4 : Int32) (s11 : Int32) (s21 : Int32) (s25 : Int32) (s26 : Int32) (s27 : Int32) (s28 : Int32) (t2 : Int64) (f5 : Nat → Int32) (f9 : Nat → Int32) (a1 : Int32) (q1 : 0 ≤ a1.toInt ∧ a1.toInt < 40) : Met l yX12_costs wsX12_costs ({ frames := 0, cells := 0, slots := 0, locals := 0 }) (va_Pc [.ref mo, .int a1] (fun U => U.heap.size = sz ∧ va_P D vwCl [(mo, .inr (12, [.int s0, .int s1, .long t2, .int s3, .int s4, .ref g5, .ref g6, .ref g7, .ref g8, .ref g9, .ref g10, .int s11, .ref g12, .ref g13, .ref g14, .ref g15, .ref g16, .ref g17, .ref g18, .ref g19, .ref g20, .int s21, .ref g22, .ref g23, .ref g24, .int s25, .int s26, .int s27, .int s28, .ref g29, .ref g30, .ref g31, .ref g32, .ref g33])), (g5, .inl (cy 0, 40, .inl f5)), (g9, .inl (cy 0, 40, .inl f9))] U.heap ∧ kk_ D cy U ∧ va_D (fun _ => True) [(mo, .inr (12, [.int s0, .int s1, .long t2, .int s3, .int s4, .ref g5, .ref g6, .ref g7, .ref g8, .ref g9, .ref g10, .int s11, .ref g12, .ref g13, .ref g14, .ref g15, .ref g16, .ref g17, .ref g18, .ref g19, .ref g20, .int s21, .ref g22, .ref g23, .ref g24, .int s25, .int s26, .int s27, .int s28, .ref g29, .ref g30, .ref g31, .ref g32, .ref g33])), (g5, .inl (cy 0, 40, .inl f5)), (g9, .inl (cy 0, 40, .inl f9))])) (va_Qi (fun (r : Int32) (_ : Unit) => True) (fun (_ : Unit) (_ : State) => True) (va_A [] sz)) 0 0 (va_A [] sz) := by
  refine ofQ (cc := cX12_costs) (maxL := 2) (ret := (some .int)) (by decide) rfl ?_
  intro p e s m args below meth c s₁ Q hQ B hml hv
  obtain ⟨rfl, hsz, hP, hK, hD0⟩ := hv
  have hx := B.exec
  have hb := B.bytes
  have hr := B.returns
  have hts := atoms_spec (ws := wsX12_costs) B.pre
  have hown : s.vm.findClass RX12 = some m.cls := by have h_ := findClass_of_methodNamed B.named; exact h_
  have hlocks := B.notSynchronized
  subst hsz
  have hD : va_D (va_A [] s.heap.size) [] := dd_nil
  generalize hAe : va_A [] s.heap.size = A at hD hQ
  have hA : ∀ q : Nat, s.heap.size ≤ q → A q := fun q h => by rw [← hAe]; exact Or.inr h
  have hS : va_S A s.heap s.heap [] := va_S.rf
  have hl := lv_entry ([.ref mo, .int a1]) (n := 2) (Nat.le_of_ble_eq_true rfl)
  rw [lg_entry_eq]
  generalize (lg_sl ([.ref mo, .int a1]) ++ List.replicate (2 - (lg_sl ([.ref mo, .int a1])).length) Slot.unset).toArray = ls at hl ⊢
  have hl : lv_has ls 2 [(0, .ref mo), (1, .int a1)] := hl
  have zm9 : ((-9) : Int32).toInt = -9 := by decide
  have z1 : (1 : Int32).toInt = 1 := by decide
  have z3 : (3 : Int32).toInt = 3 := by decide
  have z4 : (4 : Int32).toInt = 4 := by decide
  refine lv_aload_n hx hb dX12_costs_0 rfl (lv_at hl 0 rfl) ?_
  refine va_get (ci := 12) (v := .ref g5) (C := RX12) (T := TX12) (N := 34) hx hb hts (fun _ h => List.mem_cons_of_mem _ (List.mem_append_right _ h)) hown hK.1 hP 0 rfl rfl 5 (by decide) (hts (.fieldLink RX12 7 "CutAtlasModel" "kind" "[I") (by decide +kernel)) (fun _ h9 => h9) rfl dX12_costs_1 ?_
  refine lv_iload_n hx hb dX12_costs_4 rfl (lv_at hl 1 rfl) ?_
  have h_1 : vp_in a1 40 := in_I (by omega) (by omega)
  refine va_iald hx hb hK.1 hP 1 0 rfl rfl (i := a1) h_1 dX12_costs_5 ?_
  refine lv_topi (fun y_2 ey_2 => ?_)
  refine lv_iconst (v := 3) hx hb dX12_costs_6 (by decide) ?_
  refine lv_icmp_ne (tgt := 19) hx hb dX12_costs_7 (by decide) (fun c_3 => ?_) (fun c_3 => ?_)
  · have t_3 : ¬ y_2.toInt = (3 : Int32).toInt := fun h => c_3 (Int32.toInt_inj.mp h)
    refine lv_aload_n hx hb dX12_costs_19 rfl (lv_at hl 0 rfl) ?_
    refine va_get (ci := 12) (v := .ref g5) (C := RX12) (T := TX12) (N := 34) hx hb hts (fun _ h => List.mem_cons_of_mem _ (List.mem_append_right _ h)) hown hK.1 hP 0 rfl rfl 5 (by decide) (hts (.fieldLink RX12 7 "CutAtlasModel" "kind" "[I") (by decide +kernel)) (fun _ h9 => h9) rfl dX12_costs_20 ?_
    refine lv_iload_n hx hb dX12_costs_23 rfl (lv_at hl 1 rfl) ?_
    have h_4 : vp_in a1 40 := in_I (by omega) (by omega)
    refine va_iald hx hb hK.1 hP 1 0 rfl rfl (i := a1) h_4 dX12_costs_24 ?_
    refine lv_topi (fun y_5 ey_5 => ?_)
    have e_ := (ey_5.trans ey_2.symm).symm
    subst e_
    skip
    refine lv_iconst (v := 4) hx hb dX12_costs_25 (by decide) ?_
    refine lv_icmp_ne (tgt := 40) hx hb dX12_costs_26 (by decide) (fun c_6 => ?_) (fun c_6 => ?_)
    · have t_6 : ¬ y_2.toInt = (4 : Int32).toInt := fun h => c_6 (Int32.toInt_inj.mp h)
      refine lv_bipush (v := (-9)) hx hb dX12_costs_40 (by decide) ?_
      rw [hQ]
      exact W.iret (v := (-9)) hx hb hr (fun t ht hW => ⟨⟨(-9), (), rfl, trivial, trivial⟩, hS.F ht⟩) hS.2.2 dX12_costs_42
    · have t_6 : y_2.toInt = (4 : Int32).toInt := congrArg Int32.toInt c_6
      refine lv_aload_n hx hb dX12_costs_29 rfl (lv_at hl 0 rfl) ?_
      refine va_get (ci := 12) (v := .ref g9) (C := RX12) (T := TX12) (N := 34) hx hb hts (fun _ h => List.mem_cons_of_mem _ (List.mem_append_right _ h)) hown hK.1 hP 0 rfl rfl 9 (by decide) (hts (.fieldLink RX12 22 "CutAtlasModel" "price" "[I") (by decide +kernel)) (fun _ h9 => h9) rfl dX12_costs_30 ?_
      refine lv_iload_n hx hb dX12_costs_33 rfl (lv_at hl 1 rfl) ?_
      have h_7 : vp_in a1 40 := in_I (by omega) (by omega)
      refine va_iald hx hb hK.1 hP 2 0 rfl rfl (i := a1) h_7 dX12_costs_34 ?_
      refine lv_topi (fun y_8 ey_8 => ?_)
      refine lv_iconst (v := 1) hx hb dX12_costs_35 (by decide) ?_
      refine lv_iadd hx hb dX12_costs_36 ?_
      refine lv_topi (fun y_9 ey_9 => ?_)
      refine lv_goto (tgt := 42) hx hb dX12_costs_37 (by decide) ?_
      rw [hQ]
      exact W.iret (v := y_9) hx hb hr (fun t ht hW => ⟨⟨y_9, (), rfl, trivial, trivial⟩, hS.F ht⟩) hS.2.2 dX12_costs_42
  · have t_3 : y_2.toInt = (3 : Int32).toInt := congrArg Int32.toInt c_3
    refine lv_aload_n hx hb dX12_costs_10 rfl (lv_at hl 0 rfl) ?_
    refine va_get (ci := 12) (v := .ref g9) (C := RX12) (T := TX12) (N := 34) hx hb hts (fun _ h => List.mem_cons_of_mem _ (List.mem_append_right _ h)) hown hK.1 hP 0 rfl rfl 9 (by decide) (hts (.fieldLink RX12 22 "CutAtlasModel" "price" "[I") (by decide +kernel)) (fun _ h9 => h9) rfl dX12_costs_11 ?_
    refine lv_iload_n hx hb dX12_costs_14 rfl (lv_at hl 1 rfl) ?_
    have h_10 : vp_in a1 40 := in_I (by omega) (by omega)
    refine va_iald hx hb hK.1 hP 2 0 rfl rfl (i := a1) h_10 dX12_costs_15 ?_
    refine lv_topi (fun y_11 ey_11 => ?_)
    refine lv_goto (tgt := 42) hx hb dX12_costs_16 (by decide) ?_
    rw [hQ]
    exact W.iret (v := y_11) hx hb hr (fun t ht hW => ⟨⟨y_11, (), rfl, trivial, trivial⟩, hS.F ht⟩) hS.2.2 dX12_costs_42

set_option maxHeartbeats 4000000 in
set_option maxRecDepth 100000 in
theorem c_X12_costsTrace (l : Launch) (D : va_G) (cy : Nat → ClassId) (sz : Nat) (mo : Nat) (g5 : Nat) (g6 : Nat) (g7 : Nat) (g8 : Nat) (g9 : Nat) (g10 : Nat) (g12 : Nat) (g13 : Nat) (g14 : Nat) (g15 : Nat) (g16 : Nat) (g17 : Nat) (g18 : Nat) (g19 : Nat) (g20 : Nat) (g22 : Nat) (g23 : Nat) (g24 : Nat) (g29 : Nat) (g30 : Nat) (g31 : Nat) (g32 : Nat) (g33 : Nat) (s0 : Int32) (s1 : Int32) (s3 : Int32) (s4 : Int32) (s11 : Int32) (s21 : Int32) (s25 : Int32) (s26 : Int32) (s27 : Int32) (s28 : Int32) (t2 : Int64) (f5 : Nat → Int32) (a1 : Int32) (q1 : 0 ≤ a1.toInt ∧ a1.toInt < 40) : Met l yX12_costsTrace wsX12_costsTrace ({ frames := 0, cells := 0, slots := 0, locals := 0 }) (va_Pc [.ref mo, .int a1] (fun U => U.heap.size = sz ∧ va_P D vwCl [(mo, .inr (12, [.int s0, .int s1, .long t2, .int s3, .int s4, .ref g5, .ref g6, .ref g7, .ref g8, .ref g9, .ref g10, .int s11, .ref g12, .ref g13, .ref g14, .ref g15, .ref g16, .ref g17, .ref g18, .ref g19, .ref g20, .int s21, .ref g22, .ref g23, .ref g24, .int s25, .int s26, .int s27, .int s28, .ref g29, .ref g30, .ref g31, .ref g32, .ref g33])), (g5, .inl (cy 0, 40, .inl f5))] U.heap ∧ kk_ D cy U ∧ va_D (fun _ => True) [(mo, .inr (12, [.int s0, .int s1, .long t2, .int s3, .int s4, .ref g5, .ref g6, .ref g7, .ref g8, .ref g9, .ref g10, .int s11, .ref g12, .ref g13, .ref g14, .ref g15, .ref g16, .ref g17, .ref g18, .ref g19, .ref g20, .int s21, .ref g22, .ref g23, .ref g24, .int s25, .int s26, .int s27, .int s28, .ref g29, .ref g30, .ref g31, .ref g32, .ref g33])), (g5, .inl (cy 0, 40, .inl f5))])) (va_Ql (fun (r : Int64) (_ : Unit) => True) (fun (_ : Unit) (_ : State) => True) (va_A [] sz)) 0 0 (va_A [] sz) := by
  refine ofQ (cc := cX12_costsTrace) (maxL := 2) (ret := (some .long)) (by decide) rfl ?_
  intro p e s m args below meth c s₁ Q hQ B hml hv
  obtain ⟨rfl, hsz, hP, hK, hD0⟩ := hv
  have hx := B.exec
  have hb := B.bytes
  have hr := B.returns
  have hts := atoms_spec (ws := wsX12_costsTrace) B.pre
  have hown : s.vm.findClass RX12 = some m.cls := by have h_ := findClass_of_methodNamed B.named; exact h_
  have hlocks := B.notSynchronized
  subst hsz
  have hD : va_D (va_A [] s.heap.size) [] := dd_nil
  generalize hAe : va_A [] s.heap.size = A at hD hQ
  have hA : ∀ q : Nat, s.heap.size ≤ q → A q := fun q h => by rw [← hAe]; exact Or.inr h
  have hS : va_S A s.heap s.heap [] := va_S.rf
  have hl := lv_entry ([.ref mo, .int a1]) (n := 2) (Nat.le_of_ble_eq_true rfl)
  rw [lg_entry_eq]
  generalize (lg_sl ([.ref mo, .int a1]) ++ List.replicate (2 - (lg_sl ([.ref mo, .int a1])).length) Slot.unset).toArray = ls at hl ⊢
  have hl : lv_has ls 2 [(0, .ref mo), (1, .int a1)] := hl
  have z3 : (3 : Int32).toInt = 3 := by decide
  have z4 : (4 : Int32).toInt = 4 := by decide
  have zl1000 : (1000 : Int64).toInt = 1000 := by decide
  have zl10000 : (10000 : Int64).toInt = 10000 := by decide
  have zl110000 : (110000 : Int64).toInt = 110000 := by decide
  refine lv_aload_n hx hb dX12_costsTrace_0 rfl (lv_at hl 0 rfl) ?_
  refine va_get (ci := 12) (v := .ref g5) (C := RX12) (T := TX12) (N := 34) hx hb hts (fun _ h => List.mem_cons_of_mem _ (List.mem_append_right _ h)) hown hK.1 hP 0 rfl rfl 5 (by decide) (hts (.fieldLink RX12 7 "CutAtlasModel" "kind" "[I") (by decide +kernel)) (fun _ h9 => h9) rfl dX12_costsTrace_1 ?_
  refine lv_iload_n hx hb dX12_costsTrace_4 rfl (lv_at hl 1 rfl) ?_
  have h_1 : vp_in a1 40 := in_I (by omega) (by omega)
  refine va_iald hx hb hK.1 hP 1 0 rfl rfl (i := a1) h_1 dX12_costsTrace_5 ?_
  refine lv_topi (fun y_2 ey_2 => ?_)
  refine lv_iconst (v := 3) hx hb dX12_costsTrace_6 (by decide) ?_
  refine lv_icmp_ne (tgt := 16) hx hb dX12_costsTrace_7 (by decide) (fun c_3 => ?_) (fun c_3 => ?_)
  · have t_3 : ¬ y_2.toInt = (3 : Int32).toInt := fun h => c_3 (Int32.toInt_inj.mp h)
    refine lv_aload_n hx hb dX12_costsTrace_16 rfl (lv_at hl 0 rfl) ?_
    refine va_get (ci := 12) (v := .ref g5) (C := RX12) (T := TX12) (N := 34) hx hb hts (fun _ h => List.mem_cons_of_mem _ (List.mem_append_right _ h)) hown hK.1 hP 0 rfl rfl 5 (by decide) (hts (.fieldLink RX12 7 "CutAtlasModel" "kind" "[I") (by decide +kernel)) (fun _ h9 => h9) rfl dX12_costsTrace_17 ?_
    refine lv_iload_n hx hb dX12_costsTrace_20 rfl (lv_at hl 1 rfl) ?_
    have h_4 : vp_in a1 40 := in_I (by omega) (by omega)
    refine va_iald hx hb hK.1 hP 1 0 rfl rfl (i := a1) h_4 dX12_costsTrace_21 ?_
    refine lv_topi (fun y_5 ey_5 => ?_)
    have e_ := (ey_5.trans ey_2.symm).symm
    subst e_
    skip
    refine lv_iconst (v := 4) hx hb dX12_costsTrace_22 (by decide) ?_
    refine lv_icmp_ne (tgt := 32) hx hb dX12_costsTrace_23 (by decide) (fun c_6 => ?_) (fun c_6 => ?_)
    · have t_6 : ¬ y_2.toInt = (4 : Int32).toInt := fun h => c_6 (Int32.toInt_inj.mp h)
      refine lv_ldc2 (v := 1000) hx hb hown (hts (.constantLong RX12 110 (1000)) (by decide +kernel)) dX12_costsTrace_32 ?_
      rw [hQ]
      exact W.lret (v := 1000) hx hb hr (fun t ht hW => ⟨⟨1000, (), rfl, trivial, trivial⟩, hS.F ht⟩) hS.2.2 dX12_costsTrace_35
    · have t_6 : y_2.toInt = (4 : Int32).toInt := congrArg Int32.toInt c_6
      refine lv_ldc2 (v := 110000) hx hb hown (hts (.constantLong RX12 130 (110000)) (by decide +kernel)) dX12_costsTrace_26 ?_
      refine lv_goto (tgt := 35) hx hb dX12_costsTrace_29 (by decide) ?_
      rw [hQ]
      exact W.lret (v := 110000) hx hb hr (fun t ht hW => ⟨⟨110000, (), rfl, trivial, trivial⟩, hS.F ht⟩) hS.2.2 dX12_costsTrace_35
  · have t_3 : y_2.toInt = (3 : Int32).toInt := congrArg Int32.toInt c_3
    refine lv_ldc2 (v := 10000) hx hb hown (hts (.constantLong RX12 128 (10000)) (by decide +kernel)) dX12_costsTrace_10 ?_
    refine lv_goto (tgt := 35) hx hb dX12_costsTrace_13 (by decide) ?_
    rw [hQ]
    exact W.lret (v := 10000) hx hb hr (fun t ht hW => ⟨⟨10000, (), rfl, trivial, trivial⟩, hS.F ht⟩) hS.2.2 dX12_costsTrace_35

set_option maxHeartbeats 4000000 in
set_option maxRecDepth 100000 in
theorem c_X12_bitsOf (l : Launch) (D : va_G) (cy : Nat → ClassId) (sz : Nat) (a1 : Int32) : Met l yX12_bitsOf wsX12_bitsOf ({ frames := 0, cells := 0, slots := 0, locals := 0 }) (va_Pc [.int a1] (fun U => U.heap.size = sz ∧ va_P D vwCl [] U.heap ∧ kk_ D cy U ∧ va_D (fun _ => True) [])) (va_Qi (fun (r : Int32) (_ : Unit) => True) (fun (_ : Unit) (_ : State) => True) (va_A [] sz)) 0 0 (va_A [] sz) := by
  refine ofQ (cc := cX12_bitsOf) (maxL := 3) (ret := (some .int)) (by decide) rfl ?_
  intro p e s m args below meth c s₁ Q hQ B hml hv
  obtain ⟨rfl, hsz, hP, hK, hD0⟩ := hv
  have hx := B.exec
  have hb := B.bytes
  have hr := B.returns
  have hts := atoms_spec (ws := wsX12_bitsOf) B.pre
  have hown : s.vm.findClass RX12 = some m.cls := by have h_ := findClass_of_methodNamed B.named; exact h_
  have hlocks := B.notSynchronized
  subst hsz
  have hD : va_D (va_A [] s.heap.size) [] := dd_nil
  generalize hAe : va_A [] s.heap.size = A at hD hQ
  have hA : ∀ q : Nat, s.heap.size ≤ q → A q := fun q h => by rw [← hAe]; exact Or.inr h
  have hS : va_S A s.heap s.heap [] := va_S.rf
  have hl := lv_entry ([.int a1]) (n := 3) (Nat.le_of_ble_eq_true rfl)
  rw [lg_entry_eq]
  generalize (lg_sl ([.int a1]) ++ List.replicate (3 - (lg_sl ([.int a1])).length) Slot.unset).toArray = ls at hl ⊢
  have hl : lv_has ls 3 [(0, .int a1)] := hl
  have z0 : (0 : Int32).toInt = 0 := by decide
  have z1 : (1 : Int32).toInt = 1 := by decide
  have z12 : (12 : Int32).toInt = 12 := by decide
  refine lv_iconst (v := 0) hx hb dX12_bitsOf_0 (by decide) ?_
  refine lv_istore_n (lv' := [(1, .int 0), (0, .int a1)]) hx hb dX12_bitsOf_1 rfl hl (by decide) rfl (fun ls hl => ?_)
  refine lv_iconst (v := 0) hx hb dX12_bitsOf_2 (by decide) ?_
  refine lv_istore_n (lv' := [(2, .int 0), (1, .int 0), (0, .int a1)]) hx hb dX12_bitsOf_3 rfl hl (by decide) rfl (fun ls hl => ?_)
  suffices LOOP_1 : ∀ (n_1 : Nat) (x2_1 : Int32) (x1_1 : Int32) (H : Heap) (locs : List Loc) (ls : Array Slot), 12 - x2_1.toInt < (n_1 : Int) → (0 ≤ x2_1.toInt) → (x2_1.toInt ≤ 12) → va_P D vwCl [] H → va_S A s.heap H locs → lv_has ls 3 [(2, .int x2_1), (1, .int x1_1), (0, .int a1)] → W p l e ({ frames := 0, cells := 0, slots := 0, locals := 0 } : Room) s m (([.int a1] : List Value).toArray) below meth c H locs 0 0 Q (F0 m 4 ls []) from LOOP_1 ((12 - (0 : Int32).toInt).toNat + 1) (0 : Int32) (0 : Int32) _ _ _ (by omega) (by first | with_reducible assumption | assumption | omega) (by first | with_reducible assumption | assumption | omega) hP  hS (lv_sub hl [0, 1, 2] rfl)
  intro n_1
  induction n_1 with
  | zero =>
    intro x2_1 x1_1 H locs ls hm v0_1 v1_1 hP hS hl
    exact absurd hm (by omega)
  | succ n_1 ih_1 =>
    intro x2_1 x1_1 H locs ls hm v0_1 v1_1 hP hS hl
    refine lv_iload_n hx hb dX12_bitsOf_4 rfl (lv_at hl 0 rfl) ?_
    refine lv_bipush (v := 12) hx hb dX12_bitsOf_5 (by decide) ?_
    refine lv_icmp_ge (tgt := 24) hx hb dX12_bitsOf_7 (by decide) (fun c_2 => ?_) (fun c_2 => ?_)
    · have t_2 : (12 : Int32).toInt ≤ x2_1.toInt := Int32.le_iff_toInt_le.mp c_2
      refine lv_iload_n hx hb dX12_bitsOf_24 rfl (lv_at hl 1 rfl) ?_
      rw [hQ]
      exact W.iret (v := x1_1) hx hb hr (fun t ht hW => ⟨⟨x1_1, (), rfl, trivial, trivial⟩, hS.F ht⟩) hS.2.2 dX12_bitsOf_25
    · have t_2 : ¬ (12 : Int32).toInt ≤ x2_1.toInt := fun h => c_2 (Int32.le_iff_toInt_le.mpr h)
      refine lv_iload_n hx hb dX12_bitsOf_10 rfl (lv_at hl 1 rfl) ?_
      refine lv_iload_n hx hb dX12_bitsOf_11 rfl (lv_at hl 2 rfl) ?_
      refine lv_iload_n hx hb dX12_bitsOf_12 rfl (lv_at hl 0 rfl) ?_
      refine lv_ishr hx hb dX12_bitsOf_13 ?_
      refine lv_topi (fun y_3 ey_3 => ?_)
      refine lv_iconst (v := 1) hx hb dX12_bitsOf_14 (by decide) ?_
      refine lv_iand hx hb dX12_bitsOf_15 ?_
      refine lv_topi (fun y_4 ey_4 => ?_)
      refine lv_iadd hx hb dX12_bitsOf_16 ?_
      refine lv_topi (fun y_5 ey_5 => ?_)
      refine lv_istore_n (lv' := [(1, .int y_5), (2, .int x2_1), (0, .int a1)]) hx hb dX12_bitsOf_17 rfl hl (by decide) rfl (fun ls hl => ?_)
      obtain ⟨y_6, ey_6⟩ : ∃ y : Int32, y = x2_1 + 1 := ⟨_, rfl⟩
      have ty_6 : y_6.toInt = x2_1.toInt + (1 : Int32).toInt := by rw [ey_6]; exact addI (by omega) (by omega)
      refine lv_iinc (v := y_6) (lv' := [(2, .int y_6), (1, .int y_5), (0, .int a1)]) hx hb dX12_bitsOf_18 hl (k := 1) rfl (by rw [ey_6]; rfl) (by decide) rfl (fun ls hl => ?_)
      refine lv_goto (tgt := 4) hx hb dX12_bitsOf_21 (by decide) ?_
      exact ih_1 y_6 y_5 _ _ _ (by omega) (by first | with_reducible assumption | assumption | omega) (by first | with_reducible assumption | assumption | omega) hP  hS (lv_sub hl [0, 1, 2] rfl)
