section
/-- what a LINE of kind k and width w lets, in the reference's numbers; b: from its first end -/
noncomputable def ml_lets (k w b : Int32) : Int32 := if k = 2 then (-5) else if k = 1 ∧ b = 0 then 0 else w
/-- the same with ENDLESS as 1000000; z: the line that is raised -/
noncomputable def ml_room (k w b l z : Int32) : Int32 := if ml_lets k w b = (-5) then 1000000 else if l = z ∧ ¬ (k = 1 ∧ b = 0) then ml_lets k w b + 1 else ml_lets k w b

set_option maxHeartbeats 4000000 in
set_option maxRecDepth 100000 in
theorem c_X12_in (l : Launch) (D : va_G) (cy : Nat → ClassId) (sz : Nat) (v : Int64) (lo : Int64) (hi : Int64) : Met l yX12_in wsX12_in ({ frames := 0, cells := 0, slots := 0, locals := 0 }) (va_Pc [.long v, .long lo, .long hi] (fun U => U.heap.size = sz ∧ va_P D vwCl [] U.heap ∧ kk_ D cy U ∧ va_D (fun _ => True) [])) (va_Qi (fun (r : Int32) (_ : Unit) => ((lo.toInt ≤ v.toInt ∧ v.toInt ≤ hi.toInt) ∧ r = 1) ∨ ((¬ (lo.toInt ≤ v.toInt ∧ v.toInt ≤ hi.toInt)) ∧ r = 0)) (fun (_ : Unit) (_ : State) => True) (va_A [] sz)) 0 0 (va_A [] sz) := by
  refine ofQ (cc := cX12_in) (maxL := 6) (ret := (some .boolean)) (by decide) rfl ?_
  intro p e s m args below meth c s₁ Q hQ B hml hv
  obtain ⟨rfl, hsz, hP, hK, hD0⟩ := hv
  have hx := B.exec
  have hb := B.bytes
  have hr := B.returns
  have hts := atoms_spec (ws := wsX12_in) B.pre
  have hown : s.vm.findClass RX12 = some m.cls := by have h_ := findClass_of_methodNamed B.named; exact h_
  have hlocks := B.notSynchronized
  subst hsz
  have hD : va_D (va_A [] s.heap.size) [] := dd_nil
  generalize hAe : va_A [] s.heap.size = A at hD hQ
  have hA : ∀ q : Nat, s.heap.size ≤ q → A q := fun q h => by rw [← hAe]; exact Or.inr h
  have hS : va_S A s.heap s.heap [] := va_S.rf
  have hl := lv_entry ([.long v, .long lo, .long hi]) (n := 6) (Nat.le_of_ble_eq_true rfl)
  rw [lg_entry_eq]
  generalize (lg_sl ([.long v, .long lo, .long hi]) ++ List.replicate (6 - (lg_sl ([.long v, .long lo, .long hi])).length) Slot.unset).toArray = ls at hl ⊢
  have hl : lv_has ls 6 [(0, .long v), (2, .long lo), (4, .long hi)] := hl
  have z0 : (0 : Int32).toInt = 0 := by decide
  have z1 : (1 : Int32).toInt = 1 := by decide
  refine lv_lload_n hx hb dB_3_0_9.1.1.1 rfl (lv_at hl 0 rfl) ?_
  refine lv_lload_n hx hb dB_3_0_9.1.1.2.1 rfl (lv_at hl 1 rfl) ?_
  refine W.lcmp hx hb dB_3_0_9.1.1.2.2 ?_
  refine lv_if_lt (tgt := 17) hx hb dB_3_0_9.1.2.1 (by decide) (fun c_1 => ?_) (fun c_1 => ?_)
  · have t_1 : v.toInt < lo.toInt := Int64.lt_iff_toInt_lt.mp ((lg_cmp_lt v lo).mp c_1)
    refine lv_iconst (v := 0) hx hb dB_3_0_9.2.2.2.1 (by decide) ?_
    rw [hQ]
    exact W.zret (ty := .boolean) (v := 0) hx hb hr (by decide) (fun t ht hW => ⟨⟨0, (), rfl, Or.inr (⟨by omega, rfl⟩), trivial⟩, hS.F ht⟩) hS.2.2 dB_3_0_9.2.2.2.2
  · have t_1 : ¬ v.toInt < lo.toInt := fun h => c_1 ((lg_cmp_lt v lo).mpr (Int64.lt_iff_toInt_lt.mpr h))
    refine lv_lload_n hx hb dB_3_0_9.1.2.2.1 rfl (lv_at hl 0 rfl) ?_
    refine lv_lload hx hb dB_3_0_9.1.2.2.2 (lv_at hl 2 rfl) ?_
    refine W.lcmp hx hb dB_3_0_9.2.1.1 ?_
    refine lv_if_gt (tgt := 17) hx hb dB_3_0_9.2.1.2.1 (by decide) (fun c_2 => ?_) (fun c_2 => ?_)
    · have t_2 : hi.toInt < v.toInt := Int64.lt_iff_toInt_lt.mp ((lg_cmp_gt v hi).mp c_2)
      refine lv_iconst (v := 0) hx hb dB_3_0_9.2.2.2.1 (by decide) ?_
      rw [hQ]
      exact W.zret (ty := .boolean) (v := 0) hx hb hr (by decide) (fun t ht hW => ⟨⟨0, (), rfl, Or.inr (⟨by omega, rfl⟩), trivial⟩, hS.F ht⟩) hS.2.2 dB_3_0_9.2.2.2.2
    · have t_2 : ¬ hi.toInt < v.toInt := fun h => c_2 ((lg_cmp_gt v hi).mpr (Int64.lt_iff_toInt_lt.mpr h))
      refine lv_iconst (v := 1) hx hb dB_3_0_9.2.1.2.2 (by decide) ?_
      refine lv_goto (tgt := 18) hx hb dB_3_0_9.2.2.1 (by decide) ?_
      rw [hQ]
      exact W.zret (ty := .boolean) (v := 1) hx hb hr (by decide) (fun t ht hW => ⟨⟨1, (), rfl, Or.inl (⟨by omega, rfl⟩), trivial⟩, hS.F ht⟩) hS.2.2 dB_3_0_9.2.2.2.2

set_option maxHeartbeats 4000000 in
set_option maxRecDepth 100000 in
theorem c_X12_isPlace (l : Launch) (D : va_G) (cy : Nat → ClassId) (sz : Nat) (mo : Nat) (g5 : Nat) (g6 : Nat) (g7 : Nat) (g8 : Nat) (g9 : Nat) (g10 : Nat) (g12 : Nat) (g13 : Nat) (g14 : Nat) (g15 : Nat) (g16 : Nat) (g17 : Nat) (g18 : Nat) (g19 : Nat) (g20 : Nat) (g22 : Nat) (g23 : Nat) (g24 : Nat) (g29 : Nat) (g30 : Nat) (g31 : Nat) (g32 : Nat) (g33 : Nat) (s0 : Int32) (s1 : Int32) (s3 : Int32) (s4 : Int32) (s11 : Int32) (s21 : Int32) (s25 : Int32) (s26 : Int32) (s27 : Int32) (s28 : Int32) (t2 : Int64) (a1 : Int32) (hPl : 0 ≤ s3.toInt ∧ s3.toInt ≤ 12) : Met l yX12_isPlace wsX12_isPlace ({ frames := 1, cells := 0, slots := 0, locals := 25 }) (va_Pc [.ref mo, .int a1] (fun U => U.heap.size = sz ∧ va_P D vwCl [ob12_0_ mo s0 s1 t2 s3 s4 g5 g6 g7 g8 g9 g10 s11 g12 g13 g14 g15 g16 g17 g18 g19 g20 s21 g22 g23 g24 s25 s26 s27 s28 g29 g30 g31 g32 g33] U.heap ∧ kk_ D cy U ∧ va_D (fun _ => True) [ob12_0_ mo s0 s1 t2 s3 s4 g5 g6 g7 g8 g9 g10 s11 g12 g13 g14 g15 g16 g17 g18 g19 g20 s21 g22 g23 g24 s25 s26 s27 s28 g29 g30 g31 g32 g33])) (va_Qi (fun (r : Int32) (_ : Unit) => ((0 ≤ a1.toInt ∧ a1.toInt < s3.toInt) ∧ r = 1) ∨ ((¬ (0 ≤ a1.toInt ∧ a1.toInt < s3.toInt)) ∧ r = 0)) (fun (_ : Unit) (_ : State) => True) (va_A [] sz)) 0 0 (va_A [] sz) := by
  refine ofQ (cc := cX12_isPlace) (maxL := 2) (ret := (some .boolean)) (by decide) rfl ?_
  intro p e s m args below meth c s₁ Q hQ B hml hv
  obtain ⟨rfl, hsz, hP, hK, hD0⟩ := hv
  have hx := B.exec
  have hb := B.bytes
  have hr := B.returns
  have hts := atoms_spec (ws := wsX12_isPlace) B.pre
  have hown : s.vm.findClass RX12 = some m.cls := by have h_ := findClass_of_methodNamed B.named; exact h_
  have hlocks := B.notSynchronized
  subst hsz
  have hD : va_D (va_A [] s.heap.size) [] := dd_nil
  generalize hAe : va_A [] s.heap.size = A at hD hQ
  have hA : ∀ q : Nat, s.heap.size ≤ q → A q := fun q h => by rw [← hAe]; exact Or.inr h
  have hS : va_S A s.heap s.heap [] := va_S.rf
  have hl := lv_entry ([.ref mo, .int a1]) (n := 2) (Nat.le_of_ble_eq_true rfl)
  rw [lg_entry_eq]
  generalize (lg_sl ([.ref mo, .int a1]) ++ List.replicate (2 - (lg_sl ([.ref mo, .int a1])).length) Slot.unset).toArray = ls at hl ⊢
  have hl : lv_has ls 2 [(0, .ref mo), (1, .int a1)] := hl
  have z0 : (0 : Int32).toInt = 0 := by decide
  have zl0 : (0 : Int64).toInt = 0 := by decide
  have z1 : (1 : Int32).toInt = 1 := by decide
  refine lv_iload_n hx hb dB_3_0_18.1.1.1 rfl (lv_at hl 1 rfl) ?_
  refine lv_i2l (v := a1.toInt64) hx hb dB_3_0_18.1.1.2 rfl ?_
  have q_1 : (a1.toInt64).toInt = a1.toInt := Int32.toInt_toInt64 a1
  refine lv_lconst (v := 0) hx hb dB_3_0_18.1.2.1 (by decide) ?_
  refine lv_aload_n hx hb dB_3_0_18.1.2.2.1 rfl (lv_at hl 0 rfl) ?_
  refine va_get (ci := 12) (v := .int s3) (C := RX12) (T := TX12) (N := 34) hx hb hts (fun _ h => List.mem_cons_of_mem _ (List.mem_append_right _ h)) hown hK.1 hP 0 rfl rfl 3 (by decide) (hts (.fieldLink RX12 88 "CutAtlasModel" "places" "I") (List.mem_of_getElem? (i := 1) rfl)) (fun _ h9 => h9) rfl dB_3_0_18.1.2.2.2 ?_
  refine lv_iconst (v := 1) hx hb dB_3_0_18.2.1.1 (by decide) ?_
  refine lv_isub hx hb dB_3_0_18.2.1.2 ?_
  refine lv_topi (fun y_1 ey_1 => ?_)
  have ty_1 : y_1.toInt = s3.toInt - (1 : Int32).toInt := by rw [ey_1]; exact subI (by omega) (by omega)
  refine lv_i2l (v := y_1.toInt64) hx hb dB_3_0_18.2.2.1 rfl ?_
  have q_9 : (y_1.toInt64).toInt = y_1.toInt := Int32.toInt_toInt64 y_1
  refine ct_R hP hD0 [] [] (by decide) rfl (fun hPc hDw => ?_)
  have hFc := va_free (wc := []) hD hS hA [] rfl
  refine va_calli (va_runS (As := [.long a1.toInt64, .long 0, .long y_1.toInt64]) (rest := []) ⟨hx, hb, hml, hown, hts⟩ (c_X12_in l D cy s.heap.size a1.toInt64 (0 : Int64) y_1.toInt64) (va_cwS 3 hts gX12_isPlace_X12_in rfl rfl rfl hd_X12_in ⟨Nat.le_of_ble_eq_true rfl, Nat.le_of_ble_eq_true rfl⟩) ⟨bl_, fun U hU hW => ⟨rfl, by rw [hU], by rw [hU]; exact hPc, kk_mv hW hK, hDw⟩⟩ rfl rfl hl.1 rfl (lv_room (Nat.le_of_ble_eq_true rfl)) dB_3_0_18.2.2.2.1 ⟨Nat.le_of_ble_eq_true rfl, Nat.le_of_ble_eq_true rfl⟩) hS (fun q _ h => hFc q h) hFc (fun r_2 u t H locs ht hvm hw hB hz1 hk1 hS => ?_)
  have hP : va_P D vwCl _ H := ro_keep hP hk1
  rcases hw with ⟨w_3, e_⟩ | ⟨w_3, e_⟩
  · have e_ := e_.symm
    subst e_
    rw [hQ]
    exact W.zret (ty := .boolean) (v := 1) hx hb hr (by decide) (fun t ht hW => ⟨⟨1, (), rfl, Or.inl (⟨by omega, rfl⟩), trivial⟩, hS.F ht⟩) hS.2.2 dB_3_0_18.2.2.2.2
  · have e_ := e_.symm
    subst e_
    rw [hQ]
    exact W.zret (ty := .boolean) (v := 0) hx hb hr (by decide) (fun t ht hW => ⟨⟨0, (), rfl, Or.inr (⟨by omega, rfl⟩), trivial⟩, hS.F ht⟩) hS.2.2 dB_3_0_18.2.2.2.2

set_option maxHeartbeats 4000000 in
set_option maxRecDepth 100000 in
theorem c_X12_isLine (l : Launch) (D : va_G) (cy : Nat → ClassId) (sz : Nat) (mo : Nat) (g5 : Nat) (g6 : Nat) (g7 : Nat) (g8 : Nat) (g9 : Nat) (g10 : Nat) (g12 : Nat) (g13 : Nat) (g14 : Nat) (g15 : Nat) (g16 : Nat) (g17 : Nat) (g18 : Nat) (g19 : Nat) (g20 : Nat) (g22 : Nat) (g23 : Nat) (g24 : Nat) (g29 : Nat) (g30 : Nat) (g31 : Nat) (g32 : Nat) (g33 : Nat) (s0 : Int32) (s1 : Int32) (s3 : Int32) (s4 : Int32) (s11 : Int32) (s21 : Int32) (s25 : Int32) (s26 : Int32) (s27 : Int32) (s28 : Int32) (t2 : Int64) (a1 : Int32) (hN : 0 ≤ s4.toInt ∧ s4.toInt ≤ 40) : Met l yX12_isLine wsX12_isLine ({ frames := 1, cells := 0, slots := 0, locals := 25 }) (va_Pc [.ref mo, .int a1] (fun U => U.heap.size = sz ∧ va_P D vwCl [ob12_0_ mo s0 s1 t2 s3 s4 g5 g6 g7 g8 g9 g10 s11 g12 g13 g14 g15 g16 g17 g18 g19 g20 s21 g22 g23 g24 s25 s26 s27 s28 g29 g30 g31 g32 g33] U.heap ∧ kk_ D cy U ∧ va_D (fun _ => True) [ob12_0_ mo s0 s1 t2 s3 s4 g5 g6 g7 g8 g9 g10 s11 g12 g13 g14 g15 g16 g17 g18 g19 g20 s21 g22 g23 g24 s25 s26 s27 s28 g29 g30 g31 g32 g33])) (va_Qi (fun (r : Int32) (_ : Unit) => ((0 ≤ a1.toInt ∧ a1.toInt < s4.toInt) ∧ r = 1) ∨ ((¬ (0 ≤ a1.toInt ∧ a1.toInt < s4.toInt)) ∧ r = 0)) (fun (_ : Unit) (_ : State) => True) (va_A [] sz)) 0 0 (va_A [] sz) := by
  refine ofQ (cc := cX12_isLine) (maxL := 2) (ret := (some .boolean)) (by decide) rfl ?_
  intro p e s m args below meth c s₁ Q hQ B hml hv
  obtain ⟨rfl, hsz, hP, hK, hD0⟩ := hv
  have hx := B.exec
  have hb := B.bytes
  have hr := B.returns
  have hts := atoms_spec (ws := wsX12_isLine) B.pre
  have hown : s.vm.findClass RX12 = some m.cls := by have h_ := findClass_of_methodNamed B.named; exact h_
  have hlocks := B.notSynchronized
  subst hsz
  have hD : va_D (va_A [] s.heap.size) [] := dd_nil
  generalize hAe : va_A [] s.heap.size = A at hD hQ
  have hA : ∀ q : Nat, s.heap.size ≤ q → A q := fun q h => by rw [← hAe]; exact Or.inr h
  have hS : va_S A s.heap s.heap [] := va_S.rf
  have hl := lv_entry ([.ref mo, .int a1]) (n := 2) (Nat.le_of_ble_eq_true rfl)
  rw [lg_entry_eq]
  generalize (lg_sl ([.ref mo, .int a1]) ++ List.replicate (2 - (lg_sl ([.ref mo, .int a1])).length) Slot.unset).toArray = ls at hl ⊢
  have hl : lv_has ls 2 [(0, .ref mo), (1, .int a1)] := hl
  have z0 : (0 : Int32).toInt = 0 := by decide
  have zl0 : (0 : Int64).toInt = 0 := by decide
  have z1 : (1 : Int32).toInt = 1 := by decide
  refine lv_iload_n hx hb dB_3_0_17.1.1.1 rfl (lv_at hl 1 rfl) ?_
  refine lv_i2l (v := a1.toInt64) hx hb dB_3_0_17.1.1.2 rfl ?_
  have q_1 : (a1.toInt64).toInt = a1.toInt := Int32.toInt_toInt64 a1
  refine lv_lconst (v := 0) hx hb dB_3_0_17.1.2.1 (by decide) ?_
  refine lv_aload_n hx hb dB_3_0_17.1.2.2.1 rfl (lv_at hl 0 rfl) ?_
  refine va_get (ci := 12) (v := .int s4) (C := RX12) (T := TX12) (N := 34) hx hb hts (fun _ h => List.mem_cons_of_mem _ (List.mem_append_right _ h)) hown hK.1 hP 0 rfl rfl 4 (by decide) (hts (.fieldLink RX12 95 "CutAtlasModel" "lines" "I") (List.mem_of_getElem? (i := 1) rfl)) (fun _ h9 => h9) rfl dB_3_0_17.1.2.2.2 ?_
  refine lv_iconst (v := 1) hx hb dB_3_0_17.2.1.1 (by decide) ?_
  refine lv_isub hx hb dB_3_0_17.2.1.2 ?_
  refine lv_topi (fun y_1 ey_1 => ?_)
  have ty_1 : y_1.toInt = s4.toInt - (1 : Int32).toInt := by rw [ey_1]; exact subI (by omega) (by omega)
  refine lv_i2l (v := y_1.toInt64) hx hb dB_3_0_17.2.2.1 rfl ?_
  have q_9 : (y_1.toInt64).toInt = y_1.toInt := Int32.toInt_toInt64 y_1
  refine ct_R hP hD0 [] [] (by decide) rfl (fun hPc hDw => ?_)
  have hFc := va_free (wc := []) hD hS hA [] rfl
  refine va_calli (va_runS (As := [.long a1.toInt64, .long 0, .long y_1.toInt64]) (rest := []) ⟨hx, hb, hml, hown, hts⟩ (c_X12_in l D cy s.heap.size a1.toInt64 (0 : Int64) y_1.toInt64) (va_cwS 3 hts gX12_isLine_X12_in rfl rfl rfl hd_X12_in ⟨Nat.le_of_ble_eq_true rfl, Nat.le_of_ble_eq_true rfl⟩) ⟨bl_, fun U hU hW => ⟨rfl, by rw [hU], by rw [hU]; exact hPc, kk_mv hW hK, hDw⟩⟩ rfl rfl hl.1 rfl (lv_room (Nat.le_of_ble_eq_true rfl)) dB_3_0_17.2.2.2.1 ⟨Nat.le_of_ble_eq_true rfl, Nat.le_of_ble_eq_true rfl⟩) hS (fun q _ h => hFc q h) hFc (fun r_2 u t H locs ht hvm hw hB hz1 hk1 hS => ?_)
  have hP : va_P D vwCl _ H := ro_keep hP hk1
  rcases hw with ⟨w_3, e_⟩ | ⟨w_3, e_⟩
  · have e_ := e_.symm
    subst e_
    rw [hQ]
    exact W.zret (ty := .boolean) (v := 1) hx hb hr (by decide) (fun t ht hW => ⟨⟨1, (), rfl, Or.inl (⟨by omega, rfl⟩), trivial⟩, hS.F ht⟩) hS.2.2 dB_3_0_17.2.2.2.2
  · have e_ := e_.symm
    subst e_
    rw [hQ]
    exact W.zret (ty := .boolean) (v := 0) hx hb hr (by decide) (fun t ht hW => ⟨⟨0, (), rfl, Or.inr (⟨by omega, rfl⟩), trivial⟩, hS.F ht⟩) hS.2.2 dB_3_0_17.2.2.2.2

set_option maxHeartbeats 4000000 in
set_option maxRecDepth 100000 in
theorem c_X12_arePlaces (l : Launch) (D : va_G) (cy : Nat → ClassId) (sz : Nat) (mo : Nat) (g5 : Nat) (g6 : Nat) (g7 : Nat) (g8 : Nat) (g9 : Nat) (g10 : Nat) (g12 : Nat) (g13 : Nat) (g14 : Nat) (g15 : Nat) (g16 : Nat) (g17 : Nat) (g18 : Nat) (g19 : Nat) (g20 : Nat) (g22 : Nat) (g23 : Nat) (g24 : Nat) (g29 : Nat) (g30 : Nat) (g31 : Nat) (g32 : Nat) (g33 : Nat) (s0 : Int32) (s1 : Int32) (s3 : Int32) (s4 : Int32) (s11 : Int32) (s21 : Int32) (s25 : Int32) (s26 : Int32) (s27 : Int32) (s28 : Int32) (t2 : Int64) (a1 : Int32) (a2 : Int32) (hPl : 0 ≤ s3.toInt ∧ s3.toInt ≤ 12) : Met l yX12_arePlaces wsX12_arePlaces ({ frames := 2, cells := 0, slots := 0, locals := 46 }) (va_Pc [.ref mo, .int a1, .int a2] (fun U => U.heap.size = sz ∧ va_P D vwCl [ob12_0_ mo s0 s1 t2 s3 s4 g5 g6 g7 g8 g9 g10 s11 g12 g13 g14 g15 g16 g17 g18 g19 g20 s21 g22 g23 g24 s25 s26 s27 s28 g29 g30 g31 g32 g33] U.heap ∧ kk_ D cy U ∧ va_D (fun _ => True) [ob12_0_ mo s0 s1 t2 s3 s4 g5 g6 g7 g8 g9 g10 s11 g12 g13 g14 g15 g16 g17 g18 g19 g20 s21 g22 g23 g24 s25 s26 s27 s28 g29 g30 g31 g32 g33])) (va_Qi (fun (r : Int32) (_ : Unit) => (((0 ≤ a1.toInt ∧ a1.toInt < s3.toInt) ∧ (0 ≤ a2.toInt ∧ a2.toInt < s3.toInt) ∧ a1.toInt ≠ a2.toInt) ∧ r = 1) ∨ ((¬ ((0 ≤ a1.toInt ∧ a1.toInt < s3.toInt) ∧ (0 ≤ a2.toInt ∧ a2.toInt < s3.toInt) ∧ a1.toInt ≠ a2.toInt)) ∧ r = 0)) (fun (_ : Unit) (_ : State) => True) (va_A [] sz)) 0 0 (va_A [] sz) := by
  refine ofQ (cc := cX12_arePlaces) (maxL := 3) (ret := (some .boolean)) (by decide) rfl ?_
  intro p e s m args below meth c s₁ Q hQ B hml hv
  obtain ⟨rfl, hsz, hP, hK, hD0⟩ := hv
  have hx := B.exec
  have hb := B.bytes
  have hr := B.returns
  have hts := atoms_spec (ws := wsX12_arePlaces) B.pre
  have hown : s.vm.findClass RX12 = some m.cls := by have h_ := findClass_of_methodNamed B.named; exact h_
  have hlocks := B.notSynchronized
  subst hsz
  have hD : va_D (va_A [] s.heap.size) [] := dd_nil
  generalize hAe : va_A [] s.heap.size = A at hD hQ
  have hA : ∀ q : Nat, s.heap.size ≤ q → A q := fun q h => by rw [← hAe]; exact Or.inr h
  have hS : va_S A s.heap s.heap [] := va_S.rf
  have hl := lv_entry ([.ref mo, .int a1, .int a2]) (n := 3) (Nat.le_of_ble_eq_true rfl)
  rw [lg_entry_eq]
  generalize (lg_sl ([.ref mo, .int a1, .int a2]) ++ List.replicate (3 - (lg_sl ([.ref mo, .int a1, .int a2])).length) Slot.unset).toArray = ls at hl ⊢
  have hl : lv_has ls 3 [(0, .ref mo), (1, .int a1), (2, .int a2)] := hl
  have z0 : (0 : Int32).toInt = 0 := by decide
  have z1 : (1 : Int32).toInt = 1 := by decide
  refine lv_aload_n hx hb dB_3_0_4.1.1.1 rfl (lv_at hl 0 rfl) ?_
  refine lv_iload_n hx hb dB_3_0_4.1.1.2.1 rfl (lv_at hl 1 rfl) ?_
  refine ct_R hP hD0 [ob12_0_ mo s0 s1 t2 s3 s4 g5 g6 g7 g8 g9 g10 s11 g12 g13 g14 g15 g16 g17 g18 g19 g20 s21 g22 g23 g24 s25 s26 s27 s28 g29 g30 g31 g32 g33] [0] (by decide) rfl (fun hPc hDw => ?_)
  have hFc := va_free (wc := []) hD hS hA [] rfl
  refine va_calli (va_runV (As := [.int a1]) (rest := []) ⟨hx, hb, hml, hown, hts⟩ (c_X12_isPlace l D cy s.heap.size mo g5 g6 g7 g8 g9 g10 g12 g13 g14 g15 g16 g17 g18 g19 g20 g22 g23 g24 g29 g30 g31 g32 g33 s0 s1 s3 s4 s11 s21 s25 s26 s27 s28 t2 a1 (by first | with_reducible assumption | omega | assumption)) (cwV 1 hts gX12_arePlaces_X12_isPlace rfl rfl rfl ⟨rfl, hd_X12_isPlace⟩ ⟨Nat.le_of_ble_eq_true rfl, Nat.le_of_ble_eq_true rfl⟩) ⟨bl_, va_recvX hK.1 hP (ci := 12) (q0 := 0) rfl rfl, fun U hU hW => ⟨rfl, by rw [hU], by rw [hU]; exact hPc, kk_mv hW hK, hDw⟩⟩ rfl rfl hl.1 rfl (lv_room (Nat.le_of_ble_eq_true rfl)) dB_3_0_4.1.1.2.2 ⟨Nat.le_of_ble_eq_true rfl, Nat.le_of_ble_eq_true rfl⟩) hS (fun q _ h => hFc q h) hFc (fun r_1 u t H locs ht hvm hw hB hz1 hk1 hS => ?_)
  have hP : va_P D vwCl _ H := ro_keep hP hk1
  rcases hw with ⟨w_2, e_⟩ | ⟨w_2, e_⟩
  · have e_ := e_.symm
    subst e_
    refine lv_if_eq (tgt := 25) hx hb dB_3_0_4.1.2.1.1 (by decide) (fun c_3 => ?_) (fun c_3 => ?_)
    · exact absurd c_3 (by decide)
    · have _ := c_3
      refine lv_aload_n hx hb dB_3_0_4.1.2.1.2 rfl (lv_at hl 0 rfl) ?_
      refine lv_iload_n hx hb dB_3_0_4.1.2.2.1 rfl (lv_at hl 2 rfl) ?_
      refine ct_R hP hD0 [ob12_0_ mo s0 s1 t2 s3 s4 g5 g6 g7 g8 g9 g10 s11 g12 g13 g14 g15 g16 g17 g18 g19 g20 s21 g22 g23 g24 s25 s26 s27 s28 g29 g30 g31 g32 g33] [0] (by decide) rfl (fun hPc hDw => ?_)
      have hFc := va_free (wc := []) hD hS hA [] rfl
      refine va_calli (va_runV (As := [.int a2]) (rest := []) ⟨hx, hb, hml, hown, hts⟩ (c_X12_isPlace l D cy H.size mo g5 g6 g7 g8 g9 g10 g12 g13 g14 g15 g16 g17 g18 g19 g20 g22 g23 g24 g29 g30 g31 g32 g33 s0 s1 s3 s4 s11 s21 s25 s26 s27 s28 t2 a2 (by first | with_reducible assumption | omega | assumption)) (cwV 1 hts gX12_arePlaces_X12_isPlace rfl rfl rfl ⟨rfl, hd_X12_isPlace⟩ ⟨Nat.le_of_ble_eq_true rfl, Nat.le_of_ble_eq_true rfl⟩) ⟨bl_, va_recvX hK.1 hP (ci := 12) (q0 := 0) rfl rfl, fun U hU hW => ⟨rfl, by rw [hU], by rw [hU]; exact hPc, kk_mv hW hK, hDw⟩⟩ rfl rfl hl.1 rfl (lv_room (Nat.le_of_ble_eq_true rfl)) dB_3_0_4.1.2.2.2 ⟨Nat.le_of_ble_eq_true rfl, Nat.le_of_ble_eq_true rfl⟩) hS (fun q _ h => hFc q h) hFc (fun r_4 u t H locs ht hvm hw hB hz1 hk1 hS => ?_)
      have hP : va_P D vwCl _ H := ro_keep hP hk1
      rcases hw with ⟨w_5, e_⟩ | ⟨w_5, e_⟩
      · have e_ := e_.symm
        subst e_
        refine lv_if_eq (tgt := 25) hx hb dB_3_0_4.2.1.1.1 (by decide) (fun c_6 => ?_) (fun c_6 => ?_)
        · exact absurd c_6 (by decide)
        · have _ := c_6
          refine lv_iload_n hx hb dB_3_0_4.2.1.1.2 rfl (lv_at hl 1 rfl) ?_
          refine lv_iload_n hx hb dB_3_0_4.2.1.2.1 rfl (lv_at hl 2 rfl) ?_
          refine lv_icmp_eq (tgt := 25) hx hb dB_3_0_4.2.1.2.2 (by decide) (fun c_7 => ?_) (fun c_7 => ?_)
          · have t_7 : a1.toInt = a2.toInt := congrArg Int32.toInt c_7
            refine lv_iconst (v := 0) hx hb dB_3_0_4.2.2.2.1 (by decide) ?_
            rw [hQ]
            exact W.zret (ty := .boolean) (v := 0) hx hb hr (by decide) (fun t ht hW => ⟨⟨0, (), rfl, Or.inr (⟨by omega, rfl⟩), trivial⟩, hS.F ht⟩) hS.2.2 dB_3_0_4.2.2.2.2
          · have t_7 : ¬ a1.toInt = a2.toInt := fun h => c_7 (Int32.toInt_inj.mp h)
            refine lv_iconst (v := 1) hx hb dB_3_0_4.2.2.1.1 (by decide) ?_
            refine lv_goto (tgt := 26) hx hb dB_3_0_4.2.2.1.2 (by decide) ?_
            rw [hQ]
            exact W.zret (ty := .boolean) (v := 1) hx hb hr (by decide) (fun t ht hW => ⟨⟨1, (), rfl, Or.inl (⟨by omega, rfl⟩), trivial⟩, hS.F ht⟩) hS.2.2 dB_3_0_4.2.2.2.2
      · have e_ := e_.symm
        subst e_
        refine lv_if_eq (tgt := 25) hx hb dB_3_0_4.2.1.1.1 (by decide) (fun c_8 => ?_) (fun c_8 => ?_)
        · have _ := c_8
          refine lv_iconst (v := 0) hx hb dB_3_0_4.2.2.2.1 (by decide) ?_
          rw [hQ]
          exact W.zret (ty := .boolean) (v := 0) hx hb hr (by decide) (fun t ht hW => ⟨⟨0, (), rfl, Or.inr (⟨by omega, rfl⟩), trivial⟩, hS.F ht⟩) hS.2.2 dB_3_0_4.2.2.2.2
        · exact absurd c_8 (by decide)
  · have e_ := e_.symm
    subst e_
    refine lv_if_eq (tgt := 25) hx hb dB_3_0_4.1.2.1.1 (by decide) (fun c_9 => ?_) (fun c_9 => ?_)
    · have _ := c_9
      refine lv_iconst (v := 0) hx hb dB_3_0_4.2.2.2.1 (by decide) ?_
      rw [hQ]
      exact W.zret (ty := .boolean) (v := 0) hx hb hr (by decide) (fun t ht hW => ⟨⟨0, (), rfl, Or.inr (⟨by omega, rfl⟩), trivial⟩, hS.F ht⟩) hS.2.2 dB_3_0_4.2.2.2.2
    · exact absurd c_9 (by decide)

set_option maxHeartbeats 4000000 in
set_option maxRecDepth 100000 in
theorem c_X12_lets (l : Launch) (D : va_G) (cy : Nat → ClassId) (sz : Nat) (mo : Nat) (g5 : Nat) (g6 : Nat) (g7 : Nat) (g8 : Nat) (g9 : Nat) (g10 : Nat) (g12 : Nat) (g13 : Nat) (g14 : Nat) (g15 : Nat) (g16 : Nat) (g17 : Nat) (g18 : Nat) (g19 : Nat) (g20 : Nat) (g22 : Nat) (g23 : Nat) (g24 : Nat) (g29 : Nat) (g30 : Nat) (g31 : Nat) (g32 : Nat) (g33 : Nat) (s0 : Int32) (s1 : Int32) (s3 : Int32) (s4 : Int32) (s11 : Int32) (s21 : Int32) (s25 : Int32) (s26 : Int32) (s27 : Int32) (s28 : Int32) (t2 : Int64) (f5 : Nat → Int32) (f8 : Nat → Int32) (a1 : Int32) (a2 : Int32) (q1 : 0 ≤ a1.toInt ∧ a1.toInt < 40) : Met l yX12_lets wsX12_lets ({ frames := 0, cells := 0, slots := 0, locals := 0 }) (va_Pc [.ref mo, .int a1, .int a2] (fun U => U.heap.size = sz ∧ va_P D vwCl [ob12_0_ mo s0 s1 t2 s3 s4 g5 g6 g7 g8 g9 g10 s11 g12 g13 g14 g15 g16 g17 g18 g19 g20 s21 g22 g23 g24 s25 s26 s27 s28 g29 g30 g31 g32 g33, ai_ cy g5 40 f5, ai_ cy g8 40 f8] U.heap ∧ kk_ D cy U ∧ va_D (fun _ => True) [ob12_0_ mo s0 s1 t2 s3 s4 g5 g6 g7 g8 g9 g10 s11 g12 g13 g14 g15 g16 g17 g18 g19 g20 s21 g22 g23 g24 s25 s26 s27 s28 g29 g30 g31 g32 g33, ai_ cy g5 40 f5, ai_ cy g8 40 f8])) (va_Qi (fun (r : Int32) (_ : Unit) => (r = ml_lets (f5 a1.toNatClampNeg) (f8 a1.toNatClampNeg) a2)) (fun (_ : Unit) (_ : State) => True) (va_A [] sz)) 0 0 (va_A [] sz) := by
  refine ofQ (cc := cX12_lets) (maxL := 3) (ret := (some .int)) (by decide) rfl ?_
  intro p e s m args below meth c s₁ Q hQ B hml hv
  obtain ⟨rfl, hsz, hP, hK, hD0⟩ := hv
  have hx := B.exec
  have hb := B.bytes
  have hr := B.returns
  have hts := atoms_spec (ws := wsX12_lets) B.pre
  have hown : s.vm.findClass RX12 = some m.cls := by have h_ := findClass_of_methodNamed B.named; exact h_
  have hlocks := B.notSynchronized
  subst hsz
  have hD : va_D (va_A [] s.heap.size) [] := dd_nil
  generalize hAe : va_A [] s.heap.size = A at hD hQ
  have hA : ∀ q : Nat, s.heap.size ≤ q → A q := fun q h => by rw [← hAe]; exact Or.inr h
  have hS : va_S A s.heap s.heap [] := va_S.rf
  have hl := lv_entry ([.ref mo, .int a1, .int a2]) (n := 3) (Nat.le_of_ble_eq_true rfl)
  rw [lg_entry_eq]
  generalize (lg_sl ([.ref mo, .int a1, .int a2]) ++ List.replicate (3 - (lg_sl ([.ref mo, .int a1, .int a2])).length) Slot.unset).toArray = ls at hl ⊢
  have hl : lv_has ls 3 [(0, .ref mo), (1, .int a1), (2, .int a2)] := hl
  have zm5 : ((-5) : Int32).toInt = -5 := by decide
  have z0 : (0 : Int32).toInt = 0 := by decide
  have z1 : (1 : Int32).toInt = 1 := by decide
  have z2 : (2 : Int32).toInt = 2 := by decide
  refine lv_aload_n hx hb dB_3_1_43.1.1.1.1 rfl (lv_at hl 0 rfl) ?_
  refine va_get (ci := 12) (v := .ref g5) (C := RX12) (T := TX12) (N := 34) hx hb hts (fun _ h => List.mem_cons_of_mem _ (List.mem_append_right _ h)) hown hK.1 hP 0 rfl rfl 5 (by decide) (hts (.fieldLink RX12 7 "CutAtlasModel" "kind" "[I") (List.mem_of_getElem? (i := 1) rfl)) (fun _ h9 => h9) rfl dB_3_1_43.1.1.1.2 ?_
  refine lv_iload_n hx hb dB_3_1_43.1.1.2.1 rfl (lv_at hl 1 rfl) ?_
  have h_1 : vp_in a1 40 := in_I (by first | with_reducible assumption | omega) (by omega)
  refine va_iald hx hb hK.1 hP 1 0 rfl rfl (i := a1) h_1 dB_3_1_43.1.1.2.2 ?_
  refine lv_topi (fun y_2 ey_2 => ?_)
  refine lv_iconst (v := 2) hx hb dB_3_1_43.1.2.1.1 (by decide) ?_
  refine lv_icmp_ne (tgt := 15) hx hb dB_3_1_43.1.2.1.2 (by decide) (fun c_3 => ?_) (fun c_3 => ?_)
  · have t_3 : ¬ y_2.toInt = (2 : Int32).toInt := fun h => c_3 (Int32.toInt_inj.mp h)
    refine lv_aload_n hx hb dB_3_1_43.2.1.1.1 rfl (lv_at hl 0 rfl) ?_
    refine va_get (ci := 12) (v := .ref g5) (C := RX12) (T := TX12) (N := 34) hx hb hts (fun _ h => List.mem_cons_of_mem _ (List.mem_append_right _ h)) hown hK.1 hP 0 rfl rfl 5 (by decide) (hts (.fieldLink RX12 7 "CutAtlasModel" "kind" "[I") (List.mem_of_getElem? (i := 1) rfl)) (fun _ h9 => h9) rfl dB_3_1_43.2.1.1.2 ?_
    refine lv_iload_n hx hb dB_3_1_43.2.1.2.1 rfl (lv_at hl 1 rfl) ?_
    refine va_iald hx hb hK.1 hP 1 0 rfl rfl (i := a1) h_1 dB_3_1_43.2.1.2.2 ?_
    refine lv_topi (fun y_5 ey_5 => ?_)
    have e_ := (ey_5.trans ey_2.symm).symm
    subst e_
    skip
    refine lv_iconst (v := 1) hx hb dB_3_1_43.2.2.1.1 (by decide) ?_
    refine lv_icmp_ne (tgt := 33) hx hb dB_3_1_43.2.2.1.2 (by decide) (fun c_6 => ?_) (fun c_6 => ?_)
    · have t_6 : ¬ y_2.toInt = (1 : Int32).toInt := fun h => c_6 (Int32.toInt_inj.mp h)
      refine lv_aload_n hx hb dB_3_1_44.1.2.2 rfl (lv_at hl 0 rfl) ?_
      refine va_get (ci := 12) (v := .ref g8) (C := RX12) (T := TX12) (N := 34) hx hb hts (fun _ h => List.mem_cons_of_mem _ (List.mem_append_right _ h)) hown hK.1 hP 0 rfl rfl 8 (by decide) (hts (.fieldLink RX12 19 "CutAtlasModel" "width" "[I") (List.mem_of_getElem? (i := 2) rfl)) (fun _ h9 => h9) rfl dB_3_1_44.2.1.1 ?_
      refine lv_iload_n hx hb dB_3_1_44.2.1.2 rfl (lv_at hl 1 rfl) ?_
      refine va_iald hx hb hK.1 hP 2 0 rfl rfl (i := a1) h_1 dB_3_1_44.2.2.1 ?_
      refine lv_topi (fun y_8 ey_8 => ?_)
      rw [hQ]
      exact W.iret (v := y_8) hx hb hr (fun t ht hW => ⟨⟨y_8, (), rfl, (by first | (simp only [ml_lets]; try simp only [← ey_2]; try simp only [← ey_8]; simp [c_3, c_6]; done) | (simp only [ml_lets]; try simp only [← ey_2]; try simp only [← ey_8]; done) | (exfalso; omega)), trivial⟩, hS.F ht⟩) hS.2.2 dB_3_1_44.2.2.2
    · have t_6 : y_2.toInt = (1 : Int32).toInt := congrArg Int32.toInt c_6
      refine lv_iload_n hx hb dB_3_1_43.2.2.2.1 rfl (lv_at hl 2 rfl) ?_
      refine lv_if_ne (tgt := 33) hx hb dB_3_1_43.2.2.2.2 (by decide) (fun c_9 => ?_) (fun c_9 => ?_)
      · have t_9 : ¬ a2.toInt = (0 : Int32).toInt := fun h => c_9 (Int32.toInt_inj.mp h)
        refine lv_aload_n hx hb dB_3_1_44.1.2.2 rfl (lv_at hl 0 rfl) ?_
        refine va_get (ci := 12) (v := .ref g8) (C := RX12) (T := TX12) (N := 34) hx hb hts (fun _ h => List.mem_cons_of_mem _ (List.mem_append_right _ h)) hown hK.1 hP 0 rfl rfl 8 (by decide) (hts (.fieldLink RX12 19 "CutAtlasModel" "width" "[I") (List.mem_of_getElem? (i := 2) rfl)) (fun _ h9 => h9) rfl dB_3_1_44.2.1.1 ?_
        refine lv_iload_n hx hb dB_3_1_44.2.1.2 rfl (lv_at hl 1 rfl) ?_
        refine va_iald hx hb hK.1 hP 2 0 rfl rfl (i := a1) h_1 dB_3_1_44.2.2.1 ?_
        refine lv_topi (fun y_11 ey_11 => ?_)
        rw [hQ]
        exact W.iret (v := y_11) hx hb hr (fun t ht hW => ⟨⟨y_11, (), rfl, (by first | (simp only [ml_lets]; try simp only [← ey_2]; try simp only [← ey_11]; simp [c_3, c_6, c_9]; done) | (simp only [ml_lets]; try simp only [← ey_2]; try simp only [← ey_11]; done) | (exfalso; omega)), trivial⟩, hS.F ht⟩) hS.2.2 dB_3_1_44.2.2.2
      · have t_9 : a2.toInt = (0 : Int32).toInt := congrArg Int32.toInt c_9
        refine lv_iconst (v := 0) hx hb dB_3_1_44.1.1 (by decide) ?_
        refine lv_goto (tgt := 39) hx hb dB_3_1_44.1.2.1 (by decide) ?_
        rw [hQ]
        exact W.iret (v := 0) hx hb hr (fun t ht hW => ⟨⟨0, (), rfl, (by first | (simp only [ml_lets]; try simp only [← ey_2]; simp [c_3, c_6, c_9]; done) | (simp only [ml_lets]; try simp only [← ey_2]; done) | (exfalso; omega)), trivial⟩, hS.F ht⟩) hS.2.2 dB_3_1_44.2.2.2
  · have t_3 : y_2.toInt = (2 : Int32).toInt := congrArg Int32.toInt c_3
    refine lv_bipush (v := (-5)) hx hb dB_3_1_43.1.2.2.1 (by decide) ?_
    refine lv_goto (tgt := 39) hx hb dB_3_1_43.1.2.2.2 (by decide) ?_
    rw [hQ]
    exact W.iret (v := (-5)) hx hb hr (fun t ht hW => ⟨⟨(-5), (), rfl, (by first | (simp only [ml_lets]; try simp only [← ey_2]; simp [c_3]; done) | (simp only [ml_lets]; try simp only [← ey_2]; done) | (exfalso; omega)), trivial⟩, hS.F ht⟩) hS.2.2 dB_3_1_44.2.2.2

set_option maxHeartbeats 4000000 in
set_option maxRecDepth 100000 in
theorem c_X12_room (l : Launch) (D : va_G) (cy : Nat → ClassId) (sz : Nat) (mo : Nat) (g5 : Nat) (g6 : Nat) (g7 : Nat) (g8 : Nat) (g9 : Nat) (g10 : Nat) (g12 : Nat) (g13 : Nat) (g14 : Nat) (g15 : Nat) (g16 : Nat) (g17 : Nat) (g18 : Nat) (g19 : Nat) (g20 : Nat) (g22 : Nat) (g23 : Nat) (g24 : Nat) (g29 : Nat) (g30 : Nat) (g31 : Nat) (g32 : Nat) (g33 : Nat) (s0 : Int32) (s1 : Int32) (s3 : Int32) (s4 : Int32) (s11 : Int32) (s21 : Int32) (s25 : Int32) (s26 : Int32) (s27 : Int32) (s28 : Int32) (t2 : Int64) (f5 : Nat → Int32) (f8 : Nat → Int32) (a1 : Int32) (a2 : Int32) (q1 : 0 ≤ a1.toInt ∧ a1.toInt < 40) : Met l yX12_room wsX12_room ({ frames := 1, cells := 0, slots := 0, locals := 22 }) (va_Pc [.ref mo, .int a1, .int a2] (fun U => U.heap.size = sz ∧ va_P D vwCl [ob12_0_ mo s0 s1 t2 s3 s4 g5 g6 g7 g8 g9 g10 s11 g12 g13 g14 g15 g16 g17 g18 g19 g20 s21 g22 g23 g24 s25 s26 s27 s28 g29 g30 g31 g32 g33, ai_ cy g5 40 f5, ai_ cy g8 40 f8] U.heap ∧ kk_ D cy U ∧ va_D (fun _ => True) [ob12_0_ mo s0 s1 t2 s3 s4 g5 g6 g7 g8 g9 g10 s11 g12 g13 g14 g15 g16 g17 g18 g19 g20 s21 g22 g23 g24 s25 s26 s27 s28 g29 g30 g31 g32 g33, ai_ cy g5 40 f5, ai_ cy g8 40 f8])) (va_Qi (fun (r : Int32) (_ : Unit) => (r = ml_room (f5 a1.toNatClampNeg) (f8 a1.toNatClampNeg) a2 a1 s21)) (fun (_ : Unit) (_ : State) => True) (va_A [] sz)) 0 0 (va_A [] sz) := by
  refine ofQ (cc := cX12_room) (maxL := 5) (ret := (some .int)) (by decide) rfl ?_
  intro p e s m args below meth c s₁ Q hQ B hml hv
  obtain ⟨rfl, hsz, hP, hK, hD0⟩ := hv
  have hx := B.exec
  have hb := B.bytes
  have hr := B.returns
  have hts := atoms_spec (ws := wsX12_room) B.pre
  have hown : s.vm.findClass RX12 = some m.cls := by have h_ := findClass_of_methodNamed B.named; exact h_
  have hlocks := B.notSynchronized
  subst hsz
  have hD : va_D (va_A [] s.heap.size) [] := dd_nil
  generalize hAe : va_A [] s.heap.size = A at hD hQ
  have hA : ∀ q : Nat, s.heap.size ≤ q → A q := fun q h => by rw [← hAe]; exact Or.inr h
  have hS : va_S A s.heap s.heap [] := va_S.rf
  have hl := lv_entry ([.ref mo, .int a1, .int a2]) (n := 5) (Nat.le_of_ble_eq_true rfl)
  rw [lg_entry_eq]
  generalize (lg_sl ([.ref mo, .int a1, .int a2]) ++ List.replicate (5 - (lg_sl ([.ref mo, .int a1, .int a2])).length) Slot.unset).toArray = ls at hl ⊢
  have hl : lv_has ls 5 [(0, .ref mo), (1, .int a1), (2, .int a2)] := hl
  have zm5 : ((-5) : Int32).toInt = -5 := by decide
  have z0 : (0 : Int32).toInt = 0 := by decide
  have z1 : (1 : Int32).toInt = 1 := by decide
  have z1000000 : (1000000 : Int32).toInt = 1000000 := by decide
  refine lv_aload_n hx hb dB_3_1_54.1.1.1.1 rfl (lv_at hl 0 rfl) ?_
  refine lv_iload_n hx hb dB_3_1_54.1.1.1.2 rfl (lv_at hl 1 rfl) ?_
  refine lv_iload_n hx hb dB_3_1_54.1.1.2.1 rfl (lv_at hl 2 rfl) ?_
  refine ct_R hP hD0 [ob12_0_ mo s0 s1 t2 s3 s4 g5 g6 g7 g8 g9 g10 s11 g12 g13 g14 g15 g16 g17 g18 g19 g20 s21 g22 g23 g24 s25 s26 s27 s28 g29 g30 g31 g32 g33, ai_ cy g5 40 f5, ai_ cy g8 40 f8] [0, 1, 2] (by decide) rfl (fun hPc hDw => ?_)
  have hFc := va_free (wc := []) hD hS hA [] rfl
  refine va_calli (va_runV (As := [.int a1, .int a2]) (rest := []) ⟨hx, hb, hml, hown, hts⟩ (c_X12_lets l D cy s.heap.size mo g5 g6 g7 g8 g9 g10 g12 g13 g14 g15 g16 g17 g18 g19 g20 g22 g23 g24 g29 g30 g31 g32 g33 s0 s1 s3 s4 s11 s21 s25 s26 s27 s28 t2 f5 f8 a1 a2 (by first | with_reducible assumption | omega | assumption)) (cwV 2 hts gX12_room_X12_lets rfl rfl rfl ⟨rfl, hd_X12_lets⟩ ⟨Nat.le_of_ble_eq_true rfl, Nat.le_of_ble_eq_true rfl⟩) ⟨bl_, va_recvX hK.1 hP (ci := 12) (q0 := 0) rfl rfl, fun U hU hW => ⟨rfl, by rw [hU], by rw [hU]; exact hPc, kk_mv hW hK, hDw⟩⟩ rfl rfl hl.1 rfl (lv_room (Nat.le_of_ble_eq_true rfl)) dB_3_1_54.1.1.2.2 ⟨Nat.le_of_ble_eq_true rfl, Nat.le_of_ble_eq_true rfl⟩) hS (fun q _ h => hFc q h) hFc (fun r_1 u t H locs ht hvm hw hB hz1 hk1 hS => ?_)
  have hP : va_P D vwCl _ H := ro_keep hP hk1
  have f0_r_1 := hw
  refine lv_istore_n (lv' := [(3, .int r_1), (0, .ref mo), (1, .int a1), (2, .int a2)]) hx hb dB_3_1_54.1.2.1.1 rfl hl (by decide) rfl (fun ls hl => ?_)
  refine lv_iload_n hx hb dB_3_1_54.1.2.1.2 rfl (lv_at hl 2 rfl) ?_
  refine lv_aload_n hx hb dB_3_1_54.1.2.2.1 rfl (lv_at hl 1 rfl) ?_
  refine va_get (ci := 12) (v := .int s21) (C := RX12) (T := TX12) (N := 34) hx hb hts (fun _ h => List.mem_cons_of_mem _ (List.mem_append_right _ h)) hown hK.1 hP 0 rfl rfl 21 (by decide) (hts (.fieldLink RX12 57 "CutAtlasModel" "raised" "I") (List.mem_of_getElem? (i := 1) rfl)) (fun _ h9 => h9) rfl dB_3_1_54.1.2.2.2 ?_
  refine lv_icmp_ne (tgt := 39) hx hb dB_3_1_54.2.1.1.1 (by decide) (fun c_2 => ?_) (fun c_2 => ?_)
  · have t_2 : ¬ a1.toInt = s21.toInt := fun h => c_2 (Int32.toInt_inj.mp h)
    refine lv_iconst (v := 0) hx hb dB_3_1_55.1.2.2.1 (by decide) ?_
    refine lv_istore (lv' := [(4, .int 0), (3, .int r_1), (0, .ref mo), (1, .int a1), (2, .int a2)]) hx hb dB_3_1_55.1.2.2.2 hl (by decide) rfl (fun ls hl => ?_)
    refine lv_iload_n hx hb dB_3_1_55.2.1.1.1 rfl (lv_at hl 1 rfl) ?_
    refine lv_bipush (v := (-5)) hx hb dB_3_1_55.2.1.1.2 (by decide) ?_
    refine lv_icmp_ne (tgt := 53) hx hb dB_3_1_55.2.1.2.1 (by decide) (fun c_3 => ?_) (fun c_3 => ?_)
    · have t_3 : ¬ r_1.toInt = ((-5) : Int32).toInt := fun h => c_3 (Int32.toInt_inj.mp h)
      refine lv_iload hx hb dB_3_1_55.2.2.1.2 (lv_at hl 0 rfl) ?_
      refine lv_if_eq (tgt := 64) hx hb dB_3_1_55.2.2.2.1 (by decide) (fun c_4 => ?_) (fun c_4 => ?_)
      · have _ := c_4
        refine lv_iload_n hx hb dB_3_1_56.2.2.1 rfl (lv_at hl 1 rfl) ?_
        rw [hQ]
        exact W.iret (v := r_1) hx hb hr (fun t ht hW => ⟨⟨r_1, (), rfl, (by first | (simp only [ml_room]; try simp only [← f0_r_1]; simp [c_2, c_3]; done) | (simp only [ml_room]; try simp only [← f0_r_1]; done) | (exfalso; omega)), trivial⟩, hS.F ht⟩) hS.2.2 dB_3_1_56.2.2.2
      · exact absurd c_4 (by decide)
    · have t_3 : r_1.toInt = ((-5) : Int32).toInt := congrArg Int32.toInt c_3
      refine lv_ldc (v := 1000000) hx hb hown (hts (.constant RX12 159 (1000000)) (List.mem_of_getElem? (i := 3) rfl)) dB_3_1_55.2.1.2.2 ?_
      refine lv_goto (tgt := 65) hx hb dB_3_1_55.2.2.1.1 (by decide) ?_
      rw [hQ]
      exact W.iret (v := 1000000) hx hb hr (fun t ht hW => ⟨⟨1000000, (), rfl, (by first | (simp only [ml_room]; try simp only [← f0_r_1]; simp [c_2, c_3]; done) | (simp only [ml_room]; try simp only [← f0_r_1]; done) | (exfalso; omega)), trivial⟩, hS.F ht⟩) hS.2.2 dB_3_1_56.2.2.2
  · have t_2 : a1.toInt = s21.toInt := congrArg Int32.toInt c_2
    refine lv_iload_n hx hb dB_3_1_54.2.1.1.2 rfl (lv_at hl 0 rfl) ?_
    refine lv_bipush (v := (-5)) hx hb dB_3_1_54.2.1.2.1 (by decide) ?_
    refine lv_icmp_eq (tgt := 39) hx hb dB_3_1_54.2.1.2.2 (by decide) (fun c_5 => ?_) (fun c_5 => ?_)
    · have t_5 : r_1.toInt = ((-5) : Int32).toInt := congrArg Int32.toInt c_5
      refine lv_iconst (v := 0) hx hb dB_3_1_55.1.2.2.1 (by decide) ?_
      refine lv_istore (lv' := [(4, .int 0), (3, .int r_1), (0, .ref mo), (1, .int a1), (2, .int a2)]) hx hb dB_3_1_55.1.2.2.2 hl (by decide) rfl (fun ls hl => ?_)
      refine lv_iload_n hx hb dB_3_1_55.2.1.1.1 rfl (lv_at hl 1 rfl) ?_
      refine lv_bipush (v := (-5)) hx hb dB_3_1_55.2.1.1.2 (by decide) ?_
      refine lv_icmp_ne (tgt := 53) hx hb dB_3_1_55.2.1.2.1 (by decide) (fun c_6 => ?_) (fun c_6 => ?_)
      · have t_6 : ¬ r_1.toInt = ((-5) : Int32).toInt := fun h => c_6 (Int32.toInt_inj.mp h)
        exfalso; omega
      · have t_6 : r_1.toInt = ((-5) : Int32).toInt := congrArg Int32.toInt c_6
        refine lv_ldc (v := 1000000) hx hb hown (hts (.constant RX12 159 (1000000)) (List.mem_of_getElem? (i := 3) rfl)) dB_3_1_55.2.1.2.2 ?_
        refine lv_goto (tgt := 65) hx hb dB_3_1_55.2.2.1.1 (by decide) ?_
        rw [hQ]
        exact W.iret (v := 1000000) hx hb hr (fun t ht hW => ⟨⟨1000000, (), rfl, (by first | (simp only [ml_room]; try simp only [← f0_r_1]; simp [c_2, c_5, c_6]; done) | (simp only [ml_room]; try simp only [← f0_r_1]; done) | (exfalso; omega)), trivial⟩, hS.F ht⟩) hS.2.2 dB_3_1_56.2.2.2
    · have t_5 : ¬ r_1.toInt = ((-5) : Int32).toInt := fun h => c_5 (Int32.toInt_inj.mp h)
      refine lv_aload_n hx hb dB_3_1_54.2.2.1.1 rfl (lv_at hl 1 rfl) ?_
      refine va_get (ci := 12) (v := .ref g5) (C := RX12) (T := TX12) (N := 34) hx hb hts (fun _ h => List.mem_cons_of_mem _ (List.mem_append_right _ h)) hown hK.1 hP 0 rfl rfl 5 (by decide) (hts (.fieldLink RX12 7 "CutAtlasModel" "kind" "[I") (List.mem_of_getElem? (i := 2) rfl)) (fun _ h9 => h9) rfl dB_3_1_54.2.2.1.2 ?_
      refine lv_iload_n hx hb dB_3_1_54.2.2.2.1 rfl (lv_at hl 2 rfl) ?_
      have h_7 : vp_in a1 40 := in_I (by first | with_reducible assumption | omega) (by omega)
      refine va_iald hx hb hK.1 hP 1 0 rfl rfl (i := a1) h_7 dB_3_1_54.2.2.2.2 ?_
      refine lv_topi (fun y_8 ey_8 => ?_)
      refine lv_iconst (v := 1) hx hb dB_3_1_55.1.1.1.1 (by decide) ?_
      refine lv_icmp_ne (tgt := 35) hx hb dB_3_1_55.1.1.1.2 (by decide) (fun c_9 => ?_) (fun c_9 => ?_)
      · have t_9 : ¬ y_8.toInt = (1 : Int32).toInt := fun h => c_9 (Int32.toInt_inj.mp h)
        refine lv_iconst (v := 1) hx hb dB_3_1_55.1.2.1.1 (by decide) ?_
        refine lv_goto (tgt := 40) hx hb dB_3_1_55.1.2.1.2 (by decide) ?_
        refine lv_istore (lv' := [(4, .int 1), (3, .int r_1), (0, .ref mo), (1, .int a1), (2, .int a2)]) hx hb dB_3_1_55.1.2.2.2 hl (by decide) rfl (fun ls hl => ?_)
        refine lv_iload_n hx hb dB_3_1_55.2.1.1.1 rfl (lv_at hl 1 rfl) ?_
        refine lv_bipush (v := (-5)) hx hb dB_3_1_55.2.1.1.2 (by decide) ?_
        refine lv_icmp_ne (tgt := 53) hx hb dB_3_1_55.2.1.2.1 (by decide) (fun c_10 => ?_) (fun c_10 => ?_)
        · have t_10 : ¬ r_1.toInt = ((-5) : Int32).toInt := fun h => c_10 (Int32.toInt_inj.mp h)
          refine lv_iload hx hb dB_3_1_55.2.2.1.2 (lv_at hl 0 rfl) ?_
          refine lv_if_eq (tgt := 64) hx hb dB_3_1_55.2.2.2.1 (by decide) (fun c_11 => ?_) (fun c_11 => ?_)
          · exact absurd c_11 (by decide)
          · have _ := c_11
            refine lv_iload_n hx hb dB_3_1_55.2.2.2.2 rfl (lv_at hl 1 rfl) ?_
            refine lv_iconst (v := 1) hx hb dB_3_1_56.1.1 (by decide) ?_
            refine lv_iadd hx hb dB_3_1_56.1.2 ?_
            refine lv_topi (fun y_12 ey_12 => ?_)
            refine lv_goto (tgt := 65) hx hb dB_3_1_56.2.1 (by decide) ?_
            rw [hQ]
            exact W.iret (v := y_12) hx hb hr (fun t ht hW => ⟨⟨y_12, (), rfl, (by first | (simp only [ml_room]; try simp only [← f0_r_1]; try simp only [← ey_8]; simp [c_2, c_5, c_9, c_10, ey_12]; done) | (simp only [ml_room]; try simp only [← f0_r_1]; try simp only [← ey_8]; done) | (exfalso; omega)), trivial⟩, hS.F ht⟩) hS.2.2 dB_3_1_56.2.2.2
        · have t_10 : r_1.toInt = ((-5) : Int32).toInt := congrArg Int32.toInt c_10
          refine lv_ldc (v := 1000000) hx hb hown (hts (.constant RX12 159 (1000000)) (List.mem_of_getElem? (i := 3) rfl)) dB_3_1_55.2.1.2.2 ?_
          refine lv_goto (tgt := 65) hx hb dB_3_1_55.2.2.1.1 (by decide) ?_
          rw [hQ]
          exact W.iret (v := 1000000) hx hb hr (fun t ht hW => ⟨⟨1000000, (), rfl, (by first | (simp only [ml_room]; try simp only [← f0_r_1]; try simp only [← ey_8]; simp [c_2, c_5, c_9, c_10]; done) | (simp only [ml_room]; try simp only [← f0_r_1]; try simp only [← ey_8]; done) | (exfalso; omega)), trivial⟩, hS.F ht⟩) hS.2.2 dB_3_1_56.2.2.2
      · have t_9 : y_8.toInt = (1 : Int32).toInt := congrArg Int32.toInt c_9
        refine lv_iload_n hx hb dB_3_1_55.1.1.2.1 rfl (lv_at hl 3 rfl) ?_
        refine lv_if_eq (tgt := 39) hx hb dB_3_1_55.1.1.2.2 (by decide) (fun c_13 => ?_) (fun c_13 => ?_)
        · have t_13 : a2.toInt = (0 : Int32).toInt := congrArg Int32.toInt c_13
          refine lv_iconst (v := 0) hx hb dB_3_1_55.1.2.2.1 (by decide) ?_
          refine lv_istore (lv' := [(4, .int 0), (3, .int r_1), (0, .ref mo), (1, .int a1), (2, .int a2)]) hx hb dB_3_1_55.1.2.2.2 hl (by decide) rfl (fun ls hl => ?_)
          refine lv_iload_n hx hb dB_3_1_55.2.1.1.1 rfl (lv_at hl 1 rfl) ?_
          refine lv_bipush (v := (-5)) hx hb dB_3_1_55.2.1.1.2 (by decide) ?_
          refine lv_icmp_ne (tgt := 53) hx hb dB_3_1_55.2.1.2.1 (by decide) (fun c_14 => ?_) (fun c_14 => ?_)
          · have t_14 : ¬ r_1.toInt = ((-5) : Int32).toInt := fun h => c_14 (Int32.toInt_inj.mp h)
            refine lv_iload hx hb dB_3_1_55.2.2.1.2 (lv_at hl 0 rfl) ?_
            refine lv_if_eq (tgt := 64) hx hb dB_3_1_55.2.2.2.1 (by decide) (fun c_15 => ?_) (fun c_15 => ?_)
            · have _ := c_15
              refine lv_iload_n hx hb dB_3_1_56.2.2.1 rfl (lv_at hl 1 rfl) ?_
              rw [hQ]
              exact W.iret (v := r_1) hx hb hr (fun t ht hW => ⟨⟨r_1, (), rfl, (by first | (simp only [ml_room]; try simp only [← f0_r_1]; try simp only [← ey_8]; simp [c_2, c_5, c_9, c_13, c_14]; done) | (simp only [ml_room]; try simp only [← f0_r_1]; try simp only [← ey_8]; done) | (exfalso; omega)), trivial⟩, hS.F ht⟩) hS.2.2 dB_3_1_56.2.2.2
            · exact absurd c_15 (by decide)
          · have t_14 : r_1.toInt = ((-5) : Int32).toInt := congrArg Int32.toInt c_14
            refine lv_ldc (v := 1000000) hx hb hown (hts (.constant RX12 159 (1000000)) (List.mem_of_getElem? (i := 3) rfl)) dB_3_1_55.2.1.2.2 ?_
            refine lv_goto (tgt := 65) hx hb dB_3_1_55.2.2.1.1 (by decide) ?_
            rw [hQ]
            exact W.iret (v := 1000000) hx hb hr (fun t ht hW => ⟨⟨1000000, (), rfl, (by first | (simp only [ml_room]; try simp only [← f0_r_1]; try simp only [← ey_8]; simp [c_2, c_5, c_9, c_13, c_14]; done) | (simp only [ml_room]; try simp only [← f0_r_1]; try simp only [← ey_8]; done) | (exfalso; omega)), trivial⟩, hS.F ht⟩) hS.2.2 dB_3_1_56.2.2.2
        · have t_13 : ¬ a2.toInt = (0 : Int32).toInt := fun h => c_13 (Int32.toInt_inj.mp h)
          refine lv_iconst (v := 1) hx hb dB_3_1_55.1.2.1.1 (by decide) ?_
          refine lv_goto (tgt := 40) hx hb dB_3_1_55.1.2.1.2 (by decide) ?_
          refine lv_istore (lv' := [(4, .int 1), (3, .int r_1), (0, .ref mo), (1, .int a1), (2, .int a2)]) hx hb dB_3_1_55.1.2.2.2 hl (by decide) rfl (fun ls hl => ?_)
          refine lv_iload_n hx hb dB_3_1_55.2.1.1.1 rfl (lv_at hl 1 rfl) ?_
          refine lv_bipush (v := (-5)) hx hb dB_3_1_55.2.1.1.2 (by decide) ?_
          refine lv_icmp_ne (tgt := 53) hx hb dB_3_1_55.2.1.2.1 (by decide) (fun c_16 => ?_) (fun c_16 => ?_)
          · have t_16 : ¬ r_1.toInt = ((-5) : Int32).toInt := fun h => c_16 (Int32.toInt_inj.mp h)
            refine lv_iload hx hb dB_3_1_55.2.2.1.2 (lv_at hl 0 rfl) ?_
            refine lv_if_eq (tgt := 64) hx hb dB_3_1_55.2.2.2.1 (by decide) (fun c_17 => ?_) (fun c_17 => ?_)
            · exact absurd c_17 (by decide)
            · have _ := c_17
              refine lv_iload_n hx hb dB_3_1_55.2.2.2.2 rfl (lv_at hl 1 rfl) ?_
              refine lv_iconst (v := 1) hx hb dB_3_1_56.1.1 (by decide) ?_
              refine lv_iadd hx hb dB_3_1_56.1.2 ?_
              refine lv_topi (fun y_18 ey_18 => ?_)
              refine lv_goto (tgt := 65) hx hb dB_3_1_56.2.1 (by decide) ?_
              rw [hQ]
              exact W.iret (v := y_18) hx hb hr (fun t ht hW => ⟨⟨y_18, (), rfl, (by first | (simp only [ml_room]; try simp only [← f0_r_1]; try simp only [← ey_8]; simp [c_2, c_5, c_9, c_13, c_16, ey_18]; done) | (simp only [ml_room]; try simp only [← f0_r_1]; try simp only [← ey_8]; done) | (exfalso; omega)), trivial⟩, hS.F ht⟩) hS.2.2 dB_3_1_56.2.2.2
          · have t_16 : r_1.toInt = ((-5) : Int32).toInt := congrArg Int32.toInt c_16
            refine lv_ldc (v := 1000000) hx hb hown (hts (.constant RX12 159 (1000000)) (List.mem_of_getElem? (i := 3) rfl)) dB_3_1_55.2.1.2.2 ?_
            refine lv_goto (tgt := 65) hx hb dB_3_1_55.2.2.1.1 (by decide) ?_
            rw [hQ]
            exact W.iret (v := 1000000) hx hb hr (fun t ht hW => ⟨⟨1000000, (), rfl, (by first | (simp only [ml_room]; try simp only [← f0_r_1]; try simp only [← ey_8]; simp [c_2, c_5, c_9, c_13, c_16]; done) | (simp only [ml_room]; try simp only [← f0_r_1]; try simp only [← ey_8]; done) | (exfalso; omega)), trivial⟩, hS.F ht⟩) hS.2.2 dB_3_1_56.2.2.2

set_option maxHeartbeats 4000000 in
set_option maxRecDepth 100000 in
theorem c_X12_costsTrace (l : Launch) (D : va_G) (cy : Nat → ClassId) (sz : Nat) (mo : Nat) (g5 : Nat) (g6 : Nat) (g7 : Nat) (g8 : Nat) (g9 : Nat) (g10 : Nat) (g12 : Nat) (g13 : Nat) (g14 : Nat) (g15 : Nat) (g16 : Nat) (g17 : Nat) (g18 : Nat) (g19 : Nat) (g20 : Nat) (g22 : Nat) (g23 : Nat) (g24 : Nat) (g29 : Nat) (g30 : Nat) (g31 : Nat) (g32 : Nat) (g33 : Nat) (s0 : Int32) (s1 : Int32) (s3 : Int32) (s4 : Int32) (s11 : Int32) (s21 : Int32) (s25 : Int32) (s26 : Int32) (s27 : Int32) (s28 : Int32) (t2 : Int64) (f5 : Nat → Int32) (a1 : Int32) (q1 : 0 ≤ a1.toInt ∧ a1.toInt < 40) : Met l yX12_costsTrace wsX12_costsTrace ({ frames := 0, cells := 0, slots := 0, locals := 0 }) (va_Pc [.ref mo, .int a1] (fun U => U.heap.size = sz ∧ va_P D vwCl [ob12_0_ mo s0 s1 t2 s3 s4 g5 g6 g7 g8 g9 g10 s11 g12 g13 g14 g15 g16 g17 g18 g19 g20 s21 g22 g23 g24 s25 s26 s27 s28 g29 g30 g31 g32 g33, ai_ cy g5 40 f5] U.heap ∧ kk_ D cy U ∧ va_D (fun _ => True) [ob12_0_ mo s0 s1 t2 s3 s4 g5 g6 g7 g8 g9 g10 s11 g12 g13 g14 g15 g16 g17 g18 g19 g20 s21 g22 g23 g24 s25 s26 s27 s28 g29 g30 g31 g32 g33, ai_ cy g5 40 f5])) (va_Ql (fun (r : Int64) (_ : Unit) => True) (fun (_ : Unit) (_ : State) => True) (va_A [] sz)) 0 0 (va_A [] sz) := by
  refine ofQ (cc := cX12_costsTrace) (maxL := 2) (ret := (some .long)) (by decide) rfl ?_
  intro p e s m args below meth c s₁ Q hQ B hml hv
  obtain ⟨rfl, hsz, hP, hK, hD0⟩ := hv
  have hx := B.exec
  have hb := B.bytes
  have hr := B.returns
  have hts := atoms_spec (ws := wsX12_costsTrace) B.pre
  have hown : s.vm.findClass RX12 = some m.cls := by have h_ := findClass_of_methodNamed B.named; exact h_
  have hlocks := B.notSynchronized
  subst hsz
  have hD : va_D (va_A [] s.heap.size) [] := dd_nil
  generalize hAe : va_A [] s.heap.size = A at hD hQ
  have hA : ∀ q : Nat, s.heap.size ≤ q → A q := fun q h => by rw [← hAe]; exact Or.inr h
  have hS : va_S A s.heap s.heap [] := va_S.rf
  have hl := lv_entry ([.ref mo, .int a1]) (n := 2) (Nat.le_of_ble_eq_true rfl)
  rw [lg_entry_eq]
  generalize (lg_sl ([.ref mo, .int a1]) ++ List.replicate (2 - (lg_sl ([.ref mo, .int a1])).length) Slot.unset).toArray = ls at hl ⊢
  have hl : lv_has ls 2 [(0, .ref mo), (1, .int a1)] := hl
  have z3 : (3 : Int32).toInt = 3 := by decide
  have z4 : (4 : Int32).toInt = 4 := by decide
  have zl1000 : (1000 : Int64).toInt = 1000 := by decide
  have zl10000 : (10000 : Int64).toInt = 10000 := by decide
  have zl110000 : (110000 : Int64).toInt = 110000 := by decide
  refine lv_aload_n hx hb dB_3_0_7.1.1.1.1 rfl (lv_at hl 0 rfl) ?_
  refine va_get (ci := 12) (v := .ref g5) (C := RX12) (T := TX12) (N := 34) hx hb hts (fun _ h => List.mem_cons_of_mem _ (List.mem_append_right _ h)) hown hK.1 hP 0 rfl rfl 5 (by decide) (hts (.fieldLink RX12 7 "CutAtlasModel" "kind" "[I") (List.mem_of_getElem? (i := 1) rfl)) (fun _ h9 => h9) rfl dB_3_0_7.1.1.1.2 ?_
  refine lv_iload_n hx hb dB_3_0_7.1.1.2.1 rfl (lv_at hl 1 rfl) ?_
  have h_1 : vp_in a1 40 := in_I (by first | with_reducible assumption | omega) (by omega)
  refine va_iald hx hb hK.1 hP 1 0 rfl rfl (i := a1) h_1 dB_3_0_7.1.1.2.2 ?_
  refine lv_topi (fun y_2 ey_2 => ?_)
  refine lv_iconst (v := 3) hx hb dB_3_0_7.1.2.1.1 (by decide) ?_
  refine lv_icmp_ne (tgt := 16) hx hb dB_3_0_7.1.2.1.2 (by decide) (fun c_3 => ?_) (fun c_3 => ?_)
  · have t_3 : ¬ y_2.toInt = (3 : Int32).toInt := fun h => c_3 (Int32.toInt_inj.mp h)
    refine lv_aload_n hx hb dB_3_0_7.2.1.1.1 rfl (lv_at hl 0 rfl) ?_
    refine va_get (ci := 12) (v := .ref g5) (C := RX12) (T := TX12) (N := 34) hx hb hts (fun _ h => List.mem_cons_of_mem _ (List.mem_append_right _ h)) hown hK.1 hP 0 rfl rfl 5 (by decide) (hts (.fieldLink RX12 7 "CutAtlasModel" "kind" "[I") (List.mem_of_getElem? (i := 1) rfl)) (fun _ h9 => h9) rfl dB_3_0_7.2.1.1.2 ?_
    refine lv_iload_n hx hb dB_3_0_7.2.1.2.1 rfl (lv_at hl 1 rfl) ?_
    refine va_iald hx hb hK.1 hP 1 0 rfl rfl (i := a1) h_1 dB_3_0_7.2.1.2.2 ?_
    refine lv_topi (fun y_5 ey_5 => ?_)
    have e_ := (ey_5.trans ey_2.symm).symm
    subst e_
    skip
    refine lv_iconst (v := 4) hx hb dB_3_0_7.2.2.1.1 (by decide) ?_
    refine lv_icmp_ne (tgt := 32) hx hb dB_3_0_7.2.2.1.2 (by decide) (fun c_6 => ?_) (fun c_6 => ?_)
    · have t_6 : ¬ y_2.toInt = (4 : Int32).toInt := fun h => c_6 (Int32.toInt_inj.mp h)
      refine lv_ldc2 (v := 1000) hx hb hown (hts (.constantLong RX12 110 (1000)) (List.mem_of_getElem? (i := 4) rfl)) dB_3_0_8.1 ?_
      rw [hQ]
      exact W.lret (v := 1000) hx hb hr (fun t ht hW => ⟨⟨1000, (), rfl, trivial, trivial⟩, hS.F ht⟩) hS.2.2 dB_3_0_8.2
    · have t_6 : y_2.toInt = (4 : Int32).toInt := congrArg Int32.toInt c_6
      refine lv_ldc2 (v := 110000) hx hb hown (hts (.constantLong RX12 130 (110000)) (List.mem_of_getElem? (i := 3) rfl)) dB_3_0_7.2.2.2.1 ?_
      refine lv_goto (tgt := 35) hx hb dB_3_0_7.2.2.2.2 (by decide) ?_
      rw [hQ]
      exact W.lret (v := 110000) hx hb hr (fun t ht hW => ⟨⟨110000, (), rfl, trivial, trivial⟩, hS.F ht⟩) hS.2.2 dB_3_0_8.2
  · have t_3 : y_2.toInt = (3 : Int32).toInt := congrArg Int32.toInt c_3
    refine lv_ldc2 (v := 10000) hx hb hown (hts (.constantLong RX12 128 (10000)) (List.mem_of_getElem? (i := 2) rfl)) dB_3_0_7.1.2.2.1 ?_
    refine lv_goto (tgt := 35) hx hb dB_3_0_7.1.2.2.2 (by decide) ?_
    rw [hQ]
    exact W.lret (v := 10000) hx hb hr (fun t ht hW => ⟨⟨10000, (), rfl, trivial, trivial⟩, hS.F ht⟩) hS.2.2 dB_3_0_8.2

set_option maxHeartbeats 4000000 in
set_option maxRecDepth 100000 in
theorem c_X12_bitsOf (l : Launch) (D : va_G) (cy : Nat → ClassId) (sz : Nat) (a1 : Int32) : Met l yX12_bitsOf wsX12_bitsOf ({ frames := 0, cells := 0, slots := 0, locals := 0 }) (va_Pc [.int a1] (fun U => U.heap.size = sz ∧ va_P D vwCl [] U.heap ∧ kk_ D cy U ∧ va_D (fun _ => True) [])) (va_Qi (fun (r : Int32) (_ : Unit) => True) (fun (_ : Unit) (_ : State) => True) (va_A [] sz)) 0 0 (va_A [] sz) := by
  refine ofQ (cc := cX12_bitsOf) (maxL := 3) (ret := (some .int)) (by decide) rfl ?_
  intro p e s m args below meth c s₁ Q hQ B hml hv
  obtain ⟨rfl, hsz, hP, hK, hD0⟩ := hv
  have hx := B.exec
  have hb := B.bytes
  have hr := B.returns
  have hts := atoms_spec (ws := wsX12_bitsOf) B.pre
  have hown : s.vm.findClass RX12 = some m.cls := by have h_ := findClass_of_methodNamed B.named; exact h_
  have hlocks := B.notSynchronized
  subst hsz
  have hD : va_D (va_A [] s.heap.size) [] := dd_nil
  generalize hAe : va_A [] s.heap.size = A at hD hQ
  have hA : ∀ q : Nat, s.heap.size ≤ q → A q := fun q h => by rw [← hAe]; exact Or.inr h
  have hS : va_S A s.heap s.heap [] := va_S.rf
  have hl := lv_entry ([.int a1]) (n := 3) (Nat.le_of_ble_eq_true rfl)
  rw [lg_entry_eq]
  generalize (lg_sl ([.int a1]) ++ List.replicate (3 - (lg_sl ([.int a1])).length) Slot.unset).toArray = ls at hl ⊢
  have hl : lv_has ls 3 [(0, .int a1)] := hl
  have z0 : (0 : Int32).toInt = 0 := by decide
  have z1 : (1 : Int32).toInt = 1 := by decide
  have z12 : (12 : Int32).toInt = 12 := by decide
  refine lv_iconst (v := 0) hx hb dB_3_1_6.1.1.1.1 (by decide) ?_
  refine lv_istore_n (lv' := [(1, .int 0), (0, .int a1)]) hx hb dB_3_1_6.1.1.1.2 rfl hl (by decide) rfl (fun ls hl => ?_)
  refine lv_iconst (v := 0) hx hb dB_3_1_6.1.1.2.1 (by decide) ?_
  refine lv_istore_n (lv' := [(2, .int 0), (1, .int 0), (0, .int a1)]) hx hb dB_3_1_6.1.1.2.2 rfl hl (by decide) rfl (fun ls hl => ?_)
  suffices LOOP_1 : ∀ (n_1 : Nat) (x2_1 : Int32) (x1_1 : Int32) (H : Heap) (locs : List Loc) (ls : Array Slot), 12 - x2_1.toInt < (n_1 : Int) → (0 ≤ x2_1.toInt) → (x2_1.toInt ≤ 12) → va_P D vwCl [] H → va_S A s.heap H locs → lv_has ls 3 [(2, .int x2_1), (1, .int x1_1), (0, .int a1)] → W p l e ({ frames := 0, cells := 0, slots := 0, locals := 0 } : Room) s m (([.int a1] : List Value).toArray) below meth c H locs 0 0 Q (F0 m 4 ls []) from LOOP_1 ((12 - (0 : Int32).toInt).toNat + 1) (0 : Int32) (0 : Int32) _ _ _ (by omega) (by first | with_reducible assumption | omega | assumption) (by first | with_reducible assumption | omega | assumption) hP hS (lv_sub hl [0, 1, 2] rfl)
  intro n_1
  induction n_1 with
  | zero =>
    intro x2_1 x1_1 H locs ls hm v0_1 v1_1 hP hS hl
    exact absurd hm (by omega)
  | succ n_1 ih_1 =>
    intro x2_1 x1_1 H locs ls hm v0_1 v1_1 hP hS hl
    refine lv_iload_n hx hb dB_3_1_6.1.2.1.1 rfl (lv_at hl 0 rfl) ?_
    refine lv_bipush (v := 12) hx hb dB_3_1_6.1.2.1.2 (by decide) ?_
    refine lv_icmp_ge (tgt := 24) hx hb dB_3_1_6.1.2.2.1 (by decide) (fun c_2 => ?_) (fun c_2 => ?_)
    · have t_2 : (12 : Int32).toInt ≤ x2_1.toInt := Int32.le_iff_toInt_le.mp c_2
      refine lv_iload_n hx hb dB_3_1_7.2.1 rfl (lv_at hl 1 rfl) ?_
      rw [hQ]
      exact W.iret (v := x1_1) hx hb hr (fun t ht hW => ⟨⟨x1_1, (), rfl, trivial, trivial⟩, hS.F ht⟩) hS.2.2 dB_3_1_7.2.2
    · have t_2 : ¬ (12 : Int32).toInt ≤ x2_1.toInt := fun h => c_2 (Int32.le_iff_toInt_le.mpr h)
      refine lv_iload_n hx hb dB_3_1_6.1.2.2.2 rfl (lv_at hl 1 rfl) ?_
      refine lv_iload_n hx hb dB_3_1_6.2.1.1.1 rfl (lv_at hl 2 rfl) ?_
      refine lv_iload_n hx hb dB_3_1_6.2.1.1.2 rfl (lv_at hl 0 rfl) ?_
      refine lv_ishr hx hb dB_3_1_6.2.1.2.1 ?_
      refine lv_topi (fun y_3 ey_3 => ?_)
      refine lv_iconst (v := 1) hx hb dB_3_1_6.2.1.2.2 (by decide) ?_
      refine lv_iand hx hb dB_3_1_6.2.2.1.1 ?_
      refine lv_topi (fun y_4 ey_4 => ?_)
      refine lv_iadd hx hb dB_3_1_6.2.2.1.2 ?_
      refine lv_topi (fun y_5 ey_5 => ?_)
      refine lv_istore_n (lv' := [(1, .int y_5), (2, .int x2_1), (0, .int a1)]) hx hb dB_3_1_6.2.2.2.1 rfl hl (by decide) rfl (fun ls hl => ?_)
      obtain ⟨y_6, ey_6⟩ : ∃ y : Int32, y = x2_1 + 1 := ⟨_, rfl⟩
      have ty_6 : y_6.toInt = x2_1.toInt + (1 : Int32).toInt := by rw [ey_6]; exact addI (by omega) (by omega)
      refine lv_iinc (v := y_6) (lv' := [(2, .int y_6), (1, .int y_5), (0, .int a1)]) hx hb dB_3_1_6.2.2.2.2 hl (k := 1) rfl (by rw [ey_6]; rfl) (by decide) rfl (fun ls hl => ?_)
      refine lv_goto (tgt := 4) hx hb dB_3_1_7.1 (by decide) ?_
      exact ih_1 y_6 y_5 _ _ _ (by omega) (by first | with_reducible assumption | omega | assumption) (by first | with_reducible assumption | omega | assumption) hP hS (lv_sub hl [0, 1, 2] rfl)
end

section
set_option maxHeartbeats 4000000 in
set_option maxRecDepth 100000 in
theorem c_X12_sizeOf (l : Launch) (D : va_G) (cy : Nat → ClassId) (sz : Nat) (mo : Nat) (g5 : Nat) (g6 : Nat) (g7 : Nat) (g8 : Nat) (g9 : Nat) (g10 : Nat) (g12 : Nat) (g13 : Nat) (g14 : Nat) (g15 : Nat) (g16 : Nat) (g17 : Nat) (g18 : Nat) (g19 : Nat) (g20 : Nat) (g22 : Nat) (g23 : Nat) (g24 : Nat) (g29 : Nat) (g30 : Nat) (g31 : Nat) (g32 : Nat) (g33 : Nat) (s0 : Int32) (s1 : Int32) (s3 : Int32) (s4 : Int32) (s11 : Int32) (s21 : Int32) (s25 : Int32) (s26 : Int32) (s27 : Int32) (s28 : Int32) (t2 : Int64) (f5 : Nat → Int32) (f6 : Nat → Int32) (f7 : Nat → Int32) (f8 : Nat → Int32) (f10 : Nat → Int32) (a1 : Int32) (hN : 0 ≤ s4.toInt ∧ s4.toInt ≤ 40) : Met l yX12_sizeOf wsX12_sizeOf ({ frames := 2, cells := 0, slots := 0, locals := 46 }) (va_Pc [.ref mo, .int a1] (fun U => U.heap.size = sz ∧ va_P D vwCl [ob12_0_ mo s0 s1 t2 s3 s4 g5 g6 g7 g8 g9 g10 s11 g12 g13 g14 g15 g16 g17 g18 g19 g20 s21 g22 g23 g24 s25 s26 s27 s28 g29 g30 g31 g32 g33, ai_ cy g5 40 f5, ai_ cy g6 40 f6, ai_ cy g7 40 f7, ai_ cy g8 40 f8, az_ cy g10 40 f10] U.heap ∧ kk_ D cy U ∧ va_D (fun _ => True) [ob12_0_ mo s0 s1 t2 s3 s4 g5 g6 g7 g8 g9 g10 s11 g12 g13 g14 g15 g16 g17 g18 g19 g20 s21 g22 g23 g24 s25 s26 s27 s28 g29 g30 g31 g32 g33, ai_ cy g5 40 f5, ai_ cy g6 40 f6, ai_ cy g7 40 f7, ai_ cy g8 40 f8, az_ cy g10 40 f10])) (va_Qi (fun (r : Int32) (_ : Unit) => True) (fun (_ : Unit) (_ : State) => True) (va_A [] sz)) 0 0 (va_A [] sz) := by
  refine ofQ (cc := cX12_sizeOf) (maxL := 6) (ret := (some .int)) (by decide) rfl ?_
  intro p e s m args below meth c s₁ Q hQ B hml hv
  obtain ⟨rfl, hsz, hP, hK, hD0⟩ := hv
  have hx := B.exec
  have hb := B.bytes
  have hr := B.returns
  have hts := atoms_spec (ws := wsX12_sizeOf) B.pre
  have hown : s.vm.findClass RX12 = some m.cls := by have h_ := findClass_of_methodNamed B.named; exact h_
  have hlocks := B.notSynchronized
  subst hsz
  have hD : va_D (va_A [] s.heap.size) [] := dd_nil
  generalize hAe : va_A [] s.heap.size = A at hD hQ
  have hA : ∀ q : Nat, s.heap.size ≤ q → A q := fun q h => by rw [← hAe]; exact Or.inr h
  have hS : va_S A s.heap s.heap [] := va_S.rf
  have hl := lv_entry ([.ref mo, .int a1]) (n := 6) (Nat.le_of_ble_eq_true rfl)
  rw [lg_entry_eq]
  generalize (lg_sl ([.ref mo, .int a1]) ++ List.replicate (6 - (lg_sl ([.ref mo, .int a1])).length) Slot.unset).toArray = ls at hl ⊢
  have hl : lv_has ls 6 [(0, .ref mo), (1, .int a1)] := hl
  have z0 : (0 : Int32).toInt = 0 := by decide
  have z1 : (1 : Int32).toInt = 1 := by decide
  have z1000000 : (1000000 : Int32).toInt = 1000000 := by decide
  refine lv_iconst (v := 0) hx hb dB_3_1_60.1.1.1.1 (by decide) ?_
  refine lv_istore_n (lv' := [(2, .int 0), (0, .ref mo), (1, .int a1)]) hx hb dB_3_1_60.1.1.1.2 rfl hl (by decide) rfl (fun ls hl => ?_)
  refine lv_iconst (v := 0) hx hb dB_3_1_60.1.1.2.1 (by decide) ?_
  refine lv_istore_n (lv' := [(3, .int 0), (2, .int 0), (0, .ref mo), (1, .int a1)]) hx hb dB_3_1_60.1.1.2.2 rfl hl (by decide) rfl (fun ls hl => ?_)
  suffices LOOP_1 : ∀ (n_1 : Nat) (x3_1 : Int32) (x2_1 : Int32) (H : Heap) (locs : List Loc) (ls : Array Slot), s4.toInt - x3_1.toInt < (n_1 : Int) → (0 ≤ x3_1.toInt) → (x3_1.toInt ≤ s4.toInt) → va_P D vwCl [ob12_0_ mo s0 s1 t2 s3 s4 g5 g6 g7 g8 g9 g10 s11 g12 g13 g14 g15 g16 g17 g18 g19 g20 s21 g22 g23 g24 s25 s26 s27 s28 g29 g30 g31 g32 g33, ai_ cy g5 40 f5, ai_ cy g6 40 f6, ai_ cy g7 40 f7, ai_ cy g8 40 f8, az_ cy g10 40 f10] H → va_S A s.heap H locs → lv_has ls 6 [(3, .int x3_1), (2, .int x2_1), (0, .ref mo), (1, .int a1)] → W p l e ({ frames := 2, cells := 0, slots := 0, locals := 46 } : Room) s m (([.ref mo, .int a1] : List Value).toArray) below meth c H locs 0 0 Q (F0 m 4 ls []) from LOOP_1 ((s4.toInt - (0 : Int32).toInt).toNat + 1) (0 : Int32) (0 : Int32) _ _ _ (by omega) (by first | with_reducible assumption | omega | assumption) (by first | with_reducible assumption | omega | assumption) hP hS (lv_sub hl [0, 1, 2, 3] rfl)
  intro n_1
  induction n_1 with
  | zero =>
    intro x3_1 x2_1 H locs ls hm v0_1 v1_1 hP hS hl
    exact absurd hm (by omega)
  | succ n_1 ih_1 =>
    intro x3_1 x2_1 H locs ls hm v0_1 v1_1 hP hS hl
    refine lv_iload_n hx hb dB_3_1_60.1.2.1.1 rfl (lv_at hl 0 rfl) ?_
    refine lv_aload_n hx hb dB_3_1_60.1.2.1.2 rfl (lv_at hl 2 rfl) ?_
    refine va_get (ci := 12) (v := .int s4) (C := RX12) (T := TX12) (N := 34) hx hb hts (fun _ h => List.mem_cons_of_mem _ (List.mem_append_right _ h)) hown hK.1 hP 0 rfl rfl 4 (by decide) (hts (.fieldLink RX12 95 "CutAtlasModel" "lines" "I") (List.mem_of_getElem? (i := 1) rfl)) (fun _ h9 => h9) rfl dB_3_1_60.1.2.2.1 ?_
    refine lv_icmp_ge (tgt := 111) hx hb dB_3_1_60.1.2.2.2 (by decide) (fun c_2 => ?_) (fun c_2 => ?_)
    · have t_2 : s4.toInt ≤ x3_1.toInt := Int32.le_iff_toInt_le.mp c_2
      refine lv_iload_n hx hb dB_3_1_64.1.1.2 rfl (lv_at hl 1 rfl) ?_
      refine lv_ldc (v := 1000000) hx hb hown (hts (.constant RX12 159 (1000000)) (List.mem_of_getElem? (i := 5) rfl)) dB_3_1_64.1.2.1 ?_
      refine lv_icmp_ge (tgt := 121) hx hb dB_3_1_64.1.2.2 (by decide) (fun c_3 => ?_) (fun c_3 => ?_)
      · have t_3 : (1000000 : Int32).toInt ≤ x2_1.toInt := Int32.le_iff_toInt_le.mp c_3
        refine lv_ldc (v := 1000000) hx hb hown (hts (.constant RX12 159 (1000000)) (List.mem_of_getElem? (i := 5) rfl)) dB_3_1_64.2.2.1 ?_
        rw [hQ]
        exact W.iret (v := 1000000) hx hb hr (fun t ht hW => ⟨⟨1000000, (), rfl, trivial, trivial⟩, hS.F ht⟩) hS.2.2 dB_3_1_64.2.2.2
      · have t_3 : ¬ (1000000 : Int32).toInt ≤ x2_1.toInt := fun h => c_3 (Int32.le_iff_toInt_le.mpr h)
        refine lv_iload_n hx hb dB_3_1_64.2.1.1 rfl (lv_at hl 1 rfl) ?_
        refine lv_goto (tgt := 123) hx hb dB_3_1_64.2.1.2 (by decide) ?_
        rw [hQ]
        exact W.iret (v := x2_1) hx hb hr (fun t ht hW => ⟨⟨x2_1, (), rfl, trivial, trivial⟩, hS.F ht⟩) hS.2.2 dB_3_1_64.2.2.2
    · have t_2 : ¬ s4.toInt ≤ x3_1.toInt := fun h => c_2 (Int32.le_iff_toInt_le.mpr h)
      refine lv_aload_n hx hb dB_3_1_60.2.1.1.1 rfl (lv_at hl 2 rfl) ?_
      refine va_get (ci := 12) (v := .ref g10) (C := RX12) (T := TX12) (N := 34) hx hb hts (fun _ h => List.mem_cons_of_mem _ (List.mem_append_right _ h)) hown hK.1 hP 0 rfl rfl 10 (by decide) (hts (.fieldLink RX12 25 "CutAtlasModel" "isMissing" "[Z") (List.mem_of_getElem? (i := 2) rfl)) (fun _ h9 => h9) rfl dB_3_1_60.2.1.1.2 ?_
      refine lv_iload_n hx hb dB_3_1_60.2.1.2.1 rfl (lv_at hl 0 rfl) ?_
      have h_4 : vp_in x3_1 40 := in_I (by first | with_reducible assumption | omega) (by omega)
      refine va_zald hx hb hK.1 hP 5 2 rfl rfl (i := x3_1) h_4 dB_3_1_60.2.1.2.2 ?_
      refine lv_topi (fun y_5 ey_5 => ?_)
      refine lv_if_ne (tgt := 105) hx hb dB_3_1_60.2.2.1.1 (by decide) (fun c_6 => ?_) (fun c_6 => ?_)
      · have t_6 : ¬ y_5.toInt = (0 : Int32).toInt := fun h => c_6 (Int32.toInt_inj.mp h)
        obtain ⟨y_7, ey_7⟩ : ∃ y : Int32, y = x3_1 + 1 := ⟨_, rfl⟩
        have ty_7 : y_7.toInt = x3_1.toInt + (1 : Int32).toInt := by rw [ey_7]; exact addI (by omega) (by omega)
        refine lv_iinc (v := y_7) (lv' := [(3, .int y_7), (2, .int x2_1), (0, .ref mo), (1, .int a1)]) hx hb dB_3_1_63.2.2.2.2 hl (k := 0) rfl (by rw [ey_7]; rfl) (by decide) rfl (fun ls hl => ?_)
        refine lv_goto (tgt := 4) hx hb dB_3_1_64.1.1.1 (by decide) ?_
        exact ih_1 y_7 x2_1 _ _ _ (by omega) (by first | with_reducible assumption | omega | assumption) (by first | with_reducible assumption | omega | assumption) hP hS (lv_sub hl [0, 1, 2, 3] rfl)
      · have t_6 : y_5.toInt = (0 : Int32).toInt := congrArg Int32.toInt c_6
        refine lv_iload_n hx hb dB_3_1_60.2.2.1.2 rfl (lv_at hl 3 rfl) ?_
        refine lv_aload_n hx hb dB_3_1_60.2.2.2.1 rfl (lv_at hl 2 rfl) ?_
        refine va_get (ci := 12) (v := .ref g6) (C := RX12) (T := TX12) (N := 34) hx hb hts (fun _ h => List.mem_cons_of_mem _ (List.mem_append_right _ h)) hown hK.1 hP 0 rfl rfl 6 (by decide) (hts (.fieldLink RX12 13 "CutAtlasModel" "from" "[I") (List.mem_of_getElem? (i := 3) rfl)) (fun _ h9 => h9) rfl dB_3_1_60.2.2.2.2 ?_
        refine lv_iload_n hx hb dB_3_1_61.1.1.1.1 rfl (lv_at hl 0 rfl) ?_
        refine va_iald hx hb hK.1 hP 2 0 rfl rfl (i := x3_1) h_4 dB_3_1_61.1.1.1.2 ?_
        refine lv_topi (fun y_9 ey_9 => ?_)
        refine lv_ishr hx hb dB_3_1_61.1.1.2.1 ?_
        refine lv_topi (fun y_10 ey_10 => ?_)
        refine lv_iconst (v := 1) hx hb dB_3_1_61.1.1.2.2 (by decide) ?_
        refine lv_iand hx hb dB_3_1_61.1.2.1.1 ?_
        refine lv_topi (fun y_11 ey_11 => ?_)
        refine lv_iconst (v := 1) hx hb dB_3_1_61.1.2.1.2 (by decide) ?_
        refine lv_icmp_ne (tgt := 39) hx hb dB_3_1_61.1.2.2.1 (by decide) (fun c_12 => ?_) (fun c_12 => ?_)
        · have t_12 : ¬ y_11.toInt = (1 : Int32).toInt := fun h => c_12 (Int32.toInt_inj.mp h)
          refine lv_iconst (v := 0) hx hb dB_3_1_61.2.1.1.2 (by decide) ?_
          refine lv_istore (lv' := [(4, .int 0), (3, .int x3_1), (2, .int x2_1), (0, .ref mo), (1, .int a1)]) hx hb dB_3_1_61.2.1.2.1 hl (by decide) rfl (fun ls hl => ?_)
          refine lv_iload_n hx hb dB_3_1_61.2.1.2.2 rfl (lv_at hl 4 rfl) ?_
          refine lv_aload_n hx hb dB_3_1_61.2.2.1.1 rfl (lv_at hl 3 rfl) ?_
          refine va_get (ci := 12) (v := .ref g7) (C := RX12) (T := TX12) (N := 34) hx hb hts (fun _ h => List.mem_cons_of_mem _ (List.mem_append_right _ h)) hown hK.1 hP 0 rfl rfl 7 (by decide) (hts (.fieldLink RX12 16 "CutAtlasModel" "to" "[I") (List.mem_of_getElem? (i := 4) rfl)) (fun _ h9 => h9) rfl dB_3_1_61.2.2.1.2 ?_
          refine lv_iload_n hx hb dB_3_1_61.2.2.2.1 rfl (lv_at hl 1 rfl) ?_
          refine va_iald hx hb hK.1 hP 3 0 rfl rfl (i := x3_1) h_4 dB_3_1_61.2.2.2.2 ?_
          refine lv_topi (fun y_14 ey_14 => ?_)
          refine lv_ishr hx hb dB_3_1_62.1.1.1.1 ?_
          refine lv_topi (fun y_15 ey_15 => ?_)
          refine lv_iconst (v := 1) hx hb dB_3_1_62.1.1.1.2 (by decide) ?_
          refine lv_iand hx hb dB_3_1_62.1.1.2.1 ?_
          refine lv_topi (fun y_16 ey_16 => ?_)
          refine lv_iconst (v := 1) hx hb dB_3_1_62.1.1.2.2 (by decide) ?_
          refine lv_icmp_ne (tgt := 60) hx hb dB_3_1_62.1.2.1.1 (by decide) (fun c_17 => ?_) (fun c_17 => ?_)
          · have t_17 : ¬ y_16.toInt = (1 : Int32).toInt := fun h => c_17 (Int32.toInt_inj.mp h)
            refine lv_iconst (v := 0) hx hb dB_3_1_62.1.2.2.2 (by decide) ?_
            refine lv_istore (lv' := [(5, .int 0), (4, .int 0), (3, .int x3_1), (2, .int x2_1), (0, .ref mo), (1, .int a1)]) hx hb dB_3_1_62.2.1.1.1 hl (by decide) rfl (fun ls hl => ?_)
            refine lv_iload_n hx hb dB_3_1_62.2.1.1.2 rfl (lv_at hl 3 rfl) ?_
            refine lv_iload hx hb dB_3_1_62.2.1.2.1 (lv_at hl 1 rfl) ?_
            refine lv_if_eq (tgt := 83) hx hb dB_3_1_62.2.1.2.2 (by decide) (fun c_18 => ?_) (fun c_18 => ?_)
            · have _ := c_18
              refine lv_iload hx hb dB_3_1_63.1.1.2.2 (lv_at hl 0 rfl) ?_
              refine lv_if_eq (tgt := 102) hx hb dB_3_1_63.1.2.1.1 (by decide) (fun c_19 => ?_) (fun c_19 => ?_)
              · have _ := c_19
                refine lv_iconst (v := 0) hx hb dB_3_1_63.2.2.1.1 (by decide) ?_
                refine lv_iadd hx hb dB_3_1_63.2.2.1.2 ?_
                refine lv_topi (fun y_20 ey_20 => ?_)
                refine lv_istore_n (lv' := [(2, .int y_20), (5, .int 0), (4, .int 0), (3, .int x3_1), (0, .ref mo), (1, .int a1)]) hx hb dB_3_1_63.2.2.2.1 rfl hl (by decide) rfl (fun ls hl => ?_)
                obtain ⟨y_21, ey_21⟩ : ∃ y : Int32, y = x3_1 + 1 := ⟨_, rfl⟩
                have ty_21 : y_21.toInt = x3_1.toInt + (1 : Int32).toInt := by rw [ey_21]; exact addI (by omega) (by omega)
                refine lv_iinc (v := y_21) (lv' := [(3, .int y_21), (2, .int y_20), (5, .int 0), (4, .int 0), (0, .ref mo), (1, .int a1)]) hx hb dB_3_1_63.2.2.2.2 hl (k := 3) rfl (by rw [ey_21]; rfl) (by decide) rfl (fun ls hl => ?_)
                refine lv_goto (tgt := 4) hx hb dB_3_1_64.1.1.1 (by decide) ?_
                exact ih_1 y_21 y_20 _ _ _ (by omega) (by first | with_reducible assumption | omega | assumption) (by first | with_reducible assumption | omega | assumption) hP hS (lv_sub hl [0, 1, 4, 5] rfl)
              · exact absurd c_19 (by decide)
            · exact absurd c_18 (by decide)
          · have t_17 : y_16.toInt = (1 : Int32).toInt := congrArg Int32.toInt c_17
            refine lv_iconst (v := 1) hx hb dB_3_1_62.1.2.1.2 (by decide) ?_
            refine lv_goto (tgt := 61) hx hb dB_3_1_62.1.2.2.1 (by decide) ?_
            refine lv_istore (lv' := [(5, .int 1), (4, .int 0), (3, .int x3_1), (2, .int x2_1), (0, .ref mo), (1, .int a1)]) hx hb dB_3_1_62.2.1.1.1 hl (by decide) rfl (fun ls hl => ?_)
            refine lv_iload_n hx hb dB_3_1_62.2.1.1.2 rfl (lv_at hl 3 rfl) ?_
            refine lv_iload hx hb dB_3_1_62.2.1.2.1 (lv_at hl 1 rfl) ?_
            refine lv_if_eq (tgt := 83) hx hb dB_3_1_62.2.1.2.2 (by decide) (fun c_22 => ?_) (fun c_22 => ?_)
            · have _ := c_22
              refine lv_iload hx hb dB_3_1_63.1.1.2.2 (lv_at hl 0 rfl) ?_
              refine lv_if_eq (tgt := 102) hx hb dB_3_1_63.1.2.1.1 (by decide) (fun c_23 => ?_) (fun c_23 => ?_)
              · exact absurd c_23 (by decide)
              · have _ := c_23
                refine lv_iload hx hb dB_3_1_63.1.2.1.2 (lv_at hl 1 rfl) ?_
                refine lv_if_ne (tgt := 102) hx hb dB_3_1_63.1.2.2.1 (by decide) (fun c_24 => ?_) (fun c_24 => ?_)
                · exact absurd c_24 (by decide)
                · have _ := c_24
                  refine lv_aload_n hx hb dB_3_1_63.1.2.2.2 rfl (lv_at hl 4 rfl) ?_
                  refine lv_iload_n hx hb dB_3_1_63.2.1.1.1 rfl (lv_at hl 2 rfl) ?_
                  refine lv_iconst (v := 0) hx hb dB_3_1_63.2.1.1.2 (by decide) ?_
                  refine ct_R hP hD0 [ob12_0_ mo s0 s1 t2 s3 s4 g5 g6 g7 g8 g9 g10 s11 g12 g13 g14 g15 g16 g17 g18 g19 g20 s21 g22 g23 g24 s25 s26 s27 s28 g29 g30 g31 g32 g33, ai_ cy g5 40 f5, ai_ cy g8 40 f8] [0, 1, 4] (by decide) rfl (fun hPc hDw => ?_)
                  have hFc := va_free (wc := []) hD hS hA [] rfl
                  refine va_calli (va_runV (As := [.int x3_1, .int 0]) (rest := [.int x2_1]) ⟨hx, hb, hml, hown, hts⟩ (c_X12_room l D cy H.size mo g5 g6 g7 g8 g9 g10 g12 g13 g14 g15 g16 g17 g18 g19 g20 g22 g23 g24 g29 g30 g31 g32 g33 s0 s1 s3 s4 s11 s21 s25 s26 s27 s28 t2 f5 f8 x3_1 (0 : Int32) (by first | with_reducible assumption | omega | assumption)) (cwV 2 hts gX12_sizeOf_X12_room rfl rfl rfl ⟨rfl, hd_X12_room⟩ ⟨Nat.le_of_ble_eq_true rfl, Nat.le_of_ble_eq_true rfl⟩) ⟨bl_, va_recvX hK.1 hP (ci := 12) (q0 := 0) rfl rfl, fun U hU hW => ⟨rfl, by rw [hU], by rw [hU]; exact hPc, kk_mv hW hK, hDw⟩⟩ rfl rfl hl.1 rfl (lv_room (Nat.le_of_ble_eq_true rfl)) dB_3_1_63.2.1.2.1 ⟨Nat.le_of_ble_eq_true rfl, Nat.le_of_ble_eq_true rfl⟩) hS (fun q _ h => hFc q h) hFc (fun r_25 u t H locs ht hvm hw hB hz1 hk1 hS => ?_)
                  have hP : va_P D vwCl _ H := ro_keep hP hk1
                  have f0_r_25 := hw
                  refine lv_goto (tgt := 103) hx hb dB_3_1_63.2.1.2.2 (by decide) ?_
                  refine lv_iadd hx hb dB_3_1_63.2.2.1.2 ?_
                  refine lv_topi (fun y_26 ey_26 => ?_)
                  refine lv_istore_n (lv' := [(2, .int y_26), (5, .int 1), (4, .int 0), (3, .int x3_1), (0, .ref mo), (1, .int a1)]) hx hb dB_3_1_63.2.2.2.1 rfl hl (by decide) rfl (fun ls hl => ?_)
                  obtain ⟨y_27, ey_27⟩ : ∃ y : Int32, y = x3_1 + 1 := ⟨_, rfl⟩
                  have ty_27 : y_27.toInt = x3_1.toInt + (1 : Int32).toInt := by rw [ey_27]; exact addI (by omega) (by omega)
                  refine lv_iinc (v := y_27) (lv' := [(3, .int y_27), (2, .int y_26), (5, .int 1), (4, .int 0), (0, .ref mo), (1, .int a1)]) hx hb dB_3_1_63.2.2.2.2 hl (k := 3) rfl (by rw [ey_27]; rfl) (by decide) rfl (fun ls hl => ?_)
                  refine lv_goto (tgt := 4) hx hb dB_3_1_64.1.1.1 (by decide) ?_
                  exact ih_1 y_27 y_26 _ _ _ (by omega) (by first | with_reducible assumption | omega | assumption) (by first | with_reducible assumption | omega | assumption) hP hS (lv_sub hl [0, 1, 4, 5] rfl)
            · exact absurd c_22 (by decide)
        · have t_12 : y_11.toInt = (1 : Int32).toInt := congrArg Int32.toInt c_12
          refine lv_iconst (v := 1) hx hb dB_3_1_61.1.2.2.2 (by decide) ?_
          refine lv_goto (tgt := 40) hx hb dB_3_1_61.2.1.1.1 (by decide) ?_
          refine lv_istore (lv' := [(4, .int 1), (3, .int x3_1), (2, .int x2_1), (0, .ref mo), (1, .int a1)]) hx hb dB_3_1_61.2.1.2.1 hl (by decide) rfl (fun ls hl => ?_)
          refine lv_iload_n hx hb dB_3_1_61.2.1.2.2 rfl (lv_at hl 4 rfl) ?_
          refine lv_aload_n hx hb dB_3_1_61.2.2.1.1 rfl (lv_at hl 3 rfl) ?_
          refine va_get (ci := 12) (v := .ref g7) (C := RX12) (T := TX12) (N := 34) hx hb hts (fun _ h => List.mem_cons_of_mem _ (List.mem_append_right _ h)) hown hK.1 hP 0 rfl rfl 7 (by decide) (hts (.fieldLink RX12 16 "CutAtlasModel" "to" "[I") (List.mem_of_getElem? (i := 4) rfl)) (fun _ h9 => h9) rfl dB_3_1_61.2.2.1.2 ?_
          refine lv_iload_n hx hb dB_3_1_61.2.2.2.1 rfl (lv_at hl 1 rfl) ?_
          refine va_iald hx hb hK.1 hP 3 0 rfl rfl (i := x3_1) h_4 dB_3_1_61.2.2.2.2 ?_
          refine lv_topi (fun y_29 ey_29 => ?_)
          refine lv_ishr hx hb dB_3_1_62.1.1.1.1 ?_
          refine lv_topi (fun y_30 ey_30 => ?_)
          refine lv_iconst (v := 1) hx hb dB_3_1_62.1.1.1.2 (by decide) ?_
          refine lv_iand hx hb dB_3_1_62.1.1.2.1 ?_
          refine lv_topi (fun y_31 ey_31 => ?_)
          refine lv_iconst (v := 1) hx hb dB_3_1_62.1.1.2.2 (by decide) ?_
          refine lv_icmp_ne (tgt := 60) hx hb dB_3_1_62.1.2.1.1 (by decide) (fun c_32 => ?_) (fun c_32 => ?_)
          · have t_32 : ¬ y_31.toInt = (1 : Int32).toInt := fun h => c_32 (Int32.toInt_inj.mp h)
            refine lv_iconst (v := 0) hx hb dB_3_1_62.1.2.2.2 (by decide) ?_
            refine lv_istore (lv' := [(5, .int 0), (4, .int 1), (3, .int x3_1), (2, .int x2_1), (0, .ref mo), (1, .int a1)]) hx hb dB_3_1_62.2.1.1.1 hl (by decide) rfl (fun ls hl => ?_)
            refine lv_iload_n hx hb dB_3_1_62.2.1.1.2 rfl (lv_at hl 3 rfl) ?_
            refine lv_iload hx hb dB_3_1_62.2.1.2.1 (lv_at hl 1 rfl) ?_
            refine lv_if_eq (tgt := 83) hx hb dB_3_1_62.2.1.2.2 (by decide) (fun c_33 => ?_) (fun c_33 => ?_)
            · exact absurd c_33 (by decide)
            · have _ := c_33
              refine lv_iload hx hb dB_3_1_62.2.2.1.1 (lv_at hl 0 rfl) ?_
              refine lv_if_ne (tgt := 83) hx hb dB_3_1_62.2.2.1.2 (by decide) (fun c_34 => ?_) (fun c_34 => ?_)
              · exact absurd c_34 (by decide)
              · have _ := c_34
                refine lv_aload_n hx hb dB_3_1_62.2.2.2.1 rfl (lv_at hl 4 rfl) ?_
                refine lv_iload_n hx hb dB_3_1_62.2.2.2.2 rfl (lv_at hl 2 rfl) ?_
                refine lv_iconst (v := 1) hx hb dB_3_1_63.1.1.1.1 (by decide) ?_
                refine ct_R hP hD0 [ob12_0_ mo s0 s1 t2 s3 s4 g5 g6 g7 g8 g9 g10 s11 g12 g13 g14 g15 g16 g17 g18 g19 g20 s21 g22 g23 g24 s25 s26 s27 s28 g29 g30 g31 g32 g33, ai_ cy g5 40 f5, ai_ cy g8 40 f8] [0, 1, 4] (by decide) rfl (fun hPc hDw => ?_)
                have hFc := va_free (wc := []) hD hS hA [] rfl
                refine va_calli (va_runV (As := [.int x3_1, .int 1]) (rest := [.int x2_1]) ⟨hx, hb, hml, hown, hts⟩ (c_X12_room l D cy H.size mo g5 g6 g7 g8 g9 g10 g12 g13 g14 g15 g16 g17 g18 g19 g20 g22 g23 g24 g29 g30 g31 g32 g33 s0 s1 s3 s4 s11 s21 s25 s26 s27 s28 t2 f5 f8 x3_1 (1 : Int32) (by first | with_reducible assumption | omega | assumption)) (cwV 2 hts gX12_sizeOf_X12_room rfl rfl rfl ⟨rfl, hd_X12_room⟩ ⟨Nat.le_of_ble_eq_true rfl, Nat.le_of_ble_eq_true rfl⟩) ⟨bl_, va_recvX hK.1 hP (ci := 12) (q0 := 0) rfl rfl, fun U hU hW => ⟨rfl, by rw [hU], by rw [hU]; exact hPc, kk_mv hW hK, hDw⟩⟩ rfl rfl hl.1 rfl (lv_room (Nat.le_of_ble_eq_true rfl)) dB_3_1_63.1.1.1.2 ⟨Nat.le_of_ble_eq_true rfl, Nat.le_of_ble_eq_true rfl⟩) hS (fun q _ h => hFc q h) hFc (fun r_35 u t H locs ht hvm hw hB hz1 hk1 hS => ?_)
                have hP : va_P D vwCl _ H := ro_keep hP hk1
                have f0_r_35 := hw
                refine lv_goto (tgt := 103) hx hb dB_3_1_63.1.1.2.1 (by decide) ?_
                refine lv_iadd hx hb dB_3_1_63.2.2.1.2 ?_
                refine lv_topi (fun y_36 ey_36 => ?_)
                refine lv_istore_n (lv' := [(2, .int y_36), (5, .int 0), (4, .int 1), (3, .int x3_1), (0, .ref mo), (1, .int a1)]) hx hb dB_3_1_63.2.2.2.1 rfl hl (by decide) rfl (fun ls hl => ?_)
                obtain ⟨y_37, ey_37⟩ : ∃ y : Int32, y = x3_1 + 1 := ⟨_, rfl⟩
                have ty_37 : y_37.toInt = x3_1.toInt + (1 : Int32).toInt := by rw [ey_37]; exact addI (by omega) (by omega)
                refine lv_iinc (v := y_37) (lv' := [(3, .int y_37), (2, .int y_36), (5, .int 0), (4, .int 1), (0, .ref mo), (1, .int a1)]) hx hb dB_3_1_63.2.2.2.2 hl (k := 3) rfl (by rw [ey_37]; rfl) (by decide) rfl (fun ls hl => ?_)
                refine lv_goto (tgt := 4) hx hb dB_3_1_64.1.1.1 (by decide) ?_
                exact ih_1 y_37 y_36 _ _ _ (by omega) (by first | with_reducible assumption | omega | assumption) (by first | with_reducible assumption | omega | assumption) hP hS (lv_sub hl [0, 1, 4, 5] rfl)
          · have t_32 : y_31.toInt = (1 : Int32).toInt := congrArg Int32.toInt c_32
            refine lv_iconst (v := 1) hx hb dB_3_1_62.1.2.1.2 (by decide) ?_
            refine lv_goto (tgt := 61) hx hb dB_3_1_62.1.2.2.1 (by decide) ?_
            refine lv_istore (lv' := [(5, .int 1), (4, .int 1), (3, .int x3_1), (2, .int x2_1), (0, .ref mo), (1, .int a1)]) hx hb dB_3_1_62.2.1.1.1 hl (by decide) rfl (fun ls hl => ?_)
            refine lv_iload_n hx hb dB_3_1_62.2.1.1.2 rfl (lv_at hl 3 rfl) ?_
            refine lv_iload hx hb dB_3_1_62.2.1.2.1 (lv_at hl 1 rfl) ?_
            refine lv_if_eq (tgt := 83) hx hb dB_3_1_62.2.1.2.2 (by decide) (fun c_38 => ?_) (fun c_38 => ?_)
            · exact absurd c_38 (by decide)
            · have _ := c_38
              refine lv_iload hx hb dB_3_1_62.2.2.1.1 (lv_at hl 0 rfl) ?_
              refine lv_if_ne (tgt := 83) hx hb dB_3_1_62.2.2.1.2 (by decide) (fun c_39 => ?_) (fun c_39 => ?_)
              · have _ := c_39
                refine lv_iload hx hb dB_3_1_63.1.1.2.2 (lv_at hl 0 rfl) ?_
                refine lv_if_eq (tgt := 102) hx hb dB_3_1_63.1.2.1.1 (by decide) (fun c_40 => ?_) (fun c_40 => ?_)
                · exact absurd c_40 (by decide)
                · have _ := c_40
                  refine lv_iload hx hb dB_3_1_63.1.2.1.2 (lv_at hl 1 rfl) ?_
                  refine lv_if_ne (tgt := 102) hx hb dB_3_1_63.1.2.2.1 (by decide) (fun c_41 => ?_) (fun c_41 => ?_)
                  · have _ := c_41
                    refine lv_iconst (v := 0) hx hb dB_3_1_63.2.2.1.1 (by decide) ?_
                    refine lv_iadd hx hb dB_3_1_63.2.2.1.2 ?_
                    refine lv_topi (fun y_42 ey_42 => ?_)
                    refine lv_istore_n (lv' := [(2, .int y_42), (5, .int 1), (4, .int 1), (3, .int x3_1), (0, .ref mo), (1, .int a1)]) hx hb dB_3_1_63.2.2.2.1 rfl hl (by decide) rfl (fun ls hl => ?_)
                    obtain ⟨y_43, ey_43⟩ : ∃ y : Int32, y = x3_1 + 1 := ⟨_, rfl⟩
                    have ty_43 : y_43.toInt = x3_1.toInt + (1 : Int32).toInt := by rw [ey_43]; exact addI (by omega) (by omega)
                    refine lv_iinc (v := y_43) (lv' := [(3, .int y_43), (2, .int y_42), (5, .int 1), (4, .int 1), (0, .ref mo), (1, .int a1)]) hx hb dB_3_1_63.2.2.2.2 hl (k := 3) rfl (by rw [ey_43]; rfl) (by decide) rfl (fun ls hl => ?_)
                    refine lv_goto (tgt := 4) hx hb dB_3_1_64.1.1.1 (by decide) ?_
                    exact ih_1 y_43 y_42 _ _ _ (by omega) (by first | with_reducible assumption | omega | assumption) (by first | with_reducible assumption | omega | assumption) hP hS (lv_sub hl [0, 1, 4, 5] rfl)
                  · exact absurd c_41 (by decide)
              · exact absurd c_39 (by decide)

set_option maxHeartbeats 4000000 in
set_option maxRecDepth 100000 in
theorem c_X12_mostOf (l : Launch) (D : va_G) (cy : Nat → ClassId) (sz : Nat) (mo : Nat) (g5 : Nat) (g6 : Nat) (g7 : Nat) (g8 : Nat) (g9 : Nat) (g10 : Nat) (g12 : Nat) (g13 : Nat) (g14 : Nat) (g15 : Nat) (g16 : Nat) (g17 : Nat) (g18 : Nat) (g19 : Nat) (g20 : Nat) (g22 : Nat) (g23 : Nat) (g24 : Nat) (g29 : Nat) (g30 : Nat) (g31 : Nat) (g32 : Nat) (g33 : Nat) (s0 : Int32) (s1 : Int32) (s3 : Int32) (s4 : Int32) (s11 : Int32) (s21 : Int32) (s25 : Int32) (s26 : Int32) (s27 : Int32) (s28 : Int32) (t2 : Int64) (f5 : Nat → Int32) (f6 : Nat → Int32) (f7 : Nat → Int32) (f8 : Nat → Int32) (f10 : Nat → Int32) (a1 : Int32) (a2 : Int32) (hN : 0 ≤ s4.toInt ∧ s4.toInt ≤ 40) (hPl : 0 ≤ s3.toInt ∧ s3.toInt ≤ 12) : Met l yX12_mostOf wsX12_mostOf ({ frames := 3, cells := 0, slots := 0, locals := 71 }) (va_Pc [.ref mo, .int a1, .int a2] (fun U => U.heap.size = sz ∧ va_P D vwCl [ob12_0_ mo s0 s1 t2 s3 s4 g5 g6 g7 g8 g9 g10 s11 g12 g13 g14 g15 g16 g17 g18 g19 g20 s21 g22 g23 g24 s25 s26 s27 s28 g29 g30 g31 g32 g33, ai_ cy g5 40 f5, ai_ cy g6 40 f6, ai_ cy g7 40 f7, ai_ cy g8 40 f8, az_ cy g10 40 f10] U.heap ∧ kk_ D cy U ∧ va_D (fun _ => True) [ob12_0_ mo s0 s1 t2 s3 s4 g5 g6 g7 g8 g9 g10 s11 g12 g13 g14 g15 g16 g17 g18 g19 g20 s21 g22 g23 g24 s25 s26 s27 s28 g29 g30 g31 g32 g33, ai_ cy g5 40 f5, ai_ cy g6 40 f6, ai_ cy g7 40 f7, ai_ cy g8 40 f8, az_ cy g10 40 f10])) (va_Qi (fun (r : Int32) (_ : Unit) => True) (fun (_ : Unit) (_ : State) => True) (va_A [] sz)) 0 0 (va_A [] sz) := by
  refine ofQ (cc := cX12_mostOf) (maxL := 6) (ret := (some .int)) (by decide) rfl ?_
  intro p e s m args below meth c s₁ Q hQ B hml hv
  obtain ⟨rfl, hsz, hP, hK, hD0⟩ := hv
  have hx := B.exec
  have hb := B.bytes
  have hr := B.returns
  have hts := atoms_spec (ws := wsX12_mostOf) B.pre
  have hown : s.vm.findClass RX12 = some m.cls := by have h_ := findClass_of_methodNamed B.named; exact h_
  have hlocks := B.notSynchronized
  subst hsz
  have hD : va_D (va_A [] s.heap.size) [] := dd_nil
  generalize hAe : va_A [] s.heap.size = A at hD hQ
  have hA : ∀ q : Nat, s.heap.size ≤ q → A q := fun q h => by rw [← hAe]; exact Or.inr h
  have hS : va_S A s.heap s.heap [] := va_S.rf
  have hl := lv_entry ([.ref mo, .int a1, .int a2]) (n := 6) (Nat.le_of_ble_eq_true rfl)
  rw [lg_entry_eq]
  generalize (lg_sl ([.ref mo, .int a1, .int a2]) ++ List.replicate (6 - (lg_sl ([.ref mo, .int a1, .int a2])).length) Slot.unset).toArray = ls at hl ⊢
  have hl : lv_has ls 6 [(0, .ref mo), (1, .int a1), (2, .int a2)] := hl
  have z0 : (0 : Int32).toInt = 0 := by decide
  have z1 : (1 : Int32).toInt = 1 := by decide
  have z1000000 : (1000000 : Int32).toInt = 1000000 := by decide
  refine lv_ldc (v := 1000000) hx hb hown (hts (.constant RX12 159 (1000000)) (List.mem_of_getElem? (i := 1) rfl)) dB_3_1_46.1.1.1.1 ?_
  refine lv_istore_n (lv' := [(3, .int 1000000), (0, .ref mo), (1, .int a1), (2, .int a2)]) hx hb dB_3_1_46.1.1.1.2 rfl hl (by decide) rfl (fun ls hl => ?_)
  refine lv_iconst (v := 0) hx hb dB_3_1_46.1.1.2.1 (by decide) ?_
  refine lv_istore (lv' := [(4, .int 0), (3, .int 1000000), (0, .ref mo), (1, .int a1), (2, .int a2)]) hx hb dB_3_1_46.1.1.2.2 hl (by decide) rfl (fun ls hl => ?_)
  suffices LOOP_1 : ∀ (n_1 : Nat) (x4_1 : Int32) (x3_1 : Int32) (H : Heap) (locs : List Loc) (ls : Array Slot), 4096 - x4_1.toInt < (n_1 : Int) → (0 ≤ x4_1.toInt) → (x4_1.toInt ≤ 4096) → va_P D vwCl [ob12_0_ mo s0 s1 t2 s3 s4 g5 g6 g7 g8 g9 g10 s11 g12 g13 g14 g15 g16 g17 g18 g19 g20 s21 g22 g23 g24 s25 s26 s27 s28 g29 g30 g31 g32 g33, ai_ cy g5 40 f5, ai_ cy g6 40 f6, ai_ cy g7 40 f7, ai_ cy g8 40 f8, az_ cy g10 40 f10] H → va_S A s.heap H locs → lv_has ls 6 [(4, .int x4_1), (3, .int x3_1), (0, .ref mo), (1, .int a1), (2, .int a2)] → W p l e ({ frames := 3, cells := 0, slots := 0, locals := 71 } : Room) s m (([.ref mo, .int a1, .int a2] : List Value).toArray) below meth c H locs 0 0 Q (F0 m 6 ls []) from LOOP_1 ((4096 - (0 : Int32).toInt).toNat + 1) (0 : Int32) (1000000 : Int32) _ _ _ (by omega) (by first | with_reducible assumption | omega | assumption) (by first | with_reducible assumption | omega | assumption) hP hS (lv_sub hl [0, 1, 2, 3, 4] rfl)
  intro n_1
  induction n_1 with
  | zero =>
    intro x4_1 x3_1 H locs ls hm v0_1 v1_1 hP hS hl
    exact absurd hm (by omega)
  | succ n_1 ih_1 =>
    intro x4_1 x3_1 H locs ls hm v0_1 v1_1 hP hS hl
    refine lv_iload hx hb dB_3_1_46.1.2.1.1 (lv_at hl 0 rfl) ?_
    refine lv_iconst (v := 1) hx hb dB_3_1_46.1.2.1.2 (by decide) ?_
    refine lv_aload_n hx hb dB_3_1_46.1.2.2.1 rfl (lv_at hl 2 rfl) ?_
    refine va_get (ci := 12) (v := .int s3) (C := RX12) (T := TX12) (N := 34) hx hb hts (fun _ h => List.mem_cons_of_mem _ (List.mem_append_right _ h)) hown hK.1 hP 0 rfl rfl 3 (by decide) (hts (.fieldLink RX12 88 "CutAtlasModel" "places" "I") (List.mem_of_getElem? (i := 2) rfl)) (fun _ h9 => h9) rfl dB_3_1_46.1.2.2.2 ?_
    refine lv_ishl hx hb dB_3_1_46.2.1.1.1 ?_
    refine lv_topi (fun y_2 ey_2 => ?_)
    have ty_2 : 1 ≤ y_2.toInt ∧ y_2.toInt ≤ 4096 := by rw [ey_2]; exact shl1 (by omega) (by omega)
    refine lv_icmp_ge (tgt := 63) hx hb dB_3_1_46.2.1.1.2 (by decide) (fun c_3 => ?_) (fun c_3 => ?_)
    · have t_3 : y_2.toInt ≤ x4_1.toInt := Int32.le_iff_toInt_le.mp c_3
      refine lv_iload_n hx hb dB_3_1_48.2.2.1 rfl (lv_at hl 1 rfl) ?_
      rw [hQ]
      exact W.iret (v := x3_1) hx hb hr (fun t ht hW => ⟨⟨x3_1, (), rfl, trivial, trivial⟩, hS.F ht⟩) hS.2.2 dB_3_1_48.2.2.2
    · have t_3 : ¬ y_2.toInt ≤ x4_1.toInt := fun h => c_3 (Int32.le_iff_toInt_le.mpr h)
      refine lv_iload hx hb dB_3_1_46.2.1.2.1 (lv_at hl 0 rfl) ?_
      refine lv_iload_n hx hb dB_3_1_46.2.1.2.2 rfl (lv_at hl 3 rfl) ?_
      refine lv_ishr hx hb dB_3_1_46.2.2.1.1 ?_
      refine lv_topi (fun y_4 ey_4 => ?_)
      refine lv_iconst (v := 1) hx hb dB_3_1_46.2.2.1.2 (by decide) ?_
      refine lv_iand hx hb dB_3_1_46.2.2.2.1 ?_
      refine lv_topi (fun y_5 ey_5 => ?_)
      refine lv_iconst (v := 1) hx hb dB_3_1_46.2.2.2.2 (by decide) ?_
      refine lv_icmp_ne (tgt := 57) hx hb dB_3_1_47.1.1.1.1 (by decide) (fun c_6 => ?_) (fun c_6 => ?_)
      · have t_6 : ¬ y_5.toInt = (1 : Int32).toInt := fun h => c_6 (Int32.toInt_inj.mp h)
        obtain ⟨y_7, ey_7⟩ : ∃ y : Int32, y = x4_1 + 1 := ⟨_, rfl⟩
        have ty_7 : y_7.toInt = x4_1.toInt + (1 : Int32).toInt := by rw [ey_7]; exact addI (by omega) (by omega)
        refine lv_iinc (v := y_7) (lv' := [(4, .int y_7), (3, .int x3_1), (0, .ref mo), (1, .int a1), (2, .int a2)]) hx hb dB_3_1_48.1.2.2 hl (k := 0) rfl (by rw [ey_7]; rfl) (by decide) rfl (fun ls hl => ?_)
        refine lv_goto (tgt := 6) hx hb dB_3_1_48.2.1 (by decide) ?_
        exact ih_1 y_7 x3_1 _ _ _ (by omega) (by first | with_reducible assumption | omega | assumption) (by first | with_reducible assumption | omega | assumption) hP hS (lv_sub hl [0, 1, 2, 3, 4] rfl)
      · have t_6 : y_5.toInt = (1 : Int32).toInt := congrArg Int32.toInt c_6
        refine lv_iload hx hb dB_3_1_47.1.1.1.2 (lv_at hl 0 rfl) ?_
        refine lv_iload_n hx hb dB_3_1_47.1.1.2.1 rfl (lv_at hl 4 rfl) ?_
        refine lv_ishr hx hb dB_3_1_47.1.1.2.2 ?_
        refine lv_topi (fun y_8 ey_8 => ?_)
        refine lv_iconst (v := 1) hx hb dB_3_1_47.1.2.1.1 (by decide) ?_
        refine lv_iand hx hb dB_3_1_47.1.2.1.2 ?_
        refine lv_topi (fun y_9 ey_9 => ?_)
        refine lv_if_ne (tgt := 57) hx hb dB_3_1_47.1.2.2.1 (by decide) (fun c_10 => ?_) (fun c_10 => ?_)
        · have t_10 : ¬ y_9.toInt = (0 : Int32).toInt := fun h => c_10 (Int32.toInt_inj.mp h)
          obtain ⟨y_11, ey_11⟩ : ∃ y : Int32, y = x4_1 + 1 := ⟨_, rfl⟩
          have ty_11 : y_11.toInt = x4_1.toInt + (1 : Int32).toInt := by rw [ey_11]; exact addI (by omega) (by omega)
          refine lv_iinc (v := y_11) (lv' := [(4, .int y_11), (3, .int x3_1), (0, .ref mo), (1, .int a1), (2, .int a2)]) hx hb dB_3_1_48.1.2.2 hl (k := 0) rfl (by rw [ey_11]; rfl) (by decide) rfl (fun ls hl => ?_)
          refine lv_goto (tgt := 6) hx hb dB_3_1_48.2.1 (by decide) ?_
          exact ih_1 y_11 x3_1 _ _ _ (by omega) (by first | with_reducible assumption | omega | assumption) (by first | with_reducible assumption | omega | assumption) hP hS (lv_sub hl [0, 1, 2, 3, 4] rfl)
        · have t_10 : y_9.toInt = (0 : Int32).toInt := congrArg Int32.toInt c_10
          refine lv_aload_n hx hb dB_3_1_47.1.2.2.2 rfl (lv_at hl 2 rfl) ?_
          refine lv_iload hx hb dB_3_1_47.2.1.1.1 (lv_at hl 0 rfl) ?_
          refine ct_R hP hD0 [ob12_0_ mo s0 s1 t2 s3 s4 g5 g6 g7 g8 g9 g10 s11 g12 g13 g14 g15 g16 g17 g18 g19 g20 s21 g22 g23 g24 s25 s26 s27 s28 g29 g30 g31 g32 g33, ai_ cy g5 40 f5, ai_ cy g6 40 f6, ai_ cy g7 40 f7, ai_ cy g8 40 f8, az_ cy g10 40 f10] [0, 1, 2, 3, 4, 5] (by decide) rfl (fun hPc hDw => ?_)
          have hFc := va_free (wc := []) hD hS hA [] rfl
          refine va_calli (va_runV (As := [.int x4_1]) (rest := []) ⟨hx, hb, hml, hown, hts⟩ (c_X12_sizeOf l D cy H.size mo g5 g6 g7 g8 g9 g10 g12 g13 g14 g15 g16 g17 g18 g19 g20 g22 g23 g24 g29 g30 g31 g32 g33 s0 s1 s3 s4 s11 s21 s25 s26 s27 s28 t2 f5 f6 f7 f8 f10 x4_1 (by first | with_reducible assumption | omega | assumption)) (cwV 1 hts gX12_mostOf_X12_sizeOf rfl rfl rfl ⟨rfl, hd_X12_sizeOf⟩ ⟨Nat.le_of_ble_eq_true rfl, Nat.le_of_ble_eq_true rfl⟩) ⟨bl_, va_recvX hK.1 hP (ci := 12) (q0 := 0) rfl rfl, fun U hU hW => ⟨rfl, by rw [hU], by rw [hU]; exact hPc, kk_mv hW hK, hDw⟩⟩ rfl rfl hl.1 rfl (lv_room (Nat.le_of_ble_eq_true rfl)) dB_3_1_47.2.1.1.2 ⟨Nat.le_of_ble_eq_true rfl, Nat.le_of_ble_eq_true rfl⟩) hS (fun q _ h => hFc q h) hFc (fun r_12 u t H locs ht hvm hw hB hz1 hk1 hS => ?_)
          have hP : va_P D vwCl _ H := ro_keep hP hk1
          refine lv_istore (lv' := [(5, .int r_12), (4, .int x4_1), (3, .int x3_1), (0, .ref mo), (1, .int a1), (2, .int a2)]) hx hb dB_3_1_47.2.1.2.1 hl (by decide) rfl (fun ls hl => ?_)
          refine lv_iload hx hb dB_3_1_47.2.1.2.2 (lv_at hl 0 rfl) ?_
          refine lv_iload_n hx hb dB_3_1_47.2.2.1.1 rfl (lv_at hl 2 rfl) ?_
          refine lv_icmp_ge (tgt := 55) hx hb dB_3_1_47.2.2.1.2 (by decide) (fun c_13 => ?_) (fun c_13 => ?_)
          · have t_13 : x3_1.toInt ≤ r_12.toInt := Int32.le_iff_toInt_le.mp c_13
            refine lv_iload_n hx hb dB_3_1_48.1.1 rfl (lv_at hl 2 rfl) ?_
            refine lv_istore_n (lv' := [(3, .int x3_1), (5, .int r_12), (4, .int x4_1), (0, .ref mo), (1, .int a1), (2, .int a2)]) hx hb dB_3_1_48.1.2.1 rfl hl (by decide) rfl (fun ls hl => ?_)
            obtain ⟨y_14, ey_14⟩ : ∃ y : Int32, y = x4_1 + 1 := ⟨_, rfl⟩
            have ty_14 : y_14.toInt = x4_1.toInt + (1 : Int32).toInt := by rw [ey_14]; exact addI (by omega) (by omega)
            refine lv_iinc (v := y_14) (lv' := [(4, .int y_14), (3, .int x3_1), (5, .int r_12), (0, .ref mo), (1, .int a1), (2, .int a2)]) hx hb dB_3_1_48.1.2.2 hl (k := 2) rfl (by rw [ey_14]; rfl) (by decide) rfl (fun ls hl => ?_)
            refine lv_goto (tgt := 6) hx hb dB_3_1_48.2.1 (by decide) ?_
            exact ih_1 y_14 x3_1 _ _ _ (by omega) (by first | with_reducible assumption | omega | assumption) (by first | with_reducible assumption | omega | assumption) hP hS (lv_sub hl [0, 1, 3, 4, 5] rfl)
          · have t_13 : ¬ x3_1.toInt ≤ r_12.toInt := fun h => c_13 (Int32.le_iff_toInt_le.mpr h)
            refine lv_iload hx hb dB_3_1_47.2.2.2.1 (lv_at hl 0 rfl) ?_
            refine lv_goto (tgt := 56) hx hb dB_3_1_47.2.2.2.2 (by decide) ?_
            refine lv_istore_n (lv' := [(3, .int r_12), (5, .int r_12), (4, .int x4_1), (0, .ref mo), (1, .int a1), (2, .int a2)]) hx hb dB_3_1_48.1.2.1 rfl hl (by decide) rfl (fun ls hl => ?_)
            obtain ⟨y_15, ey_15⟩ : ∃ y : Int32, y = x4_1 + 1 := ⟨_, rfl⟩
            have ty_15 : y_15.toInt = x4_1.toInt + (1 : Int32).toInt := by rw [ey_15]; exact addI (by omega) (by omega)
            refine lv_iinc (v := y_15) (lv' := [(4, .int y_15), (3, .int r_12), (5, .int r_12), (0, .ref mo), (1, .int a1), (2, .int a2)]) hx hb dB_3_1_48.1.2.2 hl (k := 2) rfl (by rw [ey_15]; rfl) (by decide) rfl (fun ls hl => ?_)
            refine lv_goto (tgt := 6) hx hb dB_3_1_48.2.1 (by decide) ?_
            exact ih_1 y_15 r_12 _ _ _ (by omega) (by first | with_reducible assumption | omega | assumption) (by first | with_reducible assumption | omega | assumption) hP hS (lv_sub hl [0, 1, 3, 4, 5] rfl)

set_option maxHeartbeats 4000000 in
set_option maxRecDepth 100000 in
theorem c_X12_isWhole (l : Launch) (D : va_G) (cy : Nat → ClassId) (sz : Nat) (mo : Nat) (g5 : Nat) (g6 : Nat) (g7 : Nat) (g8 : Nat) (g9 : Nat) (g10 : Nat) (g12 : Nat) (g13 : Nat) (g14 : Nat) (g15 : Nat) (g16 : Nat) (g17 : Nat) (g18 : Nat) (g19 : Nat) (g20 : Nat) (g22 : Nat) (g23 : Nat) (g24 : Nat) (g29 : Nat) (g30 : Nat) (g31 : Nat) (g32 : Nat) (g33 : Nat) (s0 : Int32) (s1 : Int32) (s3 : Int32) (s4 : Int32) (s11 : Int32) (s21 : Int32) (s25 : Int32) (s26 : Int32) (s27 : Int32) (s28 : Int32) (t2 : Int64) (f5 : Nat → Int32) (f10 : Nat → Int32) (hN : 0 ≤ s4.toInt ∧ s4.toInt ≤ 40) : Met l yX12_isWhole wsX12_isWhole ({ frames := 0, cells := 0, slots := 0, locals := 0 }) (va_Pc [.ref mo] (fun U => U.heap.size = sz ∧ va_P D vwCl [ob12_0_ mo s0 s1 t2 s3 s4 g5 g6 g7 g8 g9 g10 s11 g12 g13 g14 g15 g16 g17 g18 g19 g20 s21 g22 g23 g24 s25 s26 s27 s28 g29 g30 g31 g32 g33, ai_ cy g5 40 f5, az_ cy g10 40 f10] U.heap ∧ kk_ D cy U ∧ va_D (fun _ => True) [ob12_0_ mo s0 s1 t2 s3 s4 g5 g6 g7 g8 g9 g10 s11 g12 g13 g14 g15 g16 g17 g18 g19 g20 s21 g22 g23 g24 s25 s26 s27 s28 g29 g30 g31 g32 g33, ai_ cy g5 40 f5, az_ cy g10 40 f10])) (va_Qi (fun (r : Int32) (_ : Unit) => (r.toInt = 0 ∨ r.toInt = 1)) (fun (_ : Unit) (_ : State) => True) (va_A [] sz)) 0 0 (va_A [] sz) := by
  refine ofQ (cc := cX12_isWhole) (maxL := 3) (ret := (some .boolean)) (by decide) rfl ?_
  intro p e s m args below meth c s₁ Q hQ B hml hv
  obtain ⟨rfl, hsz, hP, hK, hD0⟩ := hv
  have hx := B.exec
  have hb := B.bytes
  have hr := B.returns
  have hts := atoms_spec (ws := wsX12_isWhole) B.pre
  have hown : s.vm.findClass RX12 = some m.cls := by have h_ := findClass_of_methodNamed B.named; exact h_
  have hlocks := B.notSynchronized
  subst hsz
  have hD : va_D (va_A [] s.heap.size) [] := dd_nil
  generalize hAe : va_A [] s.heap.size = A at hD hQ
  have hA : ∀ q : Nat, s.heap.size ≤ q → A q := fun q h => by rw [← hAe]; exact Or.inr h
  have hS : va_S A s.heap s.heap [] := va_S.rf
  have hl := lv_entry ([.ref mo]) (n := 3) (Nat.le_of_ble_eq_true rfl)
  rw [lg_entry_eq]
  generalize (lg_sl ([.ref mo]) ++ List.replicate (3 - (lg_sl ([.ref mo])).length) Slot.unset).toArray = ls at hl ⊢
  have hl : lv_has ls 3 [(0, .ref mo)] := hl
  have z0 : (0 : Int32).toInt = 0 := by decide
  have z1 : (1 : Int32).toInt = 1 := by decide
  have z2 : (2 : Int32).toInt = 2 := by decide
  refine lv_aload_n hx hb dB_3_2_31.1.1.1.1 rfl (lv_at hl 0 rfl) ?_
  refine va_get (ci := 12) (v := .int s3) (C := RX12) (T := TX12) (N := 34) hx hb hts (fun _ h => List.mem_cons_of_mem _ (List.mem_append_right _ h)) hown hK.1 hP 0 rfl rfl 3 (by decide) (hts (.fieldLink RX12 88 "CutAtlasModel" "places" "I") (List.mem_of_getElem? (i := 1) rfl)) (fun _ h9 => h9) rfl dB_3_2_31.1.1.1.2 ?_
  refine lv_iconst (v := 1) hx hb dB_3_2_31.1.1.2.1 (by decide) ?_
  refine lv_icmp_le (tgt := 12) hx hb dB_3_2_31.1.1.2.2 (by decide) (fun c_1 => ?_) (fun c_1 => ?_)
  · have t_1 : s3.toInt ≤ (1 : Int32).toInt := Int32.le_iff_toInt_le.mp c_1
    refine lv_iconst (v := 0) hx hb dB_3_2_31.1.2.2.1 (by decide) ?_
    refine lv_istore_n (lv' := [(1, .int 0), (0, .ref mo)]) hx hb dB_3_2_31.1.2.2.2 rfl hl (by decide) rfl (fun ls hl => ?_)
    refine lv_iconst (v := 0) hx hb dB_3_2_31.2.1.1.1 (by decide) ?_
    refine lv_istore_n (lv' := [(2, .int 0), (1, .int 0), (0, .ref mo)]) hx hb dB_3_2_31.2.1.1.2 rfl hl (by decide) rfl (fun ls hl => ?_)
    suffices LOOP_2 : ∀ (n_2 : Nat) (x2_2 : Int32) (x1_2 : Int32) (H : Heap) (locs : List Loc) (ls : Array Slot), s4.toInt - x2_2.toInt < (n_2 : Int) → (0 ≤ x2_2.toInt) → (x2_2.toInt ≤ s4.toInt) → (x1_2.toInt = 0 ∨ x1_2.toInt = 1) → va_P D vwCl [ob12_0_ mo s0 s1 t2 s3 s4 g5 g6 g7 g8 g9 g10 s11 g12 g13 g14 g15 g16 g17 g18 g19 g20 s21 g22 g23 g24 s25 s26 s27 s28 g29 g30 g31 g32 g33, ai_ cy g5 40 f5, az_ cy g10 40 f10] H → va_S A s.heap H locs → lv_has ls 3 [(2, .int x2_2), (1, .int x1_2), (0, .ref mo)] → W p l e ({ frames := 0, cells := 0, slots := 0, locals := 0 } : Room) s m (([.ref mo] : List Value).toArray) below meth c H locs 0 0 Q (F0 m 16 ls []) from LOOP_2 ((s4.toInt - (0 : Int32).toInt).toNat + 1) (0 : Int32) (0 : Int32) _ _ _ (by omega) (by first | with_reducible assumption | omega | assumption) (by first | with_reducible assumption | omega | assumption) (by first | with_reducible assumption | omega | assumption) hP hS (lv_sub hl [0, 1, 2] rfl)
    intro n_2
    induction n_2 with
    | zero =>
      intro x2_2 x1_2 H locs ls hm v0_2 v1_2 v2_2 hP hS hl
      exact absurd hm (by omega)
    | succ n_2 ih_2 =>
      intro x2_2 x1_2 H locs ls hm v0_2 v1_2 v2_2 hP hS hl
      refine lv_iload_n hx hb dB_3_2_31.2.1.2.1 rfl (lv_at hl 0 rfl) ?_
      refine lv_aload_n hx hb dB_3_2_31.2.1.2.2 rfl (lv_at hl 2 rfl) ?_
      refine va_get (ci := 12) (v := .int s4) (C := RX12) (T := TX12) (N := 34) hx hb hts (fun _ h => List.mem_cons_of_mem _ (List.mem_append_right _ h)) hown hK.1 hP 0 rfl rfl 4 (by decide) (hts (.fieldLink RX12 95 "CutAtlasModel" "lines" "I") (List.mem_of_getElem? (i := 2) rfl)) (fun _ h9 => h9) rfl dB_3_2_31.2.2.1.1 ?_
      refine lv_icmp_ge (tgt := 67) hx hb dB_3_2_31.2.2.1.2 (by decide) (fun c_3 => ?_) (fun c_3 => ?_)
      · have t_3 : s4.toInt ≤ x2_2.toInt := Int32.le_iff_toInt_le.mp c_3
        refine lv_iload_n hx hb dB_3_2_33.2.2.2.1 rfl (lv_at hl 1 rfl) ?_
        rw [hQ]
        exact W.zret (ty := .boolean) (v := x1_2) hx hb hr (nar_b (by omega)) (fun t ht hW => ⟨⟨x1_2, (), rfl, (by omega), trivial⟩, hS.F ht⟩) hS.2.2 dB_3_2_33.2.2.2.2
      · have t_3 : ¬ s4.toInt ≤ x2_2.toInt := fun h => c_3 (Int32.le_iff_toInt_le.mpr h)
        refine lv_iload_n hx hb dB_3_2_31.2.2.2.1 rfl (lv_at hl 1 rfl) ?_
        refine lv_aload_n hx hb dB_3_2_31.2.2.2.2 rfl (lv_at hl 2 rfl) ?_
        refine va_get (ci := 12) (v := .ref g10) (C := RX12) (T := TX12) (N := 34) hx hb hts (fun _ h => List.mem_cons_of_mem _ (List.mem_append_right _ h)) hown hK.1 hP 0 rfl rfl 10 (by decide) (hts (.fieldLink RX12 25 "CutAtlasModel" "isMissing" "[Z") (List.mem_of_getElem? (i := 3) rfl)) (fun _ h9 => h9) rfl dB_3_2_32.1.1.1.1 ?_
        refine lv_iload_n hx hb dB_3_2_32.1.1.1.2 rfl (lv_at hl 0 rfl) ?_
        have h_4 : vp_in x2_2 40 := in_I (by first | with_reducible assumption | omega) (by omega)
        refine va_zald hx hb hK.1 hP 2 2 rfl rfl (i := x2_2) h_4 dB_3_2_32.1.1.2.1 ?_
        refine lv_topi (fun y_5 ey_5 => ?_)
        refine lv_if_ne (tgt := 54) hx hb dB_3_2_32.1.1.2.2 (by decide) (fun c_6 => ?_) (fun c_6 => ?_)
        · have t_6 : ¬ y_5.toInt = (0 : Int32).toInt := fun h => c_6 (Int32.toInt_inj.mp h)
          refine lv_iconst (v := 1) hx hb dB_3_2_33.1.1.1 (by decide) ?_
          refine lv_goto (tgt := 59) hx hb dB_3_2_33.1.1.2 (by decide) ?_
          refine lv_iand hx hb dB_3_2_33.1.2.2 ?_
          refine lv_topi (fun y_7 ey_7 => ?_)
          have ty_7 : y_7.toInt = 0 ∨ y_7.toInt = 1 := by rw [ey_7]; exact and01 (by omega) (by omega)
          refine lv_istore_n (lv' := [(1, .int y_7), (2, .int x2_2), (0, .ref mo)]) hx hb dB_3_2_33.2.1.1 rfl hl (by decide) rfl (fun ls hl => ?_)
          obtain ⟨y_8, ey_8⟩ : ∃ y : Int32, y = x2_2 + 1 := ⟨_, rfl⟩
          have ty_8 : y_8.toInt = x2_2.toInt + (1 : Int32).toInt := by rw [ey_8]; exact addI (by omega) (by omega)
          refine lv_iinc (v := y_8) (lv' := [(2, .int y_8), (1, .int y_7), (0, .ref mo)]) hx hb dB_3_2_33.2.1.2 hl (k := 1) rfl (by rw [ey_8]; rfl) (by decide) rfl (fun ls hl => ?_)
          refine lv_goto (tgt := 16) hx hb dB_3_2_33.2.2.1 (by decide) ?_
          exact ih_2 y_8 y_7 _ _ _ (by omega) (by first | with_reducible assumption | omega | assumption) (by first | with_reducible assumption | omega | assumption) (by first | with_reducible assumption | omega | assumption) hP hS (lv_sub hl [0, 1, 2] rfl)
        · have t_6 : y_5.toInt = (0 : Int32).toInt := congrArg Int32.toInt c_6
          refine lv_aload_n hx hb dB_3_2_32.1.2.1.1 rfl (lv_at hl 2 rfl) ?_
          refine va_get (ci := 12) (v := .ref g5) (C := RX12) (T := TX12) (N := 34) hx hb hts (fun _ h => List.mem_cons_of_mem _ (List.mem_append_right _ h)) hown hK.1 hP 0 rfl rfl 5 (by decide) (hts (.fieldLink RX12 7 "CutAtlasModel" "kind" "[I") (List.mem_of_getElem? (i := 4) rfl)) (fun _ h9 => h9) rfl dB_3_2_32.1.2.1.2 ?_
          refine lv_iload_n hx hb dB_3_2_32.1.2.2.1 rfl (lv_at hl 0 rfl) ?_
          refine va_iald hx hb hK.1 hP 1 0 rfl rfl (i := x2_2) h_4 dB_3_2_32.1.2.2.2 ?_
          refine lv_topi (fun y_10 ey_10 => ?_)
          refine lv_iconst (v := 1) hx hb dB_3_2_32.2.1.1.1 (by decide) ?_
          refine lv_icmp_eq (tgt := 58) hx hb dB_3_2_32.2.1.1.2 (by decide) (fun c_11 => ?_) (fun c_11 => ?_)
          · have t_11 : y_10.toInt = (1 : Int32).toInt := congrArg Int32.toInt c_11
            refine lv_iconst (v := 0) hx hb dB_3_2_33.1.2.1 (by decide) ?_
            refine lv_iand hx hb dB_3_2_33.1.2.2 ?_
            refine lv_topi (fun y_12 ey_12 => ?_)
            have ty_12 : y_12.toInt = 0 ∨ y_12.toInt = 1 := by rw [ey_12]; exact and01 (by omega) (by omega)
            refine lv_istore_n (lv' := [(1, .int y_12), (2, .int x2_2), (0, .ref mo)]) hx hb dB_3_2_33.2.1.1 rfl hl (by decide) rfl (fun ls hl => ?_)
            obtain ⟨y_13, ey_13⟩ : ∃ y : Int32, y = x2_2 + 1 := ⟨_, rfl⟩
            have ty_13 : y_13.toInt = x2_2.toInt + (1 : Int32).toInt := by rw [ey_13]; exact addI (by omega) (by omega)
            refine lv_iinc (v := y_13) (lv' := [(2, .int y_13), (1, .int y_12), (0, .ref mo)]) hx hb dB_3_2_33.2.1.2 hl (k := 1) rfl (by rw [ey_13]; rfl) (by decide) rfl (fun ls hl => ?_)
            refine lv_goto (tgt := 16) hx hb dB_3_2_33.2.2.1 (by decide) ?_
            exact ih_2 y_13 y_12 _ _ _ (by omega) (by first | with_reducible assumption | omega | assumption) (by first | with_reducible assumption | omega | assumption) (by first | with_reducible assumption | omega | assumption) hP hS (lv_sub hl [0, 1, 2] rfl)
          · have t_11 : ¬ y_10.toInt = (1 : Int32).toInt := fun h => c_11 (Int32.toInt_inj.mp h)
            refine lv_aload_n hx hb dB_3_2_32.2.1.2.1 rfl (lv_at hl 2 rfl) ?_
            refine va_get (ci := 12) (v := .ref g5) (C := RX12) (T := TX12) (N := 34) hx hb hts (fun _ h => List.mem_cons_of_mem _ (List.mem_append_right _ h)) hown hK.1 hP 0 rfl rfl 5 (by decide) (hts (.fieldLink RX12 7 "CutAtlasModel" "kind" "[I") (List.mem_of_getElem? (i := 4) rfl)) (fun _ h9 => h9) rfl dB_3_2_32.2.1.2.2 ?_
            refine lv_iload_n hx hb dB_3_2_32.2.2.1.1 rfl (lv_at hl 0 rfl) ?_
            refine va_iald hx hb hK.1 hP 1 0 rfl rfl (i := x2_2) h_4 dB_3_2_32.2.2.1.2 ?_
            refine lv_topi (fun y_15 ey_15 => ?_)
            have e_ := (ey_15.trans ey_10.symm).symm
            subst e_
            skip
            refine lv_iconst (v := 2) hx hb dB_3_2_32.2.2.2.1 (by decide) ?_
            refine lv_icmp_eq (tgt := 58) hx hb dB_3_2_32.2.2.2.2 (by decide) (fun c_16 => ?_) (fun c_16 => ?_)
            · have t_16 : y_10.toInt = (2 : Int32).toInt := congrArg Int32.toInt c_16
              refine lv_iconst (v := 0) hx hb dB_3_2_33.1.2.1 (by decide) ?_
              refine lv_iand hx hb dB_3_2_33.1.2.2 ?_
              refine lv_topi (fun y_17 ey_17 => ?_)
              have ty_17 : y_17.toInt = 0 ∨ y_17.toInt = 1 := by rw [ey_17]; exact and01 (by omega) (by omega)
              refine lv_istore_n (lv' := [(1, .int y_17), (2, .int x2_2), (0, .ref mo)]) hx hb dB_3_2_33.2.1.1 rfl hl (by decide) rfl (fun ls hl => ?_)
              obtain ⟨y_18, ey_18⟩ : ∃ y : Int32, y = x2_2 + 1 := ⟨_, rfl⟩
              have ty_18 : y_18.toInt = x2_2.toInt + (1 : Int32).toInt := by rw [ey_18]; exact addI (by omega) (by omega)
              refine lv_iinc (v := y_18) (lv' := [(2, .int y_18), (1, .int y_17), (0, .ref mo)]) hx hb dB_3_2_33.2.1.2 hl (k := 1) rfl (by rw [ey_18]; rfl) (by decide) rfl (fun ls hl => ?_)
              refine lv_goto (tgt := 16) hx hb dB_3_2_33.2.2.1 (by decide) ?_
              exact ih_2 y_18 y_17 _ _ _ (by omega) (by first | with_reducible assumption | omega | assumption) (by first | with_reducible assumption | omega | assumption) (by first | with_reducible assumption | omega | assumption) hP hS (lv_sub hl [0, 1, 2] rfl)
            · have t_16 : ¬ y_10.toInt = (2 : Int32).toInt := fun h => c_16 (Int32.toInt_inj.mp h)
              refine lv_iconst (v := 1) hx hb dB_3_2_33.1.1.1 (by decide) ?_
              refine lv_goto (tgt := 59) hx hb dB_3_2_33.1.1.2 (by decide) ?_
              refine lv_iand hx hb dB_3_2_33.1.2.2 ?_
              refine lv_topi (fun y_19 ey_19 => ?_)
              have ty_19 : y_19.toInt = 0 ∨ y_19.toInt = 1 := by rw [ey_19]; exact and01 (by omega) (by omega)
              refine lv_istore_n (lv' := [(1, .int y_19), (2, .int x2_2), (0, .ref mo)]) hx hb dB_3_2_33.2.1.1 rfl hl (by decide) rfl (fun ls hl => ?_)
              obtain ⟨y_20, ey_20⟩ : ∃ y : Int32, y = x2_2 + 1 := ⟨_, rfl⟩
              have ty_20 : y_20.toInt = x2_2.toInt + (1 : Int32).toInt := by rw [ey_20]; exact addI (by omega) (by omega)
              refine lv_iinc (v := y_20) (lv' := [(2, .int y_20), (1, .int y_19), (0, .ref mo)]) hx hb dB_3_2_33.2.1.2 hl (k := 1) rfl (by rw [ey_20]; rfl) (by decide) rfl (fun ls hl => ?_)
              refine lv_goto (tgt := 16) hx hb dB_3_2_33.2.2.1 (by decide) ?_
              exact ih_2 y_20 y_19 _ _ _ (by omega) (by first | with_reducible assumption | omega | assumption) (by first | with_reducible assumption | omega | assumption) (by first | with_reducible assumption | omega | assumption) hP hS (lv_sub hl [0, 1, 2] rfl)
  · have t_1 : ¬ s3.toInt ≤ (1 : Int32).toInt := fun h => c_1 (Int32.le_iff_toInt_le.mpr h)
    refine lv_iconst (v := 1) hx hb dB_3_2_31.1.2.1.1 (by decide) ?_
    refine lv_goto (tgt := 13) hx hb dB_3_2_31.1.2.1.2 (by decide) ?_
    refine lv_istore_n (lv' := [(1, .int 1), (0, .ref mo)]) hx hb dB_3_2_31.1.2.2.2 rfl hl (by decide) rfl (fun ls hl => ?_)
    refine lv_iconst (v := 0) hx hb dB_3_2_31.2.1.1.1 (by decide) ?_
    refine lv_istore_n (lv' := [(2, .int 0), (1, .int 1), (0, .ref mo)]) hx hb dB_3_2_31.2.1.1.2 rfl hl (by decide) rfl (fun ls hl => ?_)
    suffices LOOP_21 : ∀ (n_21 : Nat) (x2_21 : Int32) (x1_21 : Int32) (H : Heap) (locs : List Loc) (ls : Array Slot), s4.toInt - x2_21.toInt < (n_21 : Int) → (0 ≤ x2_21.toInt) → (x2_21.toInt ≤ s4.toInt) → (x1_21.toInt = 0 ∨ x1_21.toInt = 1) → va_P D vwCl [ob12_0_ mo s0 s1 t2 s3 s4 g5 g6 g7 g8 g9 g10 s11 g12 g13 g14 g15 g16 g17 g18 g19 g20 s21 g22 g23 g24 s25 s26 s27 s28 g29 g30 g31 g32 g33, ai_ cy g5 40 f5, az_ cy g10 40 f10] H → va_S A s.heap H locs → lv_has ls 3 [(2, .int x2_21), (1, .int x1_21), (0, .ref mo)] → W p l e ({ frames := 0, cells := 0, slots := 0, locals := 0 } : Room) s m (([.ref mo] : List Value).toArray) below meth c H locs 0 0 Q (F0 m 16 ls []) from LOOP_21 ((s4.toInt - (0 : Int32).toInt).toNat + 1) (0 : Int32) (1 : Int32) _ _ _ (by omega) (by first | with_reducible assumption | omega | assumption) (by first | with_reducible assumption | omega | assumption) (by first | with_reducible assumption | omega | assumption) hP hS (lv_sub hl [0, 1, 2] rfl)
    intro n_21
    induction n_21 with
    | zero =>
      intro x2_21 x1_21 H locs ls hm v0_21 v1_21 v2_21 hP hS hl
      exact absurd hm (by omega)
    | succ n_21 ih_21 =>
      intro x2_21 x1_21 H locs ls hm v0_21 v1_21 v2_21 hP hS hl
      refine lv_iload_n hx hb dB_3_2_31.2.1.2.1 rfl (lv_at hl 0 rfl) ?_
      refine lv_aload_n hx hb dB_3_2_31.2.1.2.2 rfl (lv_at hl 2 rfl) ?_
      refine va_get (ci := 12) (v := .int s4) (C := RX12) (T := TX12) (N := 34) hx hb hts (fun _ h => List.mem_cons_of_mem _ (List.mem_append_right _ h)) hown hK.1 hP 0 rfl rfl 4 (by decide) (hts (.fieldLink RX12 95 "CutAtlasModel" "lines" "I") (List.mem_of_getElem? (i := 2) rfl)) (fun _ h9 => h9) rfl dB_3_2_31.2.2.1.1 ?_
      refine lv_icmp_ge (tgt := 67) hx hb dB_3_2_31.2.2.1.2 (by decide) (fun c_22 => ?_) (fun c_22 => ?_)
      · have t_22 : s4.toInt ≤ x2_21.toInt := Int32.le_iff_toInt_le.mp c_22
        refine lv_iload_n hx hb dB_3_2_33.2.2.2.1 rfl (lv_at hl 1 rfl) ?_
        rw [hQ]
        exact W.zret (ty := .boolean) (v := x1_21) hx hb hr (nar_b (by omega)) (fun t ht hW => ⟨⟨x1_21, (), rfl, (by omega), trivial⟩, hS.F ht⟩) hS.2.2 dB_3_2_33.2.2.2.2
      · have t_22 : ¬ s4.toInt ≤ x2_21.toInt := fun h => c_22 (Int32.le_iff_toInt_le.mpr h)
        refine lv_iload_n hx hb dB_3_2_31.2.2.2.1 rfl (lv_at hl 1 rfl) ?_
        refine lv_aload_n hx hb dB_3_2_31.2.2.2.2 rfl (lv_at hl 2 rfl) ?_
        refine va_get (ci := 12) (v := .ref g10) (C := RX12) (T := TX12) (N := 34) hx hb hts (fun _ h => List.mem_cons_of_mem _ (List.mem_append_right _ h)) hown hK.1 hP 0 rfl rfl 10 (by decide) (hts (.fieldLink RX12 25 "CutAtlasModel" "isMissing" "[Z") (List.mem_of_getElem? (i := 3) rfl)) (fun _ h9 => h9) rfl dB_3_2_32.1.1.1.1 ?_
        refine lv_iload_n hx hb dB_3_2_32.1.1.1.2 rfl (lv_at hl 0 rfl) ?_
        have h_23 : vp_in x2_21 40 := in_I (by first | with_reducible assumption | omega) (by omega)
        refine va_zald hx hb hK.1 hP 2 2 rfl rfl (i := x2_21) h_23 dB_3_2_32.1.1.2.1 ?_
        refine lv_topi (fun y_24 ey_24 => ?_)
        refine lv_if_ne (tgt := 54) hx hb dB_3_2_32.1.1.2.2 (by decide) (fun c_25 => ?_) (fun c_25 => ?_)
        · have t_25 : ¬ y_24.toInt = (0 : Int32).toInt := fun h => c_25 (Int32.toInt_inj.mp h)
          refine lv_iconst (v := 1) hx hb dB_3_2_33.1.1.1 (by decide) ?_
          refine lv_goto (tgt := 59) hx hb dB_3_2_33.1.1.2 (by decide) ?_
          refine lv_iand hx hb dB_3_2_33.1.2.2 ?_
          refine lv_topi (fun y_26 ey_26 => ?_)
          have ty_26 : y_26.toInt = 0 ∨ y_26.toInt = 1 := by rw [ey_26]; exact and01 (by omega) (by omega)
          refine lv_istore_n (lv' := [(1, .int y_26), (2, .int x2_21), (0, .ref mo)]) hx hb dB_3_2_33.2.1.1 rfl hl (by decide) rfl (fun ls hl => ?_)
          obtain ⟨y_27, ey_27⟩ : ∃ y : Int32, y = x2_21 + 1 := ⟨_, rfl⟩
          have ty_27 : y_27.toInt = x2_21.toInt + (1 : Int32).toInt := by rw [ey_27]; exact addI (by omega) (by omega)
          refine lv_iinc (v := y_27) (lv' := [(2, .int y_27), (1, .int y_26), (0, .ref mo)]) hx hb dB_3_2_33.2.1.2 hl (k := 1) rfl (by rw [ey_27]; rfl) (by decide) rfl (fun ls hl => ?_)
          refine lv_goto (tgt := 16) hx hb dB_3_2_33.2.2.1 (by decide) ?_
          exact ih_21 y_27 y_26 _ _ _ (by omega) (by first | with_reducible assumption | omega | assumption) (by first | with_reducible assumption | omega | assumption) (by first | with_reducible assumption | omega | assumption) hP hS (lv_sub hl [0, 1, 2] rfl)
        · have t_25 : y_24.toInt = (0 : Int32).toInt := congrArg Int32.toInt c_25
          refine lv_aload_n hx hb dB_3_2_32.1.2.1.1 rfl (lv_at hl 2 rfl) ?_
          refine va_get (ci := 12) (v := .ref g5) (C := RX12) (T := TX12) (N := 34) hx hb hts (fun _ h => List.mem_cons_of_mem _ (List.mem_append_right _ h)) hown hK.1 hP 0 rfl rfl 5 (by decide) (hts (.fieldLink RX12 7 "CutAtlasModel" "kind" "[I") (List.mem_of_getElem? (i := 4) rfl)) (fun _ h9 => h9) rfl dB_3_2_32.1.2.1.2 ?_
          refine lv_iload_n hx hb dB_3_2_32.1.2.2.1 rfl (lv_at hl 0 rfl) ?_
          refine va_iald hx hb hK.1 hP 1 0 rfl rfl (i := x2_21) h_23 dB_3_2_32.1.2.2.2 ?_
          refine lv_topi (fun y_29 ey_29 => ?_)
          refine lv_iconst (v := 1) hx hb dB_3_2_32.2.1.1.1 (by decide) ?_
          refine lv_icmp_eq (tgt := 58) hx hb dB_3_2_32.2.1.1.2 (by decide) (fun c_30 => ?_) (fun c_30 => ?_)
          · have t_30 : y_29.toInt = (1 : Int32).toInt := congrArg Int32.toInt c_30
            refine lv_iconst (v := 0) hx hb dB_3_2_33.1.2.1 (by decide) ?_
            refine lv_iand hx hb dB_3_2_33.1.2.2 ?_
            refine lv_topi (fun y_31 ey_31 => ?_)
            have ty_31 : y_31.toInt = 0 ∨ y_31.toInt = 1 := by rw [ey_31]; exact and01 (by omega) (by omega)
            refine lv_istore_n (lv' := [(1, .int y_31), (2, .int x2_21), (0, .ref mo)]) hx hb dB_3_2_33.2.1.1 rfl hl (by decide) rfl (fun ls hl => ?_)
            obtain ⟨y_32, ey_32⟩ : ∃ y : Int32, y = x2_21 + 1 := ⟨_, rfl⟩
            have ty_32 : y_32.toInt = x2_21.toInt + (1 : Int32).toInt := by rw [ey_32]; exact addI (by omega) (by omega)
            refine lv_iinc (v := y_32) (lv' := [(2, .int y_32), (1, .int y_31), (0, .ref mo)]) hx hb dB_3_2_33.2.1.2 hl (k := 1) rfl (by rw [ey_32]; rfl) (by decide) rfl (fun ls hl => ?_)
            refine lv_goto (tgt := 16) hx hb dB_3_2_33.2.2.1 (by decide) ?_
            exact ih_21 y_32 y_31 _ _ _ (by omega) (by first | with_reducible assumption | omega | assumption) (by first | with_reducible assumption | omega | assumption) (by first | with_reducible assumption | omega | assumption) hP hS (lv_sub hl [0, 1, 2] rfl)
          · have t_30 : ¬ y_29.toInt = (1 : Int32).toInt := fun h => c_30 (Int32.toInt_inj.mp h)
            refine lv_aload_n hx hb dB_3_2_32.2.1.2.1 rfl (lv_at hl 2 rfl) ?_
            refine va_get (ci := 12) (v := .ref g5) (C := RX12) (T := TX12) (N := 34) hx hb hts (fun _ h => List.mem_cons_of_mem _ (List.mem_append_right _ h)) hown hK.1 hP 0 rfl rfl 5 (by decide) (hts (.fieldLink RX12 7 "CutAtlasModel" "kind" "[I") (List.mem_of_getElem? (i := 4) rfl)) (fun _ h9 => h9) rfl dB_3_2_32.2.1.2.2 ?_
            refine lv_iload_n hx hb dB_3_2_32.2.2.1.1 rfl (lv_at hl 0 rfl) ?_
            refine va_iald hx hb hK.1 hP 1 0 rfl rfl (i := x2_21) h_23 dB_3_2_32.2.2.1.2 ?_
            refine lv_topi (fun y_34 ey_34 => ?_)
            have e_ := (ey_34.trans ey_29.symm).symm
            subst e_
            skip
            refine lv_iconst (v := 2) hx hb dB_3_2_32.2.2.2.1 (by decide) ?_
            refine lv_icmp_eq (tgt := 58) hx hb dB_3_2_32.2.2.2.2 (by decide) (fun c_35 => ?_) (fun c_35 => ?_)
            · have t_35 : y_29.toInt = (2 : Int32).toInt := congrArg Int32.toInt c_35
              refine lv_iconst (v := 0) hx hb dB_3_2_33.1.2.1 (by decide) ?_
              refine lv_iand hx hb dB_3_2_33.1.2.2 ?_
              refine lv_topi (fun y_36 ey_36 => ?_)
              have ty_36 : y_36.toInt = 0 ∨ y_36.toInt = 1 := by rw [ey_36]; exact and01 (by omega) (by omega)
              refine lv_istore_n (lv' := [(1, .int y_36), (2, .int x2_21), (0, .ref mo)]) hx hb dB_3_2_33.2.1.1 rfl hl (by decide) rfl (fun ls hl => ?_)
              obtain ⟨y_37, ey_37⟩ : ∃ y : Int32, y = x2_21 + 1 := ⟨_, rfl⟩
              have ty_37 : y_37.toInt = x2_21.toInt + (1 : Int32).toInt := by rw [ey_37]; exact addI (by omega) (by omega)
              refine lv_iinc (v := y_37) (lv' := [(2, .int y_37), (1, .int y_36), (0, .ref mo)]) hx hb dB_3_2_33.2.1.2 hl (k := 1) rfl (by rw [ey_37]; rfl) (by decide) rfl (fun ls hl => ?_)
              refine lv_goto (tgt := 16) hx hb dB_3_2_33.2.2.1 (by decide) ?_
              exact ih_21 y_37 y_36 _ _ _ (by omega) (by first | with_reducible assumption | omega | assumption) (by first | with_reducible assumption | omega | assumption) (by first | with_reducible assumption | omega | assumption) hP hS (lv_sub hl [0, 1, 2] rfl)
            · have t_35 : ¬ y_29.toInt = (2 : Int32).toInt := fun h => c_35 (Int32.toInt_inj.mp h)
              refine lv_iconst (v := 1) hx hb dB_3_2_33.1.1.1 (by decide) ?_
              refine lv_goto (tgt := 59) hx hb dB_3_2_33.1.1.2 (by decide) ?_
              refine lv_iand hx hb dB_3_2_33.1.2.2 ?_
              refine lv_topi (fun y_38 ey_38 => ?_)
              have ty_38 : y_38.toInt = 0 ∨ y_38.toInt = 1 := by rw [ey_38]; exact and01 (by omega) (by omega)
              refine lv_istore_n (lv' := [(1, .int y_38), (2, .int x2_21), (0, .ref mo)]) hx hb dB_3_2_33.2.1.1 rfl hl (by decide) rfl (fun ls hl => ?_)
              obtain ⟨y_39, ey_39⟩ : ∃ y : Int32, y = x2_21 + 1 := ⟨_, rfl⟩
              have ty_39 : y_39.toInt = x2_21.toInt + (1 : Int32).toInt := by rw [ey_39]; exact addI (by omega) (by omega)
              refine lv_iinc (v := y_39) (lv' := [(2, .int y_39), (1, .int y_38), (0, .ref mo)]) hx hb dB_3_2_33.2.1.2 hl (k := 1) rfl (by rw [ey_39]; rfl) (by decide) rfl (fun ls hl => ?_)
              refine lv_goto (tgt := 16) hx hb dB_3_2_33.2.2.1 (by decide) ?_
              exact ih_21 y_39 y_38 _ _ _ (by omega) (by first | with_reducible assumption | omega | assumption) (by first | with_reducible assumption | omega | assumption) (by first | with_reducible assumption | omega | assumption) hP hS (lv_sub hl [0, 1, 2] rfl)
end

section
set_option maxHeartbeats 4000000 in
set_option maxRecDepth 100000 in
theorem c_X12_cutsOf (l : Launch) (D : va_G) (cy : Nat → ClassId) (sz : Nat) (mo : Nat) (g5 : Nat) (g6 : Nat) (g7 : Nat) (g8 : Nat) (g9 : Nat) (g10 : Nat) (g12 : Nat) (g13 : Nat) (g14 : Nat) (g15 : Nat) (g16 : Nat) (g17 : Nat) (g18 : Nat) (g19 : Nat) (g20 : Nat) (g22 : Nat) (g23 : Nat) (g24 : Nat) (g29 : Nat) (g30 : Nat) (g31 : Nat) (g32 : Nat) (g33 : Nat) (s0 : Int32) (s1 : Int32) (s3 : Int32) (s4 : Int32) (s11 : Int32) (s21 : Int32) (s25 : Int32) (s26 : Int32) (s27 : Int32) (s28 : Int32) (t2 : Int64) (f5 : Nat → Int32) (f6 : Nat → Int32) (f7 : Nat → Int32) (f8 : Nat → Int32) (f10 : Nat → Int32) (a1 : Int32) (a2 : Int32) (a3 : Int32) (a4 : Int32) (hN : 0 ≤ s4.toInt ∧ s4.toInt ≤ 40) (hPl : 0 ≤ s3.toInt ∧ s3.toInt ≤ 12) : Met l yX12_cutsOf wsX12_cutsOf ({ frames := 3, cells := 0, slots := 0, locals := 71 }) (va_Pc [.ref mo, .int a1, .int a2, .int a3, .int a4] (fun U => U.heap.size = sz ∧ va_P D vwCl [ob12_0_ mo s0 s1 t2 s3 s4 g5 g6 g7 g8 g9 g10 s11 g12 g13 g14 g15 g16 g17 g18 g19 g20 s21 g22 g23 g24 s25 s26 s27 s28 g29 g30 g31 g32 g33, ai_ cy g5 40 f5, ai_ cy g6 40 f6, ai_ cy g7 40 f7, ai_ cy g8 40 f8, az_ cy g10 40 f10] U.heap ∧ kk_ D cy U ∧ va_D (fun _ => True) [ob12_0_ mo s0 s1 t2 s3 s4 g5 g6 g7 g8 g9 g10 s11 g12 g13 g14 g15 g16 g17 g18 g19 g20 s21 g22 g23 g24 s25 s26 s27 s28 g29 g30 g31 g32 g33, ai_ cy g5 40 f5, ai_ cy g6 40 f6, ai_ cy g7 40 f7, ai_ cy g8 40 f8, az_ cy g10 40 f10])) (va_Qv (fun (_ : Unit) => True) (fun (_ : Unit) (t : State) => ∃ (n25 : Int32), ∃ (n26 : Int32), ∃ (n27 : Int32), ∃ (n28 : Int32), va_P D vwCl [ob12_0_ mo s0 s1 t2 s3 s4 g5 g6 g7 g8 g9 g10 s11 g12 g13 g14 g15 g16 g17 g18 g19 g20 s21 g22 g23 g24 n25 n26 n27 n28 g29 g30 g31 g32 g33, ai_ cy g5 40 f5, ai_ cy g6 40 f6, ai_ cy g7 40 f7, ai_ cy g8 40 f8, az_ cy g10 40 f10] t.heap ∧ va_D (va_A [ob12_0_ mo s0 s1 t2 s3 s4 g5 g6 g7 g8 g9 g10 s11 g12 g13 g14 g15 g16 g17 g18 g19 g20 s21 g22 g23 g24 s25 s26 s27 s28 g29 g30 g31 g32 g33, ai_ cy g5 40 f5, ai_ cy g6 40 f6, ai_ cy g7 40 f7, ai_ cy g8 40 f8, az_ cy g10 40 f10] sz) [ob12_0_ mo s0 s1 t2 s3 s4 g5 g6 g7 g8 g9 g10 s11 g12 g13 g14 g15 g16 g17 g18 g19 g20 s21 g22 g23 g24 n25 n26 n27 n28 g29 g30 g31 g32 g33, ai_ cy g5 40 f5, ai_ cy g6 40 f6, ai_ cy g7 40 f7, ai_ cy g8 40 f8, az_ cy g10 40 f10]) (va_A [ob12_0_ mo s0 s1 t2 s3 s4 g5 g6 g7 g8 g9 g10 s11 g12 g13 g14 g15 g16 g17 g18 g19 g20 s21 g22 g23 g24 s25 s26 s27 s28 g29 g30 g31 g32 g33, ai_ cy g5 40 f5, ai_ cy g6 40 f6, ai_ cy g7 40 f7, ai_ cy g8 40 f8, az_ cy g10 40 f10] sz)) 0 0 (va_A [ob12_0_ mo s0 s1 t2 s3 s4 g5 g6 g7 g8 g9 g10 s11 g12 g13 g14 g15 g16 g17 g18 g19 g20 s21 g22 g23 g24 s25 s26 s27 s28 g29 g30 g31 g32 g33, ai_ cy g5 40 f5, ai_ cy g6 40 f6, ai_ cy g7 40 f7, ai_ cy g8 40 f8, az_ cy g10 40 f10] sz) := by
  refine ofQ (cc := cX12_cutsOf) (maxL := 6) (ret := none) (by decide) rfl ?_
  intro p e s m args below meth c s₁ Q hQ B hml hv
  obtain ⟨rfl, hsz, hP, hK, hD0⟩ := hv
  have hx := B.exec
  have hb := B.bytes
  have hr := B.returns
  have hts := atoms_spec (ws := wsX12_cutsOf) B.pre
  have hown : s.vm.findClass RX12 = some m.cls := by have h_ := findClass_of_methodNamed B.named; exact h_
  have hlocks := B.notSynchronized
  subst hsz
  have hD := hD0.self (sz := s.heap.size)
  generalize hAe : va_A [ob12_0_ mo s0 s1 t2 s3 s4 g5 g6 g7 g8 g9 g10 s11 g12 g13 g14 g15 g16 g17 g18 g19 g20 s21 g22 g23 g24 s25 s26 s27 s28 g29 g30 g31 g32 g33, ai_ cy g5 40 f5, ai_ cy g6 40 f6, ai_ cy g7 40 f7, ai_ cy g8 40 f8, az_ cy g10 40 f10] s.heap.size = A at hD hQ
  have hA : ∀ q : Nat, s.heap.size ≤ q → A q := fun q h => by rw [← hAe]; exact Or.inr h
  have hS : va_S A s.heap s.heap [] := va_S.rf
  have hl := lv_entry ([.ref mo, .int a1, .int a2, .int a3, .int a4]) (n := 6) (Nat.le_of_ble_eq_true rfl)
  rw [lg_entry_eq]
  generalize (lg_sl ([.ref mo, .int a1, .int a2, .int a3, .int a4]) ++ List.replicate (6 - (lg_sl ([.ref mo, .int a1, .int a2, .int a3, .int a4])).length) Slot.unset).toArray = ls at hl ⊢
  have hl : lv_has ls 6 [(0, .ref mo), (1, .int a1), (2, .int a2), (3, .int a3), (4, .int a4)] := hl
  have zm9 : ((-9) : Int32).toInt = -9 := by decide
  have z0 : (0 : Int32).toInt = 0 := by decide
  have z1 : (1 : Int32).toInt = 1 := by decide
  refine lv_aload_n hx hb dB_3_1_13.1.1.1.1 rfl (lv_at hl 0 rfl) ?_
  refine lv_iconst (v := 0) hx hb dB_3_1_13.1.1.1.2 (by decide) ?_
  refine va_put (ci := 12) (v := .int 0) (ty := .int) (C := RX12) (T := TX12) (N := 34) hx hb hts (fun _ h => List.mem_cons_of_mem _ (List.mem_append_right _ h)) tyX12 tyX12_ok nmX12 hown hK.1 hP hD hS 0 rfl rfl 25 (by decide) (hts (.fieldLink RX12 192 "CutAtlasModel" "cuts" "I") (List.mem_of_getElem? (i := 1) rfl)) (fun _ h9 => h9) rfl (by decide +kernel) rfl rfl (Nat.le_of_ble_eq_true rfl) dB_3_1_13.1.1.2.1 (fun H locs hP hD hS => ?_)
  refine pd_K [ob12_0_ mo s0 s1 t2 s3 s4 g5 g6 g7 g8 g9 g10 s11 g12 g13 g14 g15 g16 g17 g18 g19 g20 s21 g22 g23 g24 0 s26 s27 s28 g29 g30 g31 g32 g33, ai_ cy g5 40 f5, ai_ cy g6 40 f6, ai_ cy g7 40 f7, ai_ cy g8 40 f8, az_ cy g10 40 f10] hP hD (fun hP hD => ?_)
  refine lv_aload_n hx hb dB_3_1_13.1.1.2.2 rfl (lv_at hl 0 rfl) ?_
  refine lv_bipush (v := (-9)) hx hb dB_3_1_13.1.2.1.1 (by decide) ?_
  refine va_put (ci := 12) (v := .int (-9)) (ty := .int) (C := RX12) (T := TX12) (N := 34) hx hb hts (fun _ h => List.mem_cons_of_mem _ (List.mem_append_right _ h)) tyX12 tyX12_ok nmX12 hown hK.1 hP hD hS 0 rfl rfl 26 (by decide) (hts (.fieldLink RX12 195 "CutAtlasModel" "near" "I") (List.mem_of_getElem? (i := 2) rfl)) (fun _ h9 => h9) rfl (by decide +kernel) rfl rfl (Nat.le_of_ble_eq_true rfl) dB_3_1_13.1.2.1.2 (fun H locs hP hD hS => ?_)
  refine pd_K [ob12_0_ mo s0 s1 t2 s3 s4 g5 g6 g7 g8 g9 g10 s11 g12 g13 g14 g15 g16 g17 g18 g19 g20 s21 g22 g23 g24 0 (-9) s27 s28 g29 g30 g31 g32 g33, ai_ cy g5 40 f5, ai_ cy g6 40 f6, ai_ cy g7 40 f7, ai_ cy g8 40 f8, az_ cy g10 40 f10] hP hD (fun hP hD => ?_)
  refine lv_aload_n hx hb dB_3_1_13.1.2.2.1 rfl (lv_at hl 0 rfl) ?_
  refine lv_bipush (v := (-9)) hx hb dB_3_1_13.1.2.2.2 (by decide) ?_
  refine va_put (ci := 12) (v := .int (-9)) (ty := .int) (C := RX12) (T := TX12) (N := 34) hx hb hts (fun _ h => List.mem_cons_of_mem _ (List.mem_append_right _ h)) tyX12 tyX12_ok nmX12 hown hK.1 hP hD hS 0 rfl rfl 27 (by decide) (hts (.fieldLink RX12 198 "CutAtlasModel" "far" "I") (List.mem_of_getElem? (i := 3) rfl)) (fun _ h9 => h9) rfl (by decide +kernel) rfl rfl (Nat.le_of_ble_eq_true rfl) dB_3_1_13.2.1.1.1 (fun H locs hP hD hS => ?_)
  refine pd_K [ob12_0_ mo s0 s1 t2 s3 s4 g5 g6 g7 g8 g9 g10 s11 g12 g13 g14 g15 g16 g17 g18 g19 g20 s21 g22 g23 g24 0 (-9) (-9) s28 g29 g30 g31 g32 g33, ai_ cy g5 40 f5, ai_ cy g6 40 f6, ai_ cy g7 40 f7, ai_ cy g8 40 f8, az_ cy g10 40 f10] hP hD (fun hP hD => ?_)
  refine lv_aload_n hx hb dB_3_1_13.2.1.1.2 rfl (lv_at hl 0 rfl) ?_
  refine lv_bipush (v := (-9)) hx hb dB_3_1_13.2.1.2.1 (by decide) ?_
  refine va_put (ci := 12) (v := .int (-9)) (ty := .int) (C := RX12) (T := TX12) (N := 34) hx hb hts (fun _ h => List.mem_cons_of_mem _ (List.mem_append_right _ h)) tyX12 tyX12_ok nmX12 hown hK.1 hP hD hS 0 rfl rfl 28 (by decide) (hts (.fieldLink RX12 201 "CutAtlasModel" "chosen" "I") (List.mem_of_getElem? (i := 4) rfl)) (fun _ h9 => h9) rfl (by decide +kernel) rfl rfl (Nat.le_of_ble_eq_true rfl) dB_3_1_13.2.1.2.2 (fun H locs hP hD hS => ?_)
  refine pd_K [ob12_0_ mo s0 s1 t2 s3 s4 g5 g6 g7 g8 g9 g10 s11 g12 g13 g14 g15 g16 g17 g18 g19 g20 s21 g22 g23 g24 0 (-9) (-9) (-9) g29 g30 g31 g32 g33, ai_ cy g5 40 f5, ai_ cy g6 40 f6, ai_ cy g7 40 f7, ai_ cy g8 40 f8, az_ cy g10 40 f10] hP hD (fun hP hD => ?_)
  refine lv_iconst (v := 0) hx hb dB_3_1_13.2.2.1.1 (by decide) ?_
  refine lv_istore (lv' := [(5, .int 0), (0, .ref mo), (1, .int a1), (2, .int a2), (3, .int a3), (4, .int a4)]) hx hb dB_3_1_13.2.2.1.2 hl (by decide) rfl (fun ls hl => ?_)
  suffices LOOP_1 : ∀ (n_1 : Nat) (x5_1 : Int32) (o25_1 : Int32) (o26_1 : Int32) (o27_1 : Int32) (o28_1 : Int32) (H : Heap) (locs : List Loc) (ls : Array Slot), 4100 - x5_1.toInt < (n_1 : Int) → (0 ≤ x5_1.toInt) → (x5_1.toInt ≤ 4100) → pd_2 D vwCl A [ob12_0_ mo s0 s1 t2 s3 s4 g5 g6 g7 g8 g9 g10 s11 g12 g13 g14 g15 g16 g17 g18 g19 g20 s21 g22 g23 g24 o25_1 o26_1 o27_1 o28_1 g29 g30 g31 g32 g33, ai_ cy g5 40 f5, ai_ cy g6 40 f6, ai_ cy g7 40 f7, ai_ cy g8 40 f8, az_ cy g10 40 f10] H → va_S A s.heap H locs → lv_has ls 6 [(5, .int x5_1), (0, .ref mo), (1, .int a1), (2, .int a2), (3, .int a3), (4, .int a4)] → W p l e ({ frames := 3, cells := 0, slots := 0, locals := 71 } : Room) s m (([.ref mo, .int a1, .int a2, .int a3, .int a4] : List Value).toArray) below meth c H locs 0 0 Q (F0 m 26 ls []) from LOOP_1 ((4100 - (0 : Int32).toInt).toNat + 1) (0 : Int32) (0 : Int32) ((-9) : Int32) ((-9) : Int32) ((-9) : Int32) _ _ _ (by omega) (by first | with_reducible assumption | omega | assumption) (by first | with_reducible assumption | omega | assumption) ⟨hP, hD⟩ hS (lv_sub hl [0, 1, 2, 3, 4, 5] rfl)
  intro n_1
  induction n_1 with
  | zero =>
    intro x5_1 o25_1 o26_1 o27_1 o28_1 H locs ls hm v0_1 v1_1 hPD hS hl; obtain ⟨hP, hD⟩ := hPD
    exact absurd hm (by omega)
  | succ n_1 ih_1 =>
    intro x5_1 o25_1 o26_1 o27_1 o28_1 H locs ls hm v0_1 v1_1 hPD hS hl; obtain ⟨hP, hD⟩ := hPD
    refine lv_iload hx hb dB_3_1_13.2.2.2.1 (lv_at hl 0 rfl) ?_
    refine lv_iconst (v := 1) hx hb dB_3_1_13.2.2.2.2 (by decide) ?_
    refine lv_aload_n hx hb dB_3_1_14.1.1.1.1 rfl (lv_at hl 1 rfl) ?_
    refine va_get (ci := 12) (v := .int s3) (C := RX12) (T := TX12) (N := 34) hx hb hts (fun _ h => List.mem_cons_of_mem _ (List.mem_append_right _ h)) hown hK.1 hP 0 rfl rfl 3 (by decide) (hts (.fieldLink RX12 88 "CutAtlasModel" "places" "I") (List.mem_of_getElem? (i := 5) rfl)) (fun _ h9 => h9) rfl dB_3_1_14.1.1.1.2 ?_
    refine lv_ishl hx hb dB_3_1_14.1.1.2.1 ?_
    refine lv_topi (fun y_2 ey_2 => ?_)
    have ty_2 : 1 ≤ y_2.toInt ∧ y_2.toInt ≤ 4096 := by rw [ey_2]; exact shl1 (by omega) (by omega)
    refine lv_icmp_ge (tgt := 178) hx hb dB_3_1_14.1.1.2.2 (by decide) (fun c_3 => ?_) (fun c_3 => ?_)
    · have t_3 : y_2.toInt ≤ x5_1.toInt := Int32.le_iff_toInt_le.mp c_3
      rw [hQ]
      exact W.vret hx hb hr (fun t ht hW => ⟨⟨(), rfl, trivial, o25_1, o26_1, o27_1, o28_1, by rw [ht]; exact hP, hD⟩, hS.F ht⟩) hS.2.2 dB_3_1_18.2.2.2.2
    · have t_3 : ¬ y_2.toInt ≤ x5_1.toInt := fun h => c_3 (Int32.le_iff_toInt_le.mpr h)
      refine lv_iload hx hb dB_3_1_14.1.2.1.1 (lv_at hl 0 rfl) ?_
      refine lv_iload_n hx hb dB_3_1_14.1.2.1.2 rfl (lv_at hl 2 rfl) ?_
      refine lv_ishr hx hb dB_3_1_14.1.2.2.1 ?_
      refine lv_topi (fun y_4 ey_4 => ?_)
      refine lv_iconst (v := 1) hx hb dB_3_1_14.1.2.2.2 (by decide) ?_
      refine lv_iand hx hb dB_3_1_14.2.1.1.1 ?_
      refine lv_topi (fun y_5 ey_5 => ?_)
      refine lv_iconst (v := 1) hx hb dB_3_1_14.2.1.1.2 (by decide) ?_
      refine lv_icmp_ne (tgt := 172) hx hb dB_3_1_14.2.1.2.1 (by decide) (fun c_6 => ?_) (fun c_6 => ?_)
      · have t_6 : ¬ y_5.toInt = (1 : Int32).toInt := fun h => c_6 (Int32.toInt_inj.mp h)
        obtain ⟨y_7, ey_7⟩ : ∃ y : Int32, y = x5_1 + 1 := ⟨_, rfl⟩
        have ty_7 : y_7.toInt = x5_1.toInt + (1 : Int32).toInt := by rw [ey_7]; exact addI (by omega) (by omega)
        refine lv_iinc (v := y_7) (lv' := [(5, .int y_7), (0, .ref mo), (1, .int a1), (2, .int a2), (3, .int a3), (4, .int a4)]) hx hb dB_3_1_18.2.2.1 hl (k := 0) rfl (by rw [ey_7]; rfl) (by decide) rfl (fun ls hl => ?_)
        refine lv_goto (tgt := 26) hx hb dB_3_1_18.2.2.2.1 (by decide) ?_
        exact ih_1 y_7 o25_1 o26_1 o27_1 o28_1 _ _ _ (by omega) (by first | with_reducible assumption | omega | assumption) (by first | with_reducible assumption | omega | assumption) ⟨hP, hD⟩ hS (lv_sub hl [0, 1, 2, 3, 4, 5] rfl)
      · have t_6 : y_5.toInt = (1 : Int32).toInt := congrArg Int32.toInt c_6
        refine lv_iload hx hb dB_3_1_14.2.1.2.2 (lv_at hl 0 rfl) ?_
        refine lv_iload_n hx hb dB_3_1_14.2.2.1.1 rfl (lv_at hl 3 rfl) ?_
        refine lv_ishr hx hb dB_3_1_14.2.2.1.2 ?_
        refine lv_topi (fun y_8 ey_8 => ?_)
        refine lv_iconst (v := 1) hx hb dB_3_1_14.2.2.2.1 (by decide) ?_
        refine lv_iand hx hb dB_3_1_14.2.2.2.2 ?_
        refine lv_topi (fun y_9 ey_9 => ?_)
        refine lv_if_ne (tgt := 172) hx hb dB_3_1_15.1.1.1.1 (by decide) (fun c_10 => ?_) (fun c_10 => ?_)
        · have t_10 : ¬ y_9.toInt = (0 : Int32).toInt := fun h => c_10 (Int32.toInt_inj.mp h)
          obtain ⟨y_11, ey_11⟩ : ∃ y : Int32, y = x5_1 + 1 := ⟨_, rfl⟩
          have ty_11 : y_11.toInt = x5_1.toInt + (1 : Int32).toInt := by rw [ey_11]; exact addI (by omega) (by omega)
          refine lv_iinc (v := y_11) (lv' := [(5, .int y_11), (0, .ref mo), (1, .int a1), (2, .int a2), (3, .int a3), (4, .int a4)]) hx hb dB_3_1_18.2.2.1 hl (k := 0) rfl (by rw [ey_11]; rfl) (by decide) rfl (fun ls hl => ?_)
          refine lv_goto (tgt := 26) hx hb dB_3_1_18.2.2.2.1 (by decide) ?_
          exact ih_1 y_11 o25_1 o26_1 o27_1 o28_1 _ _ _ (by omega) (by first | with_reducible assumption | omega | assumption) (by first | with_reducible assumption | omega | assumption) ⟨hP, hD⟩ hS (lv_sub hl [0, 1, 2, 3, 4, 5] rfl)
        · have t_10 : y_9.toInt = (0 : Int32).toInt := congrArg Int32.toInt c_10
          refine lv_aload_n hx hb dB_3_1_15.1.1.1.2 rfl (lv_at hl 1 rfl) ?_
          refine lv_iload hx hb dB_3_1_15.1.1.2.1 (lv_at hl 0 rfl) ?_
          refine ct_R hP hD [ob12_0_ mo s0 s1 t2 s3 s4 g5 g6 g7 g8 g9 g10 s11 g12 g13 g14 g15 g16 g17 g18 g19 g20 s21 g22 g23 g24 o25_1 o26_1 o27_1 o28_1 g29 g30 g31 g32 g33, ai_ cy g5 40 f5, ai_ cy g6 40 f6, ai_ cy g7 40 f7, ai_ cy g8 40 f8, az_ cy g10 40 f10] [0, 1, 2, 3, 4, 5] (by decide) rfl (fun hPc hDw => ?_)
          have hFc := va_free (wc := []) hD hS hA [] rfl
          refine va_calli (va_runV (As := [.int x5_1]) (rest := []) ⟨hx, hb, hml, hown, hts⟩ (c_X12_sizeOf l D cy H.size mo g5 g6 g7 g8 g9 g10 g12 g13 g14 g15 g16 g17 g18 g19 g20 g22 g23 g24 g29 g30 g31 g32 g33 s0 s1 s3 s4 s11 s21 o25_1 o26_1 o27_1 o28_1 t2 f5 f6 f7 f8 f10 x5_1 (by first | with_reducible assumption | omega | assumption)) (cwV 1 hts gX12_cutsOf_X12_sizeOf rfl rfl rfl ⟨rfl, hd_X12_sizeOf⟩ ⟨Nat.le_of_ble_eq_true rfl, Nat.le_of_ble_eq_true rfl⟩) ⟨bl_, va_recvX hK.1 hP (ci := 12) (q0 := 0) rfl rfl, fun U hU hW => ⟨rfl, by rw [hU], by rw [hU]; exact hPc, kk_mv hW hK, hDw⟩⟩ rfl rfl hl.1 rfl (lv_room (Nat.le_of_ble_eq_true rfl)) dB_3_1_15.1.1.2.2 ⟨Nat.le_of_ble_eq_true rfl, Nat.le_of_ble_eq_true rfl⟩) hS (fun q _ h => hFc q h) hFc (fun r_12 u t H locs ht hvm hw hB hz1 hk1 hS => ?_)
          have hP : va_P D vwCl _ H := ro_keep hP hk1
          refine lv_iload_n hx hb dB_3_1_15.1.2.1.1 rfl (lv_at hl 4 rfl) ?_
          refine lv_icmp_ne (tgt := 172) hx hb dB_3_1_15.1.2.1.2 (by decide) (fun c_13 => ?_) (fun c_13 => ?_)
          · have t_13 : ¬ r_12.toInt = a3.toInt := fun h => c_13 (Int32.toInt_inj.mp h)
            obtain ⟨y_14, ey_14⟩ : ∃ y : Int32, y = x5_1 + 1 := ⟨_, rfl⟩
            have ty_14 : y_14.toInt = x5_1.toInt + (1 : Int32).toInt := by rw [ey_14]; exact addI (by omega) (by omega)
            refine lv_iinc (v := y_14) (lv' := [(5, .int y_14), (0, .ref mo), (1, .int a1), (2, .int a2), (3, .int a3), (4, .int a4)]) hx hb dB_3_1_18.2.2.1 hl (k := 0) rfl (by rw [ey_14]; rfl) (by decide) rfl (fun ls hl => ?_)
            refine lv_goto (tgt := 26) hx hb dB_3_1_18.2.2.2.1 (by decide) ?_
            exact ih_1 y_14 o25_1 o26_1 o27_1 o28_1 _ _ _ (by omega) (by first | with_reducible assumption | omega | assumption) (by first | with_reducible assumption | omega | assumption) ⟨hP, hD⟩ hS (lv_sub hl [0, 1, 2, 3, 4, 5] rfl)
          · have t_13 : r_12.toInt = a3.toInt := congrArg Int32.toInt c_13
            refine lv_aload_n hx hb dB_3_1_15.1.2.2.1 rfl (lv_at hl 1 rfl) ?_
            refine lv_aload_n hx hb dB_3_1_15.1.2.2.2 rfl (lv_at hl 1 rfl) ?_
            refine va_get (ci := 12) (v := .int o26_1) (C := RX12) (T := TX12) (N := 34) hx hb hts (fun _ h => List.mem_cons_of_mem _ (List.mem_append_right _ h)) hown hK.1 hP 0 rfl rfl 26 (by decide) (hts (.fieldLink RX12 195 "CutAtlasModel" "near" "I") (List.mem_of_getElem? (i := 2) rfl)) (fun _ h9 => h9) rfl dB_3_1_15.2.1.1.1 ?_
            refine lv_bipush (v := (-9)) hx hb dB_3_1_15.2.1.1.2 (by decide) ?_
            refine lv_icmp_eq (tgt := 91) hx hb dB_3_1_15.2.1.2.1 (by decide) (fun c_15 => ?_) (fun c_15 => ?_)
            · have t_15 : o26_1.toInt = ((-9) : Int32).toInt := congrArg Int32.toInt c_15
              refine lv_iload hx hb dB_3_1_16.1.1.1.2 (lv_at hl 0 rfl) ?_
              refine lv_goto (tgt := 100) hx hb dB_3_1_16.1.1.2.1 (by decide) ?_
              refine va_put (ci := 12) (v := .int x5_1) (ty := .int) (C := RX12) (T := TX12) (N := 34) hx hb hts (fun _ h => List.mem_cons_of_mem _ (List.mem_append_right _ h)) tyX12 tyX12_ok nmX12 hown hK.1 hP hD hS 0 rfl rfl 26 (by decide) (hts (.fieldLink RX12 195 "CutAtlasModel" "near" "I") (List.mem_of_getElem? (i := 2) rfl)) (fun _ h9 => h9) rfl (by decide +kernel) rfl rfl (Nat.le_of_ble_eq_true rfl) dB_3_1_16.1.2.1.2 (fun H locs hP hD hS => ?_)
              refine pd_K [ob12_0_ mo s0 s1 t2 s3 s4 g5 g6 g7 g8 g9 g10 s11 g12 g13 g14 g15 g16 g17 g18 g19 g20 s21 g22 g23 g24 o25_1 x5_1 o27_1 o28_1 g29 g30 g31 g32 g33, ai_ cy g5 40 f5, ai_ cy g6 40 f6, ai_ cy g7 40 f7, ai_ cy g8 40 f8, az_ cy g10 40 f10] hP hD (fun hP hD => ?_)
              refine lv_aload_n hx hb dB_3_1_16.1.2.2.1 rfl (lv_at hl 1 rfl) ?_
              refine lv_aload_n hx hb dB_3_1_16.1.2.2.2 rfl (lv_at hl 1 rfl) ?_
              refine va_get (ci := 12) (v := .int o27_1) (C := RX12) (T := TX12) (N := 34) hx hb hts (fun _ h => List.mem_cons_of_mem _ (List.mem_append_right _ h)) hown hK.1 hP 0 rfl rfl 27 (by decide) (hts (.fieldLink RX12 198 "CutAtlasModel" "far" "I") (List.mem_of_getElem? (i := 3) rfl)) (fun _ h9 => h9) rfl dB_3_1_16.2.1.1.1 ?_
              refine lv_bipush (v := (-9)) hx hb dB_3_1_16.2.1.1.2 (by decide) ?_
              refine lv_icmp_eq (tgt := 128) hx hb dB_3_1_16.2.1.2.1 (by decide) (fun c_16 => ?_) (fun c_16 => ?_)
              · have t_16 : o27_1.toInt = ((-9) : Int32).toInt := congrArg Int32.toInt c_16
                refine lv_iload hx hb dB_3_1_17.1.1.1.2 (lv_at hl 0 rfl) ?_
                refine lv_goto (tgt := 137) hx hb dB_3_1_17.1.1.2.1 (by decide) ?_
                refine va_put (ci := 12) (v := .int x5_1) (ty := .int) (C := RX12) (T := TX12) (N := 34) hx hb hts (fun _ h => List.mem_cons_of_mem _ (List.mem_append_right _ h)) tyX12 tyX12_ok nmX12 hown hK.1 hP hD hS 0 rfl rfl 27 (by decide) (hts (.fieldLink RX12 198 "CutAtlasModel" "far" "I") (List.mem_of_getElem? (i := 3) rfl)) (fun _ h9 => h9) rfl (by decide +kernel) rfl rfl (Nat.le_of_ble_eq_true rfl) dB_3_1_17.1.2.1.2 (fun H locs hP hD hS => ?_)
                refine pd_K [ob12_0_ mo s0 s1 t2 s3 s4 g5 g6 g7 g8 g9 g10 s11 g12 g13 g14 g15 g16 g17 g18 g19 g20 s21 g22 g23 g24 o25_1 x5_1 x5_1 o28_1 g29 g30 g31 g32 g33, ai_ cy g5 40 f5, ai_ cy g6 40 f6, ai_ cy g7 40 f7, ai_ cy g8 40 f8, az_ cy g10 40 f10] hP hD (fun hP hD => ?_)
                refine lv_aload_n hx hb dB_3_1_17.1.2.2.1 rfl (lv_at hl 1 rfl) ?_
                refine lv_aload_n hx hb dB_3_1_17.1.2.2.2 rfl (lv_at hl 1 rfl) ?_
                refine va_get (ci := 12) (v := .int o25_1) (C := RX12) (T := TX12) (N := 34) hx hb hts (fun _ h => List.mem_cons_of_mem _ (List.mem_append_right _ h)) hown hK.1 hP 0 rfl rfl 25 (by decide) (hts (.fieldLink RX12 192 "CutAtlasModel" "cuts" "I") (List.mem_of_getElem? (i := 1) rfl)) (fun _ h9 => h9) rfl dB_3_1_17.2.1.1.1 ?_
                refine lv_iload hx hb dB_3_1_17.2.1.1.2 (lv_at hl 5 rfl) ?_
                refine lv_icmp_ne (tgt := 155) hx hb dB_3_1_17.2.1.2.1 (by decide) (fun c_17 => ?_) (fun c_17 => ?_)
                · have t_17 : ¬ o25_1.toInt = a4.toInt := fun h => c_17 (Int32.toInt_inj.mp h)
                  refine lv_aload_n hx hb dB_3_1_17.2.2.1.2 rfl (lv_at hl 1 rfl) ?_
                  refine va_get (ci := 12) (v := .int o28_1) (C := RX12) (T := TX12) (N := 34) hx hb hts (fun _ h => List.mem_cons_of_mem _ (List.mem_append_right _ h)) hown hK.1 hP 0 rfl rfl 28 (by decide) (hts (.fieldLink RX12 201 "CutAtlasModel" "chosen" "I") (List.mem_of_getElem? (i := 4) rfl)) (fun _ h9 => h9) rfl dB_3_1_17.2.2.2.1 ?_
                  refine va_put (ci := 12) (v := .int o28_1) (ty := .int) (C := RX12) (T := TX12) (N := 34) hx hb hts (fun _ h => List.mem_cons_of_mem _ (List.mem_append_right _ h)) tyX12 tyX12_ok nmX12 hown hK.1 hP hD hS 0 rfl rfl 28 (by decide) (hts (.fieldLink RX12 201 "CutAtlasModel" "chosen" "I") (List.mem_of_getElem? (i := 4) rfl)) (fun _ h9 => h9) rfl (by decide +kernel) rfl rfl (Nat.le_of_ble_eq_true rfl) dB_3_1_17.2.2.2.2 (fun H locs hP hD hS => ?_)
                  refine pd_K [ob12_0_ mo s0 s1 t2 s3 s4 g5 g6 g7 g8 g9 g10 s11 g12 g13 g14 g15 g16 g17 g18 g19 g20 s21 g22 g23 g24 o25_1 x5_1 x5_1 o28_1 g29 g30 g31 g32 g33, ai_ cy g5 40 f5, ai_ cy g6 40 f6, ai_ cy g7 40 f7, ai_ cy g8 40 f8, az_ cy g10 40 f10] hP hD (fun hP hD => ?_)
                  refine lv_aload_n hx hb dB_3_1_18.1.1.1 rfl (lv_at hl 1 rfl) ?_
                  refine lv_dup hx hb dB_3_1_18.1.1.2 rfl ?_
                  refine va_get (ci := 12) (v := .int o25_1) (C := RX12) (T := TX12) (N := 34) hx hb hts (fun _ h => List.mem_cons_of_mem _ (List.mem_append_right _ h)) hown hK.1 hP 0 rfl rfl 25 (by decide) (hts (.fieldLink RX12 192 "CutAtlasModel" "cuts" "I") (List.mem_of_getElem? (i := 1) rfl)) (fun _ h9 => h9) rfl dB_3_1_18.1.2.1 ?_
                  refine lv_iconst (v := 1) hx hb dB_3_1_18.1.2.2 (by decide) ?_
                  refine lv_iadd hx hb dB_3_1_18.2.1.1 ?_
                  refine lv_topi (fun y_18 ey_18 => ?_)
                  refine va_put (ci := 12) (v := .int y_18) (ty := .int) (C := RX12) (T := TX12) (N := 34) hx hb hts (fun _ h => List.mem_cons_of_mem _ (List.mem_append_right _ h)) tyX12 tyX12_ok nmX12 hown hK.1 hP hD hS 0 rfl rfl 25 (by decide) (hts (.fieldLink RX12 192 "CutAtlasModel" "cuts" "I") (List.mem_of_getElem? (i := 1) rfl)) (fun _ h9 => h9) rfl (by decide +kernel) rfl rfl (Nat.le_of_ble_eq_true rfl) dB_3_1_18.2.1.2 (fun H locs hP hD hS => ?_)
                  refine pd_K [ob12_0_ mo s0 s1 t2 s3 s4 g5 g6 g7 g8 g9 g10 s11 g12 g13 g14 g15 g16 g17 g18 g19 g20 s21 g22 g23 g24 y_18 x5_1 x5_1 o28_1 g29 g30 g31 g32 g33, ai_ cy g5 40 f5, ai_ cy g6 40 f6, ai_ cy g7 40 f7, ai_ cy g8 40 f8, az_ cy g10 40 f10] hP hD (fun hP hD => ?_)
                  obtain ⟨y_19, ey_19⟩ : ∃ y : Int32, y = x5_1 + 1 := ⟨_, rfl⟩
                  have ty_19 : y_19.toInt = x5_1.toInt + (1 : Int32).toInt := by rw [ey_19]; exact addI (by omega) (by omega)
                  refine lv_iinc (v := y_19) (lv' := [(5, .int y_19), (0, .ref mo), (1, .int a1), (2, .int a2), (3, .int a3), (4, .int a4)]) hx hb dB_3_1_18.2.2.1 hl (k := 0) rfl (by rw [ey_19]; rfl) (by decide) rfl (fun ls hl => ?_)
                  refine lv_goto (tgt := 26) hx hb dB_3_1_18.2.2.2.1 (by decide) ?_
                  exact ih_1 y_19 y_18 x5_1 x5_1 o28_1 _ _ _ (by omega) (by first | with_reducible assumption | omega | assumption) (by first | with_reducible assumption | omega | assumption) ⟨hP, hD⟩ hS (lv_sub hl [0, 1, 2, 3, 4, 5] rfl)
                · have t_17 : o25_1.toInt = a4.toInt := congrArg Int32.toInt c_17
                  refine lv_iload hx hb dB_3_1_17.2.1.2.2 (lv_at hl 0 rfl) ?_
                  refine lv_goto (tgt := 159) hx hb dB_3_1_17.2.2.1.1 (by decide) ?_
                  refine va_put (ci := 12) (v := .int x5_1) (ty := .int) (C := RX12) (T := TX12) (N := 34) hx hb hts (fun _ h => List.mem_cons_of_mem _ (List.mem_append_right _ h)) tyX12 tyX12_ok nmX12 hown hK.1 hP hD hS 0 rfl rfl 28 (by decide) (hts (.fieldLink RX12 201 "CutAtlasModel" "chosen" "I") (List.mem_of_getElem? (i := 4) rfl)) (fun _ h9 => h9) rfl (by decide +kernel) rfl rfl (Nat.le_of_ble_eq_true rfl) dB_3_1_17.2.2.2.2 (fun H locs hP hD hS => ?_)
                  refine pd_K [ob12_0_ mo s0 s1 t2 s3 s4 g5 g6 g7 g8 g9 g10 s11 g12 g13 g14 g15 g16 g17 g18 g19 g20 s21 g22 g23 g24 o25_1 x5_1 x5_1 x5_1 g29 g30 g31 g32 g33, ai_ cy g5 40 f5, ai_ cy g6 40 f6, ai_ cy g7 40 f7, ai_ cy g8 40 f8, az_ cy g10 40 f10] hP hD (fun hP hD => ?_)
                  refine lv_aload_n hx hb dB_3_1_18.1.1.1 rfl (lv_at hl 1 rfl) ?_
                  refine lv_dup hx hb dB_3_1_18.1.1.2 rfl ?_
                  refine va_get (ci := 12) (v := .int o25_1) (C := RX12) (T := TX12) (N := 34) hx hb hts (fun _ h => List.mem_cons_of_mem _ (List.mem_append_right _ h)) hown hK.1 hP 0 rfl rfl 25 (by decide) (hts (.fieldLink RX12 192 "CutAtlasModel" "cuts" "I") (List.mem_of_getElem? (i := 1) rfl)) (fun _ h9 => h9) rfl dB_3_1_18.1.2.1 ?_
                  refine lv_iconst (v := 1) hx hb dB_3_1_18.1.2.2 (by decide) ?_
                  refine lv_iadd hx hb dB_3_1_18.2.1.1 ?_
                  refine lv_topi (fun y_20 ey_20 => ?_)
                  refine va_put (ci := 12) (v := .int y_20) (ty := .int) (C := RX12) (T := TX12) (N := 34) hx hb hts (fun _ h => List.mem_cons_of_mem _ (List.mem_append_right _ h)) tyX12 tyX12_ok nmX12 hown hK.1 hP hD hS 0 rfl rfl 25 (by decide) (hts (.fieldLink RX12 192 "CutAtlasModel" "cuts" "I") (List.mem_of_getElem? (i := 1) rfl)) (fun _ h9 => h9) rfl (by decide +kernel) rfl rfl (Nat.le_of_ble_eq_true rfl) dB_3_1_18.2.1.2 (fun H locs hP hD hS => ?_)
                  refine pd_K [ob12_0_ mo s0 s1 t2 s3 s4 g5 g6 g7 g8 g9 g10 s11 g12 g13 g14 g15 g16 g17 g18 g19 g20 s21 g22 g23 g24 y_20 x5_1 x5_1 x5_1 g29 g30 g31 g32 g33, ai_ cy g5 40 f5, ai_ cy g6 40 f6, ai_ cy g7 40 f7, ai_ cy g8 40 f8, az_ cy g10 40 f10] hP hD (fun hP hD => ?_)
                  obtain ⟨y_21, ey_21⟩ : ∃ y : Int32, y = x5_1 + 1 := ⟨_, rfl⟩
                  have ty_21 : y_21.toInt = x5_1.toInt + (1 : Int32).toInt := by rw [ey_21]; exact addI (by omega) (by omega)
                  refine lv_iinc (v := y_21) (lv' := [(5, .int y_21), (0, .ref mo), (1, .int a1), (2, .int a2), (3, .int a3), (4, .int a4)]) hx hb dB_3_1_18.2.2.1 hl (k := 0) rfl (by rw [ey_21]; rfl) (by decide) rfl (fun ls hl => ?_)
                  refine lv_goto (tgt := 26) hx hb dB_3_1_18.2.2.2.1 (by decide) ?_
                  exact ih_1 y_21 y_20 x5_1 x5_1 x5_1 _ _ _ (by omega) (by first | with_reducible assumption | omega | assumption) (by first | with_reducible assumption | omega | assumption) ⟨hP, hD⟩ hS (lv_sub hl [0, 1, 2, 3, 4, 5] rfl)
              · have t_16 : ¬ o27_1.toInt = ((-9) : Int32).toInt := fun h => c_16 (Int32.toInt_inj.mp h)
                refine lv_iload hx hb dB_3_1_16.2.1.2.2 (lv_at hl 0 rfl) ?_
                refine ct_R hP hD [] [] (by decide) rfl (fun hPc hDw => ?_)
                have hFc := va_free (wc := []) hD hS hA [] rfl
                refine va_calli (va_runS (As := [.int x5_1]) (rest := [.ref mo]) ⟨hx, hb, hml, hown, hts⟩ (c_X12_bitsOf l D cy H.size x5_1) (va_cwS 1 hts gX12_cutsOf_X12_bitsOf rfl rfl rfl hd_X12_bitsOf ⟨Nat.le_of_ble_eq_true rfl, Nat.le_of_ble_eq_true rfl⟩) ⟨bl_, fun U hU hW => ⟨rfl, by rw [hU], by rw [hU]; exact hPc, kk_mv hW hK, hDw⟩⟩ rfl rfl hl.1 rfl (lv_room (Nat.le_of_ble_eq_true rfl)) dB_3_1_16.2.2.1.1 ⟨Nat.le_of_ble_eq_true rfl, Nat.le_of_ble_eq_true rfl⟩) hS (fun q _ h => hFc q h) hFc (fun r_22 u t H locs ht hvm hw hB hz1 hk1 hS => ?_)
                have hP : va_P D vwCl _ H := ro_keep hP hk1
                refine lv_aload_n hx hb dB_3_1_16.2.2.1.2 rfl (lv_at hl 1 rfl) ?_
                refine va_get (ci := 12) (v := .int o27_1) (C := RX12) (T := TX12) (N := 34) hx hb hts (fun _ h => List.mem_cons_of_mem _ (List.mem_append_right _ h)) hown hK.1 hP 0 rfl rfl 27 (by decide) (hts (.fieldLink RX12 198 "CutAtlasModel" "far" "I") (List.mem_of_getElem? (i := 3) rfl)) (fun _ h9 => h9) rfl dB_3_1_16.2.2.2.1 ?_
                refine ct_R hP hD [] [] (by decide) rfl (fun hPc hDw => ?_)
                have hFc := va_free (wc := []) hD hS hA [] rfl
                refine va_calli (va_runS (As := [.int o27_1]) (rest := [.int r_22, .ref mo]) ⟨hx, hb, hml, hown, hts⟩ (c_X12_bitsOf l D cy H.size o27_1) (va_cwS 1 hts gX12_cutsOf_X12_bitsOf rfl rfl rfl hd_X12_bitsOf ⟨Nat.le_of_ble_eq_true rfl, Nat.le_of_ble_eq_true rfl⟩) ⟨bl_, fun U hU hW => ⟨rfl, by rw [hU], by rw [hU]; exact hPc, kk_mv hW hK, hDw⟩⟩ rfl rfl hl.1 rfl (lv_room (Nat.le_of_ble_eq_true rfl)) dB_3_1_16.2.2.2.2 ⟨Nat.le_of_ble_eq_true rfl, Nat.le_of_ble_eq_true rfl⟩) hS (fun q _ h => hFc q h) hFc (fun r_23 u t H locs ht hvm hw hB hz1 hk1 hS => ?_)
                have hP : va_P D vwCl _ H := ro_keep hP hk1
                refine lv_icmp_le (tgt := 133) hx hb dB_3_1_17.1.1.1.1 (by decide) (fun c_24 => ?_) (fun c_24 => ?_)
                · have t_24 : r_22.toInt ≤ r_23.toInt := Int32.le_iff_toInt_le.mp c_24
                  refine lv_aload_n hx hb dB_3_1_17.1.1.2.2 rfl (lv_at hl 1 rfl) ?_
                  refine va_get (ci := 12) (v := .int o27_1) (C := RX12) (T := TX12) (N := 34) hx hb hts (fun _ h => List.mem_cons_of_mem _ (List.mem_append_right _ h)) hown hK.1 hP 0 rfl rfl 27 (by decide) (hts (.fieldLink RX12 198 "CutAtlasModel" "far" "I") (List.mem_of_getElem? (i := 3) rfl)) (fun _ h9 => h9) rfl dB_3_1_17.1.2.1.1 ?_
                  refine va_put (ci := 12) (v := .int o27_1) (ty := .int) (C := RX12) (T := TX12) (N := 34) hx hb hts (fun _ h => List.mem_cons_of_mem _ (List.mem_append_right _ h)) tyX12 tyX12_ok nmX12 hown hK.1 hP hD hS 0 rfl rfl 27 (by decide) (hts (.fieldLink RX12 198 "CutAtlasModel" "far" "I") (List.mem_of_getElem? (i := 3) rfl)) (fun _ h9 => h9) rfl (by decide +kernel) rfl rfl (Nat.le_of_ble_eq_true rfl) dB_3_1_17.1.2.1.2 (fun H locs hP hD hS => ?_)
                  refine pd_K [ob12_0_ mo s0 s1 t2 s3 s4 g5 g6 g7 g8 g9 g10 s11 g12 g13 g14 g15 g16 g17 g18 g19 g20 s21 g22 g23 g24 o25_1 x5_1 o27_1 o28_1 g29 g30 g31 g32 g33, ai_ cy g5 40 f5, ai_ cy g6 40 f6, ai_ cy g7 40 f7, ai_ cy g8 40 f8, az_ cy g10 40 f10] hP hD (fun hP hD => ?_)
                  refine lv_aload_n hx hb dB_3_1_17.1.2.2.1 rfl (lv_at hl 1 rfl) ?_
                  refine lv_aload_n hx hb dB_3_1_17.1.2.2.2 rfl (lv_at hl 1 rfl) ?_
                  refine va_get (ci := 12) (v := .int o25_1) (C := RX12) (T := TX12) (N := 34) hx hb hts (fun _ h => List.mem_cons_of_mem _ (List.mem_append_right _ h)) hown hK.1 hP 0 rfl rfl 25 (by decide) (hts (.fieldLink RX12 192 "CutAtlasModel" "cuts" "I") (List.mem_of_getElem? (i := 1) rfl)) (fun _ h9 => h9) rfl dB_3_1_17.2.1.1.1 ?_
                  refine lv_iload hx hb dB_3_1_17.2.1.1.2 (lv_at hl 5 rfl) ?_
                  refine lv_icmp_ne (tgt := 155) hx hb dB_3_1_17.2.1.2.1 (by decide) (fun c_25 => ?_) (fun c_25 => ?_)
                  · have t_25 : ¬ o25_1.toInt = a4.toInt := fun h => c_25 (Int32.toInt_inj.mp h)
                    refine lv_aload_n hx hb dB_3_1_17.2.2.1.2 rfl (lv_at hl 1 rfl) ?_
                    refine va_get (ci := 12) (v := .int o28_1) (C := RX12) (T := TX12) (N := 34) hx hb hts (fun _ h => List.mem_cons_of_mem _ (List.mem_append_right _ h)) hown hK.1 hP 0 rfl rfl 28 (by decide) (hts (.fieldLink RX12 201 "CutAtlasModel" "chosen" "I") (List.mem_of_getElem? (i := 4) rfl)) (fun _ h9 => h9) rfl dB_3_1_17.2.2.2.1 ?_
                    refine va_put (ci := 12) (v := .int o28_1) (ty := .int) (C := RX12) (T := TX12) (N := 34) hx hb hts (fun _ h => List.mem_cons_of_mem _ (List.mem_append_right _ h)) tyX12 tyX12_ok nmX12 hown hK.1 hP hD hS 0 rfl rfl 28 (by decide) (hts (.fieldLink RX12 201 "CutAtlasModel" "chosen" "I") (List.mem_of_getElem? (i := 4) rfl)) (fun _ h9 => h9) rfl (by decide +kernel) rfl rfl (Nat.le_of_ble_eq_true rfl) dB_3_1_17.2.2.2.2 (fun H locs hP hD hS => ?_)
                    refine pd_K [ob12_0_ mo s0 s1 t2 s3 s4 g5 g6 g7 g8 g9 g10 s11 g12 g13 g14 g15 g16 g17 g18 g19 g20 s21 g22 g23 g24 o25_1 x5_1 o27_1 o28_1 g29 g30 g31 g32 g33, ai_ cy g5 40 f5, ai_ cy g6 40 f6, ai_ cy g7 40 f7, ai_ cy g8 40 f8, az_ cy g10 40 f10] hP hD (fun hP hD => ?_)
                    refine lv_aload_n hx hb dB_3_1_18.1.1.1 rfl (lv_at hl 1 rfl) ?_
                    refine lv_dup hx hb dB_3_1_18.1.1.2 rfl ?_
                    refine va_get (ci := 12) (v := .int o25_1) (C := RX12) (T := TX12) (N := 34) hx hb hts (fun _ h => List.mem_cons_of_mem _ (List.mem_append_right _ h)) hown hK.1 hP 0 rfl rfl 25 (by decide) (hts (.fieldLink RX12 192 "CutAtlasModel" "cuts" "I") (List.mem_of_getElem? (i := 1) rfl)) (fun _ h9 => h9) rfl dB_3_1_18.1.2.1 ?_
                    refine lv_iconst (v := 1) hx hb dB_3_1_18.1.2.2 (by decide) ?_
                    refine lv_iadd hx hb dB_3_1_18.2.1.1 ?_
                    refine lv_topi (fun y_26 ey_26 => ?_)
                    refine va_put (ci := 12) (v := .int y_26) (ty := .int) (C := RX12) (T := TX12) (N := 34) hx hb hts (fun _ h => List.mem_cons_of_mem _ (List.mem_append_right _ h)) tyX12 tyX12_ok nmX12 hown hK.1 hP hD hS 0 rfl rfl 25 (by decide) (hts (.fieldLink RX12 192 "CutAtlasModel" "cuts" "I") (List.mem_of_getElem? (i := 1) rfl)) (fun _ h9 => h9) rfl (by decide +kernel) rfl rfl (Nat.le_of_ble_eq_true rfl) dB_3_1_18.2.1.2 (fun H locs hP hD hS => ?_)
                    refine pd_K [ob12_0_ mo s0 s1 t2 s3 s4 g5 g6 g7 g8 g9 g10 s11 g12 g13 g14 g15 g16 g17 g18 g19 g20 s21 g22 g23 g24 y_26 x5_1 o27_1 o28_1 g29 g30 g31 g32 g33, ai_ cy g5 40 f5, ai_ cy g6 40 f6, ai_ cy g7 40 f7, ai_ cy g8 40 f8, az_ cy g10 40 f10] hP hD (fun hP hD => ?_)
                    obtain ⟨y_27, ey_27⟩ : ∃ y : Int32, y = x5_1 + 1 := ⟨_, rfl⟩
                    have ty_27 : y_27.toInt = x5_1.toInt + (1 : Int32).toInt := by rw [ey_27]; exact addI (by omega) (by omega)
                    refine lv_iinc (v := y_27) (lv' := [(5, .int y_27), (0, .ref mo), (1, .int a1), (2, .int a2), (3, .int a3), (4, .int a4)]) hx hb dB_3_1_18.2.2.1 hl (k := 0) rfl (by rw [ey_27]; rfl) (by decide) rfl (fun ls hl => ?_)
                    refine lv_goto (tgt := 26) hx hb dB_3_1_18.2.2.2.1 (by decide) ?_
                    exact ih_1 y_27 y_26 x5_1 o27_1 o28_1 _ _ _ (by omega) (by first | with_reducible assumption | omega | assumption) (by first | with_reducible assumption | omega | assumption) ⟨hP, hD⟩ hS (lv_sub hl [0, 1, 2, 3, 4, 5] rfl)
                  · have t_25 : o25_1.toInt = a4.toInt := congrArg Int32.toInt c_25
                    refine lv_iload hx hb dB_3_1_17.2.1.2.2 (lv_at hl 0 rfl) ?_
                    refine lv_goto (tgt := 159) hx hb dB_3_1_17.2.2.1.1 (by decide) ?_
                    refine va_put (ci := 12) (v := .int x5_1) (ty := .int) (C := RX12) (T := TX12) (N := 34) hx hb hts (fun _ h => List.mem_cons_of_mem _ (List.mem_append_right _ h)) tyX12 tyX12_ok nmX12 hown hK.1 hP hD hS 0 rfl rfl 28 (by decide) (hts (.fieldLink RX12 201 "CutAtlasModel" "chosen" "I") (List.mem_of_getElem? (i := 4) rfl)) (fun _ h9 => h9) rfl (by decide +kernel) rfl rfl (Nat.le_of_ble_eq_true rfl) dB_3_1_17.2.2.2.2 (fun H locs hP hD hS => ?_)
                    refine pd_K [ob12_0_ mo s0 s1 t2 s3 s4 g5 g6 g7 g8 g9 g10 s11 g12 g13 g14 g15 g16 g17 g18 g19 g20 s21 g22 g23 g24 o25_1 x5_1 o27_1 x5_1 g29 g30 g31 g32 g33, ai_ cy g5 40 f5, ai_ cy g6 40 f6, ai_ cy g7 40 f7, ai_ cy g8 40 f8, az_ cy g10 40 f10] hP hD (fun hP hD => ?_)
                    refine lv_aload_n hx hb dB_3_1_18.1.1.1 rfl (lv_at hl 1 rfl) ?_
                    refine lv_dup hx hb dB_3_1_18.1.1.2 rfl ?_
                    refine va_get (ci := 12) (v := .int o25_1) (C := RX12) (T := TX12) (N := 34) hx hb hts (fun _ h => List.mem_cons_of_mem _ (List.mem_append_right _ h)) hown hK.1 hP 0 rfl rfl 25 (by decide) (hts (.fieldLink RX12 192 "CutAtlasModel" "cuts" "I") (List.mem_of_getElem? (i := 1) rfl)) (fun _ h9 => h9) rfl dB_3_1_18.1.2.1 ?_
                    refine lv_iconst (v := 1) hx hb dB_3_1_18.1.2.2 (by decide) ?_
                    refine lv_iadd hx hb dB_3_1_18.2.1.1 ?_
                    refine lv_topi (fun y_28 ey_28 => ?_)
                    refine va_put (ci := 12) (v := .int y_28) (ty := .int) (C := RX12) (T := TX12) (N := 34) hx hb hts (fun _ h => List.mem_cons_of_mem _ (List.mem_append_right _ h)) tyX12 tyX12_ok nmX12 hown hK.1 hP hD hS 0 rfl rfl 25 (by decide) (hts (.fieldLink RX12 192 "CutAtlasModel" "cuts" "I") (List.mem_of_getElem? (i := 1) rfl)) (fun _ h9 => h9) rfl (by decide +kernel) rfl rfl (Nat.le_of_ble_eq_true rfl) dB_3_1_18.2.1.2 (fun H locs hP hD hS => ?_)
                    refine pd_K [ob12_0_ mo s0 s1 t2 s3 s4 g5 g6 g7 g8 g9 g10 s11 g12 g13 g14 g15 g16 g17 g18 g19 g20 s21 g22 g23 g24 y_28 x5_1 o27_1 x5_1 g29 g30 g31 g32 g33, ai_ cy g5 40 f5, ai_ cy g6 40 f6, ai_ cy g7 40 f7, ai_ cy g8 40 f8, az_ cy g10 40 f10] hP hD (fun hP hD => ?_)
                    obtain ⟨y_29, ey_29⟩ : ∃ y : Int32, y = x5_1 + 1 := ⟨_, rfl⟩
                    have ty_29 : y_29.toInt = x5_1.toInt + (1 : Int32).toInt := by rw [ey_29]; exact addI (by omega) (by omega)
                    refine lv_iinc (v := y_29) (lv' := [(5, .int y_29), (0, .ref mo), (1, .int a1), (2, .int a2), (3, .int a3), (4, .int a4)]) hx hb dB_3_1_18.2.2.1 hl (k := 0) rfl (by rw [ey_29]; rfl) (by decide) rfl (fun ls hl => ?_)
                    refine lv_goto (tgt := 26) hx hb dB_3_1_18.2.2.2.1 (by decide) ?_
                    exact ih_1 y_29 y_28 x5_1 o27_1 x5_1 _ _ _ (by omega) (by first | with_reducible assumption | omega | assumption) (by first | with_reducible assumption | omega | assumption) ⟨hP, hD⟩ hS (lv_sub hl [0, 1, 2, 3, 4, 5] rfl)
                · have t_24 : ¬ r_22.toInt ≤ r_23.toInt := fun h => c_24 (Int32.le_iff_toInt_le.mpr h)
                  refine lv_iload hx hb dB_3_1_17.1.1.1.2 (lv_at hl 0 rfl) ?_
                  refine lv_goto (tgt := 137) hx hb dB_3_1_17.1.1.2.1 (by decide) ?_
                  refine va_put (ci := 12) (v := .int x5_1) (ty := .int) (C := RX12) (T := TX12) (N := 34) hx hb hts (fun _ h => List.mem_cons_of_mem _ (List.mem_append_right _ h)) tyX12 tyX12_ok nmX12 hown hK.1 hP hD hS 0 rfl rfl 27 (by decide) (hts (.fieldLink RX12 198 "CutAtlasModel" "far" "I") (List.mem_of_getElem? (i := 3) rfl)) (fun _ h9 => h9) rfl (by decide +kernel) rfl rfl (Nat.le_of_ble_eq_true rfl) dB_3_1_17.1.2.1.2 (fun H locs hP hD hS => ?_)
                  refine pd_K [ob12_0_ mo s0 s1 t2 s3 s4 g5 g6 g7 g8 g9 g10 s11 g12 g13 g14 g15 g16 g17 g18 g19 g20 s21 g22 g23 g24 o25_1 x5_1 x5_1 o28_1 g29 g30 g31 g32 g33, ai_ cy g5 40 f5, ai_ cy g6 40 f6, ai_ cy g7 40 f7, ai_ cy g8 40 f8, az_ cy g10 40 f10] hP hD (fun hP hD => ?_)
                  refine lv_aload_n hx hb dB_3_1_17.1.2.2.1 rfl (lv_at hl 1 rfl) ?_
                  refine lv_aload_n hx hb dB_3_1_17.1.2.2.2 rfl (lv_at hl 1 rfl) ?_
                  refine va_get (ci := 12) (v := .int o25_1) (C := RX12) (T := TX12) (N := 34) hx hb hts (fun _ h => List.mem_cons_of_mem _ (List.mem_append_right _ h)) hown hK.1 hP 0 rfl rfl 25 (by decide) (hts (.fieldLink RX12 192 "CutAtlasModel" "cuts" "I") (List.mem_of_getElem? (i := 1) rfl)) (fun _ h9 => h9) rfl dB_3_1_17.2.1.1.1 ?_
                  refine lv_iload hx hb dB_3_1_17.2.1.1.2 (lv_at hl 5 rfl) ?_
                  refine lv_icmp_ne (tgt := 155) hx hb dB_3_1_17.2.1.2.1 (by decide) (fun c_30 => ?_) (fun c_30 => ?_)
                  · have t_30 : ¬ o25_1.toInt = a4.toInt := fun h => c_30 (Int32.toInt_inj.mp h)
                    refine lv_aload_n hx hb dB_3_1_17.2.2.1.2 rfl (lv_at hl 1 rfl) ?_
                    refine va_get (ci := 12) (v := .int o28_1) (C := RX12) (T := TX12) (N := 34) hx hb hts (fun _ h => List.mem_cons_of_mem _ (List.mem_append_right _ h)) hown hK.1 hP 0 rfl rfl 28 (by decide) (hts (.fieldLink RX12 201 "CutAtlasModel" "chosen" "I") (List.mem_of_getElem? (i := 4) rfl)) (fun _ h9 => h9) rfl dB_3_1_17.2.2.2.1 ?_
                    refine va_put (ci := 12) (v := .int o28_1) (ty := .int) (C := RX12) (T := TX12) (N := 34) hx hb hts (fun _ h => List.mem_cons_of_mem _ (List.mem_append_right _ h)) tyX12 tyX12_ok nmX12 hown hK.1 hP hD hS 0 rfl rfl 28 (by decide) (hts (.fieldLink RX12 201 "CutAtlasModel" "chosen" "I") (List.mem_of_getElem? (i := 4) rfl)) (fun _ h9 => h9) rfl (by decide +kernel) rfl rfl (Nat.le_of_ble_eq_true rfl) dB_3_1_17.2.2.2.2 (fun H locs hP hD hS => ?_)
                    refine pd_K [ob12_0_ mo s0 s1 t2 s3 s4 g5 g6 g7 g8 g9 g10 s11 g12 g13 g14 g15 g16 g17 g18 g19 g20 s21 g22 g23 g24 o25_1 x5_1 x5_1 o28_1 g29 g30 g31 g32 g33, ai_ cy g5 40 f5, ai_ cy g6 40 f6, ai_ cy g7 40 f7, ai_ cy g8 40 f8, az_ cy g10 40 f10] hP hD (fun hP hD => ?_)
                    refine lv_aload_n hx hb dB_3_1_18.1.1.1 rfl (lv_at hl 1 rfl) ?_
                    refine lv_dup hx hb dB_3_1_18.1.1.2 rfl ?_
                    refine va_get (ci := 12) (v := .int o25_1) (C := RX12) (T := TX12) (N := 34) hx hb hts (fun _ h => List.mem_cons_of_mem _ (List.mem_append_right _ h)) hown hK.1 hP 0 rfl rfl 25 (by decide) (hts (.fieldLink RX12 192 "CutAtlasModel" "cuts" "I") (List.mem_of_getElem? (i := 1) rfl)) (fun _ h9 => h9) rfl dB_3_1_18.1.2.1 ?_
                    refine lv_iconst (v := 1) hx hb dB_3_1_18.1.2.2 (by decide) ?_
                    refine lv_iadd hx hb dB_3_1_18.2.1.1 ?_
                    refine lv_topi (fun y_31 ey_31 => ?_)
                    refine va_put (ci := 12) (v := .int y_31) (ty := .int) (C := RX12) (T := TX12) (N := 34) hx hb hts (fun _ h => List.mem_cons_of_mem _ (List.mem_append_right _ h)) tyX12 tyX12_ok nmX12 hown hK.1 hP hD hS 0 rfl rfl 25 (by decide) (hts (.fieldLink RX12 192 "CutAtlasModel" "cuts" "I") (List.mem_of_getElem? (i := 1) rfl)) (fun _ h9 => h9) rfl (by decide +kernel) rfl rfl (Nat.le_of_ble_eq_true rfl) dB_3_1_18.2.1.2 (fun H locs hP hD hS => ?_)
                    refine pd_K [ob12_0_ mo s0 s1 t2 s3 s4 g5 g6 g7 g8 g9 g10 s11 g12 g13 g14 g15 g16 g17 g18 g19 g20 s21 g22 g23 g24 y_31 x5_1 x5_1 o28_1 g29 g30 g31 g32 g33, ai_ cy g5 40 f5, ai_ cy g6 40 f6, ai_ cy g7 40 f7, ai_ cy g8 40 f8, az_ cy g10 40 f10] hP hD (fun hP hD => ?_)
                    obtain ⟨y_32, ey_32⟩ : ∃ y : Int32, y = x5_1 + 1 := ⟨_, rfl⟩
                    have ty_32 : y_32.toInt = x5_1.toInt + (1 : Int32).toInt := by rw [ey_32]; exact addI (by omega) (by omega)
                    refine lv_iinc (v := y_32) (lv' := [(5, .int y_32), (0, .ref mo), (1, .int a1), (2, .int a2), (3, .int a3), (4, .int a4)]) hx hb dB_3_1_18.2.2.1 hl (k := 0) rfl (by rw [ey_32]; rfl) (by decide) rfl (fun ls hl => ?_)
                    refine lv_goto (tgt := 26) hx hb dB_3_1_18.2.2.2.1 (by decide) ?_
                    exact ih_1 y_32 y_31 x5_1 x5_1 o28_1 _ _ _ (by omega) (by first | with_reducible assumption | omega | assumption) (by first | with_reducible assumption | omega | assumption) ⟨hP, hD⟩ hS (lv_sub hl [0, 1, 2, 3, 4, 5] rfl)
                  · have t_30 : o25_1.toInt = a4.toInt := congrArg Int32.toInt c_30
                    refine lv_iload hx hb dB_3_1_17.2.1.2.2 (lv_at hl 0 rfl) ?_
                    refine lv_goto (tgt := 159) hx hb dB_3_1_17.2.2.1.1 (by decide) ?_
                    refine va_put (ci := 12) (v := .int x5_1) (ty := .int) (C := RX12) (T := TX12) (N := 34) hx hb hts (fun _ h => List.mem_cons_of_mem _ (List.mem_append_right _ h)) tyX12 tyX12_ok nmX12 hown hK.1 hP hD hS 0 rfl rfl 28 (by decide) (hts (.fieldLink RX12 201 "CutAtlasModel" "chosen" "I") (List.mem_of_getElem? (i := 4) rfl)) (fun _ h9 => h9) rfl (by decide +kernel) rfl rfl (Nat.le_of_ble_eq_true rfl) dB_3_1_17.2.2.2.2 (fun H locs hP hD hS => ?_)
                    refine pd_K [ob12_0_ mo s0 s1 t2 s3 s4 g5 g6 g7 g8 g9 g10 s11 g12 g13 g14 g15 g16 g17 g18 g19 g20 s21 g22 g23 g24 o25_1 x5_1 x5_1 x5_1 g29 g30 g31 g32 g33, ai_ cy g5 40 f5, ai_ cy g6 40 f6, ai_ cy g7 40 f7, ai_ cy g8 40 f8, az_ cy g10 40 f10] hP hD (fun hP hD => ?_)
                    refine lv_aload_n hx hb dB_3_1_18.1.1.1 rfl (lv_at hl 1 rfl) ?_
                    refine lv_dup hx hb dB_3_1_18.1.1.2 rfl ?_
                    refine va_get (ci := 12) (v := .int o25_1) (C := RX12) (T := TX12) (N := 34) hx hb hts (fun _ h => List.mem_cons_of_mem _ (List.mem_append_right _ h)) hown hK.1 hP 0 rfl rfl 25 (by decide) (hts (.fieldLink RX12 192 "CutAtlasModel" "cuts" "I") (List.mem_of_getElem? (i := 1) rfl)) (fun _ h9 => h9) rfl dB_3_1_18.1.2.1 ?_
                    refine lv_iconst (v := 1) hx hb dB_3_1_18.1.2.2 (by decide) ?_
                    refine lv_iadd hx hb dB_3_1_18.2.1.1 ?_
                    refine lv_topi (fun y_33 ey_33 => ?_)
                    refine va_put (ci := 12) (v := .int y_33) (ty := .int) (C := RX12) (T := TX12) (N := 34) hx hb hts (fun _ h => List.mem_cons_of_mem _ (List.mem_append_right _ h)) tyX12 tyX12_ok nmX12 hown hK.1 hP hD hS 0 rfl rfl 25 (by decide) (hts (.fieldLink RX12 192 "CutAtlasModel" "cuts" "I") (List.mem_of_getElem? (i := 1) rfl)) (fun _ h9 => h9) rfl (by decide +kernel) rfl rfl (Nat.le_of_ble_eq_true rfl) dB_3_1_18.2.1.2 (fun H locs hP hD hS => ?_)
                    refine pd_K [ob12_0_ mo s0 s1 t2 s3 s4 g5 g6 g7 g8 g9 g10 s11 g12 g13 g14 g15 g16 g17 g18 g19 g20 s21 g22 g23 g24 y_33 x5_1 x5_1 x5_1 g29 g30 g31 g32 g33, ai_ cy g5 40 f5, ai_ cy g6 40 f6, ai_ cy g7 40 f7, ai_ cy g8 40 f8, az_ cy g10 40 f10] hP hD (fun hP hD => ?_)
                    obtain ⟨y_34, ey_34⟩ : ∃ y : Int32, y = x5_1 + 1 := ⟨_, rfl⟩
                    have ty_34 : y_34.toInt = x5_1.toInt + (1 : Int32).toInt := by rw [ey_34]; exact addI (by omega) (by omega)
                    refine lv_iinc (v := y_34) (lv' := [(5, .int y_34), (0, .ref mo), (1, .int a1), (2, .int a2), (3, .int a3), (4, .int a4)]) hx hb dB_3_1_18.2.2.1 hl (k := 0) rfl (by rw [ey_34]; rfl) (by decide) rfl (fun ls hl => ?_)
                    refine lv_goto (tgt := 26) hx hb dB_3_1_18.2.2.2.1 (by decide) ?_
                    exact ih_1 y_34 y_33 x5_1 x5_1 x5_1 _ _ _ (by omega) (by first | with_reducible assumption | omega | assumption) (by first | with_reducible assumption | omega | assumption) ⟨hP, hD⟩ hS (lv_sub hl [0, 1, 2, 3, 4, 5] rfl)
            · have t_15 : ¬ o26_1.toInt = ((-9) : Int32).toInt := fun h => c_15 (Int32.toInt_inj.mp h)
              refine lv_iload hx hb dB_3_1_15.2.1.2.2 (lv_at hl 0 rfl) ?_
              refine ct_R hP hD [] [] (by decide) rfl (fun hPc hDw => ?_)
              have hFc := va_free (wc := []) hD hS hA [] rfl
              refine va_calli (va_runS (As := [.int x5_1]) (rest := [.ref mo]) ⟨hx, hb, hml, hown, hts⟩ (c_X12_bitsOf l D cy H.size x5_1) (va_cwS 1 hts gX12_cutsOf_X12_bitsOf rfl rfl rfl hd_X12_bitsOf ⟨Nat.le_of_ble_eq_true rfl, Nat.le_of_ble_eq_true rfl⟩) ⟨bl_, fun U hU hW => ⟨rfl, by rw [hU], by rw [hU]; exact hPc, kk_mv hW hK, hDw⟩⟩ rfl rfl hl.1 rfl (lv_room (Nat.le_of_ble_eq_true rfl)) dB_3_1_15.2.2.1.1 ⟨Nat.le_of_ble_eq_true rfl, Nat.le_of_ble_eq_true rfl⟩) hS (fun q _ h => hFc q h) hFc (fun r_35 u t H locs ht hvm hw hB hz1 hk1 hS => ?_)
              have hP : va_P D vwCl _ H := ro_keep hP hk1
              refine lv_aload_n hx hb dB_3_1_15.2.2.1.2 rfl (lv_at hl 1 rfl) ?_
              refine va_get (ci := 12) (v := .int o26_1) (C := RX12) (T := TX12) (N := 34) hx hb hts (fun _ h => List.mem_cons_of_mem _ (List.mem_append_right _ h)) hown hK.1 hP 0 rfl rfl 26 (by decide) (hts (.fieldLink RX12 195 "CutAtlasModel" "near" "I") (List.mem_of_getElem? (i := 2) rfl)) (fun _ h9 => h9) rfl dB_3_1_15.2.2.2.1 ?_
              refine ct_R hP hD [] [] (by decide) rfl (fun hPc hDw => ?_)
              have hFc := va_free (wc := []) hD hS hA [] rfl
              refine va_calli (va_runS (As := [.int o26_1]) (rest := [.int r_35, .ref mo]) ⟨hx, hb, hml, hown, hts⟩ (c_X12_bitsOf l D cy H.size o26_1) (va_cwS 1 hts gX12_cutsOf_X12_bitsOf rfl rfl rfl hd_X12_bitsOf ⟨Nat.le_of_ble_eq_true rfl, Nat.le_of_ble_eq_true rfl⟩) ⟨bl_, fun U hU hW => ⟨rfl, by rw [hU], by rw [hU]; exact hPc, kk_mv hW hK, hDw⟩⟩ rfl rfl hl.1 rfl (lv_room (Nat.le_of_ble_eq_true rfl)) dB_3_1_15.2.2.2.2 ⟨Nat.le_of_ble_eq_true rfl, Nat.le_of_ble_eq_true rfl⟩) hS (fun q _ h => hFc q h) hFc (fun r_36 u t H locs ht hvm hw hB hz1 hk1 hS => ?_)
              have hP : va_P D vwCl _ H := ro_keep hP hk1
              refine lv_icmp_ge (tgt := 96) hx hb dB_3_1_16.1.1.1.1 (by decide) (fun c_37 => ?_) (fun c_37 => ?_)
              · have t_37 : r_36.toInt ≤ r_35.toInt := Int32.le_iff_toInt_le.mp c_37
                refine lv_aload_n hx hb dB_3_1_16.1.1.2.2 rfl (lv_at hl 1 rfl) ?_
                refine va_get (ci := 12) (v := .int o26_1) (C := RX12) (T := TX12) (N := 34) hx hb hts (fun _ h => List.mem_cons_of_mem _ (List.mem_append_right _ h)) hown hK.1 hP 0 rfl rfl 26 (by decide) (hts (.fieldLink RX12 195 "CutAtlasModel" "near" "I") (List.mem_of_getElem? (i := 2) rfl)) (fun _ h9 => h9) rfl dB_3_1_16.1.2.1.1 ?_
                refine va_put (ci := 12) (v := .int o26_1) (ty := .int) (C := RX12) (T := TX12) (N := 34) hx hb hts (fun _ h => List.mem_cons_of_mem _ (List.mem_append_right _ h)) tyX12 tyX12_ok nmX12 hown hK.1 hP hD hS 0 rfl rfl 26 (by decide) (hts (.fieldLink RX12 195 "CutAtlasModel" "near" "I") (List.mem_of_getElem? (i := 2) rfl)) (fun _ h9 => h9) rfl (by decide +kernel) rfl rfl (Nat.le_of_ble_eq_true rfl) dB_3_1_16.1.2.1.2 (fun H locs hP hD hS => ?_)
                refine pd_K [ob12_0_ mo s0 s1 t2 s3 s4 g5 g6 g7 g8 g9 g10 s11 g12 g13 g14 g15 g16 g17 g18 g19 g20 s21 g22 g23 g24 o25_1 o26_1 o27_1 o28_1 g29 g30 g31 g32 g33, ai_ cy g5 40 f5, ai_ cy g6 40 f6, ai_ cy g7 40 f7, ai_ cy g8 40 f8, az_ cy g10 40 f10] hP hD (fun hP hD => ?_)
                refine lv_aload_n hx hb dB_3_1_16.1.2.2.1 rfl (lv_at hl 1 rfl) ?_
                refine lv_aload_n hx hb dB_3_1_16.1.2.2.2 rfl (lv_at hl 1 rfl) ?_
                refine va_get (ci := 12) (v := .int o27_1) (C := RX12) (T := TX12) (N := 34) hx hb hts (fun _ h => List.mem_cons_of_mem _ (List.mem_append_right _ h)) hown hK.1 hP 0 rfl rfl 27 (by decide) (hts (.fieldLink RX12 198 "CutAtlasModel" "far" "I") (List.mem_of_getElem? (i := 3) rfl)) (fun _ h9 => h9) rfl dB_3_1_16.2.1.1.1 ?_
                refine lv_bipush (v := (-9)) hx hb dB_3_1_16.2.1.1.2 (by decide) ?_
                refine lv_icmp_eq (tgt := 128) hx hb dB_3_1_16.2.1.2.1 (by decide) (fun c_38 => ?_) (fun c_38 => ?_)
                · have t_38 : o27_1.toInt = ((-9) : Int32).toInt := congrArg Int32.toInt c_38
                  refine lv_iload hx hb dB_3_1_17.1.1.1.2 (lv_at hl 0 rfl) ?_
                  refine lv_goto (tgt := 137) hx hb dB_3_1_17.1.1.2.1 (by decide) ?_
                  refine va_put (ci := 12) (v := .int x5_1) (ty := .int) (C := RX12) (T := TX12) (N := 34) hx hb hts (fun _ h => List.mem_cons_of_mem _ (List.mem_append_right _ h)) tyX12 tyX12_ok nmX12 hown hK.1 hP hD hS 0 rfl rfl 27 (by decide) (hts (.fieldLink RX12 198 "CutAtlasModel" "far" "I") (List.mem_of_getElem? (i := 3) rfl)) (fun _ h9 => h9) rfl (by decide +kernel) rfl rfl (Nat.le_of_ble_eq_true rfl) dB_3_1_17.1.2.1.2 (fun H locs hP hD hS => ?_)
                  refine pd_K [ob12_0_ mo s0 s1 t2 s3 s4 g5 g6 g7 g8 g9 g10 s11 g12 g13 g14 g15 g16 g17 g18 g19 g20 s21 g22 g23 g24 o25_1 o26_1 x5_1 o28_1 g29 g30 g31 g32 g33, ai_ cy g5 40 f5, ai_ cy g6 40 f6, ai_ cy g7 40 f7, ai_ cy g8 40 f8, az_ cy g10 40 f10] hP hD (fun hP hD => ?_)
                  refine lv_aload_n hx hb dB_3_1_17.1.2.2.1 rfl (lv_at hl 1 rfl) ?_
                  refine lv_aload_n hx hb dB_3_1_17.1.2.2.2 rfl (lv_at hl 1 rfl) ?_
                  refine va_get (ci := 12) (v := .int o25_1) (C := RX12) (T := TX12) (N := 34) hx hb hts (fun _ h => List.mem_cons_of_mem _ (List.mem_append_right _ h)) hown hK.1 hP 0 rfl rfl 25 (by decide) (hts (.fieldLink RX12 192 "CutAtlasModel" "cuts" "I") (List.mem_of_getElem? (i := 1) rfl)) (fun _ h9 => h9) rfl dB_3_1_17.2.1.1.1 ?_
                  refine lv_iload hx hb dB_3_1_17.2.1.1.2 (lv_at hl 5 rfl) ?_
                  refine lv_icmp_ne (tgt := 155) hx hb dB_3_1_17.2.1.2.1 (by decide) (fun c_39 => ?_) (fun c_39 => ?_)
                  · have t_39 : ¬ o25_1.toInt = a4.toInt := fun h => c_39 (Int32.toInt_inj.mp h)
                    refine lv_aload_n hx hb dB_3_1_17.2.2.1.2 rfl (lv_at hl 1 rfl) ?_
                    refine va_get (ci := 12) (v := .int o28_1) (C := RX12) (T := TX12) (N := 34) hx hb hts (fun _ h => List.mem_cons_of_mem _ (List.mem_append_right _ h)) hown hK.1 hP 0 rfl rfl 28 (by decide) (hts (.fieldLink RX12 201 "CutAtlasModel" "chosen" "I") (List.mem_of_getElem? (i := 4) rfl)) (fun _ h9 => h9) rfl dB_3_1_17.2.2.2.1 ?_
                    refine va_put (ci := 12) (v := .int o28_1) (ty := .int) (C := RX12) (T := TX12) (N := 34) hx hb hts (fun _ h => List.mem_cons_of_mem _ (List.mem_append_right _ h)) tyX12 tyX12_ok nmX12 hown hK.1 hP hD hS 0 rfl rfl 28 (by decide) (hts (.fieldLink RX12 201 "CutAtlasModel" "chosen" "I") (List.mem_of_getElem? (i := 4) rfl)) (fun _ h9 => h9) rfl (by decide +kernel) rfl rfl (Nat.le_of_ble_eq_true rfl) dB_3_1_17.2.2.2.2 (fun H locs hP hD hS => ?_)
                    refine pd_K [ob12_0_ mo s0 s1 t2 s3 s4 g5 g6 g7 g8 g9 g10 s11 g12 g13 g14 g15 g16 g17 g18 g19 g20 s21 g22 g23 g24 o25_1 o26_1 x5_1 o28_1 g29 g30 g31 g32 g33, ai_ cy g5 40 f5, ai_ cy g6 40 f6, ai_ cy g7 40 f7, ai_ cy g8 40 f8, az_ cy g10 40 f10] hP hD (fun hP hD => ?_)
                    refine lv_aload_n hx hb dB_3_1_18.1.1.1 rfl (lv_at hl 1 rfl) ?_
                    refine lv_dup hx hb dB_3_1_18.1.1.2 rfl ?_
                    refine va_get (ci := 12) (v := .int o25_1) (C := RX12) (T := TX12) (N := 34) hx hb hts (fun _ h => List.mem_cons_of_mem _ (List.mem_append_right _ h)) hown hK.1 hP 0 rfl rfl 25 (by decide) (hts (.fieldLink RX12 192 "CutAtlasModel" "cuts" "I") (List.mem_of_getElem? (i := 1) rfl)) (fun _ h9 => h9) rfl dB_3_1_18.1.2.1 ?_
                    refine lv_iconst (v := 1) hx hb dB_3_1_18.1.2.2 (by decide) ?_
                    refine lv_iadd hx hb dB_3_1_18.2.1.1 ?_
                    refine lv_topi (fun y_40 ey_40 => ?_)
                    refine va_put (ci := 12) (v := .int y_40) (ty := .int) (C := RX12) (T := TX12) (N := 34) hx hb hts (fun _ h => List.mem_cons_of_mem _ (List.mem_append_right _ h)) tyX12 tyX12_ok nmX12 hown hK.1 hP hD hS 0 rfl rfl 25 (by decide) (hts (.fieldLink RX12 192 "CutAtlasModel" "cuts" "I") (List.mem_of_getElem? (i := 1) rfl)) (fun _ h9 => h9) rfl (by decide +kernel) rfl rfl (Nat.le_of_ble_eq_true rfl) dB_3_1_18.2.1.2 (fun H locs hP hD hS => ?_)
                    refine pd_K [ob12_0_ mo s0 s1 t2 s3 s4 g5 g6 g7 g8 g9 g10 s11 g12 g13 g14 g15 g16 g17 g18 g19 g20 s21 g22 g23 g24 y_40 o26_1 x5_1 o28_1 g29 g30 g31 g32 g33, ai_ cy g5 40 f5, ai_ cy g6 40 f6, ai_ cy g7 40 f7, ai_ cy g8 40 f8, az_ cy g10 40 f10] hP hD (fun hP hD => ?_)
                    obtain ⟨y_41, ey_41⟩ : ∃ y : Int32, y = x5_1 + 1 := ⟨_, rfl⟩
                    have ty_41 : y_41.toInt = x5_1.toInt + (1 : Int32).toInt := by rw [ey_41]; exact addI (by omega) (by omega)
                    refine lv_iinc (v := y_41) (lv' := [(5, .int y_41), (0, .ref mo), (1, .int a1), (2, .int a2), (3, .int a3), (4, .int a4)]) hx hb dB_3_1_18.2.2.1 hl (k := 0) rfl (by rw [ey_41]; rfl) (by decide) rfl (fun ls hl => ?_)
                    refine lv_goto (tgt := 26) hx hb dB_3_1_18.2.2.2.1 (by decide) ?_
                    exact ih_1 y_41 y_40 o26_1 x5_1 o28_1 _ _ _ (by omega) (by first | with_reducible assumption | omega | assumption) (by first | with_reducible assumption | omega | assumption) ⟨hP, hD⟩ hS (lv_sub hl [0, 1, 2, 3, 4, 5] rfl)
                  · have t_39 : o25_1.toInt = a4.toInt := congrArg Int32.toInt c_39
                    refine lv_iload hx hb dB_3_1_17.2.1.2.2 (lv_at hl 0 rfl) ?_
                    refine lv_goto (tgt := 159) hx hb dB_3_1_17.2.2.1.1 (by decide) ?_
                    refine va_put (ci := 12) (v := .int x5_1) (ty := .int) (C := RX12) (T := TX12) (N := 34) hx hb hts (fun _ h => List.mem_cons_of_mem _ (List.mem_append_right _ h)) tyX12 tyX12_ok nmX12 hown hK.1 hP hD hS 0 rfl rfl 28 (by decide) (hts (.fieldLink RX12 201 "CutAtlasModel" "chosen" "I") (List.mem_of_getElem? (i := 4) rfl)) (fun _ h9 => h9) rfl (by decide +kernel) rfl rfl (Nat.le_of_ble_eq_true rfl) dB_3_1_17.2.2.2.2 (fun H locs hP hD hS => ?_)
                    refine pd_K [ob12_0_ mo s0 s1 t2 s3 s4 g5 g6 g7 g8 g9 g10 s11 g12 g13 g14 g15 g16 g17 g18 g19 g20 s21 g22 g23 g24 o25_1 o26_1 x5_1 x5_1 g29 g30 g31 g32 g33, ai_ cy g5 40 f5, ai_ cy g6 40 f6, ai_ cy g7 40 f7, ai_ cy g8 40 f8, az_ cy g10 40 f10] hP hD (fun hP hD => ?_)
                    refine lv_aload_n hx hb dB_3_1_18.1.1.1 rfl (lv_at hl 1 rfl) ?_
                    refine lv_dup hx hb dB_3_1_18.1.1.2 rfl ?_
                    refine va_get (ci := 12) (v := .int o25_1) (C := RX12) (T := TX12) (N := 34) hx hb hts (fun _ h => List.mem_cons_of_mem _ (List.mem_append_right _ h)) hown hK.1 hP 0 rfl rfl 25 (by decide) (hts (.fieldLink RX12 192 "CutAtlasModel" "cuts" "I") (List.mem_of_getElem? (i := 1) rfl)) (fun _ h9 => h9) rfl dB_3_1_18.1.2.1 ?_
                    refine lv_iconst (v := 1) hx hb dB_3_1_18.1.2.2 (by decide) ?_
                    refine lv_iadd hx hb dB_3_1_18.2.1.1 ?_
                    refine lv_topi (fun y_42 ey_42 => ?_)
                    refine va_put (ci := 12) (v := .int y_42) (ty := .int) (C := RX12) (T := TX12) (N := 34) hx hb hts (fun _ h => List.mem_cons_of_mem _ (List.mem_append_right _ h)) tyX12 tyX12_ok nmX12 hown hK.1 hP hD hS 0 rfl rfl 25 (by decide) (hts (.fieldLink RX12 192 "CutAtlasModel" "cuts" "I") (List.mem_of_getElem? (i := 1) rfl)) (fun _ h9 => h9) rfl (by decide +kernel) rfl rfl (Nat.le_of_ble_eq_true rfl) dB_3_1_18.2.1.2 (fun H locs hP hD hS => ?_)
                    refine pd_K [ob12_0_ mo s0 s1 t2 s3 s4 g5 g6 g7 g8 g9 g10 s11 g12 g13 g14 g15 g16 g17 g18 g19 g20 s21 g22 g23 g24 y_42 o26_1 x5_1 x5_1 g29 g30 g31 g32 g33, ai_ cy g5 40 f5, ai_ cy g6 40 f6, ai_ cy g7 40 f7, ai_ cy g8 40 f8, az_ cy g10 40 f10] hP hD (fun hP hD => ?_)
                    obtain ⟨y_43, ey_43⟩ : ∃ y : Int32, y = x5_1 + 1 := ⟨_, rfl⟩
                    have ty_43 : y_43.toInt = x5_1.toInt + (1 : Int32).toInt := by rw [ey_43]; exact addI (by omega) (by omega)
                    refine lv_iinc (v := y_43) (lv' := [(5, .int y_43), (0, .ref mo), (1, .int a1), (2, .int a2), (3, .int a3), (4, .int a4)]) hx hb dB_3_1_18.2.2.1 hl (k := 0) rfl (by rw [ey_43]; rfl) (by decide) rfl (fun ls hl => ?_)
                    refine lv_goto (tgt := 26) hx hb dB_3_1_18.2.2.2.1 (by decide) ?_
                    exact ih_1 y_43 y_42 o26_1 x5_1 x5_1 _ _ _ (by omega) (by first | with_reducible assumption | omega | assumption) (by first | with_reducible assumption | omega | assumption) ⟨hP, hD⟩ hS (lv_sub hl [0, 1, 2, 3, 4, 5] rfl)
                · have t_38 : ¬ o27_1.toInt = ((-9) : Int32).toInt := fun h => c_38 (Int32.toInt_inj.mp h)
                  refine lv_iload hx hb dB_3_1_16.2.1.2.2 (lv_at hl 0 rfl) ?_
                  refine ct_R hP hD [] [] (by decide) rfl (fun hPc hDw => ?_)
                  have hFc := va_free (wc := []) hD hS hA [] rfl
                  refine va_calli (va_runS (As := [.int x5_1]) (rest := [.ref mo]) ⟨hx, hb, hml, hown, hts⟩ (c_X12_bitsOf l D cy H.size x5_1) (va_cwS 1 hts gX12_cutsOf_X12_bitsOf rfl rfl rfl hd_X12_bitsOf ⟨Nat.le_of_ble_eq_true rfl, Nat.le_of_ble_eq_true rfl⟩) ⟨bl_, fun U hU hW => ⟨rfl, by rw [hU], by rw [hU]; exact hPc, kk_mv hW hK, hDw⟩⟩ rfl rfl hl.1 rfl (lv_room (Nat.le_of_ble_eq_true rfl)) dB_3_1_16.2.2.1.1 ⟨Nat.le_of_ble_eq_true rfl, Nat.le_of_ble_eq_true rfl⟩) hS (fun q _ h => hFc q h) hFc (fun r_44 u t H locs ht hvm hw hB hz1 hk1 hS => ?_)
                  have hP : va_P D vwCl _ H := ro_keep hP hk1
                  refine lv_aload_n hx hb dB_3_1_16.2.2.1.2 rfl (lv_at hl 1 rfl) ?_
                  refine va_get (ci := 12) (v := .int o27_1) (C := RX12) (T := TX12) (N := 34) hx hb hts (fun _ h => List.mem_cons_of_mem _ (List.mem_append_right _ h)) hown hK.1 hP 0 rfl rfl 27 (by decide) (hts (.fieldLink RX12 198 "CutAtlasModel" "far" "I") (List.mem_of_getElem? (i := 3) rfl)) (fun _ h9 => h9) rfl dB_3_1_16.2.2.2.1 ?_
                  refine ct_R hP hD [] [] (by decide) rfl (fun hPc hDw => ?_)
                  have hFc := va_free (wc := []) hD hS hA [] rfl
                  refine va_calli (va_runS (As := [.int o27_1]) (rest := [.int r_44, .ref mo]) ⟨hx, hb, hml, hown, hts⟩ (c_X12_bitsOf l D cy H.size o27_1) (va_cwS 1 hts gX12_cutsOf_X12_bitsOf rfl rfl rfl hd_X12_bitsOf ⟨Nat.le_of_ble_eq_true rfl, Nat.le_of_ble_eq_true rfl⟩) ⟨bl_, fun U hU hW => ⟨rfl, by rw [hU], by rw [hU]; exact hPc, kk_mv hW hK, hDw⟩⟩ rfl rfl hl.1 rfl (lv_room (Nat.le_of_ble_eq_true rfl)) dB_3_1_16.2.2.2.2 ⟨Nat.le_of_ble_eq_true rfl, Nat.le_of_ble_eq_true rfl⟩) hS (fun q _ h => hFc q h) hFc (fun r_45 u t H locs ht hvm hw hB hz1 hk1 hS => ?_)
                  have hP : va_P D vwCl _ H := ro_keep hP hk1
                  refine lv_icmp_le (tgt := 133) hx hb dB_3_1_17.1.1.1.1 (by decide) (fun c_46 => ?_) (fun c_46 => ?_)
                  · have t_46 : r_44.toInt ≤ r_45.toInt := Int32.le_iff_toInt_le.mp c_46
                    refine lv_aload_n hx hb dB_3_1_17.1.1.2.2 rfl (lv_at hl 1 rfl) ?_
                    refine va_get (ci := 12) (v := .int o27_1) (C := RX12) (T := TX12) (N := 34) hx hb hts (fun _ h => List.mem_cons_of_mem _ (List.mem_append_right _ h)) hown hK.1 hP 0 rfl rfl 27 (by decide) (hts (.fieldLink RX12 198 "CutAtlasModel" "far" "I") (List.mem_of_getElem? (i := 3) rfl)) (fun _ h9 => h9) rfl dB_3_1_17.1.2.1.1 ?_
                    refine va_put (ci := 12) (v := .int o27_1) (ty := .int) (C := RX12) (T := TX12) (N := 34) hx hb hts (fun _ h => List.mem_cons_of_mem _ (List.mem_append_right _ h)) tyX12 tyX12_ok nmX12 hown hK.1 hP hD hS 0 rfl rfl 27 (by decide) (hts (.fieldLink RX12 198 "CutAtlasModel" "far" "I") (List.mem_of_getElem? (i := 3) rfl)) (fun _ h9 => h9) rfl (by decide +kernel) rfl rfl (Nat.le_of_ble_eq_true rfl) dB_3_1_17.1.2.1.2 (fun H locs hP hD hS => ?_)
                    refine pd_K [ob12_0_ mo s0 s1 t2 s3 s4 g5 g6 g7 g8 g9 g10 s11 g12 g13 g14 g15 g16 g17 g18 g19 g20 s21 g22 g23 g24 o25_1 o26_1 o27_1 o28_1 g29 g30 g31 g32 g33, ai_ cy g5 40 f5, ai_ cy g6 40 f6, ai_ cy g7 40 f7, ai_ cy g8 40 f8, az_ cy g10 40 f10] hP hD (fun hP hD => ?_)
                    refine lv_aload_n hx hb dB_3_1_17.1.2.2.1 rfl (lv_at hl 1 rfl) ?_
                    refine lv_aload_n hx hb dB_3_1_17.1.2.2.2 rfl (lv_at hl 1 rfl) ?_
                    refine va_get (ci := 12) (v := .int o25_1) (C := RX12) (T := TX12) (N := 34) hx hb hts (fun _ h => List.mem_cons_of_mem _ (List.mem_append_right _ h)) hown hK.1 hP 0 rfl rfl 25 (by decide) (hts (.fieldLink RX12 192 "CutAtlasModel" "cuts" "I") (List.mem_of_getElem? (i := 1) rfl)) (fun _ h9 => h9) rfl dB_3_1_17.2.1.1.1 ?_
                    refine lv_iload hx hb dB_3_1_17.2.1.1.2 (lv_at hl 5 rfl) ?_
                    refine lv_icmp_ne (tgt := 155) hx hb dB_3_1_17.2.1.2.1 (by decide) (fun c_47 => ?_) (fun c_47 => ?_)
                    · have t_47 : ¬ o25_1.toInt = a4.toInt := fun h => c_47 (Int32.toInt_inj.mp h)
                      refine lv_aload_n hx hb dB_3_1_17.2.2.1.2 rfl (lv_at hl 1 rfl) ?_
                      refine va_get (ci := 12) (v := .int o28_1) (C := RX12) (T := TX12) (N := 34) hx hb hts (fun _ h => List.mem_cons_of_mem _ (List.mem_append_right _ h)) hown hK.1 hP 0 rfl rfl 28 (by decide) (hts (.fieldLink RX12 201 "CutAtlasModel" "chosen" "I") (List.mem_of_getElem? (i := 4) rfl)) (fun _ h9 => h9) rfl dB_3_1_17.2.2.2.1 ?_
                      refine va_put (ci := 12) (v := .int o28_1) (ty := .int) (C := RX12) (T := TX12) (N := 34) hx hb hts (fun _ h => List.mem_cons_of_mem _ (List.mem_append_right _ h)) tyX12 tyX12_ok nmX12 hown hK.1 hP hD hS 0 rfl rfl 28 (by decide) (hts (.fieldLink RX12 201 "CutAtlasModel" "chosen" "I") (List.mem_of_getElem? (i := 4) rfl)) (fun _ h9 => h9) rfl (by decide +kernel) rfl rfl (Nat.le_of_ble_eq_true rfl) dB_3_1_17.2.2.2.2 (fun H locs hP hD hS => ?_)
                      refine pd_K [ob12_0_ mo s0 s1 t2 s3 s4 g5 g6 g7 g8 g9 g10 s11 g12 g13 g14 g15 g16 g17 g18 g19 g20 s21 g22 g23 g24 o25_1 o26_1 o27_1 o28_1 g29 g30 g31 g32 g33, ai_ cy g5 40 f5, ai_ cy g6 40 f6, ai_ cy g7 40 f7, ai_ cy g8 40 f8, az_ cy g10 40 f10] hP hD (fun hP hD => ?_)
                      refine lv_aload_n hx hb dB_3_1_18.1.1.1 rfl (lv_at hl 1 rfl) ?_
                      refine lv_dup hx hb dB_3_1_18.1.1.2 rfl ?_
                      refine va_get (ci := 12) (v := .int o25_1) (C := RX12) (T := TX12) (N := 34) hx hb hts (fun _ h => List.mem_cons_of_mem _ (List.mem_append_right _ h)) hown hK.1 hP 0 rfl rfl 25 (by decide) (hts (.fieldLink RX12 192 "CutAtlasModel" "cuts" "I") (List.mem_of_getElem? (i := 1) rfl)) (fun _ h9 => h9) rfl dB_3_1_18.1.2.1 ?_
                      refine lv_iconst (v := 1) hx hb dB_3_1_18.1.2.2 (by decide) ?_
                      refine lv_iadd hx hb dB_3_1_18.2.1.1 ?_
                      refine lv_topi (fun y_48 ey_48 => ?_)
                      refine va_put (ci := 12) (v := .int y_48) (ty := .int) (C := RX12) (T := TX12) (N := 34) hx hb hts (fun _ h => List.mem_cons_of_mem _ (List.mem_append_right _ h)) tyX12 tyX12_ok nmX12 hown hK.1 hP hD hS 0 rfl rfl 25 (by decide) (hts (.fieldLink RX12 192 "CutAtlasModel" "cuts" "I") (List.mem_of_getElem? (i := 1) rfl)) (fun _ h9 => h9) rfl (by decide +kernel) rfl rfl (Nat.le_of_ble_eq_true rfl) dB_3_1_18.2.1.2 (fun H locs hP hD hS => ?_)
                      refine pd_K [ob12_0_ mo s0 s1 t2 s3 s4 g5 g6 g7 g8 g9 g10 s11 g12 g13 g14 g15 g16 g17 g18 g19 g20 s21 g22 g23 g24 y_48 o26_1 o27_1 o28_1 g29 g30 g31 g32 g33, ai_ cy g5 40 f5, ai_ cy g6 40 f6, ai_ cy g7 40 f7, ai_ cy g8 40 f8, az_ cy g10 40 f10] hP hD (fun hP hD => ?_)
                      obtain ⟨y_49, ey_49⟩ : ∃ y : Int32, y = x5_1 + 1 := ⟨_, rfl⟩
                      have ty_49 : y_49.toInt = x5_1.toInt + (1 : Int32).toInt := by rw [ey_49]; exact addI (by omega) (by omega)
                      refine lv_iinc (v := y_49) (lv' := [(5, .int y_49), (0, .ref mo), (1, .int a1), (2, .int a2), (3, .int a3), (4, .int a4)]) hx hb dB_3_1_18.2.2.1 hl (k := 0) rfl (by rw [ey_49]; rfl) (by decide) rfl (fun ls hl => ?_)
                      refine lv_goto (tgt := 26) hx hb dB_3_1_18.2.2.2.1 (by decide) ?_
                      exact ih_1 y_49 y_48 o26_1 o27_1 o28_1 _ _ _ (by omega) (by first | with_reducible assumption | omega | assumption) (by first | with_reducible assumption | omega | assumption) ⟨hP, hD⟩ hS (lv_sub hl [0, 1, 2, 3, 4, 5] rfl)
                    · have t_47 : o25_1.toInt = a4.toInt := congrArg Int32.toInt c_47
                      refine lv_iload hx hb dB_3_1_17.2.1.2.2 (lv_at hl 0 rfl) ?_
                      refine lv_goto (tgt := 159) hx hb dB_3_1_17.2.2.1.1 (by decide) ?_
                      refine va_put (ci := 12) (v := .int x5_1) (ty := .int) (C := RX12) (T := TX12) (N := 34) hx hb hts (fun _ h => List.mem_cons_of_mem _ (List.mem_append_right _ h)) tyX12 tyX12_ok nmX12 hown hK.1 hP hD hS 0 rfl rfl 28 (by decide) (hts (.fieldLink RX12 201 "CutAtlasModel" "chosen" "I") (List.mem_of_getElem? (i := 4) rfl)) (fun _ h9 => h9) rfl (by decide +kernel) rfl rfl (Nat.le_of_ble_eq_true rfl) dB_3_1_17.2.2.2.2 (fun H locs hP hD hS => ?_)
                      refine pd_K [ob12_0_ mo s0 s1 t2 s3 s4 g5 g6 g7 g8 g9 g10 s11 g12 g13 g14 g15 g16 g17 g18 g19 g20 s21 g22 g23 g24 o25_1 o26_1 o27_1 x5_1 g29 g30 g31 g32 g33, ai_ cy g5 40 f5, ai_ cy g6 40 f6, ai_ cy g7 40 f7, ai_ cy g8 40 f8, az_ cy g10 40 f10] hP hD (fun hP hD => ?_)
                      refine lv_aload_n hx hb dB_3_1_18.1.1.1 rfl (lv_at hl 1 rfl) ?_
                      refine lv_dup hx hb dB_3_1_18.1.1.2 rfl ?_
                      refine va_get (ci := 12) (v := .int o25_1) (C := RX12) (T := TX12) (N := 34) hx hb hts (fun _ h => List.mem_cons_of_mem _ (List.mem_append_right _ h)) hown hK.1 hP 0 rfl rfl 25 (by decide) (hts (.fieldLink RX12 192 "CutAtlasModel" "cuts" "I") (List.mem_of_getElem? (i := 1) rfl)) (fun _ h9 => h9) rfl dB_3_1_18.1.2.1 ?_
                      refine lv_iconst (v := 1) hx hb dB_3_1_18.1.2.2 (by decide) ?_
                      refine lv_iadd hx hb dB_3_1_18.2.1.1 ?_
                      refine lv_topi (fun y_50 ey_50 => ?_)
                      refine va_put (ci := 12) (v := .int y_50) (ty := .int) (C := RX12) (T := TX12) (N := 34) hx hb hts (fun _ h => List.mem_cons_of_mem _ (List.mem_append_right _ h)) tyX12 tyX12_ok nmX12 hown hK.1 hP hD hS 0 rfl rfl 25 (by decide) (hts (.fieldLink RX12 192 "CutAtlasModel" "cuts" "I") (List.mem_of_getElem? (i := 1) rfl)) (fun _ h9 => h9) rfl (by decide +kernel) rfl rfl (Nat.le_of_ble_eq_true rfl) dB_3_1_18.2.1.2 (fun H locs hP hD hS => ?_)
                      refine pd_K [ob12_0_ mo s0 s1 t2 s3 s4 g5 g6 g7 g8 g9 g10 s11 g12 g13 g14 g15 g16 g17 g18 g19 g20 s21 g22 g23 g24 y_50 o26_1 o27_1 x5_1 g29 g30 g31 g32 g33, ai_ cy g5 40 f5, ai_ cy g6 40 f6, ai_ cy g7 40 f7, ai_ cy g8 40 f8, az_ cy g10 40 f10] hP hD (fun hP hD => ?_)
                      obtain ⟨y_51, ey_51⟩ : ∃ y : Int32, y = x5_1 + 1 := ⟨_, rfl⟩
                      have ty_51 : y_51.toInt = x5_1.toInt + (1 : Int32).toInt := by rw [ey_51]; exact addI (by omega) (by omega)
                      refine lv_iinc (v := y_51) (lv' := [(5, .int y_51), (0, .ref mo), (1, .int a1), (2, .int a2), (3, .int a3), (4, .int a4)]) hx hb dB_3_1_18.2.2.1 hl (k := 0) rfl (by rw [ey_51]; rfl) (by decide) rfl (fun ls hl => ?_)
                      refine lv_goto (tgt := 26) hx hb dB_3_1_18.2.2.2.1 (by decide) ?_
                      exact ih_1 y_51 y_50 o26_1 o27_1 x5_1 _ _ _ (by omega) (by first | with_reducible assumption | omega | assumption) (by first | with_reducible assumption | omega | assumption) ⟨hP, hD⟩ hS (lv_sub hl [0, 1, 2, 3, 4, 5] rfl)
                  · have t_46 : ¬ r_44.toInt ≤ r_45.toInt := fun h => c_46 (Int32.le_iff_toInt_le.mpr h)
                    refine lv_iload hx hb dB_3_1_17.1.1.1.2 (lv_at hl 0 rfl) ?_
                    refine lv_goto (tgt := 137) hx hb dB_3_1_17.1.1.2.1 (by decide) ?_
                    refine va_put (ci := 12) (v := .int x5_1) (ty := .int) (C := RX12) (T := TX12) (N := 34) hx hb hts (fun _ h => List.mem_cons_of_mem _ (List.mem_append_right _ h)) tyX12 tyX12_ok nmX12 hown hK.1 hP hD hS 0 rfl rfl 27 (by decide) (hts (.fieldLink RX12 198 "CutAtlasModel" "far" "I") (List.mem_of_getElem? (i := 3) rfl)) (fun _ h9 => h9) rfl (by decide +kernel) rfl rfl (Nat.le_of_ble_eq_true rfl) dB_3_1_17.1.2.1.2 (fun H locs hP hD hS => ?_)
                    refine pd_K [ob12_0_ mo s0 s1 t2 s3 s4 g5 g6 g7 g8 g9 g10 s11 g12 g13 g14 g15 g16 g17 g18 g19 g20 s21 g22 g23 g24 o25_1 o26_1 x5_1 o28_1 g29 g30 g31 g32 g33, ai_ cy g5 40 f5, ai_ cy g6 40 f6, ai_ cy g7 40 f7, ai_ cy g8 40 f8, az_ cy g10 40 f10] hP hD (fun hP hD => ?_)
                    refine lv_aload_n hx hb dB_3_1_17.1.2.2.1 rfl (lv_at hl 1 rfl) ?_
                    refine lv_aload_n hx hb dB_3_1_17.1.2.2.2 rfl (lv_at hl 1 rfl) ?_
                    refine va_get (ci := 12) (v := .int o25_1) (C := RX12) (T := TX12) (N := 34) hx hb hts (fun _ h => List.mem_cons_of_mem _ (List.mem_append_right _ h)) hown hK.1 hP 0 rfl rfl 25 (by decide) (hts (.fieldLink RX12 192 "CutAtlasModel" "cuts" "I") (List.mem_of_getElem? (i := 1) rfl)) (fun _ h9 => h9) rfl dB_3_1_17.2.1.1.1 ?_
                    refine lv_iload hx hb dB_3_1_17.2.1.1.2 (lv_at hl 5 rfl) ?_
                    refine lv_icmp_ne (tgt := 155) hx hb dB_3_1_17.2.1.2.1 (by decide) (fun c_52 => ?_) (fun c_52 => ?_)
                    · have t_52 : ¬ o25_1.toInt = a4.toInt := fun h => c_52 (Int32.toInt_inj.mp h)
                      refine lv_aload_n hx hb dB_3_1_17.2.2.1.2 rfl (lv_at hl 1 rfl) ?_
                      refine va_get (ci := 12) (v := .int o28_1) (C := RX12) (T := TX12) (N := 34) hx hb hts (fun _ h => List.mem_cons_of_mem _ (List.mem_append_right _ h)) hown hK.1 hP 0 rfl rfl 28 (by decide) (hts (.fieldLink RX12 201 "CutAtlasModel" "chosen" "I") (List.mem_of_getElem? (i := 4) rfl)) (fun _ h9 => h9) rfl dB_3_1_17.2.2.2.1 ?_
                      refine va_put (ci := 12) (v := .int o28_1) (ty := .int) (C := RX12) (T := TX12) (N := 34) hx hb hts (fun _ h => List.mem_cons_of_mem _ (List.mem_append_right _ h)) tyX12 tyX12_ok nmX12 hown hK.1 hP hD hS 0 rfl rfl 28 (by decide) (hts (.fieldLink RX12 201 "CutAtlasModel" "chosen" "I") (List.mem_of_getElem? (i := 4) rfl)) (fun _ h9 => h9) rfl (by decide +kernel) rfl rfl (Nat.le_of_ble_eq_true rfl) dB_3_1_17.2.2.2.2 (fun H locs hP hD hS => ?_)
                      refine pd_K [ob12_0_ mo s0 s1 t2 s3 s4 g5 g6 g7 g8 g9 g10 s11 g12 g13 g14 g15 g16 g17 g18 g19 g20 s21 g22 g23 g24 o25_1 o26_1 x5_1 o28_1 g29 g30 g31 g32 g33, ai_ cy g5 40 f5, ai_ cy g6 40 f6, ai_ cy g7 40 f7, ai_ cy g8 40 f8, az_ cy g10 40 f10] hP hD (fun hP hD => ?_)
                      refine lv_aload_n hx hb dB_3_1_18.1.1.1 rfl (lv_at hl 1 rfl) ?_
                      refine lv_dup hx hb dB_3_1_18.1.1.2 rfl ?_
                      refine va_get (ci := 12) (v := .int o25_1) (C := RX12) (T := TX12) (N := 34) hx hb hts (fun _ h => List.mem_cons_of_mem _ (List.mem_append_right _ h)) hown hK.1 hP 0 rfl rfl 25 (by decide) (hts (.fieldLink RX12 192 "CutAtlasModel" "cuts" "I") (List.mem_of_getElem? (i := 1) rfl)) (fun _ h9 => h9) rfl dB_3_1_18.1.2.1 ?_
                      refine lv_iconst (v := 1) hx hb dB_3_1_18.1.2.2 (by decide) ?_
                      refine lv_iadd hx hb dB_3_1_18.2.1.1 ?_
                      refine lv_topi (fun y_53 ey_53 => ?_)
                      refine va_put (ci := 12) (v := .int y_53) (ty := .int) (C := RX12) (T := TX12) (N := 34) hx hb hts (fun _ h => List.mem_cons_of_mem _ (List.mem_append_right _ h)) tyX12 tyX12_ok nmX12 hown hK.1 hP hD hS 0 rfl rfl 25 (by decide) (hts (.fieldLink RX12 192 "CutAtlasModel" "cuts" "I") (List.mem_of_getElem? (i := 1) rfl)) (fun _ h9 => h9) rfl (by decide +kernel) rfl rfl (Nat.le_of_ble_eq_true rfl) dB_3_1_18.2.1.2 (fun H locs hP hD hS => ?_)
                      refine pd_K [ob12_0_ mo s0 s1 t2 s3 s4 g5 g6 g7 g8 g9 g10 s11 g12 g13 g14 g15 g16 g17 g18 g19 g20 s21 g22 g23 g24 y_53 o26_1 x5_1 o28_1 g29 g30 g31 g32 g33, ai_ cy g5 40 f5, ai_ cy g6 40 f6, ai_ cy g7 40 f7, ai_ cy g8 40 f8, az_ cy g10 40 f10] hP hD (fun hP hD => ?_)
                      obtain ⟨y_54, ey_54⟩ : ∃ y : Int32, y = x5_1 + 1 := ⟨_, rfl⟩
                      have ty_54 : y_54.toInt = x5_1.toInt + (1 : Int32).toInt := by rw [ey_54]; exact addI (by omega) (by omega)
                      refine lv_iinc (v := y_54) (lv' := [(5, .int y_54), (0, .ref mo), (1, .int a1), (2, .int a2), (3, .int a3), (4, .int a4)]) hx hb dB_3_1_18.2.2.1 hl (k := 0) rfl (by rw [ey_54]; rfl) (by decide) rfl (fun ls hl => ?_)
                      refine lv_goto (tgt := 26) hx hb dB_3_1_18.2.2.2.1 (by decide) ?_
                      exact ih_1 y_54 y_53 o26_1 x5_1 o28_1 _ _ _ (by omega) (by first | with_reducible assumption | omega | assumption) (by first | with_reducible assumption | omega | assumption) ⟨hP, hD⟩ hS (lv_sub hl [0, 1, 2, 3, 4, 5] rfl)
                    · have t_52 : o25_1.toInt = a4.toInt := congrArg Int32.toInt c_52
                      refine lv_iload hx hb dB_3_1_17.2.1.2.2 (lv_at hl 0 rfl) ?_
                      refine lv_goto (tgt := 159) hx hb dB_3_1_17.2.2.1.1 (by decide) ?_
                      refine va_put (ci := 12) (v := .int x5_1) (ty := .int) (C := RX12) (T := TX12) (N := 34) hx hb hts (fun _ h => List.mem_cons_of_mem _ (List.mem_append_right _ h)) tyX12 tyX12_ok nmX12 hown hK.1 hP hD hS 0 rfl rfl 28 (by decide) (hts (.fieldLink RX12 201 "CutAtlasModel" "chosen" "I") (List.mem_of_getElem? (i := 4) rfl)) (fun _ h9 => h9) rfl (by decide +kernel) rfl rfl (Nat.le_of_ble_eq_true rfl) dB_3_1_17.2.2.2.2 (fun H locs hP hD hS => ?_)
                      refine pd_K [ob12_0_ mo s0 s1 t2 s3 s4 g5 g6 g7 g8 g9 g10 s11 g12 g13 g14 g15 g16 g17 g18 g19 g20 s21 g22 g23 g24 o25_1 o26_1 x5_1 x5_1 g29 g30 g31 g32 g33, ai_ cy g5 40 f5, ai_ cy g6 40 f6, ai_ cy g7 40 f7, ai_ cy g8 40 f8, az_ cy g10 40 f10] hP hD (fun hP hD => ?_)
                      refine lv_aload_n hx hb dB_3_1_18.1.1.1 rfl (lv_at hl 1 rfl) ?_
                      refine lv_dup hx hb dB_3_1_18.1.1.2 rfl ?_
                      refine va_get (ci := 12) (v := .int o25_1) (C := RX12) (T := TX12) (N := 34) hx hb hts (fun _ h => List.mem_cons_of_mem _ (List.mem_append_right _ h)) hown hK.1 hP 0 rfl rfl 25 (by decide) (hts (.fieldLink RX12 192 "CutAtlasModel" "cuts" "I") (List.mem_of_getElem? (i := 1) rfl)) (fun _ h9 => h9) rfl dB_3_1_18.1.2.1 ?_
                      refine lv_iconst (v := 1) hx hb dB_3_1_18.1.2.2 (by decide) ?_
                      refine lv_iadd hx hb dB_3_1_18.2.1.1 ?_
                      refine lv_topi (fun y_55 ey_55 => ?_)
                      refine va_put (ci := 12) (v := .int y_55) (ty := .int) (C := RX12) (T := TX12) (N := 34) hx hb hts (fun _ h => List.mem_cons_of_mem _ (List.mem_append_right _ h)) tyX12 tyX12_ok nmX12 hown hK.1 hP hD hS 0 rfl rfl 25 (by decide) (hts (.fieldLink RX12 192 "CutAtlasModel" "cuts" "I") (List.mem_of_getElem? (i := 1) rfl)) (fun _ h9 => h9) rfl (by decide +kernel) rfl rfl (Nat.le_of_ble_eq_true rfl) dB_3_1_18.2.1.2 (fun H locs hP hD hS => ?_)
                      refine pd_K [ob12_0_ mo s0 s1 t2 s3 s4 g5 g6 g7 g8 g9 g10 s11 g12 g13 g14 g15 g16 g17 g18 g19 g20 s21 g22 g23 g24 y_55 o26_1 x5_1 x5_1 g29 g30 g31 g32 g33, ai_ cy g5 40 f5, ai_ cy g6 40 f6, ai_ cy g7 40 f7, ai_ cy g8 40 f8, az_ cy g10 40 f10] hP hD (fun hP hD => ?_)
                      obtain ⟨y_56, ey_56⟩ : ∃ y : Int32, y = x5_1 + 1 := ⟨_, rfl⟩
                      have ty_56 : y_56.toInt = x5_1.toInt + (1 : Int32).toInt := by rw [ey_56]; exact addI (by omega) (by omega)
                      refine lv_iinc (v := y_56) (lv' := [(5, .int y_56), (0, .ref mo), (1, .int a1), (2, .int a2), (3, .int a3), (4, .int a4)]) hx hb dB_3_1_18.2.2.1 hl (k := 0) rfl (by rw [ey_56]; rfl) (by decide) rfl (fun ls hl => ?_)
                      refine lv_goto (tgt := 26) hx hb dB_3_1_18.2.2.2.1 (by decide) ?_
                      exact ih_1 y_56 y_55 o26_1 x5_1 x5_1 _ _ _ (by omega) (by first | with_reducible assumption | omega | assumption) (by first | with_reducible assumption | omega | assumption) ⟨hP, hD⟩ hS (lv_sub hl [0, 1, 2, 3, 4, 5] rfl)
              · have t_37 : ¬ r_36.toInt ≤ r_35.toInt := fun h => c_37 (Int32.le_iff_toInt_le.mpr h)
                refine lv_iload hx hb dB_3_1_16.1.1.1.2 (lv_at hl 0 rfl) ?_
                refine lv_goto (tgt := 100) hx hb dB_3_1_16.1.1.2.1 (by decide) ?_
                refine va_put (ci := 12) (v := .int x5_1) (ty := .int) (C := RX12) (T := TX12) (N := 34) hx hb hts (fun _ h => List.mem_cons_of_mem _ (List.mem_append_right _ h)) tyX12 tyX12_ok nmX12 hown hK.1 hP hD hS 0 rfl rfl 26 (by decide) (hts (.fieldLink RX12 195 "CutAtlasModel" "near" "I") (List.mem_of_getElem? (i := 2) rfl)) (fun _ h9 => h9) rfl (by decide +kernel) rfl rfl (Nat.le_of_ble_eq_true rfl) dB_3_1_16.1.2.1.2 (fun H locs hP hD hS => ?_)
                refine pd_K [ob12_0_ mo s0 s1 t2 s3 s4 g5 g6 g7 g8 g9 g10 s11 g12 g13 g14 g15 g16 g17 g18 g19 g20 s21 g22 g23 g24 o25_1 x5_1 o27_1 o28_1 g29 g30 g31 g32 g33, ai_ cy g5 40 f5, ai_ cy g6 40 f6, ai_ cy g7 40 f7, ai_ cy g8 40 f8, az_ cy g10 40 f10] hP hD (fun hP hD => ?_)
                refine lv_aload_n hx hb dB_3_1_16.1.2.2.1 rfl (lv_at hl 1 rfl) ?_
                refine lv_aload_n hx hb dB_3_1_16.1.2.2.2 rfl (lv_at hl 1 rfl) ?_
                refine va_get (ci := 12) (v := .int o27_1) (C := RX12) (T := TX12) (N := 34) hx hb hts (fun _ h => List.mem_cons_of_mem _ (List.mem_append_right _ h)) hown hK.1 hP 0 rfl rfl 27 (by decide) (hts (.fieldLink RX12 198 "CutAtlasModel" "far" "I") (List.mem_of_getElem? (i := 3) rfl)) (fun _ h9 => h9) rfl dB_3_1_16.2.1.1.1 ?_
                refine lv_bipush (v := (-9)) hx hb dB_3_1_16.2.1.1.2 (by decide) ?_
                refine lv_icmp_eq (tgt := 128) hx hb dB_3_1_16.2.1.2.1 (by decide) (fun c_57 => ?_) (fun c_57 => ?_)
                · have t_57 : o27_1.toInt = ((-9) : Int32).toInt := congrArg Int32.toInt c_57
                  refine lv_iload hx hb dB_3_1_17.1.1.1.2 (lv_at hl 0 rfl) ?_
                  refine lv_goto (tgt := 137) hx hb dB_3_1_17.1.1.2.1 (by decide) ?_
                  refine va_put (ci := 12) (v := .int x5_1) (ty := .int) (C := RX12) (T := TX12) (N := 34) hx hb hts (fun _ h => List.mem_cons_of_mem _ (List.mem_append_right _ h)) tyX12 tyX12_ok nmX12 hown hK.1 hP hD hS 0 rfl rfl 27 (by decide) (hts (.fieldLink RX12 198 "CutAtlasModel" "far" "I") (List.mem_of_getElem? (i := 3) rfl)) (fun _ h9 => h9) rfl (by decide +kernel) rfl rfl (Nat.le_of_ble_eq_true rfl) dB_3_1_17.1.2.1.2 (fun H locs hP hD hS => ?_)
                  refine pd_K [ob12_0_ mo s0 s1 t2 s3 s4 g5 g6 g7 g8 g9 g10 s11 g12 g13 g14 g15 g16 g17 g18 g19 g20 s21 g22 g23 g24 o25_1 x5_1 x5_1 o28_1 g29 g30 g31 g32 g33, ai_ cy g5 40 f5, ai_ cy g6 40 f6, ai_ cy g7 40 f7, ai_ cy g8 40 f8, az_ cy g10 40 f10] hP hD (fun hP hD => ?_)
                  refine lv_aload_n hx hb dB_3_1_17.1.2.2.1 rfl (lv_at hl 1 rfl) ?_
                  refine lv_aload_n hx hb dB_3_1_17.1.2.2.2 rfl (lv_at hl 1 rfl) ?_
                  refine va_get (ci := 12) (v := .int o25_1) (C := RX12) (T := TX12) (N := 34) hx hb hts (fun _ h => List.mem_cons_of_mem _ (List.mem_append_right _ h)) hown hK.1 hP 0 rfl rfl 25 (by decide) (hts (.fieldLink RX12 192 "CutAtlasModel" "cuts" "I") (List.mem_of_getElem? (i := 1) rfl)) (fun _ h9 => h9) rfl dB_3_1_17.2.1.1.1 ?_
                  refine lv_iload hx hb dB_3_1_17.2.1.1.2 (lv_at hl 5 rfl) ?_
                  refine lv_icmp_ne (tgt := 155) hx hb dB_3_1_17.2.1.2.1 (by decide) (fun c_58 => ?_) (fun c_58 => ?_)
                  · have t_58 : ¬ o25_1.toInt = a4.toInt := fun h => c_58 (Int32.toInt_inj.mp h)
                    refine lv_aload_n hx hb dB_3_1_17.2.2.1.2 rfl (lv_at hl 1 rfl) ?_
                    refine va_get (ci := 12) (v := .int o28_1) (C := RX12) (T := TX12) (N := 34) hx hb hts (fun _ h => List.mem_cons_of_mem _ (List.mem_append_right _ h)) hown hK.1 hP 0 rfl rfl 28 (by decide) (hts (.fieldLink RX12 201 "CutAtlasModel" "chosen" "I") (List.mem_of_getElem? (i := 4) rfl)) (fun _ h9 => h9) rfl dB_3_1_17.2.2.2.1 ?_
                    refine va_put (ci := 12) (v := .int o28_1) (ty := .int) (C := RX12) (T := TX12) (N := 34) hx hb hts (fun _ h => List.mem_cons_of_mem _ (List.mem_append_right _ h)) tyX12 tyX12_ok nmX12 hown hK.1 hP hD hS 0 rfl rfl 28 (by decide) (hts (.fieldLink RX12 201 "CutAtlasModel" "chosen" "I") (List.mem_of_getElem? (i := 4) rfl)) (fun _ h9 => h9) rfl (by decide +kernel) rfl rfl (Nat.le_of_ble_eq_true rfl) dB_3_1_17.2.2.2.2 (fun H locs hP hD hS => ?_)
                    refine pd_K [ob12_0_ mo s0 s1 t2 s3 s4 g5 g6 g7 g8 g9 g10 s11 g12 g13 g14 g15 g16 g17 g18 g19 g20 s21 g22 g23 g24 o25_1 x5_1 x5_1 o28_1 g29 g30 g31 g32 g33, ai_ cy g5 40 f5, ai_ cy g6 40 f6, ai_ cy g7 40 f7, ai_ cy g8 40 f8, az_ cy g10 40 f10] hP hD (fun hP hD => ?_)
                    refine lv_aload_n hx hb dB_3_1_18.1.1.1 rfl (lv_at hl 1 rfl) ?_
                    refine lv_dup hx hb dB_3_1_18.1.1.2 rfl ?_
                    refine va_get (ci := 12) (v := .int o25_1) (C := RX12) (T := TX12) (N := 34) hx hb hts (fun _ h => List.mem_cons_of_mem _ (List.mem_append_right _ h)) hown hK.1 hP 0 rfl rfl 25 (by decide) (hts (.fieldLink RX12 192 "CutAtlasModel" "cuts" "I") (List.mem_of_getElem? (i := 1) rfl)) (fun _ h9 => h9) rfl dB_3_1_18.1.2.1 ?_
                    refine lv_iconst (v := 1) hx hb dB_3_1_18.1.2.2 (by decide) ?_
                    refine lv_iadd hx hb dB_3_1_18.2.1.1 ?_
                    refine lv_topi (fun y_59 ey_59 => ?_)
                    refine va_put (ci := 12) (v := .int y_59) (ty := .int) (C := RX12) (T := TX12) (N := 34) hx hb hts (fun _ h => List.mem_cons_of_mem _ (List.mem_append_right _ h)) tyX12 tyX12_ok nmX12 hown hK.1 hP hD hS 0 rfl rfl 25 (by decide) (hts (.fieldLink RX12 192 "CutAtlasModel" "cuts" "I") (List.mem_of_getElem? (i := 1) rfl)) (fun _ h9 => h9) rfl (by decide +kernel) rfl rfl (Nat.le_of_ble_eq_true rfl) dB_3_1_18.2.1.2 (fun H locs hP hD hS => ?_)
                    refine pd_K [ob12_0_ mo s0 s1 t2 s3 s4 g5 g6 g7 g8 g9 g10 s11 g12 g13 g14 g15 g16 g17 g18 g19 g20 s21 g22 g23 g24 y_59 x5_1 x5_1 o28_1 g29 g30 g31 g32 g33, ai_ cy g5 40 f5, ai_ cy g6 40 f6, ai_ cy g7 40 f7, ai_ cy g8 40 f8, az_ cy g10 40 f10] hP hD (fun hP hD => ?_)
                    obtain ⟨y_60, ey_60⟩ : ∃ y : Int32, y = x5_1 + 1 := ⟨_, rfl⟩
                    have ty_60 : y_60.toInt = x5_1.toInt + (1 : Int32).toInt := by rw [ey_60]; exact addI (by omega) (by omega)
                    refine lv_iinc (v := y_60) (lv' := [(5, .int y_60), (0, .ref mo), (1, .int a1), (2, .int a2), (3, .int a3), (4, .int a4)]) hx hb dB_3_1_18.2.2.1 hl (k := 0) rfl (by rw [ey_60]; rfl) (by decide) rfl (fun ls hl => ?_)
                    refine lv_goto (tgt := 26) hx hb dB_3_1_18.2.2.2.1 (by decide) ?_
                    exact ih_1 y_60 y_59 x5_1 x5_1 o28_1 _ _ _ (by omega) (by first | with_reducible assumption | omega | assumption) (by first | with_reducible assumption | omega | assumption) ⟨hP, hD⟩ hS (lv_sub hl [0, 1, 2, 3, 4, 5] rfl)
                  · have t_58 : o25_1.toInt = a4.toInt := congrArg Int32.toInt c_58
                    refine lv_iload hx hb dB_3_1_17.2.1.2.2 (lv_at hl 0 rfl) ?_
                    refine lv_goto (tgt := 159) hx hb dB_3_1_17.2.2.1.1 (by decide) ?_
                    refine va_put (ci := 12) (v := .int x5_1) (ty := .int) (C := RX12) (T := TX12) (N := 34) hx hb hts (fun _ h => List.mem_cons_of_mem _ (List.mem_append_right _ h)) tyX12 tyX12_ok nmX12 hown hK.1 hP hD hS 0 rfl rfl 28 (by decide) (hts (.fieldLink RX12 201 "CutAtlasModel" "chosen" "I") (List.mem_of_getElem? (i := 4) rfl)) (fun _ h9 => h9) rfl (by decide +kernel) rfl rfl (Nat.le_of_ble_eq_true rfl) dB_3_1_17.2.2.2.2 (fun H locs hP hD hS => ?_)
                    refine pd_K [ob12_0_ mo s0 s1 t2 s3 s4 g5 g6 g7 g8 g9 g10 s11 g12 g13 g14 g15 g16 g17 g18 g19 g20 s21 g22 g23 g24 o25_1 x5_1 x5_1 x5_1 g29 g30 g31 g32 g33, ai_ cy g5 40 f5, ai_ cy g6 40 f6, ai_ cy g7 40 f7, ai_ cy g8 40 f8, az_ cy g10 40 f10] hP hD (fun hP hD => ?_)
                    refine lv_aload_n hx hb dB_3_1_18.1.1.1 rfl (lv_at hl 1 rfl) ?_
                    refine lv_dup hx hb dB_3_1_18.1.1.2 rfl ?_
                    refine va_get (ci := 12) (v := .int o25_1) (C := RX12) (T := TX12) (N := 34) hx hb hts (fun _ h => List.mem_cons_of_mem _ (List.mem_append_right _ h)) hown hK.1 hP 0 rfl rfl 25 (by decide) (hts (.fieldLink RX12 192 "CutAtlasModel" "cuts" "I") (List.mem_of_getElem? (i := 1) rfl)) (fun _ h9 => h9) rfl dB_3_1_18.1.2.1 ?_
                    refine lv_iconst (v := 1) hx hb dB_3_1_18.1.2.2 (by decide) ?_
                    refine lv_iadd hx hb dB_3_1_18.2.1.1 ?_
                    refine lv_topi (fun y_61 ey_61 => ?_)
                    refine va_put (ci := 12) (v := .int y_61) (ty := .int) (C := RX12) (T := TX12) (N := 34) hx hb hts (fun _ h => List.mem_cons_of_mem _ (List.mem_append_right _ h)) tyX12 tyX12_ok nmX12 hown hK.1 hP hD hS 0 rfl rfl 25 (by decide) (hts (.fieldLink RX12 192 "CutAtlasModel" "cuts" "I") (List.mem_of_getElem? (i := 1) rfl)) (fun _ h9 => h9) rfl (by decide +kernel) rfl rfl (Nat.le_of_ble_eq_true rfl) dB_3_1_18.2.1.2 (fun H locs hP hD hS => ?_)
                    refine pd_K [ob12_0_ mo s0 s1 t2 s3 s4 g5 g6 g7 g8 g9 g10 s11 g12 g13 g14 g15 g16 g17 g18 g19 g20 s21 g22 g23 g24 y_61 x5_1 x5_1 x5_1 g29 g30 g31 g32 g33, ai_ cy g5 40 f5, ai_ cy g6 40 f6, ai_ cy g7 40 f7, ai_ cy g8 40 f8, az_ cy g10 40 f10] hP hD (fun hP hD => ?_)
                    obtain ⟨y_62, ey_62⟩ : ∃ y : Int32, y = x5_1 + 1 := ⟨_, rfl⟩
                    have ty_62 : y_62.toInt = x5_1.toInt + (1 : Int32).toInt := by rw [ey_62]; exact addI (by omega) (by omega)
                    refine lv_iinc (v := y_62) (lv' := [(5, .int y_62), (0, .ref mo), (1, .int a1), (2, .int a2), (3, .int a3), (4, .int a4)]) hx hb dB_3_1_18.2.2.1 hl (k := 0) rfl (by rw [ey_62]; rfl) (by decide) rfl (fun ls hl => ?_)
                    refine lv_goto (tgt := 26) hx hb dB_3_1_18.2.2.2.1 (by decide) ?_
                    exact ih_1 y_62 y_61 x5_1 x5_1 x5_1 _ _ _ (by omega) (by first | with_reducible assumption | omega | assumption) (by first | with_reducible assumption | omega | assumption) ⟨hP, hD⟩ hS (lv_sub hl [0, 1, 2, 3, 4, 5] rfl)
                · have t_57 : ¬ o27_1.toInt = ((-9) : Int32).toInt := fun h => c_57 (Int32.toInt_inj.mp h)
                  refine lv_iload hx hb dB_3_1_16.2.1.2.2 (lv_at hl 0 rfl) ?_
                  refine ct_R hP hD [] [] (by decide) rfl (fun hPc hDw => ?_)
                  have hFc := va_free (wc := []) hD hS hA [] rfl
                  refine va_calli (va_runS (As := [.int x5_1]) (rest := [.ref mo]) ⟨hx, hb, hml, hown, hts⟩ (c_X12_bitsOf l D cy H.size x5_1) (va_cwS 1 hts gX12_cutsOf_X12_bitsOf rfl rfl rfl hd_X12_bitsOf ⟨Nat.le_of_ble_eq_true rfl, Nat.le_of_ble_eq_true rfl⟩) ⟨bl_, fun U hU hW => ⟨rfl, by rw [hU], by rw [hU]; exact hPc, kk_mv hW hK, hDw⟩⟩ rfl rfl hl.1 rfl (lv_room (Nat.le_of_ble_eq_true rfl)) dB_3_1_16.2.2.1.1 ⟨Nat.le_of_ble_eq_true rfl, Nat.le_of_ble_eq_true rfl⟩) hS (fun q _ h => hFc q h) hFc (fun r_63 u t H locs ht hvm hw hB hz1 hk1 hS => ?_)
                  have hP : va_P D vwCl _ H := ro_keep hP hk1
                  refine lv_aload_n hx hb dB_3_1_16.2.2.1.2 rfl (lv_at hl 1 rfl) ?_
                  refine va_get (ci := 12) (v := .int o27_1) (C := RX12) (T := TX12) (N := 34) hx hb hts (fun _ h => List.mem_cons_of_mem _ (List.mem_append_right _ h)) hown hK.1 hP 0 rfl rfl 27 (by decide) (hts (.fieldLink RX12 198 "CutAtlasModel" "far" "I") (List.mem_of_getElem? (i := 3) rfl)) (fun _ h9 => h9) rfl dB_3_1_16.2.2.2.1 ?_
                  refine ct_R hP hD [] [] (by decide) rfl (fun hPc hDw => ?_)
                  have hFc := va_free (wc := []) hD hS hA [] rfl
                  refine va_calli (va_runS (As := [.int o27_1]) (rest := [.int r_63, .ref mo]) ⟨hx, hb, hml, hown, hts⟩ (c_X12_bitsOf l D cy H.size o27_1) (va_cwS 1 hts gX12_cutsOf_X12_bitsOf rfl rfl rfl hd_X12_bitsOf ⟨Nat.le_of_ble_eq_true rfl, Nat.le_of_ble_eq_true rfl⟩) ⟨bl_, fun U hU hW => ⟨rfl, by rw [hU], by rw [hU]; exact hPc, kk_mv hW hK, hDw⟩⟩ rfl rfl hl.1 rfl (lv_room (Nat.le_of_ble_eq_true rfl)) dB_3_1_16.2.2.2.2 ⟨Nat.le_of_ble_eq_true rfl, Nat.le_of_ble_eq_true rfl⟩) hS (fun q _ h => hFc q h) hFc (fun r_64 u t H locs ht hvm hw hB hz1 hk1 hS => ?_)
                  have hP : va_P D vwCl _ H := ro_keep hP hk1
                  refine lv_icmp_le (tgt := 133) hx hb dB_3_1_17.1.1.1.1 (by decide) (fun c_65 => ?_) (fun c_65 => ?_)
                  · have t_65 : r_63.toInt ≤ r_64.toInt := Int32.le_iff_toInt_le.mp c_65
                    refine lv_aload_n hx hb dB_3_1_17.1.1.2.2 rfl (lv_at hl 1 rfl) ?_
                    refine va_get (ci := 12) (v := .int o27_1) (C := RX12) (T := TX12) (N := 34) hx hb hts (fun _ h => List.mem_cons_of_mem _ (List.mem_append_right _ h)) hown hK.1 hP 0 rfl rfl 27 (by decide) (hts (.fieldLink RX12 198 "CutAtlasModel" "far" "I") (List.mem_of_getElem? (i := 3) rfl)) (fun _ h9 => h9) rfl dB_3_1_17.1.2.1.1 ?_
                    refine va_put (ci := 12) (v := .int o27_1) (ty := .int) (C := RX12) (T := TX12) (N := 34) hx hb hts (fun _ h => List.mem_cons_of_mem _ (List.mem_append_right _ h)) tyX12 tyX12_ok nmX12 hown hK.1 hP hD hS 0 rfl rfl 27 (by decide) (hts (.fieldLink RX12 198 "CutAtlasModel" "far" "I") (List.mem_of_getElem? (i := 3) rfl)) (fun _ h9 => h9) rfl (by decide +kernel) rfl rfl (Nat.le_of_ble_eq_true rfl) dB_3_1_17.1.2.1.2 (fun H locs hP hD hS => ?_)
                    refine pd_K [ob12_0_ mo s0 s1 t2 s3 s4 g5 g6 g7 g8 g9 g10 s11 g12 g13 g14 g15 g16 g17 g18 g19 g20 s21 g22 g23 g24 o25_1 x5_1 o27_1 o28_1 g29 g30 g31 g32 g33, ai_ cy g5 40 f5, ai_ cy g6 40 f6, ai_ cy g7 40 f7, ai_ cy g8 40 f8, az_ cy g10 40 f10] hP hD (fun hP hD => ?_)
                    refine lv_aload_n hx hb dB_3_1_17.1.2.2.1 rfl (lv_at hl 1 rfl) ?_
                    refine lv_aload_n hx hb dB_3_1_17.1.2.2.2 rfl (lv_at hl 1 rfl) ?_
                    refine va_get (ci := 12) (v := .int o25_1) (C := RX12) (T := TX12) (N := 34) hx hb hts (fun _ h => List.mem_cons_of_mem _ (List.mem_append_right _ h)) hown hK.1 hP 0 rfl rfl 25 (by decide) (hts (.fieldLink RX12 192 "CutAtlasModel" "cuts" "I") (List.mem_of_getElem? (i := 1) rfl)) (fun _ h9 => h9) rfl dB_3_1_17.2.1.1.1 ?_
                    refine lv_iload hx hb dB_3_1_17.2.1.1.2 (lv_at hl 5 rfl) ?_
                    refine lv_icmp_ne (tgt := 155) hx hb dB_3_1_17.2.1.2.1 (by decide) (fun c_66 => ?_) (fun c_66 => ?_)
                    · have t_66 : ¬ o25_1.toInt = a4.toInt := fun h => c_66 (Int32.toInt_inj.mp h)
                      refine lv_aload_n hx hb dB_3_1_17.2.2.1.2 rfl (lv_at hl 1 rfl) ?_
                      refine va_get (ci := 12) (v := .int o28_1) (C := RX12) (T := TX12) (N := 34) hx hb hts (fun _ h => List.mem_cons_of_mem _ (List.mem_append_right _ h)) hown hK.1 hP 0 rfl rfl 28 (by decide) (hts (.fieldLink RX12 201 "CutAtlasModel" "chosen" "I") (List.mem_of_getElem? (i := 4) rfl)) (fun _ h9 => h9) rfl dB_3_1_17.2.2.2.1 ?_
                      refine va_put (ci := 12) (v := .int o28_1) (ty := .int) (C := RX12) (T := TX12) (N := 34) hx hb hts (fun _ h => List.mem_cons_of_mem _ (List.mem_append_right _ h)) tyX12 tyX12_ok nmX12 hown hK.1 hP hD hS 0 rfl rfl 28 (by decide) (hts (.fieldLink RX12 201 "CutAtlasModel" "chosen" "I") (List.mem_of_getElem? (i := 4) rfl)) (fun _ h9 => h9) rfl (by decide +kernel) rfl rfl (Nat.le_of_ble_eq_true rfl) dB_3_1_17.2.2.2.2 (fun H locs hP hD hS => ?_)
                      refine pd_K [ob12_0_ mo s0 s1 t2 s3 s4 g5 g6 g7 g8 g9 g10 s11 g12 g13 g14 g15 g16 g17 g18 g19 g20 s21 g22 g23 g24 o25_1 x5_1 o27_1 o28_1 g29 g30 g31 g32 g33, ai_ cy g5 40 f5, ai_ cy g6 40 f6, ai_ cy g7 40 f7, ai_ cy g8 40 f8, az_ cy g10 40 f10] hP hD (fun hP hD => ?_)
                      refine lv_aload_n hx hb dB_3_1_18.1.1.1 rfl (lv_at hl 1 rfl) ?_
                      refine lv_dup hx hb dB_3_1_18.1.1.2 rfl ?_
                      refine va_get (ci := 12) (v := .int o25_1) (C := RX12) (T := TX12) (N := 34) hx hb hts (fun _ h => List.mem_cons_of_mem _ (List.mem_append_right _ h)) hown hK.1 hP 0 rfl rfl 25 (by decide) (hts (.fieldLink RX12 192 "CutAtlasModel" "cuts" "I") (List.mem_of_getElem? (i := 1) rfl)) (fun _ h9 => h9) rfl dB_3_1_18.1.2.1 ?_
                      refine lv_iconst (v := 1) hx hb dB_3_1_18.1.2.2 (by decide) ?_
                      refine lv_iadd hx hb dB_3_1_18.2.1.1 ?_
                      refine lv_topi (fun y_67 ey_67 => ?_)
                      refine va_put (ci := 12) (v := .int y_67) (ty := .int) (C := RX12) (T := TX12) (N := 34) hx hb hts (fun _ h => List.mem_cons_of_mem _ (List.mem_append_right _ h)) tyX12 tyX12_ok nmX12 hown hK.1 hP hD hS 0 rfl rfl 25 (by decide) (hts (.fieldLink RX12 192 "CutAtlasModel" "cuts" "I") (List.mem_of_getElem? (i := 1) rfl)) (fun _ h9 => h9) rfl (by decide +kernel) rfl rfl (Nat.le_of_ble_eq_true rfl) dB_3_1_18.2.1.2 (fun H locs hP hD hS => ?_)
                      refine pd_K [ob12_0_ mo s0 s1 t2 s3 s4 g5 g6 g7 g8 g9 g10 s11 g12 g13 g14 g15 g16 g17 g18 g19 g20 s21 g22 g23 g24 y_67 x5_1 o27_1 o28_1 g29 g30 g31 g32 g33, ai_ cy g5 40 f5, ai_ cy g6 40 f6, ai_ cy g7 40 f7, ai_ cy g8 40 f8, az_ cy g10 40 f10] hP hD (fun hP hD => ?_)
                      obtain ⟨y_68, ey_68⟩ : ∃ y : Int32, y = x5_1 + 1 := ⟨_, rfl⟩
                      have ty_68 : y_68.toInt = x5_1.toInt + (1 : Int32).toInt := by rw [ey_68]; exact addI (by omega) (by omega)
                      refine lv_iinc (v := y_68) (lv' := [(5, .int y_68), (0, .ref mo), (1, .int a1), (2, .int a2), (3, .int a3), (4, .int a4)]) hx hb dB_3_1_18.2.2.1 hl (k := 0) rfl (by rw [ey_68]; rfl) (by decide) rfl (fun ls hl => ?_)
                      refine lv_goto (tgt := 26) hx hb dB_3_1_18.2.2.2.1 (by decide) ?_
                      exact ih_1 y_68 y_67 x5_1 o27_1 o28_1 _ _ _ (by omega) (by first | with_reducible assumption | omega | assumption) (by first | with_reducible assumption | omega | assumption) ⟨hP, hD⟩ hS (lv_sub hl [0, 1, 2, 3, 4, 5] rfl)
                    · have t_66 : o25_1.toInt = a4.toInt := congrArg Int32.toInt c_66
                      refine lv_iload hx hb dB_3_1_17.2.1.2.2 (lv_at hl 0 rfl) ?_
                      refine lv_goto (tgt := 159) hx hb dB_3_1_17.2.2.1.1 (by decide) ?_
                      refine va_put (ci := 12) (v := .int x5_1) (ty := .int) (C := RX12) (T := TX12) (N := 34) hx hb hts (fun _ h => List.mem_cons_of_mem _ (List.mem_append_right _ h)) tyX12 tyX12_ok nmX12 hown hK.1 hP hD hS 0 rfl rfl 28 (by decide) (hts (.fieldLink RX12 201 "CutAtlasModel" "chosen" "I") (List.mem_of_getElem? (i := 4) rfl)) (fun _ h9 => h9) rfl (by decide +kernel) rfl rfl (Nat.le_of_ble_eq_true rfl) dB_3_1_17.2.2.2.2 (fun H locs hP hD hS => ?_)
                      refine pd_K [ob12_0_ mo s0 s1 t2 s3 s4 g5 g6 g7 g8 g9 g10 s11 g12 g13 g14 g15 g16 g17 g18 g19 g20 s21 g22 g23 g24 o25_1 x5_1 o27_1 x5_1 g29 g30 g31 g32 g33, ai_ cy g5 40 f5, ai_ cy g6 40 f6, ai_ cy g7 40 f7, ai_ cy g8 40 f8, az_ cy g10 40 f10] hP hD (fun hP hD => ?_)
                      refine lv_aload_n hx hb dB_3_1_18.1.1.1 rfl (lv_at hl 1 rfl) ?_
                      refine lv_dup hx hb dB_3_1_18.1.1.2 rfl ?_
                      refine va_get (ci := 12) (v := .int o25_1) (C := RX12) (T := TX12) (N := 34) hx hb hts (fun _ h => List.mem_cons_of_mem _ (List.mem_append_right _ h)) hown hK.1 hP 0 rfl rfl 25 (by decide) (hts (.fieldLink RX12 192 "CutAtlasModel" "cuts" "I") (List.mem_of_getElem? (i := 1) rfl)) (fun _ h9 => h9) rfl dB_3_1_18.1.2.1 ?_
                      refine lv_iconst (v := 1) hx hb dB_3_1_18.1.2.2 (by decide) ?_
                      refine lv_iadd hx hb dB_3_1_18.2.1.1 ?_
                      refine lv_topi (fun y_69 ey_69 => ?_)
                      refine va_put (ci := 12) (v := .int y_69) (ty := .int) (C := RX12) (T := TX12) (N := 34) hx hb hts (fun _ h => List.mem_cons_of_mem _ (List.mem_append_right _ h)) tyX12 tyX12_ok nmX12 hown hK.1 hP hD hS 0 rfl rfl 25 (by decide) (hts (.fieldLink RX12 192 "CutAtlasModel" "cuts" "I") (List.mem_of_getElem? (i := 1) rfl)) (fun _ h9 => h9) rfl (by decide +kernel) rfl rfl (Nat.le_of_ble_eq_true rfl) dB_3_1_18.2.1.2 (fun H locs hP hD hS => ?_)
                      refine pd_K [ob12_0_ mo s0 s1 t2 s3 s4 g5 g6 g7 g8 g9 g10 s11 g12 g13 g14 g15 g16 g17 g18 g19 g20 s21 g22 g23 g24 y_69 x5_1 o27_1 x5_1 g29 g30 g31 g32 g33, ai_ cy g5 40 f5, ai_ cy g6 40 f6, ai_ cy g7 40 f7, ai_ cy g8 40 f8, az_ cy g10 40 f10] hP hD (fun hP hD => ?_)
                      obtain ⟨y_70, ey_70⟩ : ∃ y : Int32, y = x5_1 + 1 := ⟨_, rfl⟩
                      have ty_70 : y_70.toInt = x5_1.toInt + (1 : Int32).toInt := by rw [ey_70]; exact addI (by omega) (by omega)
                      refine lv_iinc (v := y_70) (lv' := [(5, .int y_70), (0, .ref mo), (1, .int a1), (2, .int a2), (3, .int a3), (4, .int a4)]) hx hb dB_3_1_18.2.2.1 hl (k := 0) rfl (by rw [ey_70]; rfl) (by decide) rfl (fun ls hl => ?_)
                      refine lv_goto (tgt := 26) hx hb dB_3_1_18.2.2.2.1 (by decide) ?_
                      exact ih_1 y_70 y_69 x5_1 o27_1 x5_1 _ _ _ (by omega) (by first | with_reducible assumption | omega | assumption) (by first | with_reducible assumption | omega | assumption) ⟨hP, hD⟩ hS (lv_sub hl [0, 1, 2, 3, 4, 5] rfl)
                  · have t_65 : ¬ r_63.toInt ≤ r_64.toInt := fun h => c_65 (Int32.le_iff_toInt_le.mpr h)
                    refine lv_iload hx hb dB_3_1_17.1.1.1.2 (lv_at hl 0 rfl) ?_
                    refine lv_goto (tgt := 137) hx hb dB_3_1_17.1.1.2.1 (by decide) ?_
                    refine va_put (ci := 12) (v := .int x5_1) (ty := .int) (C := RX12) (T := TX12) (N := 34) hx hb hts (fun _ h => List.mem_cons_of_mem _ (List.mem_append_right _ h)) tyX12 tyX12_ok nmX12 hown hK.1 hP hD hS 0 rfl rfl 27 (by decide) (hts (.fieldLink RX12 198 "CutAtlasModel" "far" "I") (List.mem_of_getElem? (i := 3) rfl)) (fun _ h9 => h9) rfl (by decide +kernel) rfl rfl (Nat.le_of_ble_eq_true rfl) dB_3_1_17.1.2.1.2 (fun H locs hP hD hS => ?_)
                    refine pd_K [ob12_0_ mo s0 s1 t2 s3 s4 g5 g6 g7 g8 g9 g10 s11 g12 g13 g14 g15 g16 g17 g18 g19 g20 s21 g22 g23 g24 o25_1 x5_1 x5_1 o28_1 g29 g30 g31 g32 g33, ai_ cy g5 40 f5, ai_ cy g6 40 f6, ai_ cy g7 40 f7, ai_ cy g8 40 f8, az_ cy g10 40 f10] hP hD (fun hP hD => ?_)
                    refine lv_aload_n hx hb dB_3_1_17.1.2.2.1 rfl (lv_at hl 1 rfl) ?_
                    refine lv_aload_n hx hb dB_3_1_17.1.2.2.2 rfl (lv_at hl 1 rfl) ?_
                    refine va_get (ci := 12) (v := .int o25_1) (C := RX12) (T := TX12) (N := 34) hx hb hts (fun _ h => List.mem_cons_of_mem _ (List.mem_append_right _ h)) hown hK.1 hP 0 rfl rfl 25 (by decide) (hts (.fieldLink RX12 192 "CutAtlasModel" "cuts" "I") (List.mem_of_getElem? (i := 1) rfl)) (fun _ h9 => h9) rfl dB_3_1_17.2.1.1.1 ?_
                    refine lv_iload hx hb dB_3_1_17.2.1.1.2 (lv_at hl 5 rfl) ?_
                    refine lv_icmp_ne (tgt := 155) hx hb dB_3_1_17.2.1.2.1 (by decide) (fun c_71 => ?_) (fun c_71 => ?_)
                    · have t_71 : ¬ o25_1.toInt = a4.toInt := fun h => c_71 (Int32.toInt_inj.mp h)
                      refine lv_aload_n hx hb dB_3_1_17.2.2.1.2 rfl (lv_at hl 1 rfl) ?_
                      refine va_get (ci := 12) (v := .int o28_1) (C := RX12) (T := TX12) (N := 34) hx hb hts (fun _ h => List.mem_cons_of_mem _ (List.mem_append_right _ h)) hown hK.1 hP 0 rfl rfl 28 (by decide) (hts (.fieldLink RX12 201 "CutAtlasModel" "chosen" "I") (List.mem_of_getElem? (i := 4) rfl)) (fun _ h9 => h9) rfl dB_3_1_17.2.2.2.1 ?_
                      refine va_put (ci := 12) (v := .int o28_1) (ty := .int) (C := RX12) (T := TX12) (N := 34) hx hb hts (fun _ h => List.mem_cons_of_mem _ (List.mem_append_right _ h)) tyX12 tyX12_ok nmX12 hown hK.1 hP hD hS 0 rfl rfl 28 (by decide) (hts (.fieldLink RX12 201 "CutAtlasModel" "chosen" "I") (List.mem_of_getElem? (i := 4) rfl)) (fun _ h9 => h9) rfl (by decide +kernel) rfl rfl (Nat.le_of_ble_eq_true rfl) dB_3_1_17.2.2.2.2 (fun H locs hP hD hS => ?_)
                      refine pd_K [ob12_0_ mo s0 s1 t2 s3 s4 g5 g6 g7 g8 g9 g10 s11 g12 g13 g14 g15 g16 g17 g18 g19 g20 s21 g22 g23 g24 o25_1 x5_1 x5_1 o28_1 g29 g30 g31 g32 g33, ai_ cy g5 40 f5, ai_ cy g6 40 f6, ai_ cy g7 40 f7, ai_ cy g8 40 f8, az_ cy g10 40 f10] hP hD (fun hP hD => ?_)
                      refine lv_aload_n hx hb dB_3_1_18.1.1.1 rfl (lv_at hl 1 rfl) ?_
                      refine lv_dup hx hb dB_3_1_18.1.1.2 rfl ?_
                      refine va_get (ci := 12) (v := .int o25_1) (C := RX12) (T := TX12) (N := 34) hx hb hts (fun _ h => List.mem_cons_of_mem _ (List.mem_append_right _ h)) hown hK.1 hP 0 rfl rfl 25 (by decide) (hts (.fieldLink RX12 192 "CutAtlasModel" "cuts" "I") (List.mem_of_getElem? (i := 1) rfl)) (fun _ h9 => h9) rfl dB_3_1_18.1.2.1 ?_
                      refine lv_iconst (v := 1) hx hb dB_3_1_18.1.2.2 (by decide) ?_
                      refine lv_iadd hx hb dB_3_1_18.2.1.1 ?_
                      refine lv_topi (fun y_72 ey_72 => ?_)
                      refine va_put (ci := 12) (v := .int y_72) (ty := .int) (C := RX12) (T := TX12) (N := 34) hx hb hts (fun _ h => List.mem_cons_of_mem _ (List.mem_append_right _ h)) tyX12 tyX12_ok nmX12 hown hK.1 hP hD hS 0 rfl rfl 25 (by decide) (hts (.fieldLink RX12 192 "CutAtlasModel" "cuts" "I") (List.mem_of_getElem? (i := 1) rfl)) (fun _ h9 => h9) rfl (by decide +kernel) rfl rfl (Nat.le_of_ble_eq_true rfl) dB_3_1_18.2.1.2 (fun H locs hP hD hS => ?_)
                      refine pd_K [ob12_0_ mo s0 s1 t2 s3 s4 g5 g6 g7 g8 g9 g10 s11 g12 g13 g14 g15 g16 g17 g18 g19 g20 s21 g22 g23 g24 y_72 x5_1 x5_1 o28_1 g29 g30 g31 g32 g33, ai_ cy g5 40 f5, ai_ cy g6 40 f6, ai_ cy g7 40 f7, ai_ cy g8 40 f8, az_ cy g10 40 f10] hP hD (fun hP hD => ?_)
                      obtain ⟨y_73, ey_73⟩ : ∃ y : Int32, y = x5_1 + 1 := ⟨_, rfl⟩
                      have ty_73 : y_73.toInt = x5_1.toInt + (1 : Int32).toInt := by rw [ey_73]; exact addI (by omega) (by omega)
                      refine lv_iinc (v := y_73) (lv' := [(5, .int y_73), (0, .ref mo), (1, .int a1), (2, .int a2), (3, .int a3), (4, .int a4)]) hx hb dB_3_1_18.2.2.1 hl (k := 0) rfl (by rw [ey_73]; rfl) (by decide) rfl (fun ls hl => ?_)
                      refine lv_goto (tgt := 26) hx hb dB_3_1_18.2.2.2.1 (by decide) ?_
                      exact ih_1 y_73 y_72 x5_1 x5_1 o28_1 _ _ _ (by omega) (by first | with_reducible assumption | omega | assumption) (by first | with_reducible assumption | omega | assumption) ⟨hP, hD⟩ hS (lv_sub hl [0, 1, 2, 3, 4, 5] rfl)
                    · have t_71 : o25_1.toInt = a4.toInt := congrArg Int32.toInt c_71
                      refine lv_iload hx hb dB_3_1_17.2.1.2.2 (lv_at hl 0 rfl) ?_
                      refine lv_goto (tgt := 159) hx hb dB_3_1_17.2.2.1.1 (by decide) ?_
                      refine va_put (ci := 12) (v := .int x5_1) (ty := .int) (C := RX12) (T := TX12) (N := 34) hx hb hts (fun _ h => List.mem_cons_of_mem _ (List.mem_append_right _ h)) tyX12 tyX12_ok nmX12 hown hK.1 hP hD hS 0 rfl rfl 28 (by decide) (hts (.fieldLink RX12 201 "CutAtlasModel" "chosen" "I") (List.mem_of_getElem? (i := 4) rfl)) (fun _ h9 => h9) rfl (by decide +kernel) rfl rfl (Nat.le_of_ble_eq_true rfl) dB_3_1_17.2.2.2.2 (fun H locs hP hD hS => ?_)
                      refine pd_K [ob12_0_ mo s0 s1 t2 s3 s4 g5 g6 g7 g8 g9 g10 s11 g12 g13 g14 g15 g16 g17 g18 g19 g20 s21 g22 g23 g24 o25_1 x5_1 x5_1 x5_1 g29 g30 g31 g32 g33, ai_ cy g5 40 f5, ai_ cy g6 40 f6, ai_ cy g7 40 f7, ai_ cy g8 40 f8, az_ cy g10 40 f10] hP hD (fun hP hD => ?_)
                      refine lv_aload_n hx hb dB_3_1_18.1.1.1 rfl (lv_at hl 1 rfl) ?_
                      refine lv_dup hx hb dB_3_1_18.1.1.2 rfl ?_
                      refine va_get (ci := 12) (v := .int o25_1) (C := RX12) (T := TX12) (N := 34) hx hb hts (fun _ h => List.mem_cons_of_mem _ (List.mem_append_right _ h)) hown hK.1 hP 0 rfl rfl 25 (by decide) (hts (.fieldLink RX12 192 "CutAtlasModel" "cuts" "I") (List.mem_of_getElem? (i := 1) rfl)) (fun _ h9 => h9) rfl dB_3_1_18.1.2.1 ?_
                      refine lv_iconst (v := 1) hx hb dB_3_1_18.1.2.2 (by decide) ?_
                      refine lv_iadd hx hb dB_3_1_18.2.1.1 ?_
                      refine lv_topi (fun y_74 ey_74 => ?_)
                      refine va_put (ci := 12) (v := .int y_74) (ty := .int) (C := RX12) (T := TX12) (N := 34) hx hb hts (fun _ h => List.mem_cons_of_mem _ (List.mem_append_right _ h)) tyX12 tyX12_ok nmX12 hown hK.1 hP hD hS 0 rfl rfl 25 (by decide) (hts (.fieldLink RX12 192 "CutAtlasModel" "cuts" "I") (List.mem_of_getElem? (i := 1) rfl)) (fun _ h9 => h9) rfl (by decide +kernel) rfl rfl (Nat.le_of_ble_eq_true rfl) dB_3_1_18.2.1.2 (fun H locs hP hD hS => ?_)
                      refine pd_K [ob12_0_ mo s0 s1 t2 s3 s4 g5 g6 g7 g8 g9 g10 s11 g12 g13 g14 g15 g16 g17 g18 g19 g20 s21 g22 g23 g24 y_74 x5_1 x5_1 x5_1 g29 g30 g31 g32 g33, ai_ cy g5 40 f5, ai_ cy g6 40 f6, ai_ cy g7 40 f7, ai_ cy g8 40 f8, az_ cy g10 40 f10] hP hD (fun hP hD => ?_)
                      obtain ⟨y_75, ey_75⟩ : ∃ y : Int32, y = x5_1 + 1 := ⟨_, rfl⟩
                      have ty_75 : y_75.toInt = x5_1.toInt + (1 : Int32).toInt := by rw [ey_75]; exact addI (by omega) (by omega)
                      refine lv_iinc (v := y_75) (lv' := [(5, .int y_75), (0, .ref mo), (1, .int a1), (2, .int a2), (3, .int a3), (4, .int a4)]) hx hb dB_3_1_18.2.2.1 hl (k := 0) rfl (by rw [ey_75]; rfl) (by decide) rfl (fun ls hl => ?_)
                      refine lv_goto (tgt := 26) hx hb dB_3_1_18.2.2.2.1 (by decide) ?_
                      exact ih_1 y_75 y_74 x5_1 x5_1 x5_1 _ _ _ (by omega) (by first | with_reducible assumption | omega | assumption) (by first | with_reducible assumption | omega | assumption) ⟨hP, hD⟩ hS (lv_sub hl [0, 1, 2, 3, 4, 5] rfl)

set_option maxHeartbeats 4000000 in
set_option maxRecDepth 100000 in
theorem c_X12_leastOf (l : Launch) (D : va_G) (cy : Nat → ClassId) (sz : Nat) (mo : Nat) (g5 : Nat) (g6 : Nat) (g7 : Nat) (g8 : Nat) (g9 : Nat) (g10 : Nat) (g12 : Nat) (g13 : Nat) (g14 : Nat) (g15 : Nat) (g16 : Nat) (g17 : Nat) (g18 : Nat) (g19 : Nat) (g20 : Nat) (g22 : Nat) (g23 : Nat) (g24 : Nat) (g29 : Nat) (g30 : Nat) (g31 : Nat) (g32 : Nat) (g33 : Nat) (s0 : Int32) (s1 : Int32) (s3 : Int32) (s4 : Int32) (s11 : Int32) (s21 : Int32) (s25 : Int32) (s26 : Int32) (s27 : Int32) (s28 : Int32) (t2 : Int64) (f5 : Nat → Int32) (f6 : Nat → Int32) (f7 : Nat → Int32) (f8 : Nat → Int32) (f10 : Nat → Int32) (hN : 0 ≤ s4.toInt ∧ s4.toInt ≤ 40) (hPl : 0 ≤ s3.toInt ∧ s3.toInt ≤ 12) : Met l yX12_leastOf wsX12_leastOf ({ frames := 4, cells := 0, slots := 0, locals := 96 }) (va_Pc [.ref mo] (fun U => U.heap.size = sz ∧ va_P D vwCl [ob12_0_ mo s0 s1 t2 s3 s4 g5 g6 g7 g8 g9 g10 s11 g12 g13 g14 g15 g16 g17 g18 g19 g20 s21 g22 g23 g24 s25 s26 s27 s28 g29 g30 g31 g32 g33, ai_ cy g5 40 f5, ai_ cy g6 40 f6, ai_ cy g7 40 f7, ai_ cy g8 40 f8, az_ cy g10 40 f10] U.heap ∧ kk_ D cy U ∧ va_D (fun _ => True) [ob12_0_ mo s0 s1 t2 s3 s4 g5 g6 g7 g8 g9 g10 s11 g12 g13 g14 g15 g16 g17 g18 g19 g20 s21 g22 g23 g24 s25 s26 s27 s28 g29 g30 g31 g32 g33, ai_ cy g5 40 f5, ai_ cy g6 40 f6, ai_ cy g7 40 f7, ai_ cy g8 40 f8, az_ cy g10 40 f10])) (va_Qi (fun (r : Int32) (_ : Unit) => True) (fun (_ : Unit) (_ : State) => True) (va_A [] sz)) 0 0 (va_A [] sz) := by
  refine ofQ (cc := cX12_leastOf) (maxL := 4) (ret := (some .int)) (by decide) rfl ?_
  intro p e s m args below meth c s₁ Q hQ B hml hv
  obtain ⟨rfl, hsz, hP, hK, hD0⟩ := hv
  have hx := B.exec
  have hb := B.bytes
  have hr := B.returns
  have hts := atoms_spec (ws := wsX12_leastOf) B.pre
  have hown : s.vm.findClass RX12 = some m.cls := by have h_ := findClass_of_methodNamed B.named; exact h_
  have hlocks := B.notSynchronized
  subst hsz
  have hD : va_D (va_A [] s.heap.size) [] := dd_nil
  generalize hAe : va_A [] s.heap.size = A at hD hQ
  have hA : ∀ q : Nat, s.heap.size ≤ q → A q := fun q h => by rw [← hAe]; exact Or.inr h
  have hS : va_S A s.heap s.heap [] := va_S.rf
  have hl := lv_entry ([.ref mo]) (n := 4) (Nat.le_of_ble_eq_true rfl)
  rw [lg_entry_eq]
  generalize (lg_sl ([.ref mo]) ++ List.replicate (4 - (lg_sl ([.ref mo])).length) Slot.unset).toArray = ls at hl ⊢
  have hl : lv_has ls 4 [(0, .ref mo)] := hl
  have z0 : (0 : Int32).toInt = 0 := by decide
  have z1 : (1 : Int32).toInt = 1 := by decide
  have z1000000 : (1000000 : Int32).toInt = 1000000 := by decide
  refine lv_ldc (v := 1000000) hx hb hown (hts (.constant RX12 159 (1000000)) (List.mem_of_getElem? (i := 1) rfl)) dB_3_2_35.1.1.1.1 ?_
  refine lv_istore_n (lv' := [(1, .int 1000000), (0, .ref mo)]) hx hb dB_3_2_35.1.1.1.2 rfl hl (by decide) rfl (fun ls hl => ?_)
  refine lv_iconst (v := 1) hx hb dB_3_2_35.1.1.2.1 (by decide) ?_
  refine lv_istore_n (lv' := [(2, .int 1), (1, .int 1000000), (0, .ref mo)]) hx hb dB_3_2_35.1.1.2.2 rfl hl (by decide) rfl (fun ls hl => ?_)
  suffices LOOP_1 : ∀ (n_1 : Nat) (x2_1 : Int32) (x1_1 : Int32) (H : Heap) (locs : List Loc) (ls : Array Slot), 13 - x2_1.toInt < (n_1 : Int) → (0 ≤ x2_1.toInt) → (x2_1.toInt ≤ 13) → va_P D vwCl [ob12_0_ mo s0 s1 t2 s3 s4 g5 g6 g7 g8 g9 g10 s11 g12 g13 g14 g15 g16 g17 g18 g19 g20 s21 g22 g23 g24 s25 s26 s27 s28 g29 g30 g31 g32 g33, ai_ cy g5 40 f5, ai_ cy g6 40 f6, ai_ cy g7 40 f7, ai_ cy g8 40 f8, az_ cy g10 40 f10] H → va_S A s.heap H locs → lv_has ls 4 [(2, .int x2_1), (1, .int x1_1), (0, .ref mo)] → W p l e ({ frames := 4, cells := 0, slots := 0, locals := 96 } : Room) s m (([.ref mo] : List Value).toArray) below meth c H locs 0 0 Q (F0 m 5 ls []) from LOOP_1 ((13 - (1 : Int32).toInt).toNat + 1) (1 : Int32) (1000000 : Int32) _ _ _ (by omega) (by first | with_reducible assumption | omega | assumption) (by first | with_reducible assumption | omega | assumption) hP hS (lv_sub hl [0, 1, 2] rfl)
  intro n_1
  induction n_1 with
  | zero =>
    intro x2_1 x1_1 H locs ls hm v0_1 v1_1 hP hS hl
    exact absurd hm (by omega)
  | succ n_1 ih_1 =>
    intro x2_1 x1_1 H locs ls hm v0_1 v1_1 hP hS hl
    refine lv_iload_n hx hb dB_3_2_35.1.2.1.1 rfl (lv_at hl 0 rfl) ?_
    refine lv_aload_n hx hb dB_3_2_35.1.2.1.2 rfl (lv_at hl 2 rfl) ?_
    refine va_get (ci := 12) (v := .int s3) (C := RX12) (T := TX12) (N := 34) hx hb hts (fun _ h => List.mem_cons_of_mem _ (List.mem_append_right _ h)) hown hK.1 hP 0 rfl rfl 3 (by decide) (hts (.fieldLink RX12 88 "CutAtlasModel" "places" "I") (List.mem_of_getElem? (i := 2) rfl)) (fun _ h9 => h9) rfl dB_3_2_35.1.2.2.1 ?_
    refine lv_icmp_ge (tgt := 37) hx hb dB_3_2_35.1.2.2.2 (by decide) (fun c_2 => ?_) (fun c_2 => ?_)
    · have t_2 : s3.toInt ≤ x2_1.toInt := Int32.le_iff_toInt_le.mp c_2
      refine lv_iload_n hx hb dB_3_2_36.2.2.1 rfl (lv_at hl 1 rfl) ?_
      rw [hQ]
      exact W.iret (v := x1_1) hx hb hr (fun t ht hW => ⟨⟨x1_1, (), rfl, trivial, trivial⟩, hS.F ht⟩) hS.2.2 dB_3_2_36.2.2.2
    · have t_2 : ¬ s3.toInt ≤ x2_1.toInt := fun h => c_2 (Int32.le_iff_toInt_le.mpr h)
      refine lv_aload_n hx hb dB_3_2_35.2.1.1.1 rfl (lv_at hl 2 rfl) ?_
      refine lv_iload_n hx hb dB_3_2_35.2.1.1.2 rfl (lv_at hl 0 rfl) ?_
      refine lv_iconst (v := 0) hx hb dB_3_2_35.2.1.2.1 (by decide) ?_
      refine ct_R hP hD0 [ob12_0_ mo s0 s1 t2 s3 s4 g5 g6 g7 g8 g9 g10 s11 g12 g13 g14 g15 g16 g17 g18 g19 g20 s21 g22 g23 g24 s25 s26 s27 s28 g29 g30 g31 g32 g33, ai_ cy g5 40 f5, ai_ cy g6 40 f6, ai_ cy g7 40 f7, ai_ cy g8 40 f8, az_ cy g10 40 f10] [0, 1, 2, 3, 4, 5] (by decide) rfl (fun hPc hDw => ?_)
      have hFc := va_free (wc := []) hD hS hA [] rfl
      refine va_calli (va_runV (As := [.int x2_1, .int 0]) (rest := []) ⟨hx, hb, hml, hown, hts⟩ (c_X12_mostOf l D cy H.size mo g5 g6 g7 g8 g9 g10 g12 g13 g14 g15 g16 g17 g18 g19 g20 g22 g23 g24 g29 g30 g31 g32 g33 s0 s1 s3 s4 s11 s21 s25 s26 s27 s28 t2 f5 f6 f7 f8 f10 x2_1 (0 : Int32) (by first | with_reducible assumption | omega | assumption) (by first | with_reducible assumption | omega | assumption)) (cwV 2 hts gX12_leastOf_X12_mostOf rfl rfl rfl ⟨rfl, hd_X12_mostOf⟩ ⟨Nat.le_of_ble_eq_true rfl, Nat.le_of_ble_eq_true rfl⟩) ⟨bl_, va_recvX hK.1 hP (ci := 12) (q0 := 0) rfl rfl, fun U hU hW => ⟨rfl, by rw [hU], by rw [hU]; exact hPc, kk_mv hW hK, hDw⟩⟩ rfl rfl hl.1 rfl (lv_room (Nat.le_of_ble_eq_true rfl)) dB_3_2_35.2.1.2.2 ⟨Nat.le_of_ble_eq_true rfl, Nat.le_of_ble_eq_true rfl⟩) hS (fun q _ h => hFc q h) hFc (fun r_3 u t H locs ht hvm hw hB hz1 hk1 hS => ?_)
      have hP : va_P D vwCl _ H := ro_keep hP hk1
      refine lv_istore_n (lv' := [(3, .int r_3), (2, .int x2_1), (1, .int x1_1), (0, .ref mo)]) hx hb dB_3_2_35.2.2.1.1 rfl hl (by decide) rfl (fun ls hl => ?_)
      refine lv_iload_n hx hb dB_3_2_35.2.2.1.2 rfl (lv_at hl 0 rfl) ?_
      refine lv_iload_n hx hb dB_3_2_35.2.2.2.1 rfl (lv_at hl 2 rfl) ?_
      refine lv_icmp_ge (tgt := 29) hx hb dB_3_2_35.2.2.2.2 (by decide) (fun c_4 => ?_) (fun c_4 => ?_)
      · have t_4 : x1_1.toInt ≤ r_3.toInt := Int32.le_iff_toInt_le.mp c_4
        refine lv_iload_n hx hb dB_3_2_36.1.2.1 rfl (lv_at hl 2 rfl) ?_
        refine lv_istore_n (lv' := [(1, .int x1_1), (3, .int r_3), (2, .int x2_1), (0, .ref mo)]) hx hb dB_3_2_36.1.2.2 rfl hl (by decide) rfl (fun ls hl => ?_)
        obtain ⟨y_5, ey_5⟩ : ∃ y : Int32, y = x2_1 + 1 := ⟨_, rfl⟩
        have ty_5 : y_5.toInt = x2_1.toInt + (1 : Int32).toInt := by rw [ey_5]; exact addI (by omega) (by omega)
        refine lv_iinc (v := y_5) (lv' := [(2, .int y_5), (1, .int x1_1), (3, .int r_3), (0, .ref mo)]) hx hb dB_3_2_36.2.1.1 hl (k := 2) rfl (by rw [ey_5]; rfl) (by decide) rfl (fun ls hl => ?_)
        refine lv_goto (tgt := 5) hx hb dB_3_2_36.2.1.2 (by decide) ?_
        exact ih_1 y_5 x1_1 _ _ _ (by omega) (by first | with_reducible assumption | omega | assumption) (by first | with_reducible assumption | omega | assumption) hP hS (lv_sub hl [0, 1, 3] rfl)
      · have t_4 : ¬ x1_1.toInt ≤ r_3.toInt := fun h => c_4 (Int32.le_iff_toInt_le.mpr h)
        refine lv_iload_n hx hb dB_3_2_36.1.1.1 rfl (lv_at hl 0 rfl) ?_
        refine lv_goto (tgt := 30) hx hb dB_3_2_36.1.1.2 (by decide) ?_
        refine lv_istore_n (lv' := [(1, .int r_3), (3, .int r_3), (2, .int x2_1), (0, .ref mo)]) hx hb dB_3_2_36.1.2.2 rfl hl (by decide) rfl (fun ls hl => ?_)
        obtain ⟨y_6, ey_6⟩ : ∃ y : Int32, y = x2_1 + 1 := ⟨_, rfl⟩
        have ty_6 : y_6.toInt = x2_1.toInt + (1 : Int32).toInt := by rw [ey_6]; exact addI (by omega) (by omega)
        refine lv_iinc (v := y_6) (lv' := [(2, .int y_6), (1, .int r_3), (3, .int r_3), (0, .ref mo)]) hx hb dB_3_2_36.2.1.1 hl (k := 2) rfl (by rw [ey_6]; rfl) (by decide) rfl (fun ls hl => ?_)
        refine lv_goto (tgt := 5) hx hb dB_3_2_36.2.1.2 (by decide) ?_
        exact ih_1 y_6 r_3 _ _ _ (by omega) (by first | with_reducible assumption | omega | assumption) (by first | with_reducible assumption | omega | assumption) hP hS (lv_sub hl [0, 1, 3] rfl)

set_option maxHeartbeats 4000000 in
set_option maxRecDepth 100000 in
theorem c_X12_wholeCuts (l : Launch) (D : va_G) (cy : Nat → ClassId) (sz : Nat) (mo : Nat) (g5 : Nat) (g6 : Nat) (g7 : Nat) (g8 : Nat) (g9 : Nat) (g10 : Nat) (g12 : Nat) (g13 : Nat) (g14 : Nat) (g15 : Nat) (g16 : Nat) (g17 : Nat) (g18 : Nat) (g19 : Nat) (g20 : Nat) (g22 : Nat) (g23 : Nat) (g24 : Nat) (g29 : Nat) (g30 : Nat) (g31 : Nat) (g32 : Nat) (g33 : Nat) (s0 : Int32) (s1 : Int32) (s3 : Int32) (s4 : Int32) (s11 : Int32) (s21 : Int32) (s25 : Int32) (s26 : Int32) (s27 : Int32) (s28 : Int32) (t2 : Int64) (f5 : Nat → Int32) (f6 : Nat → Int32) (f7 : Nat → Int32) (f8 : Nat → Int32) (f10 : Nat → Int32) (a1 : Int32) (hN : 0 ≤ s4.toInt ∧ s4.toInt ≤ 40) (hPl : 0 ≤ s3.toInt ∧ s3.toInt ≤ 12) : Met l yX12_wholeCuts wsX12_wholeCuts ({ frames := 5, cells := 0, slots := 0, locals := 119 }) (va_Pc [.ref mo, .int a1] (fun U => U.heap.size = sz ∧ va_P D vwCl [ob12_0_ mo s0 s1 t2 s3 s4 g5 g6 g7 g8 g9 g10 s11 g12 g13 g14 g15 g16 g17 g18 g19 g20 s21 g22 g23 g24 s25 s26 s27 s28 g29 g30 g31 g32 g33, ai_ cy g5 40 f5, ai_ cy g6 40 f6, ai_ cy g7 40 f7, ai_ cy g8 40 f8, az_ cy g10 40 f10] U.heap ∧ kk_ D cy U ∧ va_D (fun _ => True) [ob12_0_ mo s0 s1 t2 s3 s4 g5 g6 g7 g8 g9 g10 s11 g12 g13 g14 g15 g16 g17 g18 g19 g20 s21 g22 g23 g24 s25 s26 s27 s28 g29 g30 g31 g32 g33, ai_ cy g5 40 f5, ai_ cy g6 40 f6, ai_ cy g7 40 f7, ai_ cy g8 40 f8, az_ cy g10 40 f10])) (va_Qv (fun (_ : Unit) => True) (fun (_ : Unit) (t : State) => ∃ (n25 : Int32), ∃ (n28 : Int32), va_P D vwCl [ob12_0_ mo s0 s1 t2 s3 s4 g5 g6 g7 g8 g9 g10 s11 g12 g13 g14 g15 g16 g17 g18 g19 g20 s21 g22 g23 g24 n25 s26 s27 n28 g29 g30 g31 g32 g33, ai_ cy g5 40 f5, ai_ cy g6 40 f6, ai_ cy g7 40 f7, ai_ cy g8 40 f8, az_ cy g10 40 f10] t.heap ∧ va_D (va_A [ob12_0_ mo s0 s1 t2 s3 s4 g5 g6 g7 g8 g9 g10 s11 g12 g13 g14 g15 g16 g17 g18 g19 g20 s21 g22 g23 g24 s25 s26 s27 s28 g29 g30 g31 g32 g33, ai_ cy g5 40 f5, ai_ cy g6 40 f6, ai_ cy g7 40 f7, ai_ cy g8 40 f8, az_ cy g10 40 f10] sz) [ob12_0_ mo s0 s1 t2 s3 s4 g5 g6 g7 g8 g9 g10 s11 g12 g13 g14 g15 g16 g17 g18 g19 g20 s21 g22 g23 g24 n25 s26 s27 n28 g29 g30 g31 g32 g33, ai_ cy g5 40 f5, ai_ cy g6 40 f6, ai_ cy g7 40 f7, ai_ cy g8 40 f8, az_ cy g10 40 f10]) (va_A [ob12_0_ mo s0 s1 t2 s3 s4 g5 g6 g7 g8 g9 g10 s11 g12 g13 g14 g15 g16 g17 g18 g19 g20 s21 g22 g23 g24 s25 s26 s27 s28 g29 g30 g31 g32 g33, ai_ cy g5 40 f5, ai_ cy g6 40 f6, ai_ cy g7 40 f7, ai_ cy g8 40 f8, az_ cy g10 40 f10] sz)) 0 0 (va_A [ob12_0_ mo s0 s1 t2 s3 s4 g5 g6 g7 g8 g9 g10 s11 g12 g13 g14 g15 g16 g17 g18 g19 g20 s21 g22 g23 g24 s25 s26 s27 s28 g29 g30 g31 g32 g33, ai_ cy g5 40 f5, ai_ cy g6 40 f6, ai_ cy g7 40 f7, ai_ cy g8 40 f8, az_ cy g10 40 f10] sz) := by
  refine ofQ (cc := cX12_wholeCuts) (maxL := 4) (ret := none) (by decide) rfl ?_
  intro p e s m args below meth c s₁ Q hQ B hml hv
  obtain ⟨rfl, hsz, hP, hK, hD0⟩ := hv
  have hx := B.exec
  have hb := B.bytes
  have hr := B.returns
  have hts := atoms_spec (ws := wsX12_wholeCuts) B.pre
  have hown : s.vm.findClass RX12 = some m.cls := by have h_ := findClass_of_methodNamed B.named; exact h_
  have hlocks := B.notSynchronized
  subst hsz
  have hD := hD0.self (sz := s.heap.size)
  generalize hAe : va_A [ob12_0_ mo s0 s1 t2 s3 s4 g5 g6 g7 g8 g9 g10 s11 g12 g13 g14 g15 g16 g17 g18 g19 g20 s21 g22 g23 g24 s25 s26 s27 s28 g29 g30 g31 g32 g33, ai_ cy g5 40 f5, ai_ cy g6 40 f6, ai_ cy g7 40 f7, ai_ cy g8 40 f8, az_ cy g10 40 f10] s.heap.size = A at hD hQ
  have hA : ∀ q : Nat, s.heap.size ≤ q → A q := fun q h => by rw [← hAe]; exact Or.inr h
  have hS : va_S A s.heap s.heap [] := va_S.rf
  have hl := lv_entry ([.ref mo, .int a1]) (n := 4) (Nat.le_of_ble_eq_true rfl)
  rw [lg_entry_eq]
  generalize (lg_sl ([.ref mo, .int a1]) ++ List.replicate (4 - (lg_sl ([.ref mo, .int a1])).length) Slot.unset).toArray = ls at hl ⊢
  have hl : lv_has ls 4 [(0, .ref mo), (1, .int a1)] := hl
  have zm9 : ((-9) : Int32).toInt = -9 := by decide
  have z0 : (0 : Int32).toInt = 0 := by decide
  have z1 : (1 : Int32).toInt = 1 := by decide
  have z2 : (2 : Int32).toInt = 2 := by decide
  refine lv_aload_n hx hb dB_3_2_60.1.1.1.1 rfl (lv_at hl 0 rfl) ?_
  refine ct_R hP hD [ob12_0_ mo s0 s1 t2 s3 s4 g5 g6 g7 g8 g9 g10 s11 g12 g13 g14 g15 g16 g17 g18 g19 g20 s21 g22 g23 g24 s25 s26 s27 s28 g29 g30 g31 g32 g33, ai_ cy g5 40 f5, ai_ cy g6 40 f6, ai_ cy g7 40 f7, ai_ cy g8 40 f8, az_ cy g10 40 f10] [0, 1, 2, 3, 4, 5] (by decide) rfl (fun hPc hDw => ?_)
  have hFc := va_free (wc := []) hD hS hA [] rfl
  refine va_calli (va_runV (As := []) (rest := []) ⟨hx, hb, hml, hown, hts⟩ (c_X12_leastOf l D cy s.heap.size mo g5 g6 g7 g8 g9 g10 g12 g13 g14 g15 g16 g17 g18 g19 g20 g22 g23 g24 g29 g30 g31 g32 g33 s0 s1 s3 s4 s11 s21 s25 s26 s27 s28 t2 f5 f6 f7 f8 f10 (by first | with_reducible assumption | omega | assumption) (by first | with_reducible assumption | omega | assumption)) (cwV 0 hts gX12_wholeCuts_X12_leastOf rfl rfl rfl ⟨rfl, hd_X12_leastOf⟩ ⟨Nat.le_of_ble_eq_true rfl, Nat.le_of_ble_eq_true rfl⟩) ⟨bl_, va_recvX hK.1 hP (ci := 12) (q0 := 0) rfl rfl, fun U hU hW => ⟨rfl, by rw [hU], by rw [hU]; exact hPc, kk_mv hW hK, hDw⟩⟩ rfl rfl hl.1 rfl (lv_room (Nat.le_of_ble_eq_true rfl)) dB_3_2_60.1.1.1.2 ⟨Nat.le_of_ble_eq_true rfl, Nat.le_of_ble_eq_true rfl⟩) hS (fun q _ h => hFc q h) hFc (fun r_1 u t H locs ht hvm hw hB hz1 hk1 hS => ?_)
  have hP : va_P D vwCl _ H := ro_keep hP hk1
  refine lv_istore_n (lv' := [(2, .int r_1), (0, .ref mo), (1, .int a1)]) hx hb dB_3_2_60.1.1.2.1 rfl hl (by decide) rfl (fun ls hl => ?_)
  refine lv_aload_n hx hb dB_3_2_60.1.1.2.2 rfl (lv_at hl 1 rfl) ?_
  refine lv_iconst (v := 0) hx hb dB_3_2_60.1.2.1.1 (by decide) ?_
  refine va_put (ci := 12) (v := .int 0) (ty := .int) (C := RX12) (T := TX12) (N := 34) hx hb hts (fun _ h => List.mem_cons_of_mem _ (List.mem_append_right _ h)) tyX12 tyX12_ok nmX12 hown hK.1 hP hD hS 0 rfl rfl 25 (by decide) (hts (.fieldLink RX12 192 "CutAtlasModel" "cuts" "I") (List.mem_of_getElem? (i := 1) rfl)) (fun _ h9 => h9) rfl (by decide +kernel) rfl rfl (Nat.le_of_ble_eq_true rfl) dB_3_2_60.1.2.1.2 (fun H locs hP hD hS => ?_)
  refine pd_K [ob12_0_ mo s0 s1 t2 s3 s4 g5 g6 g7 g8 g9 g10 s11 g12 g13 g14 g15 g16 g17 g18 g19 g20 s21 g22 g23 g24 0 s26 s27 s28 g29 g30 g31 g32 g33, ai_ cy g5 40 f5, ai_ cy g6 40 f6, ai_ cy g7 40 f7, ai_ cy g8 40 f8, az_ cy g10 40 f10] hP hD (fun hP hD => ?_)
  refine lv_aload_n hx hb dB_3_2_60.1.2.2.1 rfl (lv_at hl 1 rfl) ?_
  refine lv_bipush (v := (-9)) hx hb dB_3_2_60.1.2.2.2 (by decide) ?_
  refine va_put (ci := 12) (v := .int (-9)) (ty := .int) (C := RX12) (T := TX12) (N := 34) hx hb hts (fun _ h => List.mem_cons_of_mem _ (List.mem_append_right _ h)) tyX12 tyX12_ok nmX12 hown hK.1 hP hD hS 0 rfl rfl 28 (by decide) (hts (.fieldLink RX12 201 "CutAtlasModel" "chosen" "I") (List.mem_of_getElem? (i := 2) rfl)) (fun _ h9 => h9) rfl (by decide +kernel) rfl rfl (Nat.le_of_ble_eq_true rfl) dB_3_2_60.2.1.1.1 (fun H locs hP hD hS => ?_)
  refine pd_K [ob12_0_ mo s0 s1 t2 s3 s4 g5 g6 g7 g8 g9 g10 s11 g12 g13 g14 g15 g16 g17 g18 g19 g20 s21 g22 g23 g24 0 s26 s27 (-9) g29 g30 g31 g32 g33, ai_ cy g5 40 f5, ai_ cy g6 40 f6, ai_ cy g7 40 f7, ai_ cy g8 40 f8, az_ cy g10 40 f10] hP hD (fun hP hD => ?_)
  refine lv_iconst (v := 2) hx hb dB_3_2_60.2.1.1.2 (by decide) ?_
  refine lv_istore_n (lv' := [(3, .int 2), (2, .int r_1), (0, .ref mo), (1, .int a1)]) hx hb dB_3_2_60.2.1.2.1 rfl hl (by decide) rfl (fun ls hl => ?_)
  suffices LOOP_2 : ∀ (n_2 : Nat) (x3_2 : Int32) (o25_2 : Int32) (o28_2 : Int32) (H : Heap) (locs : List Loc) (ls : Array Slot), 4100 - x3_2.toInt < (n_2 : Int) → (0 ≤ x3_2.toInt) → (x3_2.toInt ≤ 4100) → pd_2 D vwCl A [ob12_0_ mo s0 s1 t2 s3 s4 g5 g6 g7 g8 g9 g10 s11 g12 g13 g14 g15 g16 g17 g18 g19 g20 s21 g22 g23 g24 o25_2 s26 s27 o28_2 g29 g30 g31 g32 g33, ai_ cy g5 40 f5, ai_ cy g6 40 f6, ai_ cy g7 40 f7, ai_ cy g8 40 f8, az_ cy g10 40 f10] H → va_S A s.heap H locs → lv_has ls 4 [(3, .int x3_2), (2, .int r_1), (0, .ref mo), (1, .int a1)] → W p l e ({ frames := 5, cells := 0, slots := 0, locals := 119 } : Room) s m (([.ref mo, .int a1] : List Value).toArray) below meth c H locs 0 0 Q (F0 m 18 ls []) from LOOP_2 ((4100 - (2 : Int32).toInt).toNat + 1) (2 : Int32) (0 : Int32) ((-9) : Int32) _ _ _ (by omega) (by first | with_reducible assumption | omega | assumption) (by first | with_reducible assumption | omega | assumption) ⟨hP, hD⟩ hS (lv_sub hl [0, 1, 2, 3] rfl)
  intro n_2
  induction n_2 with
  | zero =>
    intro x3_2 o25_2 o28_2 H locs ls hm v0_2 v1_2 hPD hS hl; obtain ⟨hP, hD⟩ := hPD
    exact absurd hm (by omega)
  | succ n_2 ih_2 =>
    intro x3_2 o25_2 o28_2 H locs ls hm v0_2 v1_2 hPD hS hl; obtain ⟨hP, hD⟩ := hPD
    refine lv_iload_n hx hb dB_3_2_60.2.1.2.2 rfl (lv_at hl 0 rfl) ?_
    refine lv_iconst (v := 1) hx hb dB_3_2_60.2.2.1.1 (by decide) ?_
    refine lv_aload_n hx hb dB_3_2_60.2.2.1.2 rfl (lv_at hl 2 rfl) ?_
    refine va_get (ci := 12) (v := .int s3) (C := RX12) (T := TX12) (N := 34) hx hb hts (fun _ h => List.mem_cons_of_mem _ (List.mem_append_right _ h)) hown hK.1 hP 0 rfl rfl 3 (by decide) (hts (.fieldLink RX12 88 "CutAtlasModel" "places" "I") (List.mem_of_getElem? (i := 3) rfl)) (fun _ h9 => h9) rfl dB_3_2_60.2.2.2.1 ?_
    refine lv_ishl hx hb dB_3_2_60.2.2.2.2 ?_
    refine lv_topi (fun y_3 ey_3 => ?_)
    have ty_3 : 1 ≤ y_3.toInt ∧ y_3.toInt ≤ 4096 := by rw [ey_3]; exact shl1 (by omega) (by omega)
    refine lv_icmp_ge (tgt := 73) hx hb dB_3_2_61.1.1.1.1 (by decide) (fun c_4 => ?_) (fun c_4 => ?_)
    · have t_4 : y_3.toInt ≤ x3_2.toInt := Int32.le_iff_toInt_le.mp c_4
      rw [hQ]
      exact W.vret hx hb hr (fun t ht hW => ⟨⟨(), rfl, trivial, o25_2, o28_2, by rw [ht]; exact hP, hD⟩, hS.F ht⟩) hS.2.2 dB_3_2_62.2.2.2.2
    · have t_4 : ¬ y_3.toInt ≤ x3_2.toInt := fun h => c_4 (Int32.le_iff_toInt_le.mpr h)
      refine lv_aload_n hx hb dB_3_2_61.1.1.1.2 rfl (lv_at hl 2 rfl) ?_
      refine lv_iload_n hx hb dB_3_2_61.1.1.2.1 rfl (lv_at hl 0 rfl) ?_
      refine ct_R hP hD [ob12_0_ mo s0 s1 t2 s3 s4 g5 g6 g7 g8 g9 g10 s11 g12 g13 g14 g15 g16 g17 g18 g19 g20 s21 g22 g23 g24 o25_2 s26 s27 o28_2 g29 g30 g31 g32 g33, ai_ cy g5 40 f5, ai_ cy g6 40 f6, ai_ cy g7 40 f7, ai_ cy g8 40 f8, az_ cy g10 40 f10] [0, 1, 2, 3, 4, 5] (by decide) rfl (fun hPc hDw => ?_)
      have hFc := va_free (wc := []) hD hS hA [] rfl
      refine va_calli (va_runV (As := [.int x3_2]) (rest := []) ⟨hx, hb, hml, hown, hts⟩ (c_X12_sizeOf l D cy H.size mo g5 g6 g7 g8 g9 g10 g12 g13 g14 g15 g16 g17 g18 g19 g20 g22 g23 g24 g29 g30 g31 g32 g33 s0 s1 s3 s4 s11 s21 o25_2 s26 s27 o28_2 t2 f5 f6 f7 f8 f10 x3_2 (by first | with_reducible assumption | omega | assumption)) (cwV 1 hts gX12_wholeCuts_X12_sizeOf rfl rfl rfl ⟨rfl, hd_X12_sizeOf⟩ ⟨Nat.le_of_ble_eq_true rfl, Nat.le_of_ble_eq_true rfl⟩) ⟨bl_, va_recvX hK.1 hP (ci := 12) (q0 := 0) rfl rfl, fun U hU hW => ⟨rfl, by rw [hU], by rw [hU]; exact hPc, kk_mv hW hK, hDw⟩⟩ rfl rfl hl.1 rfl (lv_room (Nat.le_of_ble_eq_true rfl)) dB_3_2_61.1.1.2.2 ⟨Nat.le_of_ble_eq_true rfl, Nat.le_of_ble_eq_true rfl⟩) hS (fun q _ h => hFc q h) hFc (fun r_5 u t H locs ht hvm hw hB hz1 hk1 hS => ?_)
      have hP : va_P D vwCl _ H := ro_keep hP hk1
      refine lv_iload_n hx hb dB_3_2_61.1.2.1.1 rfl (lv_at hl 1 rfl) ?_
      refine lv_icmp_ne (tgt := 67) hx hb dB_3_2_61.1.2.1.2 (by decide) (fun c_6 => ?_) (fun c_6 => ?_)
      · have t_6 : ¬ r_5.toInt = r_1.toInt := fun h => c_6 (Int32.toInt_inj.mp h)
        obtain ⟨y_7, ey_7⟩ : ∃ y : Int32, y = x3_2 + 2 := ⟨_, rfl⟩
        have ty_7 : y_7.toInt = x3_2.toInt + (2 : Int32).toInt := by rw [ey_7]; exact addI (by omega) (by omega)
        refine lv_iinc (v := y_7) (lv' := [(3, .int y_7), (2, .int r_1), (0, .ref mo), (1, .int a1)]) hx hb dB_3_2_62.2.2.1 hl (k := 0) rfl (by rw [ey_7]; rfl) (by decide) rfl (fun ls hl => ?_)
        refine lv_goto (tgt := 18) hx hb dB_3_2_62.2.2.2.1 (by decide) ?_
        exact ih_2 y_7 o25_2 o28_2 _ _ _ (by omega) (by first | with_reducible assumption | omega | assumption) (by first | with_reducible assumption | omega | assumption) ⟨hP, hD⟩ hS (lv_sub hl [0, 1, 2, 3] rfl)
      · have t_6 : r_5.toInt = r_1.toInt := congrArg Int32.toInt c_6
        refine lv_aload_n hx hb dB_3_2_61.1.2.2.1 rfl (lv_at hl 2 rfl) ?_
        refine lv_aload_n hx hb dB_3_2_61.1.2.2.2 rfl (lv_at hl 2 rfl) ?_
        refine va_get (ci := 12) (v := .int o25_2) (C := RX12) (T := TX12) (N := 34) hx hb hts (fun _ h => List.mem_cons_of_mem _ (List.mem_append_right _ h)) hown hK.1 hP 0 rfl rfl 25 (by decide) (hts (.fieldLink RX12 192 "CutAtlasModel" "cuts" "I") (List.mem_of_getElem? (i := 1) rfl)) (fun _ h9 => h9) rfl dB_3_2_61.2.1.1.1 ?_
        refine lv_iload_n hx hb dB_3_2_61.2.1.1.2 rfl (lv_at hl 3 rfl) ?_
        refine lv_icmp_ne (tgt := 50) hx hb dB_3_2_61.2.1.2.1 (by decide) (fun c_8 => ?_) (fun c_8 => ?_)
        · have t_8 : ¬ o25_2.toInt = a1.toInt := fun h => c_8 (Int32.toInt_inj.mp h)
          refine lv_aload_n hx hb dB_3_2_61.2.2.1.2 rfl (lv_at hl 2 rfl) ?_
          refine va_get (ci := 12) (v := .int o28_2) (C := RX12) (T := TX12) (N := 34) hx hb hts (fun _ h => List.mem_cons_of_mem _ (List.mem_append_right _ h)) hown hK.1 hP 0 rfl rfl 28 (by decide) (hts (.fieldLink RX12 201 "CutAtlasModel" "chosen" "I") (List.mem_of_getElem? (i := 2) rfl)) (fun _ h9 => h9) rfl dB_3_2_61.2.2.2.1 ?_
          refine va_put (ci := 12) (v := .int o28_2) (ty := .int) (C := RX12) (T := TX12) (N := 34) hx hb hts (fun _ h => List.mem_cons_of_mem _ (List.mem_append_right _ h)) tyX12 tyX12_ok nmX12 hown hK.1 hP hD hS 0 rfl rfl 28 (by decide) (hts (.fieldLink RX12 201 "CutAtlasModel" "chosen" "I") (List.mem_of_getElem? (i := 2) rfl)) (fun _ h9 => h9) rfl (by decide +kernel) rfl rfl (Nat.le_of_ble_eq_true rfl) dB_3_2_61.2.2.2.2 (fun H locs hP hD hS => ?_)
          refine pd_K [ob12_0_ mo s0 s1 t2 s3 s4 g5 g6 g7 g8 g9 g10 s11 g12 g13 g14 g15 g16 g17 g18 g19 g20 s21 g22 g23 g24 o25_2 s26 s27 o28_2 g29 g30 g31 g32 g33, ai_ cy g5 40 f5, ai_ cy g6 40 f6, ai_ cy g7 40 f7, ai_ cy g8 40 f8, az_ cy g10 40 f10] hP hD (fun hP hD => ?_)
          refine lv_aload_n hx hb dB_3_2_62.1.1.1 rfl (lv_at hl 2 rfl) ?_
          refine lv_dup hx hb dB_3_2_62.1.1.2 rfl ?_
          refine va_get (ci := 12) (v := .int o25_2) (C := RX12) (T := TX12) (N := 34) hx hb hts (fun _ h => List.mem_cons_of_mem _ (List.mem_append_right _ h)) hown hK.1 hP 0 rfl rfl 25 (by decide) (hts (.fieldLink RX12 192 "CutAtlasModel" "cuts" "I") (List.mem_of_getElem? (i := 1) rfl)) (fun _ h9 => h9) rfl dB_3_2_62.1.2.1 ?_
          refine lv_iconst (v := 1) hx hb dB_3_2_62.1.2.2 (by decide) ?_
          refine lv_iadd hx hb dB_3_2_62.2.1.1 ?_
          refine lv_topi (fun y_9 ey_9 => ?_)
          refine va_put (ci := 12) (v := .int y_9) (ty := .int) (C := RX12) (T := TX12) (N := 34) hx hb hts (fun _ h => List.mem_cons_of_mem _ (List.mem_append_right _ h)) tyX12 tyX12_ok nmX12 hown hK.1 hP hD hS 0 rfl rfl 25 (by decide) (hts (.fieldLink RX12 192 "CutAtlasModel" "cuts" "I") (List.mem_of_getElem? (i := 1) rfl)) (fun _ h9 => h9) rfl (by decide +kernel) rfl rfl (Nat.le_of_ble_eq_true rfl) dB_3_2_62.2.1.2 (fun H locs hP hD hS => ?_)
          refine pd_K [ob12_0_ mo s0 s1 t2 s3 s4 g5 g6 g7 g8 g9 g10 s11 g12 g13 g14 g15 g16 g17 g18 g19 g20 s21 g22 g23 g24 y_9 s26 s27 o28_2 g29 g30 g31 g32 g33, ai_ cy g5 40 f5, ai_ cy g6 40 f6, ai_ cy g7 40 f7, ai_ cy g8 40 f8, az_ cy g10 40 f10] hP hD (fun hP hD => ?_)
          obtain ⟨y_10, ey_10⟩ : ∃ y : Int32, y = x3_2 + 2 := ⟨_, rfl⟩
          have ty_10 : y_10.toInt = x3_2.toInt + (2 : Int32).toInt := by rw [ey_10]; exact addI (by omega) (by omega)
          refine lv_iinc (v := y_10) (lv' := [(3, .int y_10), (2, .int r_1), (0, .ref mo), (1, .int a1)]) hx hb dB_3_2_62.2.2.1 hl (k := 0) rfl (by rw [ey_10]; rfl) (by decide) rfl (fun ls hl => ?_)
          refine lv_goto (tgt := 18) hx hb dB_3_2_62.2.2.2.1 (by decide) ?_
          exact ih_2 y_10 y_9 o28_2 _ _ _ (by omega) (by first | with_reducible assumption | omega | assumption) (by first | with_reducible assumption | omega | assumption) ⟨hP, hD⟩ hS (lv_sub hl [0, 1, 2, 3] rfl)
        · have t_8 : o25_2.toInt = a1.toInt := congrArg Int32.toInt c_8
          refine lv_iload_n hx hb dB_3_2_61.2.1.2.2 rfl (lv_at hl 0 rfl) ?_
          refine lv_goto (tgt := 54) hx hb dB_3_2_61.2.2.1.1 (by decide) ?_
          refine va_put (ci := 12) (v := .int x3_2) (ty := .int) (C := RX12) (T := TX12) (N := 34) hx hb hts (fun _ h => List.mem_cons_of_mem _ (List.mem_append_right _ h)) tyX12 tyX12_ok nmX12 hown hK.1 hP hD hS 0 rfl rfl 28 (by decide) (hts (.fieldLink RX12 201 "CutAtlasModel" "chosen" "I") (List.mem_of_getElem? (i := 2) rfl)) (fun _ h9 => h9) rfl (by decide +kernel) rfl rfl (Nat.le_of_ble_eq_true rfl) dB_3_2_61.2.2.2.2 (fun H locs hP hD hS => ?_)
          refine pd_K [ob12_0_ mo s0 s1 t2 s3 s4 g5 g6 g7 g8 g9 g10 s11 g12 g13 g14 g15 g16 g17 g18 g19 g20 s21 g22 g23 g24 o25_2 s26 s27 x3_2 g29 g30 g31 g32 g33, ai_ cy g5 40 f5, ai_ cy g6 40 f6, ai_ cy g7 40 f7, ai_ cy g8 40 f8, az_ cy g10 40 f10] hP hD (fun hP hD => ?_)
          refine lv_aload_n hx hb dB_3_2_62.1.1.1 rfl (lv_at hl 2 rfl) ?_
          refine lv_dup hx hb dB_3_2_62.1.1.2 rfl ?_
          refine va_get (ci := 12) (v := .int o25_2) (C := RX12) (T := TX12) (N := 34) hx hb hts (fun _ h => List.mem_cons_of_mem _ (List.mem_append_right _ h)) hown hK.1 hP 0 rfl rfl 25 (by decide) (hts (.fieldLink RX12 192 "CutAtlasModel" "cuts" "I") (List.mem_of_getElem? (i := 1) rfl)) (fun _ h9 => h9) rfl dB_3_2_62.1.2.1 ?_
          refine lv_iconst (v := 1) hx hb dB_3_2_62.1.2.2 (by decide) ?_
          refine lv_iadd hx hb dB_3_2_62.2.1.1 ?_
          refine lv_topi (fun y_11 ey_11 => ?_)
          refine va_put (ci := 12) (v := .int y_11) (ty := .int) (C := RX12) (T := TX12) (N := 34) hx hb hts (fun _ h => List.mem_cons_of_mem _ (List.mem_append_right _ h)) tyX12 tyX12_ok nmX12 hown hK.1 hP hD hS 0 rfl rfl 25 (by decide) (hts (.fieldLink RX12 192 "CutAtlasModel" "cuts" "I") (List.mem_of_getElem? (i := 1) rfl)) (fun _ h9 => h9) rfl (by decide +kernel) rfl rfl (Nat.le_of_ble_eq_true rfl) dB_3_2_62.2.1.2 (fun H locs hP hD hS => ?_)
          refine pd_K [ob12_0_ mo s0 s1 t2 s3 s4 g5 g6 g7 g8 g9 g10 s11 g12 g13 g14 g15 g16 g17 g18 g19 g20 s21 g22 g23 g24 y_11 s26 s27 x3_2 g29 g30 g31 g32 g33, ai_ cy g5 40 f5, ai_ cy g6 40 f6, ai_ cy g7 40 f7, ai_ cy g8 40 f8, az_ cy g10 40 f10] hP hD (fun hP hD => ?_)
          obtain ⟨y_12, ey_12⟩ : ∃ y : Int32, y = x3_2 + 2 := ⟨_, rfl⟩
          have ty_12 : y_12.toInt = x3_2.toInt + (2 : Int32).toInt := by rw [ey_12]; exact addI (by omega) (by omega)
          refine lv_iinc (v := y_12) (lv' := [(3, .int y_12), (2, .int r_1), (0, .ref mo), (1, .int a1)]) hx hb dB_3_2_62.2.2.1 hl (k := 0) rfl (by rw [ey_12]; rfl) (by decide) rfl (fun ls hl => ?_)
          refine lv_goto (tgt := 18) hx hb dB_3_2_62.2.2.2.1 (by decide) ?_
          exact ih_2 y_12 y_11 x3_2 _ _ _ (by omega) (by first | with_reducible assumption | omega | assumption) (by first | with_reducible assumption | omega | assumption) ⟨hP, hD⟩ hS (lv_sub hl [0, 1, 2, 3] rfl)

set_option maxHeartbeats 4000000 in
set_option maxRecDepth 100000 in
theorem c_X12_asTold (l : Launch) (D : va_G) (cy : Nat → ClassId) (sz : Nat) (a1 : Int32) : Met l yX12_asTold wsX12_asTold ({ frames := 0, cells := 0, slots := 0, locals := 0 }) (va_Pc [.int a1] (fun U => U.heap.size = sz ∧ va_P D vwCl [] U.heap ∧ kk_ D cy U ∧ va_D (fun _ => True) [])) (va_Qi (fun (r : Int32) (_ : Unit) => True) (fun (_ : Unit) (_ : State) => True) (va_A [] sz)) 0 0 (va_A [] sz) := by
  refine ofQ (cc := cX12_asTold) (maxL := 1) (ret := (some .int)) (by decide) rfl ?_
  intro p e s m args below meth c s₁ Q hQ B hml hv
  obtain ⟨rfl, hsz, hP, hK, hD0⟩ := hv
  have hx := B.exec
  have hb := B.bytes
  have hr := B.returns
  have hts := atoms_spec (ws := wsX12_asTold) B.pre
  have hown : s.vm.findClass RX12 = some m.cls := by have h_ := findClass_of_methodNamed B.named; exact h_
  have hlocks := B.notSynchronized
  subst hsz
  have hD : va_D (va_A [] s.heap.size) [] := dd_nil
  generalize hAe : va_A [] s.heap.size = A at hD hQ
  have hA : ∀ q : Nat, s.heap.size ≤ q → A q := fun q h => by rw [← hAe]; exact Or.inr h
  have hS : va_S A s.heap s.heap [] := va_S.rf
  have hl := lv_entry ([.int a1]) (n := 1) (Nat.le_of_ble_eq_true rfl)
  rw [lg_entry_eq]
  generalize (lg_sl ([.int a1]) ++ List.replicate (1 - (lg_sl ([.int a1])).length) Slot.unset).toArray = ls at hl ⊢
  have hl : lv_has ls 1 [(0, .int a1)] := hl
  have zm5 : ((-5) : Int32).toInt = -5 := by decide
  have z1000000 : (1000000 : Int32).toInt = 1000000 := by decide
  refine lv_iload_n hx hb dB_3_1_0.1.1 rfl (lv_at hl 0 rfl) ?_
  refine lv_ldc (v := 1000000) hx hb hown (hts (.constant RX12 159 (1000000)) (List.mem_of_getElem? (i := 1) rfl)) dB_3_1_0.1.2.1 ?_
  refine lv_icmp_ne (tgt := 11) hx hb dB_3_1_0.1.2.2 (by decide) (fun c_1 => ?_) (fun c_1 => ?_)
  · have t_1 : ¬ a1.toInt = (1000000 : Int32).toInt := fun h => c_1 (Int32.toInt_inj.mp h)
    refine lv_iload_n hx hb dB_3_1_0.2.2.1 rfl (lv_at hl 0 rfl) ?_
    rw [hQ]
    exact W.iret (v := a1) hx hb hr (fun t ht hW => ⟨⟨a1, (), rfl, trivial, trivial⟩, hS.F ht⟩) hS.2.2 dB_3_1_0.2.2.2
  · have t_1 : a1.toInt = (1000000 : Int32).toInt := congrArg Int32.toInt c_1
    refine lv_bipush (v := (-5)) hx hb dB_3_1_0.2.1.1 (by decide) ?_
    refine lv_goto (tgt := 12) hx hb dB_3_1_0.2.1.2 (by decide) ?_
    rw [hQ]
    exact W.iret (v := (-5)) hx hb hr (fun t ht hW => ⟨⟨(-5), (), rfl, trivial, trivial⟩, hS.F ht⟩) hS.2.2 dB_3_1_0.2.2.2
end
