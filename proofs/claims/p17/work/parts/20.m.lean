section
/-- what a LINE of kind k and width w lets, in the reference's numbers; b: from its first end -/
noncomputable def ml_lets (k w b : Int32) : Int32 := if k = 2 then (-5) else if k = 1 ∧ b = 0 then 0 else w
/-- the same with ENDLESS as 1000000; z: the line that is raised -/
noncomputable def ml_room (k w b l z : Int32) : Int32 := if ml_lets k w b = (-5) then 1000000 else if l = z ∧ ¬ (k = 1 ∧ b = 0) then ml_lets k w b + 1 else ml_lets k w b

set_option maxHeartbeats 4000000 in
set_option maxRecDepth 100000 in
theorem c_X12_in (l : Launch) (D : va_G) (cy : Nat → ClassId) (sz : Nat) (v : Int64) (lo : Int64) (hi : Int64) : Met l yX12_in wsX12_in ({ frames := 0, cells := 0, slots := 0, locals := 0 }) (va_Pc [.long v, .long lo, .long hi] (fun U => U.heap.size = sz ∧ va_P D vwCl [] U.heap ∧ kk_ D cy U ∧ va_D (fun _ => True) [])) (va_Qi (fun (r : Int32) (_ : Unit) => ((lo.toInt ≤ v.toInt ∧ v.toInt ≤ hi.toInt) ∧ r = 1) ∨ ((¬ (lo.toInt ≤ v.toInt ∧ v.toInt ≤ hi.toInt)) ∧ r = 0)) (fun (_ : Unit) (_ : State) => True) (va_A [] sz)) 0 0 (va_A [] sz) := by
  refine ofQ (cc := cX12_in) (maxL := 6) (ret := (some .boolean)) (by decide) rfl ?_
  intro p e s m args below meth c s₁ Q hQ B hml hv
  obtain ⟨rfl, hsz, hP, hK, hD0⟩ := hv
  have hx := B.exec
  have hb := B.bytes
  have hr := B.returns
  have hts := atoms_spec (ws := wsX12_in) B.pre
  have hown : s.vm.findClass RX12 = some m.cls := by have h_ := findClass_of_methodNamed B.named; exact h_
  have hlocks := B.notSynchronized
  subst hsz
  have hD : va_D (va_A [] s.heap.size) [] := dd_nil
  generalize hAe : va_A [] s.heap.size = A at hD hQ
  have hA : ∀ q : Nat, s.heap.size ≤ q → A q := fun q h => by rw [← hAe]; exact Or.inr h
  have hS : va_S A s.heap s.heap [] := va_S.rf
  have hl := lv_entry ([.long v, .long lo, .long hi]) (n := 6) (Nat.le_of_ble_eq_true rfl)
  rw [lg_entry_eq]
  generalize (lg_sl ([.long v, .long lo, .long hi]) ++ List.replicate (6 - (lg_sl ([.long v, .long lo, .long hi])).length) Slot.unset).toArray = ls at hl ⊢
  have hl : lv_has ls 6 [(0, .long v), (2, .long lo), (4, .long hi)] := hl
  have z0 : (0 : Int32).toInt = 0 := by decide
  have z1 : (1 : Int32).toInt = 1 := by decide
  refine lv_lload_n hx hb dB_3_0_9.1.1.1 rfl (lv_at hl 0 rfl) ?_
  refine lv_lload_n hx hb dB_3_0_9.1.1.2.1 rfl (lv_at hl 1 rfl) ?_
  refine W.lcmp hx hb dB_3_0_9.1.1.2.2 ?_
  refine lv_if_lt (tgt := 17) hx hb dB_3_0_9.1.2.1 (by decide) (fun c_1 => ?_) (fun c_1 => ?_)
  · have t_1 : v.toInt < lo.toInt := Int64.lt_iff_toInt_lt.mp ((lg_cmp_lt v lo).mp c_1)
    refine lv_iconst (v := 0) hx hb dB_3_0_9.2.2.2.1 (by decide) ?_
    rw [hQ]
    exact W.zret (ty := .boolean) (v := 0) hx hb hr (by decide) (fun t ht hW => ⟨⟨0, (), rfl, Or.inr (⟨by omega, rfl⟩), trivial⟩, hS.F ht⟩) hS.2.2 dB_3_0_9.2.2.2.2
  · have t_1 : ¬ v.toInt < lo.toInt := fun h => c_1 ((lg_cmp_lt v lo).mpr (Int64.lt_iff_toInt_lt.mpr h))
    refine lv_lload_n hx hb dB_3_0_9.1.2.2.1 rfl (lv_at hl 0 rfl) ?_
    refine lv_lload hx hb dB_3_0_9.1.2.2.2 (lv_at hl 2 rfl) ?_
    refine W.lcmp hx hb dB_3_0_9.2.1.1 ?_
    refine lv_if_gt (tgt := 17) hx hb dB_3_0_9.2.1.2.1 (by decide) (fun c_2 => ?_) (fun c_2 => ?_)
    · have t_2 : hi.toInt < v.toInt := Int64.lt_iff_toInt_lt.mp ((lg_cmp_gt v hi).mp c_2)
      refine lv_iconst (v := 0) hx hb dB_3_0_9.2.2.2.1 (by decide) ?_
      rw [hQ]
      exact W.zret (ty := .boolean) (v := 0) hx hb hr (by decide) (fun t ht hW => ⟨⟨0, (), rfl, Or.inr (⟨by omega, rfl⟩), trivial⟩, hS.F ht⟩) hS.2.2 dB_3_0_9.2.2.2.2
    · have t_2 : ¬ hi.toInt < v.toInt := fun h => c_2 ((lg_cmp_gt v hi).mpr (Int64.lt_iff_toInt_lt.mpr h))
      refine lv_iconst (v := 1) hx hb dB_3_0_9.2.1.2.2 (by decide) ?_
      refine lv_goto (tgt := 18) hx hb dB_3_0_9.2.2.1 (by decide) ?_
      rw [hQ]
      exact W.zret (ty := .boolean) (v := 1) hx hb hr (by decide) (fun t ht hW => ⟨⟨1, (), rfl, Or.inl (⟨by omega, rfl⟩), trivial⟩, hS.F ht⟩) hS.2.2 dB_3_0_9.2.2.2.2

set_option maxHeartbeats 4000000 in
set_option maxRecDepth 100000 in
theorem c_X12_isPlace (l : Launch) (D : va_G) (cy : Nat → ClassId) (sz : Nat) (mo : Nat) (g5 : Nat) (g6 : Nat) (g7 : Nat) (g8 : Nat) (g9 : Nat) (g10 : Nat) (g12 : Nat) (g13 : Nat) (g14 : Nat) (g15 : Nat) (g16 : Nat) (g17 : Nat) (g18 : Nat) (g19 : Nat) (g20 : Nat) (g22 : Nat) (g23 : Nat) (g24 : Nat) (g29 : Nat) (g30 : Nat) (g31 : Nat) (g32 : Nat) (g33 : Nat) (s0 : Int32) (s1 : Int32) (s3 : Int32) (s4 : Int32) (s11 : Int32) (s21 : Int32) (s25 : Int32) (s26 : Int32) (s27 : Int32) (s28 : Int32) (t2 : Int64) (a1 : Int32) (hPl : 0 ≤ s3.toInt ∧ s3.toInt ≤ 12) : Met l yX12_isPlace wsX12_isPlace ({ frames := 1, cells := 0, slots := 0, locals := 25 }) (va_Pc [.ref mo, .int a1] (fun U => U.heap.size = sz ∧ va_P D vwCl [ob12_0_ mo s0 s1 t2 s3 s4 g5 g6 g7 g8 g9 g10 s11 g12 g13 g14 g15 g16 g17 g18 g19 g20 s21 g22 g23 g24 s25 s26 s27 s28 g29 g30 g31 g32 g33] U.heap ∧ kk_ D cy U ∧ va_D (fun _ => True) [ob12_0_ mo s0 s1 t2 s3 s4 g5 g6 g7 g8 g9 g10 s11 g12 g13 g14 g15 g16 g17 g18 g19 g20 s21 g22 g23 g24 s25 s26 s27 s28 g29 g30 g31 g32 g33])) (va_Qi (fun (r : Int32) (_ : Unit) => ((0 ≤ a1.toInt ∧ a1.toInt < s3.toInt) ∧ r = 1) ∨ ((¬ (0 ≤ a1.toInt ∧ a1.toInt < s3.toInt)) ∧ r = 0)) (fun (_ : Unit) (_ : State) => True) (va_A [] sz)) 0 0 (va_A [] sz) := by
  refine ofQ (cc := cX12_isPlace) (maxL := 2) (ret := (some .boolean)) (by decide) rfl ?_
  intro p e s m args below meth c s₁ Q hQ B hml hv
  obtain ⟨rfl, hsz, hP, hK, hD0⟩ := hv
  have hx := B.exec
  have hb := B.bytes
  have hr := B.returns
  have hts := atoms_spec (ws := wsX12_isPlace) B.pre
  have hown : s.vm.findClass RX12 = some m.cls := by have h_ := findClass_of_methodNamed B.named; exact h_
  have hlocks := B.notSynchronized
  subst hsz
  have hD : va_D (va_A [] s.heap.size) [] := dd_nil
  generalize hAe : va_A [] s.heap.size = A at hD hQ
  have hA : ∀ q : Nat, s.heap.size ≤ q → A q := fun q h => by rw [← hAe]; exact Or.inr h
  have hS : va_S A s.heap s.heap [] := va_S.rf
  have hl := lv_entry ([.ref mo, .int a1]) (n := 2) (Nat.le_of_ble_eq_true rfl)
  rw [lg_entry_eq]
  generalize (lg_sl ([.ref mo, .int a1]) ++ List.replicate (2 - (lg_sl ([.ref mo, .int a1])).length) Slot.unset).toArray = ls at hl ⊢
  have hl : lv_has ls 2 [(0, .ref mo), (1, .int a1)] := hl
  have z0 : (0 : Int32).toInt = 0 := by decide
  have zl0 : (0 : Int64).toInt = 0 := by decide
  have z1 : (1 : Int32).toInt = 1 := by decide
  refine lv_iload_n hx hb dB_3_0_18.1.1.1 rfl (lv_at hl 1 rfl) ?_
  refine lv_i2l (v := a1.toInt64) hx hb dB_3_0_18.1.1.2 rfl ?_
  have q_1 : (a1.toInt64).toInt = a1.toInt := Int32.toInt_toInt64 a1
  refine lv_lconst (v := 0) hx hb dB_3_0_18.1.2.1 (by decide) ?_
  refine lv_aload_n hx hb dB_3_0_18.1.2.2.1 rfl (lv_at hl 0 rfl) ?_
  refine va_get (ci := 12) (v := .int s3) (C := RX12) (T := TX12) (N := 34) hx hb hts (fun _ h => List.mem_cons_of_mem _ (List.mem_append_right _ h)) hown hK.1 hP 0 rfl rfl 3 (by decide) (hts (.fieldLink RX12 88 "CutAtlasModel" "places" "I") (List.mem_of_getElem? (i := 1) rfl)) (fun _ h9 => h9) rfl dB_3_0_18.1.2.2.2 ?_
  refine lv_iconst (v := 1) hx hb dB_3_0_18.2.1.1 (by decide) ?_
  refine lv_isub hx hb dB_3_0_18.2.1.2 ?_
  refine lv_topi (fun y_1 ey_1 => ?_)
  have ty_1 : y_1.toInt = s3.toInt - (1 : Int32).toInt := by rw [ey_1]; exact subI (by omega) (by omega)
  refine lv_i2l (v := y_1.toInt64) hx hb dB_3_0_18.2.2.1 rfl ?_
  have q_9 : (y_1.toInt64).toInt = y_1.toInt := Int32.toInt_toInt64 y_1
  refine ct_R hP hD0 [] [] (by decide) rfl (fun hPc hDw => ?_)
  have hFc := va_free (wc := []) hD hS hA [] rfl
  refine va_calli (va_runS (As := [.long a1.toInt64, .long 0, .long y_1.toInt64]) (rest := []) ⟨hx, hb, hml, hown, hts⟩ (c_X12_in l D cy s.heap.size a1.toInt64 (0 : Int64) y_1.toInt64) (va_cwS 3 hts gX12_isPlace_X12_in rfl rfl rfl hd_X12_in ⟨Nat.le_of_ble_eq_true rfl, Nat.le_of_ble_eq_true rfl⟩) ⟨bl_, fun U hU hW => ⟨rfl, by rw [hU], by rw [hU]; exact hPc, kk_mv hW hK, hDw⟩⟩ rfl rfl hl.1 rfl (lv_room (Nat.le_of_ble_eq_true rfl)) dB_3_0_18.2.2.2.1 ⟨Nat.le_of_ble_eq_true rfl, Nat.le_of_ble_eq_true rfl⟩) hS (fun q _ h => hFc q h) hFc (fun r_2 u t H locs ht hvm hw hB hz1 hk1 hS => ?_)
  have hP : va_P D vwCl _ H := ro_keep hP hk1
  rcases hw with ⟨w_3, e_⟩ | ⟨w_3, e_⟩
  · have e_ := e_.symm
    subst e_
    rw [hQ]
    exact W.zret (ty := .boolean) (v := 1) hx hb hr (by decide) (fun t ht hW => ⟨⟨1, (), rfl, Or.inl (⟨by omega, rfl⟩), trivial⟩, hS.F ht⟩) hS.2.2 dB_3_0_18.2.2.2.2
  · have e_ := e_.symm
    subst e_
    rw [hQ]
    exact W.zret (ty := .boolean) (v := 0) hx hb hr (by decide) (fun t ht hW => ⟨⟨0, (), rfl, Or.inr (⟨by omega, rfl⟩), trivial⟩, hS.F ht⟩) hS.2.2 dB_3_0_18.2.2.2.2

set_option maxHeartbeats 4000000 in
set_option maxRecDepth 100000 in
theorem c_X12_isLine (l : Launch) (D : va_G) (cy : Nat → ClassId) (sz : Nat) (mo : Nat) (g5 : Nat) (g6 : Nat) (g7 : Nat) (g8 : Nat) (g9 : Nat) (g10 : Nat) (g12 : Nat) (g13 : Nat) (g14 : Nat) (g15 : Nat) (g16 : Nat) (g17 : Nat) (g18 : Nat) (g19 : Nat) (g20 : Nat) (g22 : Nat) (g23 : Nat) (g24 : Nat) (g29 : Nat) (g30 : Nat) (g31 : Nat) (g32 : Nat) (g33 : Nat) (s0 : Int32) (s1 : Int32) (s3 : Int32) (s4 : Int32) (s11 : Int32) (s21 : Int32) (s25 : Int32) (s26 : Int32) (s27 : Int32) (s28 : Int32) (t2 : Int64) (a1 : Int32) (hN : 0 ≤ s4.toInt ∧ s4.toInt ≤ 40) : Met l yX12_isLine wsX12_isLine ({ frames := 1, cells := 0, slots := 0, locals := 25 }) (va_Pc [.ref mo, .int a1] (fun U => U.heap.size = sz ∧ va_P D vwCl [ob12_0_ mo s0 s1 t2 s3 s4 g5 g6 g7 g8 g9 g10 s11 g12 g13 g14 g15 g16 g17 g18 g19 g20 s21 g22 g23 g24 s25 s26 s27 s28 g29 g30 g31 g32 g33] U.heap ∧ kk_ D cy U ∧ va_D (fun _ => True) [ob12_0_ mo s0 s1 t2 s3 s4 g5 g6 g7 g8 g9 g10 s11 g12 g13 g14 g15 g16 g17 g18 g19 g20 s21 g22 g23 g24 s25 s26 s27 s28 g29 g30 g31 g32 g33])) (va_Qi (fun (r : Int32) (_ : Unit) => ((0 ≤ a1.toInt ∧ a1.toInt < s4.toInt) ∧ r = 1) ∨ ((¬ (0 ≤ a1.toInt ∧ a1.toInt < s4.toInt)) ∧ r = 0)) (fun (_ : Unit) (_ : State) => True) (va_A [] sz)) 0 0 (va_A [] sz) := by
  refine ofQ (cc := cX12_isLine) (maxL := 2) (ret := (some .boolean)) (by decide) rfl ?_
  intro p e s m args below meth c s₁ Q hQ B hml hv
  obtain ⟨rfl, hsz, hP, hK, hD0⟩ := hv
  have hx := B.exec
  have hb := B.bytes
  have hr := B.returns
  have hts := atoms_spec (ws := wsX12_isLine) B.pre
  have hown : s.vm.findClass RX12 = some m.cls := by have h_ := findClass_of_methodNamed B.named; exact h_
  have hlocks := B.notSynchronized
  subst hsz
  have hD : va_D (va_A [] s.heap.size) [] := dd_nil
  generalize hAe : va_A [] s.heap.size = A at hD hQ
  have hA : ∀ q : Nat, s.heap.size ≤ q → A q := fun q h => by rw [← hAe]; exact Or.inr h
  have hS : va_S A s.heap s.heap [] := va_S.rf
  have hl := lv_entry ([.ref mo, .int a1]) (n := 2) (Nat.le_of_ble_eq_true rfl)
  rw [lg_entry_eq]
  generalize (lg_sl ([.ref mo, .int a1]) ++ List.replicate (2 - (lg_sl ([.ref mo, .int a1])).length) Slot.unset).toArray = ls at hl ⊢
  have hl : lv_has ls 2 [(0, .ref mo), (1, .int a1)] := hl
  have z0 : (0 : Int32).toInt = 0 := by decide
  have zl0 : (0 : Int64).toInt = 0 := by decide
  have z1 : (1 : Int32).toInt = 1 := by decide
  refine lv_iload_n hx hb dB_3_0_17.1.1.1 rfl (lv_at hl 1 rfl) ?_
  refine lv_i2l (v := a1.toInt64) hx hb dB_3_0_17.1.1.2 rfl ?_
  have q_1 : (a1.toInt64).toInt = a1.toInt := Int32.toInt_toInt64 a1
  refine lv_lconst (v := 0) hx hb dB_3_0_17.1.2.1 (by decide) ?_
  refine lv_aload_n hx hb dB_3_0_17.1.2.2.1 rfl (lv_at hl 0 rfl) ?_
  refine va_get (ci := 12) (v := .int s4) (C := RX12) (T := TX12) (N := 34) hx hb hts (fun _ h => List.mem_cons_of_mem _ (List.mem_append_right _ h)) hown hK.1 hP 0 rfl rfl 4 (by decide) (hts (.fieldLink RX12 95 "CutAtlasModel" "lines" "I") (List.mem_of_getElem? (i := 1) rfl)) (fun _ h9 => h9) rfl dB_3_0_17.1.2.2.2 ?_
  refine lv_iconst (v := 1) hx hb dB_3_0_17.2.1.1 (by decide) ?_
  refine lv_isub hx hb dB_3_0_17.2.1.2 ?_
  refine lv_topi (fun y_1 ey_1 => ?_)
  have ty_1 : y_1.toInt = s4.toInt - (1 : Int32).toInt := by rw [ey_1]; exact subI (by omega) (by omega)
  refine lv_i2l (v := y_1.toInt64) hx hb dB_3_0_17.2.2.1 rfl ?_
  have q_9 : (y_1.toInt64).toInt = y_1.toInt := Int32.toInt_toInt64 y_1
  refine ct_R hP hD0 [] [] (by decide) rfl (fun hPc hDw => ?_)
  have hFc := va_free (wc := []) hD hS hA [] rfl
  refine va_calli (va_runS (As := [.long a1.toInt64, .long 0, .long y_1.toInt64]) (rest := []) ⟨hx, hb, hml, hown, hts⟩ (c_X12_in l D cy s.heap.size a1.toInt64 (0 : Int64) y_1.toInt64) (va_cwS 3 hts gX12_isLine_X12_in rfl rfl rfl hd_X12_in ⟨Nat.le_of_ble_eq_true rfl, Nat.le_of_ble_eq_true rfl⟩) ⟨bl_, fun U hU hW => ⟨rfl, by rw [hU], by rw [hU]; exact hPc, kk_mv hW hK, hDw⟩⟩ rfl rfl hl.1 rfl (lv_room (Nat.le_of_ble_eq_true rfl)) dB_3_0_17.2.2.2.1 ⟨Nat.le_of_ble_eq_true rfl, Nat.le_of_ble_eq_true rfl⟩) hS (fun q _ h => hFc q h) hFc (fun r_2 u t H locs ht hvm hw hB hz1 hk1 hS => ?_)
  have hP : va_P D vwCl _ H := ro_keep hP hk1
  rcases hw with ⟨w_3, e_⟩ | ⟨w_3, e_⟩
  · have e_ := e_.symm
    subst e_
    rw [hQ]
    exact W.zret (ty := .boolean) (v := 1) hx hb hr (by decide) (fun t ht hW => ⟨⟨1, (), rfl, Or.inl (⟨by omega, rfl⟩), trivial⟩, hS.F ht⟩) hS.2.2 dB_3_0_17.2.2.2.2
  · have e_ := e_.symm
    subst e_
    rw [hQ]
    exact W.zret (ty := .boolean) (v := 0) hx hb hr (by decide) (fun t ht hW => ⟨⟨0, (), rfl, Or.inr (⟨by omega, rfl⟩), trivial⟩, hS.F ht⟩) hS.2.2 dB_3_0_17.2.2.2.2

set_option maxHeartbeats 4000000 in
set_option maxRecDepth 100000 in
theorem c_X12_arePlaces (l : Launch) (D : va_G) (cy : Nat → ClassId) (sz : Nat) (mo : Nat) (g5 : Nat) (g6 : Nat) (g7 : Nat) (g8 : Nat) (g9 : Nat) (g10 : Nat) (g12 : Nat) (g13 : Nat) (g14 : Nat) (g15 : Nat) (g16 : Nat) (g17 : Nat) (g18 : Nat) (g19 : Nat) (g20 : Nat) (g22 : Nat) (g23 : Nat) (g24 : Nat) (g29 : Nat) (g30 : Nat) (g31 : Nat) (g32 : Nat) (g33 : Nat) (s0 : Int32) (s1 : Int32) (s3 : Int32) (s4 : Int32) (s11 : Int32) (s21 : Int32) (s25 : Int32) (s26 : Int32) (s27 : Int32) (s28 : Int32) (t2 : Int64) (a1 : Int32) (a2 : Int32) (hPl : 0 ≤ s3.toInt ∧ s3.toInt ≤ 12) : Met l yX12_arePlaces wsX12_arePlaces ({ frames := 2, cells := 0, slots := 0, locals := 46 }) (va_Pc [.ref mo, .int a1, .int a2] (fun U => U.heap.size = sz ∧ va_P D vwCl [ob12_0_ mo s0 s1 t2 s3 s4 g5 g6 g7 g8 g9 g10 s11 g12 g13 g14 g15 g16 g17 g18 g19 g20 s21 g22 g23 g24 s25 s26 s27 s28 g29 g30 g31 g32 g33] U.heap ∧ kk_ D cy U ∧ va_D (fun _ => True) [ob12_0_ mo s0 s1 t2 s3 s4 g5 g6 g7 g8 g9 g10 s11 g12 g13 g14 g15 g16 g17 g18 g19 g20 s21 g22 g23 g24 s25 s26 s27 s28 g29 g30 g31 g32 g33])) (va_Qi (fun (r : Int32) (_ : Unit) => (((0 ≤ a1.toInt ∧ a1.toInt < s3.toInt) ∧ (0 ≤ a2.toInt ∧ a2.toInt < s3.toInt) ∧ a1.toInt ≠ a2.toInt) ∧ r = 1) ∨ ((¬ ((0 ≤ a1.toInt ∧ a1.toInt < s3.toInt) ∧ (0 ≤ a2.toInt ∧ a2.toInt < s3.toInt) ∧ a1.toInt ≠ a2.toInt)) ∧ r = 0)) (fun (_ : Unit) (_ : State) => True) (va_A [] sz)) 0 0 (va_A [] sz) := by
  refine ofQ (cc := cX12_arePlaces) (maxL := 3) (ret := (some .boolean)) (by decide) rfl ?_
  intro p e s m args below meth c s₁ Q hQ B hml hv
  obtain ⟨rfl, hsz, hP, hK, hD0⟩ := hv
  have hx := B.exec
  have hb := B.bytes
  have hr := B.returns
  have hts := atoms_spec (ws := wsX12_arePlaces) B.pre
  have hown : s.vm.findClass RX12 = some m.cls := by have h_ := findClass_of_methodNamed B.named; exact h_
  have hlocks := B.notSynchronized
  subst hsz
  have hD : va_D (va_A [] s.heap.size) [] := dd_nil
  generalize hAe : va_A [] s.heap.size = A at hD hQ
  have hA : ∀ q : Nat, s.heap.size ≤ q → A q := fun q h => by rw [← hAe]; exact Or.inr h
  have hS : va_S A s.heap s.heap [] := va_S.rf
  have hl := lv_entry ([.ref mo, .int a1, .int a2]) (n := 3) (Nat.le_of_ble_eq_true rfl)
  rw [lg_entry_eq]
  generalize (lg_sl ([.ref mo, .int a1, .int a2]) ++ List.replicate (3 - (lg_sl ([.ref mo, .int a1, .int a2])).length) Slot.unset).toArray = ls at hl ⊢
  have hl : lv_has ls 3 [(0, .ref mo), (1, .int a1), (2, .int a2)] := hl
  have z0 : (0 : Int32).toInt = 0 := by decide
  have z1 : (1 : Int32).toInt = 1 := by decide
  refine lv_aload_n hx hb dB_3_0_4.1.1.1 rfl (lv_at hl 0 rfl) ?_
  refine lv_iload_n hx hb dB_3_0_4.1.1.2.1 rfl (lv_at hl 1 rfl) ?_
  refine ct_R hP hD0 [ob12_0_ mo s0 s1 t2 s3 s4 g5 g6 g7 g8 g9 g10 s11 g12 g13 g14 g15 g16 g17 g18 g19 g20 s21 g22 g23 g24 s25 s26 s27 s28 g29 g30 g31 g32 g33] [0] (by decide) rfl (fun hPc hDw => ?_)
  have hFc := va_free (wc := []) hD hS hA [] rfl
  refine va_calli (va_runV (As := [.int a1]) (rest := []) ⟨hx, hb, hml, hown, hts⟩ (c_X12_isPlace l D cy s.heap.size mo g5 g6 g7 g8 g9 g10 g12 g13 g14 g15 g16 g17 g18 g19 g20 g22 g23 g24 g29 g30 g31 g32 g33 s0 s1 s3 s4 s11 s21 s25 s26 s27 s28 t2 a1 (by first | with_reducible assumption | omega | assumption)) (cwV 1 hts gX12_arePlaces_X12_isPlace rfl rfl rfl ⟨rfl, hd_X12_isPlace⟩ ⟨Nat.le_of_ble_eq_true rfl, Nat.le_of_ble_eq_true rfl⟩) ⟨bl_, va_recvX hK.1 hP (ci := 12) (q0 := 0) rfl rfl, fun U hU hW => ⟨rfl, by rw [hU], by rw [hU]; exact hPc, kk_mv hW hK, hDw⟩⟩ rfl rfl hl.1 rfl (lv_room (Nat.le_of_ble_eq_true rfl)) dB_3_0_4.1.1.2.2 ⟨Nat.le_of_ble_eq_true rfl, Nat.le_of_ble_eq_true rfl⟩) hS (fun q _ h => hFc q h) hFc (fun r_1 u t H locs ht hvm hw hB hz1 hk1 hS => ?_)
  have hP : va_P D vwCl _ H := ro_keep hP hk1
  rcases hw with ⟨w_2, e_⟩ | ⟨w_2, e_⟩
  · have e_ := e_.symm
    subst e_
    refine lv_if_eq (tgt := 25) hx hb dB_3_0_4.1.2.1.1 (by decide) (fun c_3 => ?_) (fun c_3 => ?_)
    · exact absurd c_3 (by decide)
    · have _ := c_3
      refine lv_aload_n hx hb dB_3_0_4.1.2.1.2 rfl (lv_at hl 0 rfl) ?_
      refine lv_iload_n hx hb dB_3_0_4.1.2.2.1 rfl (lv_at hl 2 rfl) ?_
      refine ct_R hP hD0 [ob12_0_ mo s0 s1 t2 s3 s4 g5 g6 g7 g8 g9 g10 s11 g12 g13 g14 g15 g16 g17 g18 g19 g20 s21 g22 g23 g24 s25 s26 s27 s28 g29 g30 g31 g32 g33] [0] (by decide) rfl (fun hPc hDw => ?_)
      have hFc := va_free (wc := []) hD hS hA [] rfl
      refine va_calli (va_runV (As := [.int a2]) (rest := []) ⟨hx, hb, hml, hown, hts⟩ (c_X12_isPlace l D cy H.size mo g5 g6 g7 g8 g9 g10 g12 g13 g14 g15 g16 g17 g18 g19 g20 g22 g23 g24 g29 g30 g31 g32 g33 s0 s1 s3 s4 s11 s21 s25 s26 s27 s28 t2 a2 (by first | with_reducible assumption | omega | assumption)) (cwV 1 hts gX12_arePlaces_X12_isPlace rfl rfl rfl ⟨rfl, hd_X12_isPlace⟩ ⟨Nat.le_of_ble_eq_true rfl, Nat.le_of_ble_eq_true rfl⟩) ⟨bl_, va_recvX hK.1 hP (ci := 12) (q0 := 0) rfl rfl, fun U hU hW => ⟨rfl, by rw [hU], by rw [hU]; exact hPc, kk_mv hW hK, hDw⟩⟩ rfl rfl hl.1 rfl (lv_room (Nat.le_of_ble_eq_true rfl)) dB_3_0_4.1.2.2.2 ⟨Nat.le_of_ble_eq_true rfl, Nat.le_of_ble_eq_true rfl⟩) hS (fun q _ h => hFc q h) hFc (fun r_4 u t H locs ht hvm hw hB hz1 hk1 hS => ?_)
      have hP : va_P D vwCl _ H := ro_keep hP hk1
      rcases hw with ⟨w_5, e_⟩ | ⟨w_5, e_⟩
      · have e_ := e_.symm
        subst e_
        refine lv_if_eq (tgt := 25) hx hb dB_3_0_4.2.1.1.1 (by decide) (fun c_6 => ?_) (fun c_6 => ?_)
        · exact absurd c_6 (by decide)
        · have _ := c_6
          refine lv_iload_n hx hb dB_3_0_4.2.1.1.2 rfl (lv_at hl 1 rfl) ?_
          refine lv_iload_n hx hb dB_3_0_4.2.1.2.1 rfl (lv_at hl 2 rfl) ?_
          refine lv_icmp_eq (tgt := 25) hx hb dB_3_0_4.2.1.2.2 (by decide) (fun c_7 => ?_) (fun c_7 => ?_)
          · have t_7 : a1.toInt = a2.toInt := congrArg Int32.toInt c_7
            refine lv_iconst (v := 0) hx hb dB_3_0_4.2.2.2.1 (by decide) ?_
            rw [hQ]
            exact W.zret (ty := .boolean) (v := 0) hx hb hr (by decide) (fun t ht hW => ⟨⟨0, (), rfl, Or.inr (⟨by omega, rfl⟩), trivial⟩, hS.F ht⟩) hS.2.2 dB_3_0_4.2.2.2.2
          · have t_7 : ¬ a1.toInt = a2.toInt := fun h => c_7 (Int32.toInt_inj.mp h)
            refine lv_iconst (v := 1) hx hb dB_3_0_4.2.2.1.1 (by decide) ?_
            refine lv_goto (tgt := 26) hx hb dB_3_0_4.2.2.1.2 (by decide) ?_
            rw [hQ]
            exact W.zret (ty := .boolean) (v := 1) hx hb hr (by decide) (fun t ht hW => ⟨⟨1, (), rfl, Or.inl (⟨by omega, rfl⟩), trivial⟩, hS.F ht⟩) hS.2.2 dB_3_0_4.2.2.2.2
      · have e_ := e_.symm
        subst e_
        refine lv_if_eq (tgt := 25) hx hb dB_3_0_4.2.1.1.1 (by decide) (fun c_8 => ?_) (fun c_8 => ?_)
        · have _ := c_8
          refine lv_iconst (v := 0) hx hb dB_3_0_4.2.2.2.1 (by decide) ?_
          rw [hQ]
          exact W.zret (ty := .boolean) (v := 0) hx hb hr (by decide) (fun t ht hW => ⟨⟨0, (), rfl, Or.inr (⟨by omega, rfl⟩), trivial⟩, hS.F ht⟩) hS.2.2 dB_3_0_4.2.2.2.2
        · exact absurd c_8 (by decide)
  · have e_ := e_.symm
    subst e_
    refine lv_if_eq (tgt := 25) hx hb dB_3_0_4.1.2.1.1 (by decide) (fun c_9 => ?_) (fun c_9 => ?_)
    · have _ := c_9
      refine lv_iconst (v := 0) hx hb dB_3_0_4.2.2.2.1 (by decide) ?_
      rw [hQ]
      exact W.zret (ty := .boolean) (v := 0) hx hb hr (by decide) (fun t ht hW => ⟨⟨0, (), rfl, Or.inr (⟨by omega, rfl⟩), trivial⟩, hS.F ht⟩) hS.2.2 dB_3_0_4.2.2.2.2
    · exact absurd c_9 (by decide)

set_option maxHeartbeats 4000000 in
set_option maxRecDepth 100000 in
theorem c_X12_lets (l : Launch) (D : va_G) (cy : Nat → ClassId) (sz : Nat) (mo : Nat) (g5 : Nat) (g6 : Nat) (g7 : Nat) (g8 : Nat) (g9 : Nat) (g10 : Nat) (g12 : Nat) (g13 : Nat) (g14 : Nat) (g15 : Nat) (g16 : Nat) (g17 : Nat) (g18 : Nat) (g19 : Nat) (g20 : Nat) (g22 : Nat) (g23 : Nat) (g24 : Nat) (g29 : Nat) (g30 : Nat) (g31 : Nat) (g32 : Nat) (g33 : Nat) (s0 : Int32) (s1 : Int32) (s3 : Int32) (s4 : Int32) (s11 : Int32) (s21 : Int32) (s25 : Int32) (s26 : Int32) (s27 : Int32) (s28 : Int32) (t2 : Int64) (f5 : Nat → Int32) (f8 : Nat → Int32) (a1 : Int32) (a2 : Int32) (q1 : 0 ≤ a1.toInt ∧ a1.toInt < 40) : Met l yX12_lets wsX12_lets ({ frames := 0, cells := 0, slots := 0, locals := 0 }) (va_Pc [.ref mo, .int a1, .int a2] (fun U => U.heap.size = sz ∧ va_P D vwCl [ob12_0_ mo s0 s1 t2 s3 s4 g5 g6 g7 g8 g9 g10 s11 g12 g13 g14 g15 g16 g17 g18 g19 g20 s21 g22 g23 g24 s25 s26 s27 s28 g29 g30 g31 g32 g33, ai_ cy g5 40 f5, ai_ cy g8 40 f8] U.heap ∧ kk_ D cy U ∧ va_D (fun _ => True) [ob12_0_ mo s0 s1 t2 s3 s4 g5 g6 g7 g8 g9 g10 s11 g12 g13 g14 g15 g16 g17 g18 g19 g20 s21 g22 g23 g24 s25 s26 s27 s28 g29 g30 g31 g32 g33, ai_ cy g5 40 f5, ai_ cy g8 40 f8])) (va_Qi (fun (r : Int32) (_ : Unit) => (r = ml_lets (f5 a1.toNatClampNeg) (f8 a1.toNatClampNeg) a2)) (fun (_ : Unit) (_ : State) => True) (va_A [] sz)) 0 0 (va_A [] sz) := by
  refine ofQ (cc := cX12_lets) (maxL := 3) (ret := (some .int)) (by decide) rfl ?_
  intro p e s m args below meth c s₁ Q hQ B hml hv
  obtain ⟨rfl, hsz, hP, hK, hD0⟩ := hv
  have hx := B.exec
  have hb := B.bytes
  have hr := B.returns
  have hts := atoms_spec (ws := wsX12_lets) B.pre
  have hown : s.vm.findClass RX12 = some m.cls := by have h_ := findClass_of_methodNamed B.named; exact h_
  have hlocks := B.notSynchronized
  subst hsz
  have hD : va_D (va_A [] s.heap.size) [] := dd_nil
  generalize hAe : va_A [] s.heap.size = A at hD hQ
  have hA : ∀ q : Nat, s.heap.size ≤ q → A q := fun q h => by rw [← hAe]; exact Or.inr h
  have hS : va_S A s.heap s.heap [] := va_S.rf
  have hl := lv_entry ([.ref mo, .int a1, .int a2]) (n := 3) (Nat.le_of_ble_eq_true rfl)
  rw [lg_entry_eq]
  generalize (lg_sl ([.ref mo, .int a1, .int a2]) ++ List.replicate (3 - (lg_sl ([.ref mo, .int a1, .int a2])).length) Slot.unset).toArray = ls at hl ⊢
  have hl : lv_has ls 3 [(0, .ref mo), (1, .int a1), (2, .int a2)] := hl
  have zm5 : ((-5) : Int32).toInt = -5 := by decide
  have z0 : (0 : Int32).toInt = 0 := by decide
  have z1 : (1 : Int32).toInt = 1 := by decide
  have z2 : (2 : Int32).toInt = 2 := by decide
  refine lv_aload_n hx hb dB_3_1_43.1.1.1.1 rfl (lv_at hl 0 rfl) ?_
  refine va_get (ci := 12) (v := .ref g5) (C := RX12) (T := TX12) (N := 34) hx hb hts (fun _ h => List.mem_cons_of_mem _ (List.mem_append_right _ h)) hown hK.1 hP 0 rfl rfl 5 (by decide) (hts (.fieldLink RX12 7 "CutAtlasModel" "kind" "[I") (List.mem_of_getElem? (i := 1) rfl)) (fun _ h9 => h9) rfl dB_3_1_43.1.1.1.2 ?_
  refine lv_iload_n hx hb dB_3_1_43.1.1.2.1 rfl (lv_at hl 1 rfl) ?_
  have h_1 : vp_in a1 40 := in_I (by first | with_reducible assumption | omega) (by omega)
  refine va_iald hx hb hK.1 hP 1 0 rfl rfl (i := a1) h_1 dB_3_1_43.1.1.2.2 ?_
  refine lv_topi (fun y_2 ey_2 => ?_)
  refine lv_iconst (v := 2) hx hb dB_3_1_43.1.2.1.1 (by decide) ?_
  refine lv_icmp_ne (tgt := 15) hx hb dB_3_1_43.1.2.1.2 (by decide) (fun c_3 => ?_) (fun c_3 => ?_)
  · have t_3 : ¬ y_2.toInt = (2 : Int32).toInt := fun h => c_3 (Int32.toInt_inj.mp h)
    refine lv_aload_n hx hb dB_3_1_43.2.1.1.1 rfl (lv_at hl 0 rfl) ?_
    refine va_get (ci := 12) (v := .ref g5) (C := RX12) (T := TX12) (N := 34) hx hb hts (fun _ h => List.mem_cons_of_mem _ (List.mem_append_right _ h)) hown hK.1 hP 0 rfl rfl 5 (by decide) (hts (.fieldLink RX12 7 "CutAtlasModel" "kind" "[I") (List.mem_of_getElem? (i := 1) rfl)) (fun _ h9 => h9) rfl dB_3_1_43.2.1.1.2 ?_
    refine lv_iload_n hx hb dB_3_1_43.2.1.2.1 rfl (lv_at hl 1 rfl) ?_
    refine va_iald hx hb hK.1 hP 1 0 rfl rfl (i := a1) h_1 dB_3_1_43.2.1.2.2 ?_
    refine lv_topi (fun y_5 ey_5 => ?_)
    have e_ := (ey_5.trans ey_2.symm).symm
    subst e_
    skip
    refine lv_iconst (v := 1) hx hb dB_3_1_43.2.2.1.1 (by decide) ?_
    refine lv_icmp_ne (tgt := 33) hx hb dB_3_1_43.2.2.1.2 (by decide) (fun c_6 => ?_) (fun c_6 => ?_)
    · have t_6 : ¬ y_2.toInt = (1 : Int32).toInt := fun h => c_6 (Int32.toInt_inj.mp h)
      refine lv_aload_n hx hb dB_3_1_44.1.2.2 rfl (lv_at hl 0 rfl) ?_
      refine va_get (ci := 12) (v := .ref g8) (C := RX12) (T := TX12) (N := 34) hx hb hts (fun _ h => List.mem_cons_of_mem _ (List.mem_append_right _ h)) hown hK.1 hP 0 rfl rfl 8 (by decide) (hts (.fieldLink RX12 19 "CutAtlasModel" "width" "[I") (List.mem_of_getElem? (i := 2) rfl)) (fun _ h9 => h9) rfl dB_3_1_44.2.1.1 ?_
      refine lv_iload_n hx hb dB_3_1_44.2.1.2 rfl (lv_at hl 1 rfl) ?_
      refine va_iald hx hb hK.1 hP 2 0 rfl rfl (i := a1) h_1 dB_3_1_44.2.2.1 ?_
      refine lv_topi (fun y_8 ey_8 => ?_)
      rw [hQ]
      exact W.iret (v := y_8) hx hb hr (fun t ht hW => ⟨⟨y_8, (), rfl, (by first | (simp only [ml_lets]; try simp only [← ey_2]; try simp only [← ey_8]; simp [c_3, c_6]; done) | (simp only [ml_lets]; try simp only [← ey_2]; try simp only [← ey_8]; done) | (exfalso; omega)), trivial⟩, hS.F ht⟩) hS.2.2 dB_3_1_44.2.2.2
    · have t_6 : y_2.toInt = (1 : Int32).toInt := congrArg Int32.toInt c_6
      refine lv_iload_n hx hb dB_3_1_43.2.2.2.1 rfl (lv_at hl 2 rfl) ?_
      refine lv_if_ne (tgt := 33) hx hb dB_3_1_43.2.2.2.2 (by decide) (fun c_9 => ?_) (fun c_9 => ?_)
      · have t_9 : ¬ a2.toInt = (0 : Int32).toInt := fun h => c_9 (Int32.toInt_inj.mp h)
        refine lv_aload_n hx hb dB_3_1_44.1.2.2 rfl (lv_at hl 0 rfl) ?_
        refine va_get (ci := 12) (v := .ref g8) (C := RX12) (T := TX12) (N := 34) hx hb hts (fun _ h => List.mem_cons_of_mem _ (List.mem_append_right _ h)) hown hK.1 hP 0 rfl rfl 8 (by decide) (hts (.fieldLink RX12 19 "CutAtlasModel" "width" "[I") (List.mem_of_getElem? (i := 2) rfl)) (fun _ h9 => h9) rfl dB_3_1_44.2.1.1 ?_
        refine lv_iload_n hx hb dB_3_1_44.2.1.2 rfl (lv_at hl 1 rfl) ?_
        refine va_iald hx hb hK.1 hP 2 0 rfl rfl (i := a1) h_1 dB_3_1_44.2.2.1 ?_
        refine lv_topi (fun y_11 ey_11 => ?_)
        rw [hQ]
        exact W.iret (v := y_11) hx hb hr (fun t ht hW => ⟨⟨y_11, (), rfl, (by first | (simp only [ml_lets]; try simp only [← ey_2]; try simp only [← ey_11]; simp [c_3, c_6, c_9]; done) | (simp only [ml_lets]; try simp only [← ey_2]; try simp only [← ey_11]; done) | (exfalso; omega)), trivial⟩, hS.F ht⟩) hS.2.2 dB_3_1_44.2.2.2
      · have t_9 : a2.toInt = (0 : Int32).toInt := congrArg Int32.toInt c_9
        refine lv_iconst (v := 0) hx hb dB_3_1_44.1.1 (by decide) ?_
        refine lv_goto (tgt := 39) hx hb dB_3_1_44.1.2.1 (by decide) ?_
        rw [hQ]
        exact W.iret (v := 0) hx hb hr (fun t ht hW => ⟨⟨0, (), rfl, (by first | (simp only [ml_lets]; try simp only [← ey_2]; simp [c_3, c_6, c_9]; done) | (simp only [ml_lets]; try simp only [← ey_2]; done) | (exfalso; omega)), trivial⟩, hS.F ht⟩) hS.2.2 dB_3_1_44.2.2.2
  · have t_3 : y_2.toInt = (2 : Int32).toInt := congrArg Int32.toInt c_3
    refine lv_bipush (v := (-5)) hx hb dB_3_1_43.1.2.2.1 (by decide) ?_
    refine lv_goto (tgt := 39) hx hb dB_3_1_43.1.2.2.2 (by decide) ?_
    rw [hQ]
    exact W.iret (v := (-5)) hx hb hr (fun t ht hW => ⟨⟨(-5), (), rfl, (by first | (simp only [ml_lets]; try simp only [← ey_2]; simp [c_3]; done) | (simp only [ml_lets]; try simp only [← ey_2]; done) | (exfalso; omega)), trivial⟩, hS.F ht⟩) hS.2.2 dB_3_1_44.2.2.2

set_option maxHeartbeats 4000000 in
set_option maxRecDepth 100000 in
theorem c_X12_room (l : Launch) (D : va_G) (cy : Nat → ClassId) (sz : Nat) (mo : Nat) (g5 : Nat) (g6 : Nat) (g7 : Nat) (g8 : Nat) (g9 : Nat) (g10 : Nat) (g12 : Nat) (g13 : Nat) (g14 : Nat) (g15 : Nat) (g16 : Nat) (g17 : Nat) (g18 : Nat) (g19 : Nat) (g20 : Nat) (g22 : Nat) (g23 : Nat) (g24 : Nat) (g29 : Nat) (g30 : Nat) (g31 : Nat) (g32 : Nat) (g33 : Nat) (s0 : Int32) (s1 : Int32) (s3 : Int32) (s4 : Int32) (s11 : Int32) (s21 : Int32) (s25 : Int32) (s26 : Int32) (s27 : Int32) (s28 : Int32) (t2 : Int64) (f5 : Nat → Int32) (f8 : Nat → Int32) (a1 : Int32) (a2 : Int32) (q1 : 0 ≤ a1.toInt ∧ a1.toInt < 40) : Met l yX12_room wsX12_room ({ frames := 1, cells := 0, slots := 0, locals := 22 }) (va_Pc [.ref mo, .int a1, .int a2] (fun U => U.heap.size = sz ∧ va_P D vwCl [ob12_0_ mo s0 s1 t2 s3 s4 g5 g6 g7 g8 g9 g10 s11 g12 g13 g14 g15 g16 g17 g18 g19 g20 s21 g22 g23 g24 s25 s26 s27 s28 g29 g30 g31 g32 g33, ai_ cy g5 40 f5, ai_ cy g8 40 f8] U.heap ∧ kk_ D cy U ∧ va_D (fun _ => True) [ob12_0_ mo s0 s1 t2 s3 s4 g5 g6 g7 g8 g9 g10 s11 g12 g13 g14 g15 g16 g17 g18 g19 g20 s21 g22 g23 g24 s25 s26 s27 s28 g29 g30 g31 g32 g33, ai_ cy g5 40 f5, ai_ cy g8 40 f8])) (va_Qi (fun (r : Int32) (_ : Unit) => (r = ml_room (f5 a1.toNatClampNeg) (f8 a1.toNatClampNeg) a2 a1 s21)) (fun (_ : Unit) (_ : State) => True) (va_A [] sz)) 0 0 (va_A [] sz) := by
  refine ofQ (cc := cX12_room) (maxL := 5) (ret := (some .int)) (by decide) rfl ?_
  intro p e s m args below meth c s₁ Q hQ B hml hv
  obtain ⟨rfl, hsz, hP, hK, hD0⟩ := hv
  have hx := B.exec
  have hb := B.bytes
  have hr := B.returns
  have hts := atoms_spec (ws := wsX12_room) B.pre
  have hown : s.vm.findClass RX12 = some m.cls := by have h_ := findClass_of_methodNamed B.named; exact h_
  have hlocks := B.notSynchronized
  subst hsz
  have hD : va_D (va_A [] s.heap.size) [] := dd_nil
  generalize hAe : va_A [] s.heap.size = A at hD hQ
  have hA : ∀ q : Nat, s.heap.size ≤ q → A q := fun q h => by rw [← hAe]; exact Or.inr h
  have hS : va_S A s.heap s.heap [] := va_S.rf
  have hl := lv_entry ([.ref mo, .int a1, .int a2]) (n := 5) (Nat.le_of_ble_eq_true rfl)
  rw [lg_entry_eq]
  generalize (lg_sl ([.ref mo, .int a1, .int a2]) ++ List.replicate (5 - (lg_sl ([.ref mo, .int a1, .int a2])).length) Slot.unset).toArray = ls at hl ⊢
  have hl : lv_has ls 5 [(0, .ref mo), (1, .int a1), (2, .int a2)] := hl
  have zm5 : ((-5) : Int32).toInt = -5 := by decide
  have z0 : (0 : Int32).toInt = 0 := by decide
  have z1 : (1 : Int32).toInt = 1 := by decide
  have z1000000 : (1000000 : Int32).toInt = 1000000 := by decide
  refine lv_aload_n hx hb dB_3_1_54.1.1.1.1 rfl (lv_at hl 0 rfl) ?_
  refine lv_iload_n hx hb dB_3_1_54.1.1.1.2 rfl (lv_at hl 1 rfl) ?_
  refine lv_iload_n hx hb dB_3_1_54.1.1.2.1 rfl (lv_at hl 2 rfl) ?_
  refine ct_R hP hD0 [ob12_0_ mo s0 s1 t2 s3 s4 g5 g6 g7 g8 g9 g10 s11 g12 g13 g14 g15 g16 g17 g18 g19 g20 s21 g22 g23 g24 s25 s26 s27 s28 g29 g30 g31 g32 g33, ai_ cy g5 40 f5, ai_ cy g8 40 f8] [0, 1, 2] (by decide) rfl (fun hPc hDw => ?_)
  have hFc := va_free (wc := []) hD hS hA [] rfl
  refine va_calli (va_runV (As := [.int a1, .int a2]) (rest := []) ⟨hx, hb, hml, hown, hts⟩ (c_X12_lets l D cy s.heap.size mo g5 g6 g7 g8 g9 g10 g12 g13 g14 g15 g16 g17 g18 g19 g20 g22 g23 g24 g29 g30 g31 g32 g33 s0 s1 s3 s4 s11 s21 s25 s26 s27 s28 t2 f5 f8 a1 a2 (by first | with_reducible assumption | omega | assumption)) (cwV 2 hts gX12_room_X12_lets rfl rfl rfl ⟨rfl, hd_X12_lets⟩ ⟨Nat.le_of_ble_eq_true rfl, Nat.le_of_ble_eq_true rfl⟩) ⟨bl_, va_recvX hK.1 hP (ci := 12) (q0 := 0) rfl rfl, fun U hU hW => ⟨rfl, by rw [hU], by rw [hU]; exact hPc, kk_mv hW hK, hDw⟩⟩ rfl rfl hl.1 rfl (lv_room (Nat.le_of_ble_eq_true rfl)) dB_3_1_54.1.1.2.2 ⟨Nat.le_of_ble_eq_true rfl, Nat.le_of_ble_eq_true rfl⟩) hS (fun q _ h => hFc q h) hFc (fun r_1 u t H locs ht hvm hw hB hz1 hk1 hS => ?_)
  have hP : va_P D vwCl _ H := ro_keep hP hk1
  have f0_r_1 := hw
  refine lv_istore_n (lv' := [(3, .int r_1), (0, .ref mo), (1, .int a1), (2, .int a2)]) hx hb dB_3_1_54.1.2.1.1 rfl hl (by decide) rfl (fun ls hl => ?_)
  refine lv_iload_n hx hb dB_3_1_54.1.2.1.2 rfl (lv_at hl 2 rfl) ?_
  refine lv_aload_n hx hb dB_3_1_54.1.2.2.1 rfl (lv_at hl 1 rfl) ?_
  refine va_get (ci := 12) (v := .int s21) (C := RX12) (T := TX12) (N := 34) hx hb hts (fun _ h => List.mem_cons_of_mem _ (List.mem_append_right _ h)) hown hK.1 hP 0 rfl rfl 21 (by decide) (hts (.fieldLink RX12 57 "CutAtlasModel" "raised" "I") (List.mem_of_getElem? (i := 1) rfl)) (fun _ h9 => h9) rfl dB_3_1_54.1.2.2.2 ?_
  refine lv_icmp_ne (tgt := 39) hx hb dB_3_1_54.2.1.1.1 (by decide) (fun c_2 => ?_) (fun c_2 => ?_)
  · have t_2 : ¬ a1.toInt = s21.toInt := fun h => c_2 (Int32.toInt_inj.mp h)
    refine lv_iconst (v := 0) hx hb dB_3_1_55.1.2.2.1 (by decide) ?_
    refine lv_istore (lv' := [(4, .int 0), (3, .int r_1), (0, .ref mo), (1, .int a1), (2, .int a2)]) hx hb dB_3_1_55.1.2.2.2 hl (by decide) rfl (fun ls hl => ?_)
    refine lv_iload_n hx hb dB_3_1_55.2.1.1.1 rfl (lv_at hl 1 rfl) ?_
    refine lv_bipush (v := (-5)) hx hb dB_3_1_55.2.1.1.2 (by decide) ?_
    refine lv_icmp_ne (tgt := 53) hx hb dB_3_1_55.2.1.2.1 (by decide) (fun c_3 => ?_) (fun c_3 => ?_)
    · have t_3 : ¬ r_1.toInt = ((-5) : Int32).toInt := fun h => c_3 (Int32.toInt_inj.mp h)
      refine lv_iload hx hb dB_3_1_55.2.2.1.2 (lv_at hl 0 rfl) ?_
      refine lv_if_eq (tgt := 64) hx hb dB_3_1_55.2.2.2.1 (by decide) (fun c_4 => ?_) (fun c_4 => ?_)
      · have _ := c_4
        refine lv_iload_n hx hb dB_3_1_56.2.2.1 rfl (lv_at hl 1 rfl) ?_
        rw [hQ]
        exact W.iret (v := r_1) hx hb hr (fun t ht hW => ⟨⟨r_1, (), rfl, (by first | (simp only [ml_room]; try simp only [← f0_r_1]; simp [c_2, c_3]; done) | (simp only [ml_room]; try simp only [← f0_r_1]; done) | (exfalso; omega)), trivial⟩, hS.F ht⟩) hS.2.2 dB_3_1_56.2.2.2
      · exact absurd c_4 (by decide)
    · have t_3 : r_1.toInt = ((-5) : Int32).toInt := congrArg Int32.toInt c_3
      refine lv_ldc (v := 1000000) hx hb hown (hts (.constant RX12 159 (1000000)) (List.mem_of_getElem? (i := 3) rfl)) dB_3_1_55.2.1.2.2 ?_
      refine lv_goto (tgt := 65) hx hb dB_3_1_55.2.2.1.1 (by decide) ?_
      rw [hQ]
      exact W.iret (v := 1000000) hx hb hr (fun t ht hW => ⟨⟨1000000, (), rfl, (by first | (simp only [ml_room]; try simp only [← f0_r_1]; simp [c_2, c_3]; done) | (simp only [ml_room]; try simp only [← f0_r_1]; done) | (exfalso; omega)), trivial⟩, hS.F ht⟩) hS.2.2 dB_3_1_56.2.2.2
  · have t_2 : a1.toInt = s21.toInt := congrArg Int32.toInt c_2
    refine lv_iload_n hx hb dB_3_1_54.2.1.1.2 rfl (lv_at hl 0 rfl) ?_
    refine lv_bipush (v := (-5)) hx hb dB_3_1_54.2.1.2.1 (by decide) ?_
    refine lv_icmp_eq (tgt := 39) hx hb dB_3_1_54.2.1.2.2 (by decide) (fun c_5 => ?_) (fun c_5 => ?_)
    · have t_5 : r_1.toInt = ((-5) : Int32).toInt := congrArg Int32.toInt c_5
      refine lv_iconst (v := 0) hx hb dB_3_1_55.1.2.2.1 (by decide) ?_
      refine lv_istore (lv' := [(4, .int 0), (3, .int r_1), (0, .ref mo), (1, .int a1), (2, .int a2)]) hx hb dB_3_1_55.1.2.2.2 hl (by decide) rfl (fun ls hl => ?_)
      refine lv_iload_n hx hb dB_3_1_55.2.1.1.1 rfl (lv_at hl 1 rfl) ?_
      refine lv_bipush (v := (-5)) hx hb dB_3_1_55.2.1.1.2 (by decide) ?_
      refine lv_icmp_ne (tgt := 53) hx hb dB_3_1_55.2.1.2.1 (by decide) (fun c_6 => ?_) (fun c_6 => ?_)
      · have t_6 : ¬ r_1.toInt = ((-5) : Int32).toInt := fun h => c_6 (Int32.toInt_inj.mp h)
        exfalso; omega
      · have t_6 : r_1.toInt = ((-5) : Int32).toInt := congrArg Int32.toInt c_6
        refine lv_ldc (v := 1000000) hx hb hown (hts (.constant RX12 159 (1000000)) (List.mem_of_getElem? (i := 3) rfl)) dB_3_1_55.2.1.2.2 ?_
        refine lv_goto (tgt := 65) hx hb dB_3_1_55.2.2.1.1 (by decide) ?_
        rw [hQ]
        exact W.iret (v := 1000000) hx hb hr (fun t ht hW => ⟨⟨1000000, (), rfl, (by first | (simp only [ml_room]; try simp only [← f0_r_1]; simp [c_2, c_5, c_6]; done) | (simp only [ml_room]; try simp only [← f0_r_1]; done) | (exfalso; omega)), trivial⟩, hS.F ht⟩) hS.2.2 dB_3_1_56.2.2.2
    · have t_5 : ¬ r_1.toInt = ((-5) : Int32).toInt := fun h => c_5 (Int32.toInt_inj.mp h)
      refine lv_aload_n hx hb dB_3_1_54.2.2.1.1 rfl (lv_at hl 1 rfl) ?_
      refine va_get (ci := 12) (v := .ref g5) (C := RX12) (T := TX12) (N := 34) hx hb hts (fun _ h => List.mem_cons_of_mem _ (List.mem_append_right _ h)) hown hK.1 hP 0 rfl rfl 5 (by decide) (hts (.fieldLink RX12 7 "CutAtlasModel" "kind" "[I") (List.mem_of_getElem? (i := 2) rfl)) (fun _ h9 => h9) rfl dB_3_1_54.2.2.1.2 ?_
      refine lv_iload_n hx hb dB_3_1_54.2.2.2.1 rfl (lv_at hl 2 rfl) ?_
      have h_7 : vp_in a1 40 := in_I (by first | with_reducible assumption | omega) (by omega)
      refine va_iald hx hb hK.1 hP 1 0 rfl rfl (i := a1) h_7 dB_3_1_54.2.2.2.2 ?_
      refine lv_topi (fun y_8 ey_8 => ?_)
      refine lv_iconst (v := 1) hx hb dB_3_1_55.1.1.1.1 (by decide) ?_
      refine lv_icmp_ne (tgt := 35) hx hb dB_3_1_55.1.1.1.2 (by decide) (fun c_9 => ?_) (fun c_9 => ?_)
      · have t_9 : ¬ y_8.toInt = (1 : Int32).toInt := fun h => c_9 (Int32.toInt_inj.mp h)
        refine lv_iconst (v := 1) hx hb dB_3_1_55.1.2.1.1 (by decide) ?_
        refine lv_goto (tgt := 40) hx hb dB_3_1_55.1.2.1.2 (by decide) ?_
        refine lv_istore (lv' := [(4, .int 1), (3, .int r_1), (0, .ref mo), (1, .int a1), (2, .int a2)]) hx hb dB_3_1_55.1.2.2.2 hl (by decide) rfl (fun ls hl => ?_)
        refine lv_iload_n hx hb dB_3_1_55.2.1.1.1 rfl (lv_at hl 1 rfl) ?_
        refine lv_bipush (v := (-5)) hx hb dB_3_1_55.2.1.1.2 (by decide) ?_
        refine lv_icmp_ne (tgt := 53) hx hb dB_3_1_55.2.1.2.1 (by decide) (fun c_10 => ?_) (fun c_10 => ?_)
        · have t_10 : ¬ r_1.toInt = ((-5) : Int32).toInt := fun h => c_10 (Int32.toInt_inj.mp h)
          refine lv_iload hx hb dB_3_1_55.2.2.1.2 (lv_at hl 0 rfl) ?_
          refine lv_if_eq (tgt := 64) hx hb dB_3_1_55.2.2.2.1 (by decide) (fun c_11 => ?_) (fun c_11 => ?_)
          · exact absurd c_11 (by decide)
          · have _ := c_11
            refine lv_iload_n hx hb dB_3_1_55.2.2.2.2 rfl (lv_at hl 1 rfl) ?_
            refine lv_iconst (v := 1) hx hb dB_3_1_56.1.1 (by decide) ?_
            refine lv_iadd hx hb dB_3_1_56.1.2 ?_
            refine lv_topi (fun y_12 ey_12 => ?_)
            refine lv_goto (tgt := 65) hx hb dB_3_1_56.2.1 (by decide) ?_
            rw [hQ]
            exact W.iret (v := y_12) hx hb hr (fun t ht hW => ⟨⟨y_12, (), rfl, (by first | (simp only [ml_room]; try simp only [← f0_r_1]; try simp only [← ey_8]; simp [c_2, c_5, c_9, c_10, ey_12]; done) | (simp only [ml_room]; try simp only [← f0_r_1]; try simp only [← ey_8]; done) | (exfalso; omega)), trivial⟩, hS.F ht⟩) hS.2.2 dB_3_1_56.2.2.2
        · have t_10 : r_1.toInt = ((-5) : Int32).toInt := congrArg Int32.toInt c_10
          refine lv_ldc (v := 1000000) hx hb hown (hts (.constant RX12 159 (1000000)) (List.mem_of_getElem? (i := 3) rfl)) dB_3_1_55.2.1.2.2 ?_
          refine lv_goto (tgt := 65) hx hb dB_3_1_55.2.2.1.1 (by decide) ?_
          rw [hQ]
          exact W.iret (v := 1000000) hx hb hr (fun t ht hW => ⟨⟨1000000, (), rfl, (by first | (simp only [ml_room]; try simp only [← f0_r_1]; try simp only [← ey_8]; simp [c_2, c_5, c_9, c_10]; done) | (simp only [ml_room]; try simp only [← f0_r_1]; try simp only [← ey_8]; done) | (exfalso; omega)), trivial⟩, hS.F ht⟩) hS.2.2 dB_3_1_56.2.2.2
      · have t_9 : y_8.toInt = (1 : Int32).toInt := congrArg Int32.toInt c_9
        refine lv_iload_n hx hb dB_3_1_55.1.1.2.1 rfl (lv_at hl 3 rfl) ?_
        refine lv_if_eq (tgt := 39) hx hb dB_3_1_55.1.1.2.2 (by decide) (fun c_13 => ?_) (fun c_13 => ?_)
        · have t_13 : a2.toInt = (0 : Int32).toInt := congrArg Int32.toInt c_13
          refine lv_iconst (v := 0) hx hb dB_3_1_55.1.2.2.1 (by decide) ?_
          refine lv_istore (lv' := [(4, .int 0), (3, .int r_1), (0, .ref mo), (1, .int a1), (2, .int a2)]) hx hb dB_3_1_55.1.2.2.2 hl (by decide) rfl (fun ls hl => ?_)
          refine lv_iload_n hx hb dB_3_1_55.2.1.1.1 rfl (lv_at hl 1 rfl) ?_
          refine lv_bipush (v := (-5)) hx hb dB_3_1_55.2.1.1.2 (by decide) ?_
          refine lv_icmp_ne (tgt := 53) hx hb dB_3_1_55.2.1.2.1 (by decide) (fun c_14 => ?_) (fun c_14 => ?_)
          · have t_14 : ¬ r_1.toInt = ((-5) : Int32).toInt := fun h => c_14 (Int32.toInt_inj.mp h)
            refine lv_iload hx hb dB_3_1_55.2.2.1.2 (lv_at hl 0 rfl) ?_
            refine lv_if_eq (tgt := 64) hx hb dB_3_1_55.2.2.2.1 (by decide) (fun c_15 => ?_) (fun c_15 => ?_)
            · have _ := c_15
              refine lv_iload_n hx hb dB_3_1_56.2.2.1 rfl (lv_at hl 1 rfl) ?_
              rw [hQ]
              exact W.iret (v := r_1) hx hb hr (fun t ht hW => ⟨⟨r_1, (), rfl, (by first | (simp only [ml_room]; try simp only [← f0_r_1]; try simp only [← ey_8]; simp [c_2, c_5, c_9, c_13, c_14]; done) | (simp only [ml_room]; try simp only [← f0_r_1]; try simp only [← ey_8]; done) | (exfalso; omega)), trivial⟩, hS.F ht⟩) hS.2.2 dB_3_1_56.2.2.2
            · exact absurd c_15 (by decide)
          · have t_14 : r_1.toInt = ((-5) : Int32).toInt := congrArg Int32.toInt c_14
            refine lv_ldc (v := 1000000) hx hb hown (hts (.constant RX12 159 (1000000)) (List.mem_of_getElem? (i := 3) rfl)) dB_3_1_55.2.1.2.2 ?_
            refine lv_goto (tgt := 65) hx hb dB_3_1_55.2.2.1.1 (by decide) ?_
            rw [hQ]
            exact W.iret (v := 1000000) hx hb hr (fun t ht hW => ⟨⟨1000000, (), rfl, (by first | (simp only [ml_room]; try simp only [← f0_r_1]; try simp only [← ey_8]; simp [c_2, c_5, c_9, c_13, c_14]; done) | (simp only [ml_room]; try simp only [← f0_r_1]; try simp only [← ey_8]; done) | (exfalso; omega)), trivial⟩, hS.F ht⟩) hS.2.2 dB_3_1_56.2.2.2
        · have t_13 : ¬ a2.toInt = (0 : Int32).toInt := fun h => c_13 (Int32.toInt_inj.mp h)
          refine lv_iconst (v := 1) hx hb dB_3_1_55.1.2.1.1 (by decide) ?_
          refine lv_goto (tgt := 40) hx hb dB_3_1_55.1.2.1.2 (by decide) ?_
          refine lv_istore (lv' := [(4, .int 1), (3, .int r_1), (0, .ref mo), (1, .int a1), (2, .int a2)]) hx hb dB_3_1_55.1.2.2.2 hl (by decide) rfl (fun ls hl => ?_)
          refine lv_iload_n hx hb dB_3_1_55.2.1.1.1 rfl (lv_at hl 1 rfl) ?_
          refine lv_bipush (v := (-5)) hx hb dB_3_1_55.2.1.1.2 (by decide) ?_
          refine lv_icmp_ne (tgt := 53) hx hb dB_3_1_55.2.1.2.1 (by decide) (fun c_16 => ?_) (fun c_16 => ?_)
          · have t_16 : ¬ r_1.toInt = ((-5) : Int32).toInt := fun h => c_16 (Int32.toInt_inj.mp h)
            refine lv_iload hx hb dB_3_1_55.2.2.1.2 (lv_at hl 0 rfl) ?_
            refine lv_if_eq (tgt := 64) hx hb dB_3_1_55.2.2.2.1 (by decide) (fun c_17 => ?_) (fun c_17 => ?_)
            · exact absurd c_17 (by decide)
            · have _ := c_17
              refine lv_iload_n hx hb dB_3_1_55.2.2.2.2 rfl (lv_at hl 1 rfl) ?_
              refine lv_iconst (v := 1) hx hb dB_3_1_56.1.1 (by decide) ?_
              refine lv_iadd hx hb dB_3_1_56.1.2 ?_
              refine lv_topi (fun y_18 ey_18 => ?_)
              refine lv_goto (tgt := 65) hx hb dB_3_1_56.2.1 (by decide) ?_
              rw [hQ]
              exact W.iret (v := y_18) hx hb hr (fun t ht hW => ⟨⟨y_18, (), rfl, (by first | (simp only [ml_room]; try simp only [← f0_r_1]; try simp only [← ey_8]; simp [c_2, c_5, c_9, c_13, c_16, ey_18]; done) | (simp only [ml_room]; try simp only [← f0_r_1]; try simp only [← ey_8]; done) | (exfalso; omega)), trivial⟩, hS.F ht⟩) hS.2.2 dB_3_1_56.2.2.2
          · have t_16 : r_1.toInt = ((-5) : Int32).toInt := congrArg Int32.toInt c_16
            refine lv_ldc (v := 1000000) hx hb hown (hts (.constant RX12 159 (1000000)) (List.mem_of_getElem? (i := 3) rfl)) dB_3_1_55.2.1.2.2 ?_
            refine lv_goto (tgt := 65) hx hb dB_3_1_55.2.2.1.1 (by decide) ?_
            rw [hQ]
            exact W.iret (v := 1000000) hx hb hr (fun t ht hW => ⟨⟨1000000, (), rfl, (by first | (simp only [ml_room]; try simp only [← f0_r_1]; try simp only [← ey_8]; simp [c_2, c_5, c_9, c_13, c_16]; done) | (simp only [ml_room]; try simp only [← f0_r_1]; try simp only [← ey_8]; done) | (exfalso; omega)), trivial⟩, hS.F ht⟩) hS.2.2 dB_3_1_56.2.2.2

set_option maxHeartbeats 4000000 in
set_option maxRecDepth 100000 in
theorem c_X12_costsTrace (l : Launch) (D : va_G) (cy : Nat → ClassId) (sz : Nat) (mo : Nat) (g5 : Nat) (g6 : Nat) (g7 : Nat) (g8 : Nat) (g9 : Nat) (g10 : Nat) (g12 : Nat) (g13 : Nat) (g14 : Nat) (g15 : Nat) (g16 : Nat) (g17 : Nat) (g18 : Nat) (g19 : Nat) (g20 : Nat) (g22 : Nat) (g23 : Nat) (g24 : Nat) (g29 : Nat) (g30 : Nat) (g31 : Nat) (g32 : Nat) (g33 : Nat) (s0 : Int32) (s1 : Int32) (s3 : Int32) (s4 : Int32) (s11 : Int32) (s21 : Int32) (s25 : Int32) (s26 : Int32) (s27 : Int32) (s28 : Int32) (t2 : Int64) (f5 : Nat → Int32) (a1 : Int32) (q1 : 0 ≤ a1.toInt ∧ a1.toInt < 40) : Met l yX12_costsTrace wsX12_costsTrace ({ frames := 0, cells := 0, slots := 0, locals := 0 }) (va_Pc [.ref mo, .int a1] (fun U => U.heap.size = sz ∧ va_P D vwCl [ob12_0_ mo s0 s1 t2 s3 s4 g5 g6 g7 g8 g9 g10 s11 g12 g13 g14 g15 g16 g17 g18 g19 g20 s21 g22 g23 g24 s25 s26 s27 s28 g29 g30 g31 g32 g33, ai_ cy g5 40 f5] U.heap ∧ kk_ D cy U ∧ va_D (fun _ => True) [ob12_0_ mo s0 s1 t2 s3 s4 g5 g6 g7 g8 g9 g10 s11 g12 g13 g14 g15 g16 g17 g18 g19 g20 s21 g22 g23 g24 s25 s26 s27 s28 g29 g30 g31 g32 g33, ai_ cy g5 40 f5])) (va_Ql (fun (r : Int64) (_ : Unit) => True) (fun (_ : Unit) (_ : State) => True) (va_A [] sz)) 0 0 (va_A [] sz) := by
  refine ofQ (cc := cX12_costsTrace) (maxL := 2) (ret := (some .long)) (by decide) rfl ?_
  intro p e s m args below meth c s₁ Q hQ B hml hv
  obtain ⟨rfl, hsz, hP, hK, hD0⟩ := hv
  have hx := B.exec
  have hb := B.bytes
  have hr := B.returns
  have hts := atoms_spec (ws := wsX12_costsTrace) B.pre
  have hown : s.vm.findClass RX12 = some m.cls := by have h_ := findClass_of_methodNamed B.named; exact h_
  have hlocks := B.notSynchronized
  subst hsz
  have hD : va_D (va_A [] s.heap.size) [] := dd_nil
  generalize hAe : va_A [] s.heap.size = A at hD hQ
  have hA : ∀ q : Nat, s.heap.size ≤ q → A q := fun q h => by rw [← hAe]; exact Or.inr h
  have hS : va_S A s.heap s.heap [] := va_S.rf
  have hl := lv_entry ([.ref mo, .int a1]) (n := 2) (Nat.le_of_ble_eq_true rfl)
  rw [lg_entry_eq]
  generalize (lg_sl ([.ref mo, .int a1]) ++ List.replicate (2 - (lg_sl ([.ref mo, .int a1])).length) Slot.unset).toArray = ls at hl ⊢
  have hl : lv_has ls 2 [(0, .ref mo), (1, .int a1)] := hl
  have z3 : (3 : Int32).toInt = 3 := by decide
  have z4 : (4 : Int32).toInt = 4 := by decide
  have zl1000 : (1000 : Int64).toInt = 1000 := by decide
  have zl10000 : (10000 : Int64).toInt = 10000 := by decide
  have zl110000 : (110000 : Int64).toInt = 110000 := by decide
  refine lv_aload_n hx hb dB_3_0_7.1.1.1.1 rfl (lv_at hl 0 rfl) ?_
  refine va_get (ci := 12) (v := .ref g5) (C := RX12) (T := TX12) (N := 34) hx hb hts (fun _ h => List.mem_cons_of_mem _ (List.mem_append_right _ h)) hown hK.1 hP 0 rfl rfl 5 (by decide) (hts (.fieldLink RX12 7 "CutAtlasModel" "kind" "[I") (List.mem_of_getElem? (i := 1) rfl)) (fun _ h9 => h9) rfl dB_3_0_7.1.1.1.2 ?_
  refine lv_iload_n hx hb dB_3_0_7.1.1.2.1 rfl (lv_at hl 1 rfl) ?_
  have h_1 : vp_in a1 40 := in_I (by first | with_reducible assumption | omega) (by omega)
  refine va_iald hx hb hK.1 hP 1 0 rfl rfl (i := a1) h_1 dB_3_0_7.1.1.2.2 ?_
  refine lv_topi (fun y_2 ey_2 => ?_)
  refine lv_iconst (v := 3) hx hb dB_3_0_7.1.2.1.1 (by decide) ?_
  refine lv_icmp_ne (tgt := 16) hx hb dB_3_0_7.1.2.1.2 (by decide) (fun c_3 => ?_) (fun c_3 => ?_)
  · have t_3 : ¬ y_2.toInt = (3 : Int32).toInt := fun h => c_3 (Int32.toInt_inj.mp h)
    refine lv_aload_n hx hb dB_3_0_7.2.1.1.1 rfl (lv_at hl 0 rfl) ?_
    refine va_get (ci := 12) (v := .ref g5) (C := RX12) (T := TX12) (N := 34) hx hb hts (fun _ h => List.mem_cons_of_mem _ (List.mem_append_right _ h)) hown hK.1 hP 0 rfl rfl 5 (by decide) (hts (.fieldLink RX12 7 "CutAtlasModel" "kind" "[I") (List.mem_of_getElem? (i := 1) rfl)) (fun _ h9 => h9) rfl dB_3_0_7.2.1.1.2 ?_
    refine lv_iload_n hx hb dB_3_0_7.2.1.2.1 rfl (lv_at hl 1 rfl) ?_
    refine va_iald hx hb hK.1 hP 1 0 rfl rfl (i := a1) h_1 dB_3_0_7.2.1.2.2 ?_
    refine lv_topi (fun y_5 ey_5 => ?_)
    have e_ := (ey_5.trans ey_2.symm).symm
    subst e_
    skip
    refine lv_iconst (v := 4) hx hb dB_3_0_7.2.2.1.1 (by decide) ?_
    refine lv_icmp_ne (tgt := 32) hx hb dB_3_0_7.2.2.1.2 (by decide) (fun c_6 => ?_) (fun c_6 => ?_)
    · have t_6 : ¬ y_2.toInt = (4 : Int32).toInt := fun h => c_6 (Int32.toInt_inj.mp h)
      refine lv_ldc2 (v := 1000) hx hb hown (hts (.constantLong RX12 110 (1000)) (List.mem_of_getElem? (i := 4) rfl)) dB_3_0_8.1 ?_
      rw [hQ]
      exact W.lret (v := 1000) hx hb hr (fun t ht hW => ⟨⟨1000, (), rfl, trivial, trivial⟩, hS.F ht⟩) hS.2.2 dB_3_0_8.2
    · have t_6 : y_2.toInt = (4 : Int32).toInt := congrArg Int32.toInt c_6
      refine lv_ldc2 (v := 110000) hx hb hown (hts (.constantLong RX12 130 (110000)) (List.mem_of_getElem? (i := 3) rfl)) dB_3_0_7.2.2.2.1 ?_
      refine lv_goto (tgt := 35) hx hb dB_3_0_7.2.2.2.2 (by decide) ?_
      rw [hQ]
      exact W.lret (v := 110000) hx hb hr (fun t ht hW => ⟨⟨110000, (), rfl, trivial, trivial⟩, hS.F ht⟩) hS.2.2 dB_3_0_8.2
  · have t_3 : y_2.toInt = (3 : Int32).toInt := congrArg Int32.toInt c_3
    refine lv_ldc2 (v := 10000) hx hb hown (hts (.constantLong RX12 128 (10000)) (List.mem_of_getElem? (i := 2) rfl)) dB_3_0_7.1.2.2.1 ?_
    refine lv_goto (tgt := 35) hx hb dB_3_0_7.1.2.2.2 (by decide) ?_
    rw [hQ]
    exact W.lret (v := 10000) hx hb hr (fun t ht hW => ⟨⟨10000, (), rfl, trivial, trivial⟩, hS.F ht⟩) hS.2.2 dB_3_0_8.2
end

section
set_option maxHeartbeats 4000000 in
set_option maxRecDepth 100000 in
theorem c_X12_trace (l : Launch) (D : va_G) (cy : Nat → ClassId) (sz : Nat) (mo : Nat) (g5 : Nat) (g6 : Nat) (g7 : Nat) (g8 : Nat) (g9 : Nat) (g10 : Nat) (g12 : Nat) (g13 : Nat) (g14 : Nat) (g15 : Nat) (g16 : Nat) (g17 : Nat) (g18 : Nat) (g19 : Nat) (g20 : Nat) (g22 : Nat) (g23 : Nat) (g24 : Nat) (g29 : Nat) (g30 : Nat) (g31 : Nat) (g32 : Nat) (g33 : Nat) (s0 : Int32) (s1 : Int32) (s3 : Int32) (s4 : Int32) (s11 : Int32) (s21 : Int32) (s25 : Int32) (s26 : Int32) (s27 : Int32) (s28 : Int32) (t2 : Int64) : Met l yX12_trace wsX12_trace ({ frames := 0, cells := 0, slots := 0, locals := 0 }) (va_Pc [.ref mo] (fun U => U.heap.size = sz ∧ va_P D vwCl [ob12_0_ mo s0 s1 t2 s3 s4 g5 g6 g7 g8 g9 g10 s11 g12 g13 g14 g15 g16 g17 g18 g19 g20 s21 g22 g23 g24 s25 s26 s27 s28 g29 g30 g31 g32 g33] U.heap ∧ kk_ D cy U ∧ va_D (fun _ => True) [ob12_0_ mo s0 s1 t2 s3 s4 g5 g6 g7 g8 g9 g10 s11 g12 g13 g14 g15 g16 g17 g18 g19 g20 s21 g22 g23 g24 s25 s26 s27 s28 g29 g30 g31 g32 g33])) (va_Ql (fun (r : Int64) (_ : Unit) => True) (fun (_ : Unit) (t : State) => va_P D vwCl [ob12_0_ mo 0 s1 t2 s3 s4 g5 g6 g7 g8 g9 g10 s11 g12 g13 g14 g15 g16 g17 g18 g19 g20 s21 g22 g23 g24 s25 s26 s27 s28 g29 g30 g31 g32 g33] t.heap ∧ va_D (va_A [ob12_0_ mo s0 s1 t2 s3 s4 g5 g6 g7 g8 g9 g10 s11 g12 g13 g14 g15 g16 g17 g18 g19 g20 s21 g22 g23 g24 s25 s26 s27 s28 g29 g30 g31 g32 g33] sz) [ob12_0_ mo 0 s1 t2 s3 s4 g5 g6 g7 g8 g9 g10 s11 g12 g13 g14 g15 g16 g17 g18 g19 g20 s21 g22 g23 g24 s25 s26 s27 s28 g29 g30 g31 g32 g33]) (va_A [ob12_0_ mo s0 s1 t2 s3 s4 g5 g6 g7 g8 g9 g10 s11 g12 g13 g14 g15 g16 g17 g18 g19 g20 s21 g22 g23 g24 s25 s26 s27 s28 g29 g30 g31 g32 g33] sz)) 0 0 (va_A [ob12_0_ mo s0 s1 t2 s3 s4 g5 g6 g7 g8 g9 g10 s11 g12 g13 g14 g15 g16 g17 g18 g19 g20 s21 g22 g23 g24 s25 s26 s27 s28 g29 g30 g31 g32 g33] sz) := by
  refine ofQ (cc := cX12_trace) (maxL := 1) (ret := (some .long)) (by decide) rfl ?_
  intro p e s m args below meth c s₁ Q hQ B hml hv
  obtain ⟨rfl, hsz, hP, hK, hD0⟩ := hv
  have hx := B.exec
  have hb := B.bytes
  have hr := B.returns
  have hts := atoms_spec (ws := wsX12_trace) B.pre
  have hown : s.vm.findClass RX12 = some m.cls := by have h_ := findClass_of_methodNamed B.named; exact h_
  have hlocks := B.notSynchronized
  subst hsz
  have hD := hD0.self (sz := s.heap.size)
  generalize hAe : va_A [ob12_0_ mo s0 s1 t2 s3 s4 g5 g6 g7 g8 g9 g10 s11 g12 g13 g14 g15 g16 g17 g18 g19 g20 s21 g22 g23 g24 s25 s26 s27 s28 g29 g30 g31 g32 g33] s.heap.size = A at hD hQ
  have hA : ∀ q : Nat, s.heap.size ≤ q → A q := fun q h => by rw [← hAe]; exact Or.inr h
  have hS : va_S A s.heap s.heap [] := va_S.rf
  have hl := lv_entry ([.ref mo]) (n := 1) (Nat.le_of_ble_eq_true rfl)
  rw [lg_entry_eq]
  generalize (lg_sl ([.ref mo]) ++ List.replicate (1 - (lg_sl ([.ref mo])).length) Slot.unset).toArray = ls at hl ⊢
  have hl : lv_has ls 1 [(0, .ref mo)] := hl
  refine lv_aload_n hx hb dB_3_3_47.1.1 rfl (lv_at hl 0 rfl) ?_
  refine lv_iconst (v := 0) hx hb dB_3_3_47.1.2.1 (by decide) ?_
  refine va_put (ci := 12) (v := .int 0) (ty := .int) (C := RX12) (T := TX12) (N := 34) hx hb hts (fun _ h => List.mem_cons_of_mem _ (List.mem_append_right _ h)) tyX12 tyX12_ok nmX12 hown hK.1 hP hD hS 0 rfl rfl 0 (by decide) (hts (.fieldLink RX12 85 "CutAtlasModel" "thrown" "I") (List.mem_of_getElem? (i := 1) rfl)) (fun _ h9 => h9) rfl (by decide +kernel) rfl rfl (Nat.le_of_ble_eq_true rfl) dB_3_3_47.1.2.2 (fun H locs hP hD hS => ?_)
  refine pd_K [ob12_0_ mo 0 s1 t2 s3 s4 g5 g6 g7 g8 g9 g10 s11 g12 g13 g14 g15 g16 g17 g18 g19 g20 s21 g22 g23 g24 s25 s26 s27 s28 g29 g30 g31 g32 g33] hP hD (fun hP hD => ?_)
  refine lv_aload_n hx hb dB_3_3_47.2.1 rfl (lv_at hl 0 rfl) ?_
  refine va_get (ci := 12) (v := .long t2) (C := RX12) (T := TX12) (N := 34) hx hb hts (fun _ h => List.mem_cons_of_mem _ (List.mem_append_right _ h)) hown hK.1 hP 0 rfl rfl 2 (by decide) (hts (.fieldLink RX12 114 "CutAtlasModel" "trace" "J") (List.mem_of_getElem? (i := 2) rfl)) (fun _ h9 => h9) rfl dB_3_3_47.2.2.1 ?_
  rw [hQ]
  exact W.lret (v := t2) hx hb hr (fun t ht hW => ⟨⟨t2, (), rfl, trivial, by rw [ht]; exact hP, hD⟩, hS.F ht⟩) hS.2.2 dB_3_3_47.2.2.2
end

section
set_option maxHeartbeats 4000000 in
set_option maxRecDepth 100000 in
theorem c_X12_refused (l : Launch) (D : va_G) (cy : Nat → ClassId) (sz : Nat) (mo : Nat) (g5 : Nat) (g6 : Nat) (g7 : Nat) (g8 : Nat) (g9 : Nat) (g10 : Nat) (g12 : Nat) (g13 : Nat) (g14 : Nat) (g15 : Nat) (g16 : Nat) (g17 : Nat) (g18 : Nat) (g19 : Nat) (g20 : Nat) (g22 : Nat) (g23 : Nat) (g24 : Nat) (g29 : Nat) (g30 : Nat) (g31 : Nat) (g32 : Nat) (g33 : Nat) (s0 : Int32) (s1 : Int32) (s3 : Int32) (s4 : Int32) (s11 : Int32) (s21 : Int32) (s25 : Int32) (s26 : Int32) (s27 : Int32) (s28 : Int32) (t2 : Int64) (a1 : Int64) (a2 : Int64) (a3 : Int64) (a4 : Int64) (a5 : Int64) (hN : 0 ≤ s4.toInt ∧ s4.toInt ≤ 40) (hPl : 0 ≤ s3.toInt ∧ s3.toInt ≤ 12) : Met l yX12_refused wsX12_refused ({ frames := 1, cells := 0, slots := 0, locals := 25 }) (va_Pc [.ref mo, .long a1, .long a2, .long a3, .long a4, .long a5] (fun U => U.heap.size = sz ∧ va_P D vwCl [ob12_0_ mo s0 s1 t2 s3 s4 g5 g6 g7 g8 g9 g10 s11 g12 g13 g14 g15 g16 g17 g18 g19 g20 s21 g22 g23 g24 s25 s26 s27 s28 g29 g30 g31 g32 g33] U.heap ∧ kk_ D cy U ∧ va_D (fun _ => True) [ob12_0_ mo s0 s1 t2 s3 s4 g5 g6 g7 g8 g9 g10 s11 g12 g13 g14 g15 g16 g17 g18 g19 g20 s21 g22 g23 g24 s25 s26 s27 s28 g29 g30 g31 g32 g33])) (va_Qi (fun (r : Int32) (_ : Unit) => ((¬ ((0 ≤ a1.toInt ∧ a1.toInt ≤ 4) ∧ (0 ≤ a2.toInt ∧ a2.toInt < s3.toInt) ∧ (0 ≤ a3.toInt ∧ a3.toInt < s3.toInt) ∧ a2.toInt ≠ a3.toInt ∧ (0 ≤ a4.toInt ∧ a4.toInt ≤ 1000) ∧ (0 ≤ a5.toInt ∧ a5.toInt ≤ 100))) ∧ r = (-1)) ∨ ((((0 ≤ a1.toInt ∧ a1.toInt ≤ 4) ∧ (0 ≤ a2.toInt ∧ a2.toInt < s3.toInt) ∧ (0 ≤ a3.toInt ∧ a3.toInt < s3.toInt) ∧ a2.toInt ≠ a3.toInt ∧ (0 ≤ a4.toInt ∧ a4.toInt ≤ 1000) ∧ (0 ≤ a5.toInt ∧ a5.toInt ≤ 100)) ∧ s4.toInt = 40) ∧ r = (-3)) ∨ ((((0 ≤ a1.toInt ∧ a1.toInt ≤ 4) ∧ (0 ≤ a2.toInt ∧ a2.toInt < s3.toInt) ∧ (0 ≤ a3.toInt ∧ a3.toInt < s3.toInt) ∧ a2.toInt ≠ a3.toInt ∧ (0 ≤ a4.toInt ∧ a4.toInt ≤ 1000) ∧ (0 ≤ a5.toInt ∧ a5.toInt ≤ 100)) ∧ s4.toInt < 40) ∧ r = 0)) (fun (_ : Unit) (_ : State) => True) (va_A [] sz)) 0 0 (va_A [] sz) := by
  refine ofQ (cc := cX12_refused) (maxL := 12) (ret := (some .int)) (by decide) rfl ?_
  intro p e s m args below meth c s₁ Q hQ B hml hv
  obtain ⟨rfl, hsz, hP, hK, hD0⟩ := hv
  have hx := B.exec
  have hb := B.bytes
  have hr := B.returns
  have hts := atoms_spec (ws := wsX12_refused) B.pre
  have hown : s.vm.findClass RX12 = some m.cls := by have h_ := findClass_of_methodNamed B.named; exact h_
  have hlocks := B.notSynchronized
  subst hsz
  have hD : va_D (va_A [] s.heap.size) [] := dd_nil
  generalize hAe : va_A [] s.heap.size = A at hD hQ
  have hA : ∀ q : Nat, s.heap.size ≤ q → A q := fun q h => by rw [← hAe]; exact Or.inr h
  have hS : va_S A s.heap s.heap [] := va_S.rf
  have hl := lv_entry ([.ref mo, .long a1, .long a2, .long a3, .long a4, .long a5]) (n := 12) (Nat.le_of_ble_eq_true rfl)
  rw [lg_entry_eq]
  generalize (lg_sl ([.ref mo, .long a1, .long a2, .long a3, .long a4, .long a5]) ++ List.replicate (12 - (lg_sl ([.ref mo, .long a1, .long a2, .long a3, .long a4, .long a5])).length) Slot.unset).toArray = ls at hl ⊢
  have hl : lv_has ls 12 [(0, .ref mo), (1, .long a1), (3, .long a2), (5, .long a3), (7, .long a4), (9, .long a5)] := hl
  have zm3 : ((-3) : Int32).toInt = -3 := by decide
  have zm1 : ((-1) : Int32).toInt = -1 := by decide
  have z0 : (0 : Int32).toInt = 0 := by decide
  have zl0 : (0 : Int64).toInt = 0 := by decide
  have z1 : (1 : Int32).toInt = 1 := by decide
  have zl4 : (4 : Int64).toInt = 4 := by decide
  have z40 : (40 : Int32).toInt = 40 := by decide
  have zl100 : (100 : Int64).toInt = 100 := by decide
  have zl1000 : (1000 : Int64).toInt = 1000 := by decide
  refine lv_lload_n hx hb dB_3_0_43.1.1.1.1 rfl (lv_at hl 1 rfl) ?_
  refine lv_lconst (v := 0) hx hb dB_3_0_43.1.1.1.2 (by decide) ?_
  refine lv_ldc2 (v := 4) hx hb hown (hts (.constantLong RX12 108 (4)) (List.mem_of_getElem? (i := 1) rfl)) dB_3_0_43.1.1.2.1 ?_
  refine ct_R hP hD0 [] [] (by decide) rfl (fun hPc hDw => ?_)
  have hFc := va_free (wc := []) hD hS hA [] rfl
  refine va_calli (va_runS (As := [.long a1, .long 0, .long 4]) (rest := []) ⟨hx, hb, hml, hown, hts⟩ (c_X12_in l D cy s.heap.size a1 (0 : Int64) (4 : Int64)) (va_cwS 3 hts gX12_refused_X12_in rfl rfl rfl hd_X12_in ⟨Nat.le_of_ble_eq_true rfl, Nat.le_of_ble_eq_true rfl⟩) ⟨bl_, fun U hU hW => ⟨rfl, by rw [hU], by rw [hU]; exact hPc, kk_mv hW hK, hDw⟩⟩ rfl rfl hl.1 rfl (lv_room (Nat.le_of_ble_eq_true rfl)) dB_3_0_43.1.1.2.2 ⟨Nat.le_of_ble_eq_true rfl, Nat.le_of_ble_eq_true rfl⟩) hS (fun q _ h => hFc q h) hFc (fun r_1 u t H locs ht hvm hw hB hz1 hk1 hS => ?_)
  have hP : va_P D vwCl _ H := ro_keep hP hk1
  rcases hw with ⟨w_2, e_⟩ | ⟨w_2, e_⟩
  · have e_ := e_.symm
    subst e_
    refine lv_if_eq (tgt := 77) hx hb dB_3_0_43.1.2.1.1 (by decide) (fun c_3 => ?_) (fun c_3 => ?_)
    · exact absurd c_3 (by decide)
    · have _ := c_3
      refine lv_lload_n hx hb dB_3_0_43.1.2.1.2 rfl (lv_at hl 2 rfl) ?_
      refine lv_lconst (v := 0) hx hb dB_3_0_43.1.2.2.1 (by decide) ?_
      refine lv_aload_n hx hb dB_3_0_43.1.2.2.2 rfl (lv_at hl 0 rfl) ?_
      refine va_get (ci := 12) (v := .int s3) (C := RX12) (T := TX12) (N := 34) hx hb hts (fun _ h => List.mem_cons_of_mem _ (List.mem_append_right _ h)) hown hK.1 hP 0 rfl rfl 3 (by decide) (hts (.fieldLink RX12 88 "CutAtlasModel" "places" "I") (List.mem_of_getElem? (i := 2) rfl)) (fun _ h9 => h9) rfl dB_3_0_43.2.1.1.1 ?_
      refine lv_iconst (v := 1) hx hb dB_3_0_43.2.1.1.2 (by decide) ?_
      refine lv_isub hx hb dB_3_0_43.2.1.2.1 ?_
      refine lv_topi (fun y_4 ey_4 => ?_)
      have ty_4 : y_4.toInt = s3.toInt - (1 : Int32).toInt := by rw [ey_4]; exact subI (by omega) (by omega)
      refine lv_i2l (v := y_4.toInt64) hx hb dB_3_0_43.2.1.2.2 rfl ?_
      have q_19 : (y_4.toInt64).toInt = y_4.toInt := Int32.toInt_toInt64 y_4
      refine ct_R hP hD0 [] [] (by decide) rfl (fun hPc hDw => ?_)
      have hFc := va_free (wc := []) hD hS hA [] rfl
      refine va_calli (va_runS (As := [.long a2, .long 0, .long y_4.toInt64]) (rest := []) ⟨hx, hb, hml, hown, hts⟩ (c_X12_in l D cy H.size a2 (0 : Int64) y_4.toInt64) (va_cwS 3 hts gX12_refused_X12_in rfl rfl rfl hd_X12_in ⟨Nat.le_of_ble_eq_true rfl, Nat.le_of_ble_eq_true rfl⟩) ⟨bl_, fun U hU hW => ⟨rfl, by rw [hU], by rw [hU]; exact hPc, kk_mv hW hK, hDw⟩⟩ rfl rfl hl.1 rfl (lv_room (Nat.le_of_ble_eq_true rfl)) dB_3_0_43.2.2.1.1 ⟨Nat.le_of_ble_eq_true rfl, Nat.le_of_ble_eq_true rfl⟩) hS (fun q _ h => hFc q h) hFc (fun r_5 u t H locs ht hvm hw hB hz1 hk1 hS => ?_)
      have hP : va_P D vwCl _ H := ro_keep hP hk1
      rcases hw with ⟨w_6, e_⟩ | ⟨w_6, e_⟩
      · have e_ := e_.symm
        subst e_
        refine lv_if_eq (tgt := 77) hx hb dB_3_0_43.2.2.1.2 (by decide) (fun c_7 => ?_) (fun c_7 => ?_)
        · exact absurd c_7 (by decide)
        · have _ := c_7
          refine lv_lload hx hb dB_3_0_43.2.2.2.1 (lv_at hl 3 rfl) ?_
          refine lv_lconst (v := 0) hx hb dB_3_0_43.2.2.2.2 (by decide) ?_
          refine lv_aload_n hx hb dB_3_0_44.1.1.1.1 rfl (lv_at hl 0 rfl) ?_
          refine va_get (ci := 12) (v := .int s3) (C := RX12) (T := TX12) (N := 34) hx hb hts (fun _ h => List.mem_cons_of_mem _ (List.mem_append_right _ h)) hown hK.1 hP 0 rfl rfl 3 (by decide) (hts (.fieldLink RX12 88 "CutAtlasModel" "places" "I") (List.mem_of_getElem? (i := 2) rfl)) (fun _ h9 => h9) rfl dB_3_0_44.1.1.1.2 ?_
          refine lv_iconst (v := 1) hx hb dB_3_0_44.1.1.2.1 (by decide) ?_
          refine lv_isub hx hb dB_3_0_44.1.1.2.2 ?_
          refine lv_topi (fun y_8 ey_8 => ?_)
          have e_ := (ey_8.trans ey_4.symm).symm
          subst e_
          refine lv_i2l (v := y_4.toInt64) hx hb dB_3_0_44.1.2.1.1 rfl ?_
          have q_35 : (y_4.toInt64).toInt = y_4.toInt := Int32.toInt_toInt64 y_4
          refine ct_R hP hD0 [] [] (by decide) rfl (fun hPc hDw => ?_)
          have hFc := va_free (wc := []) hD hS hA [] rfl
          refine va_calli (va_runS (As := [.long a3, .long 0, .long y_4.toInt64]) (rest := []) ⟨hx, hb, hml, hown, hts⟩ (c_X12_in l D cy H.size a3 (0 : Int64) y_4.toInt64) (va_cwS 3 hts gX12_refused_X12_in rfl rfl rfl hd_X12_in ⟨Nat.le_of_ble_eq_true rfl, Nat.le_of_ble_eq_true rfl⟩) ⟨bl_, fun U hU hW => ⟨rfl, by rw [hU], by rw [hU]; exact hPc, kk_mv hW hK, hDw⟩⟩ rfl rfl hl.1 rfl (lv_room (Nat.le_of_ble_eq_true rfl)) dB_3_0_44.1.2.1.2 ⟨Nat.le_of_ble_eq_true rfl, Nat.le_of_ble_eq_true rfl⟩) hS (fun q _ h => hFc q h) hFc (fun r_9 u t H locs ht hvm hw hB hz1 hk1 hS => ?_)
          have hP : va_P D vwCl _ H := ro_keep hP hk1
          rcases hw with ⟨w_10, e_⟩ | ⟨w_10, e_⟩
          · have e_ := e_.symm
            subst e_
            refine lv_if_eq (tgt := 77) hx hb dB_3_0_44.1.2.2.1 (by decide) (fun c_11 => ?_) (fun c_11 => ?_)
            · exact absurd c_11 (by decide)
            · have _ := c_11
              refine lv_lload_n hx hb dB_3_0_44.1.2.2.2 rfl (lv_at hl 2 rfl) ?_
              refine lv_lload hx hb dB_3_0_44.2.1.1.1 (lv_at hl 3 rfl) ?_
              refine W.lcmp hx hb dB_3_0_44.2.1.1.2 ?_
              refine lv_if_eq (tgt := 77) hx hb dB_3_0_44.2.1.2.1 (by decide) (fun c_12 => ?_) (fun c_12 => ?_)
              · have t_12 : a2.toInt = a3.toInt := congrArg Int64.toInt ((lg_cmp_eq a2 a3).mp c_12)
                refine lv_iconst (v := 0) hx hb dB_3_0_45.1.2.2.2 (by decide) ?_
                refine lv_istore (lv' := [(11, .int 0), (0, .ref mo), (1, .long a1), (3, .long a2), (5, .long a3), (7, .long a4), (9, .long a5)]) hx hb dB_3_0_45.2.1.1.1 hl (by decide) rfl (fun ls hl => ?_)
                refine lv_iload hx hb dB_3_0_45.2.1.1.2 (lv_at hl 0 rfl) ?_
                refine lv_if_ne (tgt := 89) hx hb dB_3_0_45.2.1.2.1 (by decide) (fun c_13 => ?_) (fun c_13 => ?_)
                · exact absurd c_13 (by decide)
                · have _ := c_13
                  refine lv_iconst (v := (-1)) hx hb dB_3_0_45.2.1.2.2 (by decide) ?_
                  refine lv_goto (tgt := 104) hx hb dB_3_0_45.2.2.1.1 (by decide) ?_
                  rw [hQ]
                  exact W.iret (v := (-1)) hx hb hr (fun t ht hW => ⟨⟨(-1), (), rfl, Or.inl (⟨by omega, rfl⟩), trivial⟩, hS.F ht⟩) hS.2.2 dB_3_0_46.2.2.2
              · have t_12 : ¬ a2.toInt = a3.toInt := fun h => c_12 ((lg_cmp_eq a2 a3).mpr (Int64.toInt_inj.mp h))
                refine lv_lload hx hb dB_3_0_44.2.1.2.2 (lv_at hl 4 rfl) ?_
                refine lv_lconst (v := 0) hx hb dB_3_0_44.2.2.1.1 (by decide) ?_
                refine lv_ldc2 (v := 1000) hx hb hown (hts (.constantLong RX12 110 (1000)) (List.mem_of_getElem? (i := 3) rfl)) dB_3_0_44.2.2.1.2 ?_
                refine ct_R hP hD0 [] [] (by decide) rfl (fun hPc hDw => ?_)
                have hFc := va_free (wc := []) hD hS hA [] rfl
                refine va_calli (va_runS (As := [.long a4, .long 0, .long 1000]) (rest := []) ⟨hx, hb, hml, hown, hts⟩ (c_X12_in l D cy H.size a4 (0 : Int64) (1000 : Int64)) (va_cwS 3 hts gX12_refused_X12_in rfl rfl rfl hd_X12_in ⟨Nat.le_of_ble_eq_true rfl, Nat.le_of_ble_eq_true rfl⟩) ⟨bl_, fun U hU hW => ⟨rfl, by rw [hU], by rw [hU]; exact hPc, kk_mv hW hK, hDw⟩⟩ rfl rfl hl.1 rfl (lv_room (Nat.le_of_ble_eq_true rfl)) dB_3_0_44.2.2.2.1 ⟨Nat.le_of_ble_eq_true rfl, Nat.le_of_ble_eq_true rfl⟩) hS (fun q _ h => hFc q h) hFc (fun r_14 u t H locs ht hvm hw hB hz1 hk1 hS => ?_)
                have hP : va_P D vwCl _ H := ro_keep hP hk1
                rcases hw with ⟨w_15, e_⟩ | ⟨w_15, e_⟩
                · have e_ := e_.symm
                  subst e_
                  refine lv_if_eq (tgt := 77) hx hb dB_3_0_44.2.2.2.2 (by decide) (fun c_16 => ?_) (fun c_16 => ?_)
                  · exact absurd c_16 (by decide)
                  · have _ := c_16
                    refine lv_lload hx hb dB_3_0_45.1.1.1.1 (lv_at hl 5 rfl) ?_
                    refine lv_lconst (v := 0) hx hb dB_3_0_45.1.1.1.2 (by decide) ?_
                    refine lv_ldc2 (v := 100) hx hb hown (hts (.constantLong RX12 112 (100)) (List.mem_of_getElem? (i := 4) rfl)) dB_3_0_45.1.1.2.1 ?_
                    refine ct_R hP hD0 [] [] (by decide) rfl (fun hPc hDw => ?_)
                    have hFc := va_free (wc := []) hD hS hA [] rfl
                    refine va_calli (va_runS (As := [.long a5, .long 0, .long 100]) (rest := []) ⟨hx, hb, hml, hown, hts⟩ (c_X12_in l D cy H.size a5 (0 : Int64) (100 : Int64)) (va_cwS 3 hts gX12_refused_X12_in rfl rfl rfl hd_X12_in ⟨Nat.le_of_ble_eq_true rfl, Nat.le_of_ble_eq_true rfl⟩) ⟨bl_, fun U hU hW => ⟨rfl, by rw [hU], by rw [hU]; exact hPc, kk_mv hW hK, hDw⟩⟩ rfl rfl hl.1 rfl (lv_room (Nat.le_of_ble_eq_true rfl)) dB_3_0_45.1.1.2.2 ⟨Nat.le_of_ble_eq_true rfl, Nat.le_of_ble_eq_true rfl⟩) hS (fun q _ h => hFc q h) hFc (fun r_17 u t H locs ht hvm hw hB hz1 hk1 hS => ?_)
                    have hP : va_P D vwCl _ H := ro_keep hP hk1
                    rcases hw with ⟨w_18, e_⟩ | ⟨w_18, e_⟩
                    · have e_ := e_.symm
                      subst e_
                      refine lv_if_eq (tgt := 77) hx hb dB_3_0_45.1.2.1.1 (by decide) (fun c_19 => ?_) (fun c_19 => ?_)
                      · exact absurd c_19 (by decide)
                      · have _ := c_19
                        refine lv_iconst (v := 1) hx hb dB_3_0_45.1.2.1.2 (by decide) ?_
                        refine lv_goto (tgt := 78) hx hb dB_3_0_45.1.2.2.1 (by decide) ?_
                        refine lv_istore (lv' := [(11, .int 1), (0, .ref mo), (1, .long a1), (3, .long a2), (5, .long a3), (7, .long a4), (9, .long a5)]) hx hb dB_3_0_45.2.1.1.1 hl (by decide) rfl (fun ls hl => ?_)
                        refine lv_iload hx hb dB_3_0_45.2.1.1.2 (lv_at hl 0 rfl) ?_
                        refine lv_if_ne (tgt := 89) hx hb dB_3_0_45.2.1.2.1 (by decide) (fun c_20 => ?_) (fun c_20 => ?_)
                        · have _ := c_20
                          refine lv_aload_n hx hb dB_3_0_45.2.2.1.2 rfl (lv_at hl 1 rfl) ?_
                          refine va_get (ci := 12) (v := .int s4) (C := RX12) (T := TX12) (N := 34) hx hb hts (fun _ h => List.mem_cons_of_mem _ (List.mem_append_right _ h)) hown hK.1 hP 0 rfl rfl 4 (by decide) (hts (.fieldLink RX12 95 "CutAtlasModel" "lines" "I") (List.mem_of_getElem? (i := 5) rfl)) (fun _ h9 => h9) rfl dB_3_0_45.2.2.2.1 ?_
                          refine lv_bipush (v := 40) hx hb dB_3_0_45.2.2.2.2 (by decide) ?_
                          refine lv_icmp_ne (tgt := 103) hx hb dB_3_0_46.1.1 (by decide) (fun c_21 => ?_) (fun c_21 => ?_)
                          · have t_21 : ¬ s4.toInt = (40 : Int32).toInt := fun h => c_21 (Int32.toInt_inj.mp h)
                            refine lv_iconst (v := 0) hx hb dB_3_0_46.2.2.1 (by decide) ?_
                            rw [hQ]
                            exact W.iret (v := 0) hx hb hr (fun t ht hW => ⟨⟨0, (), rfl, Or.inr (Or.inr (⟨by omega, rfl⟩)), trivial⟩, hS.F ht⟩) hS.2.2 dB_3_0_46.2.2.2
                          · have t_21 : s4.toInt = (40 : Int32).toInt := congrArg Int32.toInt c_21
                            refine lv_bipush (v := (-3)) hx hb dB_3_0_46.1.2 (by decide) ?_
                            refine lv_goto (tgt := 104) hx hb dB_3_0_46.2.1 (by decide) ?_
                            rw [hQ]
                            exact W.iret (v := (-3)) hx hb hr (fun t ht hW => ⟨⟨(-3), (), rfl, Or.inr (Or.inl (⟨by omega, rfl⟩)), trivial⟩, hS.F ht⟩) hS.2.2 dB_3_0_46.2.2.2
                        · exact absurd c_20 (by decide)
                    · have e_ := e_.symm
                      subst e_
                      refine lv_if_eq (tgt := 77) hx hb dB_3_0_45.1.2.1.1 (by decide) (fun c_22 => ?_) (fun c_22 => ?_)
                      · have _ := c_22
                        refine lv_iconst (v := 0) hx hb dB_3_0_45.1.2.2.2 (by decide) ?_
                        refine lv_istore (lv' := [(11, .int 0), (0, .ref mo), (1, .long a1), (3, .long a2), (5, .long a3), (7, .long a4), (9, .long a5)]) hx hb dB_3_0_45.2.1.1.1 hl (by decide) rfl (fun ls hl => ?_)
                        refine lv_iload hx hb dB_3_0_45.2.1.1.2 (lv_at hl 0 rfl) ?_
                        refine lv_if_ne (tgt := 89) hx hb dB_3_0_45.2.1.2.1 (by decide) (fun c_23 => ?_) (fun c_23 => ?_)
                        · exact absurd c_23 (by decide)
                        · have _ := c_23
                          refine lv_iconst (v := (-1)) hx hb dB_3_0_45.2.1.2.2 (by decide) ?_
                          refine lv_goto (tgt := 104) hx hb dB_3_0_45.2.2.1.1 (by decide) ?_
                          rw [hQ]
                          exact W.iret (v := (-1)) hx hb hr (fun t ht hW => ⟨⟨(-1), (), rfl, Or.inl (⟨by omega, rfl⟩), trivial⟩, hS.F ht⟩) hS.2.2 dB_3_0_46.2.2.2
                      · exact absurd c_22 (by decide)
                · have e_ := e_.symm
                  subst e_
                  refine lv_if_eq (tgt := 77) hx hb dB_3_0_44.2.2.2.2 (by decide) (fun c_24 => ?_) (fun c_24 => ?_)
                  · have _ := c_24
                    refine lv_iconst (v := 0) hx hb dB_3_0_45.1.2.2.2 (by decide) ?_
                    refine lv_istore (lv' := [(11, .int 0), (0, .ref mo), (1, .long a1), (3, .long a2), (5, .long a3), (7, .long a4), (9, .long a5)]) hx hb dB_3_0_45.2.1.1.1 hl (by decide) rfl (fun ls hl => ?_)
                    refine lv_iload hx hb dB_3_0_45.2.1.1.2 (lv_at hl 0 rfl) ?_
                    refine lv_if_ne (tgt := 89) hx hb dB_3_0_45.2.1.2.1 (by decide) (fun c_25 => ?_) (fun c_25 => ?_)
                    · exact absurd c_25 (by decide)
                    · have _ := c_25
                      refine lv_iconst (v := (-1)) hx hb dB_3_0_45.2.1.2.2 (by decide) ?_
                      refine lv_goto (tgt := 104) hx hb dB_3_0_45.2.2.1.1 (by decide) ?_
                      rw [hQ]
                      exact W.iret (v := (-1)) hx hb hr (fun t ht hW => ⟨⟨(-1), (), rfl, Or.inl (⟨by omega, rfl⟩), trivial⟩, hS.F ht⟩) hS.2.2 dB_3_0_46.2.2.2
                  · exact absurd c_24 (by decide)
          · have e_ := e_.symm
            subst e_
            refine lv_if_eq (tgt := 77) hx hb dB_3_0_44.1.2.2.1 (by decide) (fun c_26 => ?_) (fun c_26 => ?_)
            · have _ := c_26
              refine lv_iconst (v := 0) hx hb dB_3_0_45.1.2.2.2 (by decide) ?_
              refine lv_istore (lv' := [(11, .int 0), (0, .ref mo), (1, .long a1), (3, .long a2), (5, .long a3), (7, .long a4), (9, .long a5)]) hx hb dB_3_0_45.2.1.1.1 hl (by decide) rfl (fun ls hl => ?_)
              refine lv_iload hx hb dB_3_0_45.2.1.1.2 (lv_at hl 0 rfl) ?_
              refine lv_if_ne (tgt := 89) hx hb dB_3_0_45.2.1.2.1 (by decide) (fun c_27 => ?_) (fun c_27 => ?_)
              · exact absurd c_27 (by decide)
              · have _ := c_27
                refine lv_iconst (v := (-1)) hx hb dB_3_0_45.2.1.2.2 (by decide) ?_
                refine lv_goto (tgt := 104) hx hb dB_3_0_45.2.2.1.1 (by decide) ?_
                rw [hQ]
                exact W.iret (v := (-1)) hx hb hr (fun t ht hW => ⟨⟨(-1), (), rfl, Or.inl (⟨by omega, rfl⟩), trivial⟩, hS.F ht⟩) hS.2.2 dB_3_0_46.2.2.2
            · exact absurd c_26 (by decide)
      · have e_ := e_.symm
        subst e_
        refine lv_if_eq (tgt := 77) hx hb dB_3_0_43.2.2.1.2 (by decide) (fun c_28 => ?_) (fun c_28 => ?_)
        · have _ := c_28
          refine lv_iconst (v := 0) hx hb dB_3_0_45.1.2.2.2 (by decide) ?_
          refine lv_istore (lv' := [(11, .int 0), (0, .ref mo), (1, .long a1), (3, .long a2), (5, .long a3), (7, .long a4), (9, .long a5)]) hx hb dB_3_0_45.2.1.1.1 hl (by decide) rfl (fun ls hl => ?_)
          refine lv_iload hx hb dB_3_0_45.2.1.1.2 (lv_at hl 0 rfl) ?_
          refine lv_if_ne (tgt := 89) hx hb dB_3_0_45.2.1.2.1 (by decide) (fun c_29 => ?_) (fun c_29 => ?_)
          · exact absurd c_29 (by decide)
          · have _ := c_29
            refine lv_iconst (v := (-1)) hx hb dB_3_0_45.2.1.2.2 (by decide) ?_
            refine lv_goto (tgt := 104) hx hb dB_3_0_45.2.2.1.1 (by decide) ?_
            rw [hQ]
            exact W.iret (v := (-1)) hx hb hr (fun t ht hW => ⟨⟨(-1), (), rfl, Or.inl (⟨by omega, rfl⟩), trivial⟩, hS.F ht⟩) hS.2.2 dB_3_0_46.2.2.2
        · exact absurd c_28 (by decide)
  · have e_ := e_.symm
    subst e_
    refine lv_if_eq (tgt := 77) hx hb dB_3_0_43.1.2.1.1 (by decide) (fun c_30 => ?_) (fun c_30 => ?_)
    · have _ := c_30
      refine lv_iconst (v := 0) hx hb dB_3_0_45.1.2.2.2 (by decide) ?_
      refine lv_istore (lv' := [(11, .int 0), (0, .ref mo), (1, .long a1), (3, .long a2), (5, .long a3), (7, .long a4), (9, .long a5)]) hx hb dB_3_0_45.2.1.1.1 hl (by decide) rfl (fun ls hl => ?_)
      refine lv_iload hx hb dB_3_0_45.2.1.1.2 (lv_at hl 0 rfl) ?_
      refine lv_if_ne (tgt := 89) hx hb dB_3_0_45.2.1.2.1 (by decide) (fun c_31 => ?_) (fun c_31 => ?_)
      · exact absurd c_31 (by decide)
      · have _ := c_31
        refine lv_iconst (v := (-1)) hx hb dB_3_0_45.2.1.2.2 (by decide) ?_
        refine lv_goto (tgt := 104) hx hb dB_3_0_45.2.2.1.1 (by decide) ?_
        rw [hQ]
        exact W.iret (v := (-1)) hx hb hr (fun t ht hW => ⟨⟨(-1), (), rfl, Or.inl (⟨by omega, rfl⟩), trivial⟩, hS.F ht⟩) hS.2.2 dB_3_0_46.2.2.2
    · exact absurd c_30 (by decide)
end

section
set_option maxHeartbeats 4000000 in
set_option maxRecDepth 100000 in
theorem c_X12_areThere (l : Launch) (D : va_G) (cy : Nat → ClassId) (sz : Nat) (a1 : Int32) (a2 : Int32) (a3 : Int32) : Met l yX12_areThere wsX12_areThere ({ frames := 0, cells := 0, slots := 0, locals := 0 }) (va_Pc [.int a1, .int a2, .int a3] (fun U => U.heap.size = sz ∧ va_P D vwCl [] U.heap ∧ kk_ D cy U ∧ va_D (fun _ => True) [])) (va_Qi (fun (r : Int32) (_ : Unit) => ((0 ≤ a1.toInt ∧ 0 ≤ a2.toInt ∧ a1.toInt + a2.toInt ≤ a3.toInt) ∧ r = 1) ∨ ((¬ (0 ≤ a1.toInt ∧ 0 ≤ a2.toInt ∧ a1.toInt + a2.toInt ≤ a3.toInt)) ∧ r = 0)) (fun (_ : Unit) (_ : State) => True) (va_A [] sz)) 0 0 (va_A [] sz) := by
  refine ofQ (cc := cX12_areThere) (maxL := 3) (ret := (some .boolean)) (by decide) rfl ?_
  intro p e s m args below meth c s₁ Q hQ B hml hv
  obtain ⟨rfl, hsz, hP, hK, hD0⟩ := hv
  have hx := B.exec
  have hb := B.bytes
  have hr := B.returns
  have hts := atoms_spec (ws := wsX12_areThere) B.pre
  have hown : s.vm.findClass RX12 = some m.cls := by have h_ := findClass_of_methodNamed B.named; exact h_
  have hlocks := B.notSynchronized
  subst hsz
  have hD : va_D (va_A [] s.heap.size) [] := dd_nil
  generalize hAe : va_A [] s.heap.size = A at hD hQ
  have hA : ∀ q : Nat, s.heap.size ≤ q → A q := fun q h => by rw [← hAe]; exact Or.inr h
  have hS : va_S A s.heap s.heap [] := va_S.rf
  have hl := lv_entry ([.int a1, .int a2, .int a3]) (n := 3) (Nat.le_of_ble_eq_true rfl)
  rw [lg_entry_eq]
  generalize (lg_sl ([.int a1, .int a2, .int a3]) ++ List.replicate (3 - (lg_sl ([.int a1, .int a2, .int a3])).length) Slot.unset).toArray = ls at hl ⊢
  have hl : lv_has ls 3 [(0, .int a1), (1, .int a2), (2, .int a3)] := hl
  have z0 : (0 : Int32).toInt = 0 := by decide
  have z1 : (1 : Int32).toInt = 1 := by decide
  refine lv_iload_n hx hb dB_3_3_4.1.1.1.1 rfl (lv_at hl 0 rfl) ?_
  refine lv_if_lt (tgt := 23) hx hb dB_3_3_4.1.1.1.2 (by decide) (fun c_1 => ?_) (fun c_1 => ?_)
  · have t_1 : a1.toInt < (0 : Int32).toInt := Int32.lt_iff_toInt_lt.mp c_1
    refine lv_iconst (v := 0) hx hb dB_3_3_4.2.2.2.2 (by decide) ?_
    rw [hQ]
    exact W.zret (ty := .boolean) (v := 0) hx hb hr (by decide) (fun t ht hW => ⟨⟨0, (), rfl, Or.inr (⟨by omega, rfl⟩), trivial⟩, hS.F ht⟩) hS.2.2 dB_3_3_5
  · have t_1 : ¬ a1.toInt < (0 : Int32).toInt := fun h => c_1 (Int32.lt_iff_toInt_lt.mpr h)
    refine lv_iload_n hx hb dB_3_3_4.1.1.2.1 rfl (lv_at hl 1 rfl) ?_
    refine lv_if_lt (tgt := 23) hx hb dB_3_3_4.1.1.2.2 (by decide) (fun c_2 => ?_) (fun c_2 => ?_)
    · have t_2 : a2.toInt < (0 : Int32).toInt := Int32.lt_iff_toInt_lt.mp c_2
      refine lv_iconst (v := 0) hx hb dB_3_3_4.2.2.2.2 (by decide) ?_
      rw [hQ]
      exact W.zret (ty := .boolean) (v := 0) hx hb hr (by decide) (fun t ht hW => ⟨⟨0, (), rfl, Or.inr (⟨by omega, rfl⟩), trivial⟩, hS.F ht⟩) hS.2.2 dB_3_3_5
    · have t_2 : ¬ a2.toInt < (0 : Int32).toInt := fun h => c_2 (Int32.lt_iff_toInt_lt.mpr h)
      refine lv_iload_n hx hb dB_3_3_4.1.2.1.1 rfl (lv_at hl 0 rfl) ?_
      refine lv_i2l (v := a1.toInt64) hx hb dB_3_3_4.1.2.1.2 rfl ?_
      have q_9 : (a1.toInt64).toInt = a1.toInt := Int32.toInt_toInt64 a1
      refine lv_iload_n hx hb dB_3_3_4.1.2.2.1 rfl (lv_at hl 1 rfl) ?_
      refine lv_i2l (v := a2.toInt64) hx hb dB_3_3_4.1.2.2.2 rfl ?_
      have q_11 : (a2.toInt64).toInt = a2.toInt := Int32.toInt_toInt64 a2
      refine lv_ladd hx hb dB_3_3_4.2.1.1.1 ?_
      refine lv_topl (fun y_3 ey_3 => ?_)
      have ty_3 : y_3.toInt = a1.toInt64.toInt + a2.toInt64.toInt := by rw [ey_3]; exact addL (by have := Int32.toInt_lt a1; have := Int32.toInt_lt a2; omega) (by have := Int32.toInt_lt a1; have := Int32.toInt_lt a2; omega)
      refine lv_iload_n hx hb dB_3_3_4.2.1.1.2 rfl (lv_at hl 2 rfl) ?_
      refine lv_i2l (v := a3.toInt64) hx hb dB_3_3_4.2.1.2.1 rfl ?_
      have q_14 : (a3.toInt64).toInt = a3.toInt := Int32.toInt_toInt64 a3
      refine W.lcmp hx hb dB_3_3_4.2.1.2.2 ?_
      refine lv_if_gt (tgt := 23) hx hb dB_3_3_4.2.2.1.1 (by decide) (fun c_4 => ?_) (fun c_4 => ?_)
      · have t_4 : a3.toInt64.toInt < y_3.toInt := Int64.lt_iff_toInt_lt.mp ((lg_cmp_gt y_3 a3.toInt64).mp c_4)
        refine lv_iconst (v := 0) hx hb dB_3_3_4.2.2.2.2 (by decide) ?_
        rw [hQ]
        exact W.zret (ty := .boolean) (v := 0) hx hb hr (by decide) (fun t ht hW => ⟨⟨0, (), rfl, Or.inr (⟨by omega, rfl⟩), trivial⟩, hS.F ht⟩) hS.2.2 dB_3_3_5
      · have t_4 : ¬ a3.toInt64.toInt < y_3.toInt := fun h => c_4 ((lg_cmp_gt y_3 a3.toInt64).mpr (Int64.lt_iff_toInt_lt.mpr h))
        refine lv_iconst (v := 1) hx hb dB_3_3_4.2.2.1.2 (by decide) ?_
        refine lv_goto (tgt := 24) hx hb dB_3_3_4.2.2.2.1 (by decide) ?_
        rw [hQ]
        exact W.zret (ty := .boolean) (v := 1) hx hb hr (by decide) (fun t ht hW => ⟨⟨1, (), rfl, Or.inl (⟨by omega, rfl⟩), trivial⟩, hS.F ht⟩) hS.2.2 dB_3_3_5
end

section
theorem l2iI {y : Int64} (h1 : -2147483648 ≤ y.toInt) (h2 : y.toInt ≤ 2147483647) : y.toInt32.toInt = y.toInt := by
  rw [Int64.toInt_toInt32]
  exact Int.bmod_eq_of_le (by omega) (by omega)
end

section
set_option maxRecDepth 20000 in
theorem ggX0_load_J7_fill_53178 : GoodIn wsX0_load wsJ7_fill_53178 := gdp_In _ pcs_X0_load pc_X0_load [(1, 14)] rfl gw_J7_fill_53178
set_option maxRecDepth 20000 in
theorem gX0_load_J7_fill_53178 : GoodIn wsX0_load (va_wsS RX0 49 yJ7_fill_53178 wsJ7_fill_53178) := goodIn_app (gdp_In _ pcs_X0_load pc_X0_load [(1, 11), (1, 12), (1, 13)] rfl (gw_S _ _ _)) ggX0_load_J7_fill_53178
set_option maxRecDepth 20000 in
theorem ggX0_load_X3_isMissing : GoodIn wsX0_load wsX3_isMissing := gdp_In _ pcs_X0_load pc_X0_load [(1, 19), (1, 20), (4, 0), (4, 1), (4, 2), (4, 3), (4, 4), (4, 5), (4, 6)] rfl gw_X3_isMissing
set_option maxRecDepth 20000 in
theorem gX0_load_X3_isMissing : GoodIn wsX0_load (wsV RX0 58 RX3 yX3_isMissing wsX3_isMissing) := goodIn_app (gdp_In _ pcs_X0_load pc_X0_load [(1, 15), (1, 16), (1, 17), (1, 18)] rfl (gw_V _ _ _ _)) ggX0_load_X3_isMissing
set_option maxRecDepth 20000 in
theorem ggX0_load_X6_lets : GoodIn wsX0_load wsX6_lets := gdp_In _ pcs_X0_load pc_X0_load [(2, 2)] rfl gw_X6_lets
set_option maxRecDepth 20000 in
theorem gX0_load_X6_lets_u67X2 : GoodIn wsX0_load (va_wsU RX0 67 RX2 "CutAtlas$PlainKind" ⟨"CutAtlas$PlainKind", "lets", "(IZ)I"⟩ yX6_lets wsX6_lets) := goodIn_app (goodIn_of _ (by decide +kernel)) ggX0_load_X6_lets
set_option maxRecDepth 20000 in
theorem ggX0_load_X5_lets : GoodIn wsX0_load wsX5_lets := gdp_In _ pcs_X0_load pc_X0_load [(2, 7), (2, 8), (1, 22), (2, 9), (2, 0), (2, 1), (2, 2)] rfl gw_X5_lets
set_option maxRecDepth 20000 in
theorem gX0_load_X5_lets_u67X5 : GoodIn wsX0_load (va_wsO RX0 67 RX5 "CutAtlas$PlainKind" ⟨"CutAtlas$PlainKind", "lets", "(IZ)I"⟩ yX5_lets wsX5_lets) := goodIn_app (goodIn_of _ (by decide +kernel)) ggX0_load_X5_lets
set_option maxRecDepth 20000 in
theorem gX0_load_X6_lets : GoodIn wsX0_load (wsV RX0 67 RX6 yX6_lets wsX6_lets) := goodIn_app (gdp_In _ pcs_X0_load pc_X0_load [(2, 10), (2, 0), (2, 11), (2, 1)] rfl (gw_V _ _ _ _)) ggX0_load_X6_lets
set_option maxRecDepth 20000 in
theorem gX0_load_X6_lets_u67X8 : GoodIn wsX0_load (va_wsU RX0 67 RX8 "CutAtlas$PlainKind" ⟨"CutAtlas$PlainKind", "lets", "(IZ)I"⟩ yX6_lets wsX6_lets) := goodIn_app (goodIn_of _ (by decide +kernel)) ggX0_load_X6_lets
set_option maxRecDepth 20000 in
theorem ggX0_load_X9_lets : GoodIn wsX0_load wsX9_lets := gdp_In _ pcs_X0_load pc_X0_load [(2, 16)] rfl gw_X9_lets
set_option maxRecDepth 20000 in
theorem gX0_load_X9_lets_u67X9 : GoodIn wsX0_load (va_wsO RX0 67 RX9 "CutAtlas$PlainKind" ⟨"CutAtlas$PlainKind", "lets", "(IZ)I"⟩ yX9_lets wsX9_lets) := goodIn_app (goodIn_of _ (by decide +kernel)) ggX0_load_X9_lets
set_option maxRecDepth 20000 in
theorem ggX0_load_X0_asRoom : GoodIn wsX0_load wsX0_asRoom := gdp_In _ pcs_X0_load pc_X0_load [(2, 20), (2, 21)] rfl gw_X0_asRoom
set_option maxRecDepth 20000 in
theorem gX0_load_X0_asRoom : GoodIn wsX0_load (va_wsS RX0 72 yX0_asRoom wsX0_asRoom) := goodIn_app (gdp_In _ pcs_X0_load pc_X0_load [(2, 17), (2, 18), (2, 19)] rfl (gw_S _ _ _)) ggX0_load_X0_asRoom
set_option maxRecDepth 20000 in
theorem ggX0_fill_J7_fill_53178 : GoodIn wsX0_fill wsJ7_fill_53178 := gdp_In _ pcs_X0_fill pc_X0_fill [(1, 13)] rfl gw_J7_fill_53178
set_option maxRecDepth 20000 in
theorem gX0_fill_J7_fill_53178 : GoodIn wsX0_fill (va_wsS RX0 49 yJ7_fill_53178 wsJ7_fill_53178) := goodIn_app (gdp_In _ pcs_X0_fill pc_X0_fill [(1, 10), (1, 11), (1, 12)] rfl (gw_S _ _ _)) ggX0_fill_J7_fill_53178
set_option maxRecDepth 20000 in
theorem ggX0_fill_X0_reachedFrom : GoodIn wsX0_fill wsX0_reachedFrom := gdp_In _ pcs_X0_fill pc_X0_fill [(1, 18), (1, 19), (1, 1), (1, 2), (1, 4), (3, 0), (3, 1), (3, 2), (3, 3), (3, 4), (3, 5), (3, 6), (3, 7), (3, 8), (4, 0), (4, 1), (4, 2), (4, 3), (4, 4), (4, 5), (4, 6)] rfl gw_X0_reachedFrom
set_option maxRecDepth 20000 in
theorem gX0_fill_X0_reachedFrom : GoodIn wsX0_fill (wsV RX0 89 RX0 yX0_reachedFrom wsX0_reachedFrom) := goodIn_app (gdp_In _ pcs_X0_fill pc_X0_fill [(1, 14), (1, 15), (1, 16), (1, 17)] rfl (gw_V _ _ _ _)) ggX0_fill_X0_reachedFrom
set_option maxRecDepth 20000 in
theorem ggX0_fill_X0_findWay : GoodIn wsX0_fill wsX0_findWay := gdp_In _ pcs_X0_fill pc_X0_fill [(1, 23), (1, 19), (1, 1), (1, 2), (1, 4), (2, 0), (3, 0), (3, 1), (3, 2), (3, 3), (3, 4), (3, 5), (3, 6), (3, 7), (3, 8), (4, 0), (4, 1), (4, 2), (4, 3), (4, 4), (4, 5), (4, 6)] rfl gw_X0_findWay
set_option maxRecDepth 20000 in
theorem gX0_fill_X0_findWay : GoodIn wsX0_fill (wsV RX0 93 RX0 yX0_findWay wsX0_findWay) := goodIn_app (gdp_In _ pcs_X0_fill pc_X0_fill [(1, 20), (1, 21), (1, 22), (1, 17)] rfl (gw_V _ _ _ _)) ggX0_fill_X0_findWay
set_option maxRecDepth 20000 in
theorem ggX0_fill_X0_sendAlongWay : GoodIn wsX0_fill wsX0_sendAlongWay := gdp_In _ pcs_X0_fill pc_X0_fill [(2, 4), (2, 5), (1, 4), (2, 0), (2, 6), (2, 7), (2, 8), (2, 9), (2, 10), (2, 11), (2, 12), (1, 17), (2, 13), (1, 1), (2, 14), (2, 15), (2, 16), (2, 17), (1, 0), (2, 18), (3, 0), (3, 1), (3, 2), (3, 3), (3, 4), (3, 5), (3, 6), (3, 7), (3, 8), (4, 0), (4, 1), (4, 2), (4, 3), (4, 4), (4, 5), (4, 6)] rfl gw_X0_sendAlongWay
set_option maxRecDepth 20000 in
theorem gX0_fill_X0_sendAlongWay : GoodIn wsX0_fill (wsV RX0 97 RX0 yX0_sendAlongWay wsX0_sendAlongWay) := goodIn_app (gdp_In _ pcs_X0_fill pc_X0_fill [(2, 1), (2, 2), (2, 3), (1, 17)] rfl (gw_V _ _ _ _)) ggX0_fill_X0_sendAlongWay
set_option maxRecDepth 20000 in
theorem ggX0_sendAlongWay_X0_sendOver : GoodIn wsX0_sendAlongWay wsX0_sendOver := goodIn_r _ [12, 2, 13, 14, 15, 16, 17, 18, 4, 5, 6, 7, 19, 20, 21, 22, 23, 24, 25, 26, 27, 28, 29, 30, 31, 32, 33, 34, 35] rfl gw_X0_sendOver
set_option maxRecDepth 20000 in
theorem gX0_sendAlongWay_X0_sendOver : GoodIn wsX0_sendAlongWay (wsV RX0 106 RX0 yX0_sendOver wsX0_sendOver) := goodIn_app (goodIn_r _ [8, 9, 10, 11] rfl (gw_V _ _ _ _)) ggX0_sendAlongWay_X0_sendOver
set_option maxRecDepth 20000 in
theorem ggX0_nearCut_X0_reachedFrom : GoodIn wsX0_nearCut wsX0_reachedFrom := goodIn_r _ [5, 6, 7, 8, 9, 10, 11, 12, 13, 14, 15, 16, 17, 18, 19, 20, 21, 22, 23, 24, 25] rfl gw_X0_reachedFrom
set_option maxRecDepth 20000 in
theorem gX0_nearCut_X0_reachedFrom : GoodIn wsX0_nearCut (wsV RX0 89 RX0 yX0_reachedFrom wsX0_reachedFrom) := goodIn_app (goodIn_r _ [1, 2, 3, 4] rfl (gw_V _ _ _ _)) ggX0_nearCut_X0_reachedFrom
set_option maxRecDepth 20000 in
theorem ggX0_farCut_X0_reaching : GoodIn wsX0_farCut wsX0_reaching := goodIn_r _ [7, 8, 1, 2, 9, 10, 11, 12, 13, 14, 15, 16, 17, 18, 19, 20, 21, 22, 23, 24, 25] rfl gw_X0_reaching
set_option maxRecDepth 20000 in
theorem gX0_farCut_X0_reaching : GoodIn wsX0_farCut (wsV RX0 110 RX0 yX0_reaching wsX0_reaching) := goodIn_app (goodIn_r _ [3, 4, 5, 6] rfl (gw_V _ _ _ _)) ggX0_farCut_X0_reaching
set_option maxRecDepth 20000 in
theorem ggX0_leaving_X0_betweenSets : GoodIn wsX0_leaving wsX0_betweenSets := goodIn_r _ [7, 1, 2, 8, 9, 10, 11, 12, 13, 14, 15, 16, 17, 18, 19, 20, 21, 22, 23, 24] rfl gw_X0_betweenSets
set_option maxRecDepth 20000 in
theorem gX0_leaving_X0_betweenSets : GoodIn wsX0_leaving (wsV RX0 113 RX0 yX0_betweenSets wsX0_betweenSets) := goodIn_app (goodIn_r _ [3, 4, 5, 6] rfl (gw_V _ _ _ _)) ggX0_leaving_X0_betweenSets
set_option maxRecDepth 20000 in
theorem ggX1_grow_X0_load : GoodIn wsX1_grow wsX0_load := gdp_In _ pcs_X1_grow pc_X1_grow [(1, 9), (1, 10), (1, 11), (1, 12), (1, 13), (1, 14), (1, 15), (1, 16), (1, 17), (1, 18), (1, 19), (1, 20), (1, 21), (1, 22), (1, 23), (2, 0), (2, 1), (2, 2), (2, 3), (2, 4), (2, 5), (2, 6), (2, 7), (2, 8), (2, 9), (2, 10), (2, 11), (2, 12), (2, 13), (2, 14), (2, 15), (2, 16), (2, 17), (2, 18), (2, 19), (2, 20), (2, 21), (2, 22), (2, 23), (3, 0), (3, 1), (3, 2), (3, 3), (3, 4), (1, 8), (3, 5), (3, 6), (7, 0), (7, 1), (7, 2), (7, 3), (7, 4), (7, 5), (7, 6), (7, 7), (7, 8), (8, 0), (8, 1), (8, 2), (8, 3), (8, 4), (8, 5), (8, 6)] rfl gw_X0_load
set_option maxRecDepth 20000 in
theorem gX1_grow_X0_load : GoodIn wsX1_grow (wsV RX1 22 RX0 yX0_load wsX0_load) := goodIn_app (gdp_In _ pcs_X1_grow pc_X1_grow [(1, 5), (1, 6), (1, 7), (1, 8)] rfl (gw_V _ _ _ _)) ggX1_grow_X0_load
set_option maxRecDepth 20000 in
theorem ggX1_grow_J7_fill_53178 : GoodIn wsX1_grow wsJ7_fill_53178 := gdp_In _ pcs_X1_grow pc_X1_grow [(2, 0)] rfl gw_J7_fill_53178
set_option maxRecDepth 20000 in
theorem gX1_grow_J7_fill_53178 : GoodIn wsX1_grow (va_wsS RX1 28 yJ7_fill_53178 wsJ7_fill_53178) := goodIn_app (gdp_In _ pcs_X1_grow pc_X1_grow [(3, 7), (1, 22), (1, 23)] rfl (gw_S _ _ _)) ggX1_grow_J7_fill_53178
set_option maxRecDepth 20000 in
theorem ggX1_grow_X1_hang : GoodIn wsX1_grow wsX1_hang := gdp_In _ pcs_X1_grow pc_X1_grow [(3, 12), (1, 1), (1, 0), (1, 2), (1, 3), (1, 4), (3, 13), (3, 14), (3, 15), (1, 8), (3, 16), (3, 17), (1, 10), (1, 11), (1, 12), (3, 18), (3, 19), (3, 20), (3, 21), (3, 22), (3, 6), (1, 21), (1, 22), (1, 23), (2, 0), (3, 23), (4, 0), (4, 1), (4, 2), (4, 3), (4, 4), (4, 5), (4, 6), (4, 7), (4, 8), (4, 9), (4, 10), (4, 11), (4, 12), (4, 13), (4, 14), (4, 15), (4, 16), (4, 17), (4, 18), (4, 19), (4, 20), (4, 21), (1, 13), (1, 19), (1, 20), (1, 17), (1, 18), (4, 22), (4, 23), (5, 0), (5, 1), (6, 0), (6, 1), (6, 2), (7, 0), (7, 1), (7, 2), (7, 3), (7, 4), (7, 5), (7, 6), (7, 7), (7, 8), (8, 0), (8, 1), (8, 2), (8, 3), (8, 4), (8, 5), (8, 6)] rfl gw_X1_hang
set_option maxRecDepth 20000 in
theorem gX1_grow_X1_hang : GoodIn wsX1_grow (wsV RX1 44 RX1 yX1_hang wsX1_hang) := goodIn_app (gdp_In _ pcs_X1_grow pc_X1_grow [(3, 8), (3, 9), (3, 10), (3, 11)] rfl (gw_V _ _ _ _)) ggX1_grow_X1_hang
set_option maxRecDepth 20000 in
theorem ggX1_hang_X0_fill : GoodIn wsX1_hang wsX0_fill := gdp_In _ pcs_X1_hang pc_X1_hang [(1, 9), (1, 10), (1, 11), (1, 12), (1, 13), (1, 14), (1, 15), (1, 16), (1, 17), (1, 18), (1, 19), (1, 20), (1, 21), (1, 22), (1, 23), (2, 0), (2, 1), (2, 2), (1, 8), (2, 3), (2, 4), (2, 5), (2, 6), (2, 7), (2, 8), (2, 9), (2, 10), (2, 11), (2, 12), (2, 13), (2, 14), (2, 15), (2, 16), (2, 17), (2, 18), (2, 19), (2, 20), (2, 21), (2, 22), (2, 23), (3, 0), (3, 1), (3, 2), (3, 3), (5, 0), (5, 1), (5, 2), (5, 3), (5, 4), (5, 5), (5, 6), (5, 7), (5, 8), (6, 0), (6, 1), (6, 2), (6, 3), (6, 4), (6, 5), (6, 6)] rfl gw_X0_fill
set_option maxRecDepth 20000 in
theorem gX1_hang_X0_fill : GoodIn wsX1_hang (wsV RX1 47 RX0 yX0_fill wsX0_fill) := goodIn_app (gdp_In _ pcs_X1_hang pc_X1_hang [(1, 5), (1, 6), (1, 7), (1, 8)] rfl (gw_V _ _ _ _)) ggX1_hang_X0_fill
set_option maxRecDepth 20000 in
theorem ggX1_hang_X0_nearCut : GoodIn wsX1_hang wsX0_nearCut := gdp_In _ pcs_X1_hang pc_X1_hang [(3, 7), (2, 0), (2, 1), (2, 2), (1, 8), (2, 3), (2, 4), (1, 11), (1, 12), (1, 14), (5, 0), (5, 1), (5, 2), (5, 3), (5, 4), (5, 5), (5, 6), (5, 7), (5, 8), (6, 0), (6, 1), (6, 2), (6, 3), (6, 4), (6, 5), (6, 6)] rfl gw_X0_nearCut
set_option maxRecDepth 20000 in
theorem gX1_hang_X0_nearCut : GoodIn wsX1_hang (wsV RX1 50 RX0 yX0_nearCut wsX0_nearCut) := goodIn_app (gdp_In _ pcs_X1_hang pc_X1_hang [(3, 4), (3, 5), (3, 6), (1, 8)] rfl (gw_V _ _ _ _)) ggX1_hang_X0_nearCut
set_option maxRecDepth 20000 in
theorem ggX1_leastOnWay_X1_stepsToRoot : GoodIn wsX1_leastOnWay wsX1_stepsToRoot := goodIn_r _ [12, 7, 13, 14, 15] rfl gw_X1_stepsToRoot
set_option maxRecDepth 20000 in
theorem gX1_leastOnWay_X1_stepsToRoot : GoodIn wsX1_leastOnWay (wsV RX1 55 RX1 yX1_stepsToRoot wsX1_stepsToRoot) := goodIn_app (goodIn_r _ [8, 9, 10, 11] rfl (gw_V _ _ _ _)) ggX1_leastOnWay_X1_stepsToRoot
set_option maxRecDepth 20000 in
theorem ggX1_leastAlike_X1_leastOnWay : GoodIn wsX1_leastAlike wsX1_leastOnWay := goodIn_r _ [5, 6, 7, 8, 9, 10, 11, 12, 13, 14, 15, 4, 16, 17, 18, 19] rfl gw_X1_leastOnWay
set_option maxRecDepth 20000 in
theorem gX1_leastAlike_X1_leastOnWay : GoodIn wsX1_leastAlike (wsV RX1 63 RX1 yX1_leastOnWay wsX1_leastOnWay) := goodIn_app (goodIn_r _ [1, 2, 3, 4] rfl (gw_V _ _ _ _)) ggX1_leastAlike_X1_leastOnWay
set_option maxRecDepth 20000 in
theorem ggX1_partsBelow_X1_leastAlike : GoodIn wsX1_partsBelow wsX1_leastAlike := goodIn_r _ [5, 6, 7, 8, 4, 9, 10, 11, 12, 13, 14, 15, 16, 17, 18, 19, 20, 21, 22, 23] rfl gw_X1_leastAlike
set_option maxRecDepth 20000 in
theorem gX1_partsBelow_X1_leastAlike : GoodIn wsX1_partsBelow (wsV RX1 66 RX1 yX1_leastAlike wsX1_leastAlike) := goodIn_app (goodIn_r _ [1, 2, 3, 4] rfl (gw_V _ _ _ _)) ggX1_partsBelow_X1_leastAlike
set_option maxRecDepth 20000 in
theorem ggX2_init_X6_init : GoodIn wsX2_init wsX6_init := goodIn_r _ [3, 4, 5, 6] rfl gw_X6_init
set_option maxRecDepth 20000 in
theorem gX2_init_X6_init_n1 : GoodIn wsX2_init (wsX6_init) := ggX2_init_X6_init
set_option maxRecDepth 20000 in
theorem ggX3_hasPair_X3_hasPlace : GoodIn wsX3_hasPair wsX3_hasPlace := goodIn_r _ [5, 6, 7, 8, 9, 10, 11, 12, 13] rfl gw_X3_hasPlace
set_option maxRecDepth 20000 in
theorem gX3_hasPair_X3_hasPlace : GoodIn wsX3_hasPair (wsV RX3 34 RX3 yX3_hasPlace wsX3_hasPlace) := goodIn_app (goodIn_r _ [1, 2, 3, 4] rfl (gw_V _ _ _ _)) ggX3_hasPair_X3_hasPlace
set_option maxRecDepth 20000 in
theorem ggX3_missingLines_X3_isMissing : GoodIn wsX3_missingLines wsX3_isMissing := goodIn_r _ [6, 7, 8, 9, 10, 11, 12, 13, 14] rfl gw_X3_isMissing
set_option maxRecDepth 20000 in
theorem gX3_missingLines_X3_isMissing : GoodIn wsX3_missingLines (wsV RX3 38 RX3 yX3_isMissing wsX3_isMissing) := goodIn_app (goodIn_r _ [2, 3, 4, 5] rfl (gw_V _ _ _ _)) ggX3_missingLines_X3_isMissing
set_option maxRecDepth 20000 in
theorem ggX3_isWhole_X3_isMissing : GoodIn wsX3_isWhole wsX3_isMissing := goodIn_r _ [8, 9, 10, 11, 12, 13, 14, 15, 16] rfl gw_X3_isMissing
set_option maxRecDepth 20000 in
theorem gX3_isWhole_X3_isMissing : GoodIn wsX3_isWhole (wsV RX3 38 RX3 yX3_isMissing wsX3_isMissing) := goodIn_app (goodIn_r _ [4, 5, 6, 7] rfl (gw_V _ _ _ _)) ggX3_isWhole_X3_isMissing
set_option maxRecDepth 20000 in
theorem ggX3_join_X3_isMissing : GoodIn wsX3_join wsX3_isMissing := goodIn_r _ [9, 2, 13, 14, 15, 16, 17, 18, 19] rfl gw_X3_isMissing
set_option maxRecDepth 20000 in
theorem gX3_join_X3_isMissing : GoodIn wsX3_join (wsV RX3 38 RX3 yX3_isMissing wsX3_isMissing) := goodIn_app (goodIn_r _ [5, 6, 7, 8] rfl (gw_V _ _ _ _)) ggX3_join_X3_isMissing
set_option maxRecDepth 20000 in
theorem ggX3_join_X3_renumbered : GoodIn wsX3_join wsX3_renumbered := goodIn_r _ [12] rfl gw_X3_renumbered
set_option maxRecDepth 20000 in
theorem gX3_join_X3_renumbered : GoodIn wsX3_join (va_wsS RX3 42 yX3_renumbered wsX3_renumbered) := goodIn_app (goodIn_r _ [10, 11, 8] rfl (gw_S _ _ _)) ggX3_join_X3_renumbered
set_option maxRecDepth 20000 in
theorem ggX4_begin_J7_fill_53178 : GoodIn wsX4_begin wsJ7_fill_53178 := goodIn_r _ [7] rfl gw_J7_fill_53178
set_option maxRecDepth 20000 in
theorem gX4_begin_J7_fill_53178 : GoodIn wsX4_begin (va_wsS RX4 26 yJ7_fill_53178 wsJ7_fill_53178) := goodIn_app (goodIn_r _ [4, 5, 6] rfl (gw_S _ _ _)) ggX4_begin_J7_fill_53178
set_option maxRecDepth 20000 in
theorem ggX4_whole_X4_number : GoodIn wsX4_whole wsX4_number := goodIn_r _ [5, 6, 7, 8, 9, 10] rfl gw_X4_number
set_option maxRecDepth 20000 in
theorem gX4_whole_X4_number : GoodIn wsX4_whole (wsV RX4 32 RX4 yX4_number wsX4_number) := goodIn_app (goodIn_r _ [1, 2, 3, 4] rfl (gw_V _ _ _ _)) ggX4_whole_X4_number
set_option maxRecDepth 20000 in
theorem ggX4_moveRefusal_X4_isThere : GoodIn wsX4_moveRefusal wsX4_isThere := goodIn_r _ [6, 7, 16, 17, 18, 19] rfl gw_X4_isThere
set_option maxRecDepth 20000 in
theorem gX4_moveRefusal_X4_isThere : GoodIn wsX4_moveRefusal (wsV RX4 36 RX4 yX4_isThere wsX4_isThere) := goodIn_app (goodIn_r _ [2, 3, 4, 5] rfl (gw_V _ _ _ _)) ggX4_moveRefusal_X4_isThere
set_option maxRecDepth 20000 in
theorem ggX4_moveRefusal_X4_hasRow : GoodIn wsX4_moveRefusal wsX4_hasRow := goodIn_r _ [11, 7, 16, 17, 18, 19] rfl gw_X4_hasRow
set_option maxRecDepth 20000 in
theorem gX4_moveRefusal_X4_hasRow : GoodIn wsX4_moveRefusal (wsV RX4 40 RX4 yX4_hasRow wsX4_hasRow) := goodIn_app (goodIn_r _ [8, 9, 10, 5] rfl (gw_V _ _ _ _)) ggX4_moveRefusal_X4_hasRow
set_option maxRecDepth 20000 in
theorem ggX4_moveRefusal_X4_hasNumbers : GoodIn wsX4_moveRefusal wsX4_hasNumbers := goodIn_r _ [15, 1, 16, 17, 18, 19] rfl gw_X4_hasNumbers
set_option maxRecDepth 20000 in
theorem gX4_moveRefusal_X4_hasNumbers : GoodIn wsX4_moveRefusal (wsV RX4 44 RX4 yX4_hasNumbers wsX4_hasNumbers) := goodIn_app (goodIn_r _ [12, 13, 14, 5] rfl (gw_V _ _ _ _)) ggX4_moveRefusal_X4_hasNumbers
set_option maxRecDepth 20000 in
theorem ggX5_init_X6_init : GoodIn wsX5_init wsX6_init := goodIn_r _ [3, 4, 5, 6] rfl gw_X6_init
set_option maxRecDepth 20000 in
theorem gX5_init_X6_init_n1 : GoodIn wsX5_init (wsX6_init) := ggX5_init_X6_init
set_option maxRecDepth 20000 in
theorem ggX5_lets_X6_lets : GoodIn wsX5_lets wsX6_lets := goodIn_r _ [6] rfl gw_X6_lets
set_option maxRecDepth 20000 in
theorem gX5_lets_X6_lets_s7 : GoodIn wsX5_lets (va_wsSU RX5 7 yX6_lets wsX6_lets) := goodIn_app (goodIn_of _ (by decide +kernel)) ggX5_lets_X6_lets
set_option maxRecDepth 20000 in
theorem ggX5_letsMark_X6_letsMark : GoodIn wsX5_letsMark wsX6_letsMark := goodIn_r _ [6] rfl gw_X6_letsMark
set_option maxRecDepth 20000 in
theorem gX5_letsMark_X6_letsMark_s11 : GoodIn wsX5_letsMark (va_wsSU RX5 11 yX6_letsMark wsX6_letsMark) := goodIn_app (goodIn_of _ (by decide +kernel)) ggX5_letsMark_X6_letsMark
set_option maxRecDepth 20000 in
theorem ggX7_countCuts_X7_hunt : GoodIn wsX7_countCuts wsX7_hunt := gdp_In _ pcs_X7_countCuts pc_X7_countCuts [(1, 6), (1, 7), (1, 8), (1, 9), (1, 10), (1, 1), (1, 11), (1, 12), (1, 13), (1, 14), (1, 15), (1, 16), (1, 17), (1, 5), (1, 18), (1, 19), (1, 20), (1, 21), (1, 22), (1, 23), (2, 0), (2, 1), (2, 2), (2, 3), (2, 4), (2, 5), (2, 6), (2, 7), (3, 0), (3, 1), (3, 2), (3, 3), (3, 4), (3, 5), (3, 6), (3, 7), (3, 8), (4, 0), (4, 1), (4, 2), (4, 3), (4, 4), (4, 5), (4, 6), (4, 7), (4, 8), (5, 0), (5, 1), (5, 2), (5, 3), (5, 4), (5, 5), (5, 6)] rfl gw_X7_hunt
set_option maxRecDepth 20000 in
theorem gX7_countCuts_X7_hunt : GoodIn wsX7_countCuts (wsV RX7 16 RX7 yX7_hunt wsX7_hunt) := goodIn_app (gdp_In _ pcs_X7_countCuts pc_X7_countCuts [(1, 2), (1, 3), (1, 4), (1, 5)] rfl (gw_V _ _ _ _)) ggX7_countCuts_X7_hunt
set_option maxRecDepth 20000 in
theorem ggX7_findCut_X7_hunt : GoodIn wsX7_findCut wsX7_hunt := gdp_In _ pcs_X7_findCut pc_X7_findCut [(1, 5), (1, 6), (1, 7), (1, 8), (1, 9), (1, 10), (1, 0), (1, 11), (1, 12), (1, 13), (1, 14), (1, 15), (1, 16), (1, 4), (1, 17), (1, 18), (1, 19), (1, 20), (1, 21), (1, 22), (1, 23), (2, 0), (2, 1), (2, 2), (2, 3), (2, 4), (2, 5), (2, 6), (3, 0), (3, 1), (3, 2), (3, 3), (3, 4), (3, 5), (3, 6), (3, 7), (3, 8), (4, 0), (4, 1), (4, 2), (4, 3), (4, 4), (4, 5), (4, 6), (4, 7), (4, 8), (5, 0), (5, 1), (5, 2), (5, 3), (5, 4), (5, 5), (5, 6)] rfl gw_X7_hunt
set_option maxRecDepth 20000 in
theorem gX7_findCut_X7_hunt : GoodIn wsX7_findCut (wsV RX7 16 RX7 yX7_hunt wsX7_hunt) := goodIn_app (gdp_In _ pcs_X7_findCut pc_X7_findCut [(1, 1), (1, 2), (1, 3), (1, 4)] rfl (gw_V _ _ _ _)) ggX7_findCut_X7_hunt
set_option maxRecDepth 20000 in
theorem ggX7_hunt_X7_chooseForCut : GoodIn wsX7_hunt wsX7_chooseForCut := gdp_In _ pcs_X7_hunt pc_X7_hunt [(1, 13), (1, 2), (1, 5), (1, 0), (1, 1), (1, 14), (1, 15), (1, 16), (1, 12), (1, 17), (1, 4), (1, 3), (1, 18), (1, 19), (1, 20), (1, 21), (1, 6), (1, 7), (1, 8), (1, 22), (1, 9), (1, 10), (1, 11), (1, 23), (2, 0), (2, 1), (2, 2), (3, 0), (3, 1), (3, 2), (3, 3), (3, 4), (3, 5), (3, 6), (3, 7), (3, 8), (4, 0), (4, 1), (4, 2), (4, 3), (4, 4), (4, 5), (4, 6), (4, 7), (4, 8), (5, 0), (5, 1), (5, 2), (5, 3), (5, 4), (5, 5), (5, 6)] rfl gw_X7_chooseForCut
set_option maxRecDepth 20000 in
theorem gX7_hunt_X7_chooseForCut : GoodIn wsX7_hunt (wsV RX7 50 RX7 yX7_chooseForCut wsX7_chooseForCut) := goodIn_app (gdp_In _ pcs_X7_hunt pc_X7_hunt [(1, 9), (1, 10), (1, 11), (1, 12)] rfl (gw_V _ _ _ _)) ggX7_hunt_X7_chooseForCut
set_option maxRecDepth 20000 in
theorem ggX7_chooseForCut_X7_meet : GoodIn wsX7_chooseForCut wsX7_meet := gdp_In _ pcs_X7_chooseForCut pc_X7_chooseForCut [(1, 8), (1, 0), (1, 9), (1, 10), (1, 1), (3, 0), (3, 1), (3, 2), (3, 3), (3, 4), (3, 5), (3, 6), (3, 7), (3, 8)] rfl gw_X7_meet
set_option maxRecDepth 20000 in
theorem gX7_chooseForCut_X7_meet : GoodIn wsX7_chooseForCut (wsV RX7 54 RX7 yX7_meet wsX7_meet) := goodIn_app (gdp_In _ pcs_X7_chooseForCut pc_X7_chooseForCut [(1, 4), (1, 5), (1, 6), (1, 7)] rfl (gw_V _ _ _ _)) ggX7_chooseForCut_X7_meet
set_option maxRecDepth 20000 in
theorem ggX7_chooseForCut_X7_letIn : GoodIn wsX7_chooseForCut wsX7_letIn := gdp_In _ pcs_X7_chooseForCut pc_X7_chooseForCut [(1, 14), (1, 15), (1, 16), (1, 17), (1, 18), (3, 0), (3, 1), (3, 2), (3, 3), (3, 4), (3, 5), (3, 6), (3, 7), (3, 8), (4, 0), (4, 1), (4, 2), (4, 3), (4, 4), (4, 5), (4, 6), (4, 7), (4, 8), (5, 0), (5, 1), (5, 2), (5, 3), (5, 4), (5, 5), (5, 6)] rfl gw_X7_letIn
set_option maxRecDepth 20000 in
theorem gX7_chooseForCut_X7_letIn : GoodIn wsX7_chooseForCut (wsV RX7 58 RX7 yX7_letIn wsX7_letIn) := goodIn_app (gdp_In _ pcs_X7_chooseForCut pc_X7_chooseForCut [(1, 11), (1, 12), (1, 13), (1, 7)] rfl (gw_V _ _ _ _)) ggX7_chooseForCut_X7_letIn
set_option maxRecDepth 20000 in
theorem ggX7_chooseForCut_X7_chooseForCut : GoodIn wsX7_chooseForCut wsX7_chooseForCut := gdp_In _ pcs_X7_chooseForCut pc_X7_chooseForCut [(0, 0), (1, 0), (1, 1), (1, 2), (1, 3), (1, 4), (1, 5), (1, 6), (1, 7), (1, 8), (1, 9), (1, 10), (1, 11), (1, 12), (1, 13), (1, 14), (1, 15), (1, 16), (1, 17), (1, 18), (1, 19), (1, 20), (1, 21), (1, 22), (1, 23), (2, 0), (2, 1), (3, 0), (3, 1), (3, 2), (3, 3), (3, 4), (3, 5), (3, 6), (3, 7), (3, 8), (4, 0), (4, 1), (4, 2), (4, 3), (4, 4), (4, 5), (4, 6), (4, 7), (4, 8), (5, 0), (5, 1), (5, 2), (5, 3), (5, 4), (5, 5), (5, 6)] rfl gw_X7_chooseForCut
set_option maxRecDepth 20000 in
theorem gX7_chooseForCut_X7_chooseForCut : GoodIn wsX7_chooseForCut (wsV RX7 50 RX7 yX7_chooseForCut wsX7_chooseForCut) := goodIn_app (gdp_In _ pcs_X7_chooseForCut pc_X7_chooseForCut [(1, 19), (1, 20), (1, 21), (1, 7)] rfl (gw_V _ _ _ _)) ggX7_chooseForCut_X7_chooseForCut
set_option maxRecDepth 20000 in
theorem ggX7_chooseForCut_X7_letOut : GoodIn wsX7_chooseForCut wsX7_letOut := gdp_In _ pcs_X7_chooseForCut pc_X7_chooseForCut [(2, 1), (1, 15), (1, 16), (1, 17), (1, 18), (3, 0), (3, 1), (3, 2), (3, 3), (3, 4), (3, 5), (3, 6), (3, 7), (3, 8), (4, 0), (4, 1), (4, 2), (4, 3), (4, 4), (4, 5), (4, 6), (4, 7), (4, 8), (5, 0), (5, 1), (5, 2), (5, 3), (5, 4), (5, 5), (5, 6)] rfl gw_X7_letOut
set_option maxRecDepth 20000 in
theorem gX7_chooseForCut_X7_letOut : GoodIn wsX7_chooseForCut (wsV RX7 62 RX7 yX7_letOut wsX7_letOut) := goodIn_app (gdp_In _ pcs_X7_chooseForCut pc_X7_chooseForCut [(1, 22), (1, 23), (2, 0), (1, 7)] rfl (gw_V _ _ _ _)) ggX7_chooseForCut_X7_letOut
set_option maxRecDepth 20000 in
theorem ggX7_findDensest_X7_chooseForDense : GoodIn wsX7_findDensest wsX7_chooseForDense := gdp_In _ pcs_X7_findDensest pc_X7_findDensest [(1, 9), (1, 10), (1, 11), (1, 12), (1, 8), (1, 13), (1, 0), (1, 1), (1, 14), (1, 15), (1, 16), (1, 17), (1, 18), (1, 19), (1, 20), (1, 5), (1, 6), (1, 7), (1, 21), (1, 22), (1, 23), (2, 0), (1, 2), (1, 3), (1, 4), (2, 1), (3, 0), (3, 1), (3, 2), (3, 3), (3, 4), (3, 5), (3, 6), (3, 7), (3, 8), (4, 0), (4, 1), (4, 2), (4, 3), (4, 4), (4, 5), (4, 6), (4, 7), (4, 8), (5, 0), (5, 1), (5, 2), (5, 3), (5, 4), (5, 5), (5, 6)] rfl gw_X7_chooseForDense
set_option maxRecDepth 20000 in
theorem gX7_findDensest_X7_chooseForDense : GoodIn wsX7_findDensest (wsV RX7 75 RX7 yX7_chooseForDense wsX7_chooseForDense) := goodIn_app (gdp_In _ pcs_X7_findDensest pc_X7_findDensest [(1, 5), (1, 6), (1, 7), (1, 8)] rfl (gw_V _ _ _ _)) ggX7_findDensest_X7_chooseForDense
set_option maxRecDepth 20000 in
theorem ggX7_chooseForDense_X7_compareDense : GoodIn wsX7_chooseForDense wsX7_compareDense := gdp_In _ pcs_X7_chooseForDense pc_X7_chooseForDense [(1, 4), (1, 5), (1, 6), (1, 7), (1, 8), (1, 9), (1, 10), (1, 11), (1, 12), (1, 13), (3, 0), (3, 1), (3, 2), (3, 3), (3, 4), (3, 5), (3, 6), (3, 7), (3, 8)] rfl gw_X7_compareDense
set_option maxRecDepth 20000 in
theorem gX7_chooseForDense_X7_compareDense : GoodIn wsX7_chooseForDense (wsV RX7 78 RX7 yX7_compareDense wsX7_compareDense) := goodIn_app (gdp_In _ pcs_X7_chooseForDense pc_X7_chooseForDense [(1, 0), (1, 1), (1, 2), (1, 3)] rfl (gw_V _ _ _ _)) ggX7_chooseForDense_X7_compareDense
set_option maxRecDepth 20000 in
theorem ggX7_chooseForDense_X7_chooseForDense : GoodIn wsX7_chooseForDense wsX7_chooseForDense := gdp_In _ pcs_X7_chooseForDense pc_X7_chooseForDense [(0, 0), (1, 0), (1, 1), (1, 2), (1, 3), (1, 4), (1, 5), (1, 6), (1, 7), (1, 8), (1, 9), (1, 10), (1, 11), (1, 12), (1, 13), (1, 14), (1, 15), (1, 16), (1, 17), (1, 18), (1, 19), (1, 20), (1, 21), (1, 22), (1, 23), (2, 0), (3, 0), (3, 1), (3, 2), (3, 3), (3, 4), (3, 5), (3, 6), (3, 7), (3, 8), (4, 0), (4, 1), (4, 2), (4, 3), (4, 4), (4, 5), (4, 6), (4, 7), (4, 8), (5, 0), (5, 1), (5, 2), (5, 3), (5, 4), (5, 5), (5, 6)] rfl gw_X7_chooseForDense
set_option maxRecDepth 20000 in
theorem gX7_chooseForDense_X7_chooseForDense : GoodIn wsX7_chooseForDense (wsV RX7 75 RX7 yX7_chooseForDense wsX7_chooseForDense) := goodIn_app (gdp_In _ pcs_X7_chooseForDense pc_X7_chooseForDense [(1, 14), (1, 15), (1, 16), (1, 3)] rfl (gw_V _ _ _ _)) ggX7_chooseForDense_X7_chooseForDense
set_option maxRecDepth 20000 in
theorem ggX7_chooseForDense_X7_letIn : GoodIn wsX7_chooseForDense wsX7_letIn := gdp_In _ pcs_X7_chooseForDense pc_X7_chooseForDense [(1, 20), (1, 21), (1, 22), (1, 23), (2, 0), (3, 0), (3, 1), (3, 2), (3, 3), (3, 4), (3, 5), (3, 6), (3, 7), (3, 8), (4, 0), (4, 1), (4, 2), (4, 3), (4, 4), (4, 5), (4, 6), (4, 7), (4, 8), (5, 0), (5, 1), (5, 2), (5, 3), (5, 4), (5, 5), (5, 6)] rfl gw_X7_letIn
set_option maxRecDepth 20000 in
theorem gX7_chooseForDense_X7_letIn : GoodIn wsX7_chooseForDense (wsV RX7 58 RX7 yX7_letIn wsX7_letIn) := goodIn_app (gdp_In _ pcs_X7_chooseForDense pc_X7_chooseForDense [(1, 17), (1, 18), (1, 19), (1, 3)] rfl (gw_V _ _ _ _)) ggX7_chooseForDense_X7_letIn
set_option maxRecDepth 20000 in
theorem ggX7_compareDense_J6_bitCount_0f7a4 : GoodIn wsX7_compareDense wsJ6_bitCount_0f7a4 := goodIn_r _ [6, 7, 8, 9] rfl gw_J6_bitCount_0f7a4
set_option maxRecDepth 20000 in
theorem gX7_compareDense_J6_bitCount_0f7a4 : GoodIn wsX7_compareDense (va_wsS RX7 81 yJ6_bitCount_0f7a4 wsJ6_bitCount_0f7a4) := goodIn_app (goodIn_r _ [3, 4, 5] rfl (gw_S _ _ _)) ggX7_compareDense_J6_bitCount_0f7a4
set_option maxRecDepth 20000 in
theorem ggX8_init_X2_init : GoodIn wsX8_init wsX2_init := goodIn_r _ [3, 4, 5, 6, 7, 8, 9] rfl gw_X2_init
set_option maxRecDepth 20000 in
theorem gX8_init_X2_init_n1 : GoodIn wsX8_init (wsX2_init) := ggX8_init_X2_init
set_option maxRecDepth 20000 in
theorem ggX8_costs_X2_costs : GoodIn wsX8_costs wsX2_costs := goodIn_r _ [6] rfl gw_X2_costs
set_option maxRecDepth 20000 in
theorem gX8_costs_X2_costs_s7 : GoodIn wsX8_costs (va_wsSU RX8 7 yX2_costs wsX2_costs) := goodIn_app (goodIn_of _ (by decide +kernel)) ggX8_costs_X2_costs
set_option maxRecDepth 20000 in
theorem ggX8_costsMark_X2_costsMark : GoodIn wsX8_costsMark wsX2_costsMark := goodIn_r _ [7] rfl gw_X2_costsMark
set_option maxRecDepth 20000 in
theorem gX8_costsMark_X2_costsMark_s12 : GoodIn wsX8_costsMark (va_wsSU RX8 12 yX2_costsMark wsX2_costsMark) := goodIn_app (goodIn_of _ (by decide +kernel)) ggX8_costsMark_X2_costsMark
set_option maxRecDepth 20000 in
theorem ggX9_init_X6_init : GoodIn wsX9_init wsX6_init := goodIn_r _ [3, 4, 5, 6] rfl gw_X6_init
set_option maxRecDepth 20000 in
theorem gX9_init_X6_init_n3 : GoodIn wsX9_init (wsX6_init) := ggX9_init_X6_init
set_option maxRecDepth 20000 in
theorem ggX10_pay_X10_findPrices : GoodIn wsX10_pay wsX10_findPrices := gdp_In _ pcs_X10_pay pc_X10_pay [(1, 6), (1, 7), (1, 8), (1, 9), (1, 10), (1, 1), (1, 11), (1, 12), (1, 13), (1, 14), (1, 15), (1, 16), (1, 17), (1, 18), (1, 19), (1, 20), (1, 21), (1, 22), (1, 23), (2, 0), (2, 1), (2, 2), (2, 3), (2, 4), (2, 5), (2, 6), (2, 7), (2, 8), (2, 9), (2, 10), (2, 11), (2, 12), (2, 13), (2, 14), (2, 15), (2, 16), (2, 17), (2, 18), (2, 19), (2, 20), (2, 21), (2, 22), (2, 23), (3, 0), (3, 1), (3, 2), (3, 3), (5, 0), (5, 1), (5, 2), (5, 3), (5, 4), (6, 0), (6, 1), (6, 2), (6, 3), (6, 4), (6, 5), (6, 6), (6, 7), (6, 8), (7, 0), (7, 1), (7, 2), (7, 3), (7, 4), (7, 5), (7, 6)] rfl gw_X10_findPrices
set_option maxRecDepth 20000 in
theorem gX10_pay_X10_findPrices : GoodIn wsX10_pay (wsV RX10 31 RX10 yX10_findPrices wsX10_findPrices) := goodIn_app (gdp_In _ pcs_X10_pay pc_X10_pay [(1, 2), (1, 3), (1, 4), (1, 5)] rfl (gw_V _ _ _ _)) ggX10_pay_X10_findPrices
set_option maxRecDepth 20000 in
theorem ggX10_pay_X10_findCosts : GoodIn wsX10_pay wsX10_findCosts := gdp_In _ pcs_X10_pay pc_X10_pay [(3, 7), (1, 7), (1, 8), (1, 9), (1, 0), (1, 1), (1, 21), (1, 22), (1, 23), (2, 0), (3, 8), (3, 9), (3, 10), (1, 5), (3, 11), (3, 12), (3, 13), (3, 14), (3, 15), (3, 16), (3, 17), (1, 10), (5, 0), (5, 1), (5, 2), (5, 3), (5, 4), (6, 0), (6, 1), (6, 2), (6, 3), (6, 4), (6, 5), (6, 6), (6, 7), (6, 8), (7, 0), (7, 1), (7, 2), (7, 3), (7, 4), (7, 5), (7, 6)] rfl gw_X10_findCosts
set_option maxRecDepth 20000 in
theorem gX10_pay_X10_findCosts : GoodIn wsX10_pay (wsV RX10 34 RX10 yX10_findCosts wsX10_findCosts) := goodIn_app (gdp_In _ pcs_X10_pay pc_X10_pay [(3, 4), (3, 5), (3, 6), (1, 5)] rfl (gw_V _ _ _ _)) ggX10_pay_X10_findCosts
set_option maxRecDepth 20000 in
theorem ggX10_pay_X10_roomOfWay : GoodIn wsX10_pay wsX10_roomOfWay := gdp_In _ pcs_X10_pay pc_X10_pay [(3, 21), (3, 12), (1, 17), (1, 18), (1, 19), (1, 20), (3, 22), (3, 23), (4, 0), (1, 5), (4, 1), (1, 7), (3, 17), (1, 1), (5, 0), (5, 1), (5, 2), (5, 3), (5, 4), (6, 0), (6, 1), (6, 2), (6, 3), (6, 4), (6, 5), (6, 6), (6, 7), (6, 8)] rfl gw_X10_roomOfWay
set_option maxRecDepth 20000 in
theorem gX10_pay_X10_roomOfWay : GoodIn wsX10_pay (wsV RX10 39 RX10 yX10_roomOfWay wsX10_roomOfWay) := goodIn_app (gdp_In _ pcs_X10_pay pc_X10_pay [(3, 18), (3, 19), (3, 20), (1, 5)] rfl (gw_V _ _ _ _)) ggX10_pay_X10_roomOfWay
set_option maxRecDepth 20000 in
theorem ggX10_pay_X10_sendAlongWay : GoodIn wsX10_pay wsX10_sendAlongWay := gdp_In _ pcs_X10_pay pc_X10_pay [(4, 5), (1, 7), (3, 17), (3, 12), (5, 0), (5, 1), (5, 2), (5, 3), (5, 4), (6, 0), (6, 1), (6, 2), (6, 3), (6, 4), (6, 5), (6, 6), (6, 7), (6, 8)] rfl gw_X10_sendAlongWay
set_option maxRecDepth 20000 in
theorem gX10_pay_X10_sendAlongWay : GoodIn wsX10_pay (wsV RX10 43 RX10 yX10_sendAlongWay wsX10_sendAlongWay) := goodIn_app (gdp_In _ pcs_X10_pay pc_X10_pay [(4, 2), (4, 3), (4, 4), (1, 5)] rfl (gw_V _ _ _ _)) ggX10_pay_X10_sendAlongWay
set_option maxRecDepth 20000 in
theorem ggX10_findPrices_J7_fill_53178 : GoodIn wsX10_findPrices wsJ7_fill_53178 := gdp_In _ pcs_X10_findPrices pc_X10_findPrices [(1, 18)] rfl gw_J7_fill_53178
set_option maxRecDepth 20000 in
theorem gX10_findPrices_J7_fill_53178 : GoodIn wsX10_findPrices (va_wsS RX10 59 yJ7_fill_53178 wsJ7_fill_53178) := goodIn_app (gdp_In _ pcs_X10_findPrices pc_X10_findPrices [(1, 15), (1, 16), (1, 17)] rfl (gw_S _ _ _)) ggX10_findPrices_J7_fill_53178
set_option maxRecDepth 20000 in
theorem ggX10_findPrices_X2_costs : GoodIn wsX10_findPrices wsX2_costs := gdp_In _ pcs_X10_findPrices pc_X10_findPrices [(2, 1)] rfl gw_X2_costs
set_option maxRecDepth 20000 in
theorem gX10_findPrices_X2_costs_u72X2 : GoodIn wsX10_findPrices (va_wsO RX10 72 RX2 "CutAtlas$PlainKind" ⟨"CutAtlas$PlainKind", "costs", "(I)I"⟩ yX2_costs wsX2_costs) := goodIn_app (goodIn_of _ (by decide +kernel)) ggX10_findPrices_X2_costs
set_option maxRecDepth 20000 in
theorem ggX10_findPrices_X6_costs : GoodIn wsX10_findPrices wsX6_costs := gdp_In _ pcs_X10_findPrices pc_X10_findPrices [(2, 2)] rfl gw_X6_costs
set_option maxRecDepth 20000 in
theorem gX10_findPrices_X6_costs_u72X5 : GoodIn wsX10_findPrices (va_wsU RX10 72 RX5 "CutAtlas$PlainKind" ⟨"CutAtlas$PlainKind", "costs", "(I)I"⟩ yX6_costs wsX6_costs) := goodIn_app (goodIn_of _ (by decide +kernel)) ggX10_findPrices_X6_costs
set_option maxRecDepth 20000 in
theorem gX10_findPrices_X6_costs : GoodIn wsX10_findPrices (wsV RX10 72 RX6 yX6_costs wsX6_costs) := goodIn_app (gdp_In _ pcs_X10_findPrices pc_X10_findPrices [(2, 6), (2, 4), (2, 7), (2, 5)] rfl (gw_V _ _ _ _)) ggX10_findPrices_X6_costs
set_option maxRecDepth 20000 in
theorem ggX10_findPrices_X8_costs : GoodIn wsX10_findPrices wsX8_costs := gdp_In _ pcs_X10_findPrices pc_X10_findPrices [(2, 11), (2, 12), (2, 13), (2, 14), (1, 23), (2, 0), (2, 1)] rfl gw_X8_costs
set_option maxRecDepth 20000 in
theorem gX10_findPrices_X8_costs_u72X8 : GoodIn wsX10_findPrices (va_wsO RX10 72 RX8 "CutAtlas$PlainKind" ⟨"CutAtlas$PlainKind", "costs", "(I)I"⟩ yX8_costs wsX8_costs) := goodIn_app (goodIn_of _ (by decide +kernel)) ggX10_findPrices_X8_costs
set_option maxRecDepth 20000 in
theorem gX10_findPrices_X6_costs_u72X9 : GoodIn wsX10_findPrices (va_wsU RX10 72 RX9 "CutAtlas$PlainKind" ⟨"CutAtlas$PlainKind", "costs", "(I)I"⟩ yX6_costs wsX6_costs) := goodIn_app (goodIn_of _ (by decide +kernel)) ggX10_findPrices_X6_costs
set_option maxRecDepth 20000 in
theorem ggX10_findPrices_X3_isMissing : GoodIn wsX10_findPrices wsX3_isMissing := gdp_In _ pcs_X10_findPrices pc_X10_findPrices [(2, 20), (2, 21), (5, 0), (5, 1), (5, 2), (5, 3), (5, 4), (5, 5), (5, 6)] rfl gw_X3_isMissing
set_option maxRecDepth 20000 in
theorem gX10_findPrices_X3_isMissing : GoodIn wsX10_findPrices (wsV RX10 77 RX3 yX3_isMissing wsX3_isMissing) := goodIn_app (gdp_In _ pcs_X10_findPrices pc_X10_findPrices [(2, 16), (2, 17), (2, 18), (2, 19)] rfl (gw_V _ _ _ _)) ggX10_findPrices_X3_isMissing
set_option maxRecDepth 20000 in
theorem ggX10_findCosts_J7_fill_53178 : GoodIn wsX10_findCosts wsJ7_fill_53178 := goodIn_r _ [9] rfl gw_J7_fill_53178
set_option maxRecDepth 20000 in
theorem gX10_findCosts_J7_fill_53178 : GoodIn wsX10_findCosts (va_wsS RX10 59 yJ7_fill_53178 wsJ7_fill_53178) := goodIn_app (goodIn_r _ [6, 7, 8] rfl (gw_S _ _ _)) ggX10_findCosts_J7_fill_53178
set_option maxRecDepth 20000 in
theorem ggX10_findCosts_X10_lookFrom : GoodIn wsX10_findCosts wsX10_lookFrom := goodIn_r _ [14, 1, 2, 3, 5, 4, 15, 16, 17, 18, 13, 19, 20, 21, 22, 23, 24, 25, 26, 27, 28, 29, 30, 31, 32, 33, 34, 35, 36, 37, 38, 39, 40, 41, 42] rfl gw_X10_lookFrom
set_option maxRecDepth 20000 in
theorem gX10_findCosts_X10_lookFrom : GoodIn wsX10_findCosts (wsV RX10 93 RX10 yX10_lookFrom wsX10_lookFrom) := goodIn_app (goodIn_r _ [10, 11, 12, 13] rfl (gw_V _ _ _ _)) ggX10_findCosts_X10_lookFrom
set_option maxRecDepth 20000 in
theorem ggX10_lookFrom_X10_stepCosts : GoodIn wsX10_lookFrom wsX10_stepCosts := goodIn_r _ [11, 1, 12, 13, 14, 15, 16, 17, 18, 19, 20, 21, 22, 23, 24, 25, 26, 27] rfl gw_X10_stepCosts
set_option maxRecDepth 20000 in
theorem gX10_lookFrom_X10_stepCosts : GoodIn wsX10_lookFrom (wsV RX10 96 RX10 yX10_stepCosts wsX10_stepCosts) := goodIn_app (goodIn_r _ [7, 8, 9, 10] rfl (gw_V _ _ _ _)) ggX10_lookFrom_X10_stepCosts
set_option maxRecDepth 20000 in
theorem ggX10_roomOfWay_X10_stepRoom : GoodIn wsX10_roomOfWay wsX10_stepRoom := goodIn_r _ [10, 11, 12, 13, 14, 15, 16, 17, 18, 19, 20, 21, 22, 23, 24, 25, 26, 27] rfl gw_X10_stepRoom
set_option maxRecDepth 20000 in
theorem gX10_roomOfWay_X10_stepRoom : GoodIn wsX10_roomOfWay (wsV RX10 102 RX10 yX10_stepRoom wsX10_stepRoom) := goodIn_app (goodIn_r _ [6, 7, 8, 9] rfl (gw_V _ _ _ _)) ggX10_roomOfWay_X10_stepRoom
set_option maxRecDepth 20000 in
theorem ggX11_init_X6_init : GoodIn wsX11_init wsX6_init := gdp_In _ pcs_X11_init pc_X11_init [(3, 1), (3, 2), (1, 1), (1, 2)] rfl gw_X6_init
set_option maxRecDepth 20000 in
theorem gX11_init_X6_init_n9 : GoodIn wsX11_init (wsX6_init) := ggX11_init_X6_init
set_option maxRecDepth 20000 in
theorem ggX11_init_X5_init : GoodIn wsX11_init wsX5_init := gdp_In _ pcs_X11_init pc_X11_init [(3, 4), (3, 0), (1, 5), (3, 1), (3, 2), (1, 1), (1, 2)] rfl gw_X5_init
set_option maxRecDepth 20000 in
theorem gX11_init_X5_init_n12 : GoodIn wsX11_init (wsX5_init) := ggX11_init_X5_init
set_option maxRecDepth 20000 in
theorem ggX11_init_X9_init : GoodIn wsX11_init wsX9_init := gdp_In _ pcs_X11_init pc_X11_init [(3, 6), (3, 0), (1, 5), (3, 1), (3, 2), (1, 1), (1, 2)] rfl gw_X9_init
set_option maxRecDepth 20000 in
theorem gX11_init_X9_init_n15 : GoodIn wsX11_init (wsX9_init) := ggX11_init_X9_init
set_option maxRecDepth 20000 in
theorem ggX11_init_X2_init : GoodIn wsX11_init wsX2_init := gdp_In _ pcs_X11_init pc_X11_init [(3, 8), (3, 0), (1, 5), (3, 1), (3, 2), (1, 1), (1, 2)] rfl gw_X2_init
set_option maxRecDepth 20000 in
theorem gX11_init_X2_init_n18 : GoodIn wsX11_init (wsX2_init) := ggX11_init_X2_init
set_option maxRecDepth 20000 in
theorem ggX11_init_X8_init : GoodIn wsX11_init wsX8_init := gdp_In _ pcs_X11_init pc_X11_init [(3, 10), (3, 7), (1, 14), (3, 8), (3, 0), (1, 5), (3, 1), (3, 2), (1, 1), (1, 2)] rfl gw_X8_init
set_option maxRecDepth 20000 in
theorem gX11_init_X8_init_n21 : GoodIn wsX11_init (wsX8_init) := ggX11_init_X8_init
set_option maxRecDepth 20000 in
theorem ggX11_init_X3_init : GoodIn wsX11_init wsX3_init := gdp_In _ pcs_X11_init pc_X11_init [(3, 12), (3, 13), (1, 1), (1, 2), (3, 14), (3, 15), (3, 16), (3, 17), (3, 18), (3, 19), (3, 20), (3, 21), (12, 0), (12, 1), (12, 2), (12, 3), (12, 4), (12, 5), (12, 6)] rfl gw_X3_init
set_option maxRecDepth 20000 in
theorem gX11_init_X3_init_n30 : GoodIn wsX11_init (wsX3_init) := ggX11_init_X3_init
set_option maxRecDepth 20000 in
theorem ggX11_init_X0_init : GoodIn wsX11_init wsX0_init := gdp_In _ pcs_X11_init pc_X11_init [(4, 0), (4, 1), (1, 1), (1, 2), (4, 2), (3, 16), (4, 3), (4, 4), (4, 5), (4, 6), (4, 7), (4, 8), (4, 9), (4, 10), (4, 11), (13, 0), (13, 1), (13, 2), (13, 3), (13, 4), (13, 5), (13, 6), (13, 7), (13, 8)] rfl gw_X0_init
set_option maxRecDepth 20000 in
theorem gX11_init_X0_init : GoodIn wsX11_init (wsX0_init) := ggX11_init_X0_init
set_option maxRecDepth 20000 in
theorem ggX11_init_X7_init : GoodIn wsX11_init wsX7_init := gdp_In _ pcs_X11_init pc_X11_init [(4, 14), (4, 15), (1, 1), (1, 2), (4, 16), (14, 0), (14, 1), (14, 2), (14, 3), (14, 4), (14, 5), (14, 6), (14, 7), (14, 8)] rfl gw_X7_init
set_option maxRecDepth 20000 in
theorem gX11_init_X7_init : GoodIn wsX11_init (wsX7_init) := ggX11_init_X7_init
set_option maxRecDepth 20000 in
theorem ggX11_init_X1_init : GoodIn wsX11_init wsX1_init := gdp_In _ pcs_X11_init pc_X11_init [(4, 19), (4, 20), (1, 1), (1, 2), (3, 16), (4, 21), (4, 22), (4, 23), (15, 0), (15, 1), (15, 2)] rfl gw_X1_init
set_option maxRecDepth 20000 in
theorem gX11_init_X1_init : GoodIn wsX11_init (wsX1_init) := ggX11_init_X1_init
set_option maxRecDepth 20000 in
theorem ggX11_init_X10_init : GoodIn wsX11_init wsX10_init := gdp_In _ pcs_X11_init pc_X11_init [(5, 2), (5, 3), (1, 1), (1, 2), (5, 4), (3, 16), (5, 5), (5, 6), (5, 7), (5, 8), (5, 9), (16, 0), (16, 1), (16, 2), (16, 3), (16, 4)] rfl gw_X10_init
set_option maxRecDepth 20000 in
theorem gX11_init_X10_init : GoodIn wsX11_init (wsX10_init) := ggX11_init_X10_init
set_option maxRecDepth 20000 in
theorem ggX11_init_X4_init : GoodIn wsX11_init wsX4_init := gdp_In _ pcs_X11_init pc_X11_init [(5, 11), (5, 12), (1, 1), (1, 2), (5, 13), (5, 14), (3, 16), (5, 15), (5, 16), (5, 17), (17, 0), (17, 1), (17, 2), (17, 3)] rfl gw_X4_init
set_option maxRecDepth 20000 in
theorem gX11_init_X4_init_n71 : GoodIn wsX11_init (wsX4_init) := ggX11_init_X4_init
set_option maxRecDepth 20000 in
theorem ggX11_place_X11_remember : GoodIn wsX11_place wsX11_remember := gdp_In _ pcs_X11_place pc_X11_place [(1, 6), (1, 7), (1, 8), (1, 9), (1, 10), (1, 11), (1, 12), (1, 0), (1, 13), (1, 14), (1, 15), (1, 16), (1, 17), (1, 18), (1, 19), (1, 20), (1, 21), (1, 22), (1, 23), (2, 0), (2, 1), (2, 2), (2, 3), (2, 4), (2, 5), (2, 6), (2, 7), (2, 8), (2, 9), (3, 0), (3, 1), (3, 2), (3, 3), (3, 4), (3, 5), (3, 6), (3, 7), (3, 8), (3, 9), (3, 10), (3, 11), (4, 0), (4, 1), (4, 2), (4, 3), (4, 4), (4, 5), (4, 6)] rfl gw_X11_remember
set_option maxRecDepth 20000 in
theorem gX11_place_X11_remember : GoodIn wsX11_place (wsV RX11 97 RX11 yX11_remember wsX11_remember) := goodIn_app (gdp_In _ pcs_X11_place pc_X11_place [(1, 2), (1, 3), (1, 4), (1, 5)] rfl (gw_V _ _ _ _)) ggX11_place_X11_remember
set_option maxRecDepth 20000 in
theorem ggX11_line_X11_lineRefusal : GoodIn wsX11_line wsX11_lineRefusal := gdp_In _ pcs_X11_line pc_X11_line [(1, 6), (1, 7), (1, 8), (1, 9), (1, 10), (1, 11), (1, 12), (1, 13), (1, 14), (1, 15), (1, 16), (1, 17), (1, 18), (1, 19), (1, 20), (1, 21), (5, 0), (5, 1), (5, 2), (5, 3), (5, 4), (5, 5), (5, 6), (5, 7), (5, 8), (5, 9), (5, 10), (5, 11), (6, 0), (6, 1), (6, 2), (6, 3), (6, 4), (6, 5), (6, 6)] rfl gw_X11_lineRefusal
set_option maxRecDepth 20000 in
theorem gX11_line_X11_lineRefusal : GoodIn wsX11_line (wsV RX11 100 RX11 yX11_lineRefusal wsX11_lineRefusal) := goodIn_app (gdp_In _ pcs_X11_line pc_X11_line [(1, 2), (1, 3), (1, 4), (1, 5)] rfl (gw_V _ _ _ _)) ggX11_line_X11_lineRefusal
end

section
set_option maxRecDepth 20000 in
theorem ggX11_line_X11_remember : GoodIn wsX11_line wsX11_remember := gdp_In _ pcs_X11_line pc_X11_line [(2, 1), (2, 2), (2, 3), (2, 4), (2, 5), (2, 6), (1, 15), (1, 8), (2, 7), (2, 8), (2, 9), (2, 10), (2, 11), (1, 21), (2, 12), (2, 13), (2, 14), (2, 15), (2, 16), (2, 17), (2, 18), (2, 19), (2, 20), (2, 21), (2, 22), (2, 23), (3, 0), (3, 1), (3, 2), (5, 0), (5, 1), (5, 2), (5, 3), (5, 4), (5, 5), (5, 6), (5, 7), (5, 8), (5, 9), (5, 10), (5, 11), (6, 0), (6, 1), (6, 2), (6, 3), (6, 4), (6, 5), (6, 6)] rfl gw_X11_remember
set_option maxRecDepth 20000 in
theorem gX11_line_X11_remember : GoodIn wsX11_line (wsV RX11 97 RX11 yX11_remember wsX11_remember) := goodIn_app (gdp_In _ pcs_X11_line pc_X11_line [(1, 22), (1, 23), (2, 0), (1, 5)] rfl (gw_V _ _ _ _)) ggX11_line_X11_remember
set_option maxRecDepth 20000 in
theorem ggX11_line_X6_beginsMark : GoodIn wsX11_line wsX6_beginsMark := gdp_In _ pcs_X11_line pc_X11_line [(3, 8)] rfl gw_X6_beginsMark
set_option maxRecDepth 20000 in
theorem gX11_line_X6_beginsMark_u104X2 : GoodIn wsX11_line (va_wsU RX11 104 RX2 "CutAtlas$PlainKind" ⟨"CutAtlas$PlainKind", "beginsMark", "()I"⟩ yX6_beginsMark wsX6_beginsMark) := goodIn_app (goodIn_of _ (by decide +kernel)) ggX11_line_X6_beginsMark
set_option maxRecDepth 20000 in
theorem gX11_line_X6_beginsMark_u104X5 : GoodIn wsX11_line (va_wsU RX11 104 RX5 "CutAtlas$PlainKind" ⟨"CutAtlas$PlainKind", "beginsMark", "()I"⟩ yX6_beginsMark wsX6_beginsMark) := goodIn_app (goodIn_of _ (by decide +kernel)) ggX11_line_X6_beginsMark
set_option maxRecDepth 20000 in
theorem gX11_line_X6_beginsMark : GoodIn wsX11_line (wsV RX11 104 RX6 yX6_beginsMark wsX6_beginsMark) := goodIn_app (gdp_In _ pcs_X11_line pc_X11_line [(3, 10), (3, 6), (3, 11), (3, 7)] rfl (gw_V _ _ _ _)) ggX11_line_X6_beginsMark
set_option maxRecDepth 20000 in
theorem ggX11_line_X8_beginsMark : GoodIn wsX11_line wsX8_beginsMark := gdp_In _ pcs_X11_line pc_X11_line [(3, 16), (3, 17)] rfl gw_X8_beginsMark
set_option maxRecDepth 20000 in
theorem gX11_line_X8_beginsMark_u104X8 : GoodIn wsX11_line (va_wsO RX11 104 RX8 "CutAtlas$PlainKind" ⟨"CutAtlas$PlainKind", "beginsMark", "()I"⟩ yX8_beginsMark wsX8_beginsMark) := goodIn_app (goodIn_of _ (by decide +kernel)) ggX11_line_X8_beginsMark
set_option maxRecDepth 20000 in
theorem gX11_line_X6_beginsMark_u104X9 : GoodIn wsX11_line (va_wsU RX11 104 RX9 "CutAtlas$PlainKind" ⟨"CutAtlas$PlainKind", "beginsMark", "()I"⟩ yX6_beginsMark wsX6_beginsMark) := goodIn_app (goodIn_of _ (by decide +kernel)) ggX11_line_X6_beginsMark
set_option maxRecDepth 20000 in
theorem ggX11_line_X11_addLine : GoodIn wsX11_line wsX11_addLine := gdp_In _ pcs_X11_line pc_X11_line [(3, 22), (1, 8), (1, 1), (3, 23), (4, 0), (4, 1), (4, 2), (3, 7), (4, 3), (4, 4), (4, 5), (4, 6), (4, 7), (4, 8), (4, 9), (3, 15), (4, 10), (4, 11), (4, 12), (4, 13), (4, 14), (1, 15), (4, 15), (2, 14), (2, 12), (2, 15), (2, 16), (2, 17), (2, 18), (5, 0), (5, 1), (5, 2), (5, 3), (5, 4), (5, 5), (5, 6), (5, 7), (5, 8), (5, 9), (5, 10), (5, 11), (6, 0), (6, 1), (6, 2), (6, 3), (6, 4), (6, 5), (6, 6)] rfl gw_X11_addLine
set_option maxRecDepth 20000 in
theorem gX11_line_X11_addLine : GoodIn wsX11_line (wsV RX11 108 RX11 yX11_addLine wsX11_addLine) := goodIn_app (gdp_In _ pcs_X11_line pc_X11_line [(3, 19), (3, 20), (3, 21), (1, 5)] rfl (gw_V _ _ _ _)) ggX11_line_X11_addLine
set_option maxRecDepth 20000 in
theorem ggX11_widen_X3_hasLine : GoodIn wsX11_widen wsX3_hasLine := gdp_In _ pcs_X11_widen pc_X11_widen [(1, 10), (1, 11), (6, 0), (6, 1), (6, 2), (6, 3), (6, 4), (6, 5), (6, 6)] rfl gw_X3_hasLine
set_option maxRecDepth 20000 in
theorem gX11_widen_X3_hasLine : GoodIn wsX11_widen (wsV RX11 112 RX3 yX3_hasLine wsX3_hasLine) := goodIn_app (gdp_In _ pcs_X11_widen pc_X11_widen [(1, 6), (1, 7), (1, 8), (1, 9)] rfl (gw_V _ _ _ _)) ggX11_widen_X3_hasLine
set_option maxRecDepth 20000 in
theorem ggX11_widen_X2_costs : GoodIn wsX11_widen wsX2_costs := gdp_In _ pcs_X11_widen pc_X11_widen [(1, 18)] rfl gw_X2_costs
set_option maxRecDepth 20000 in
theorem gX11_widen_X2_costs_u122X2 : GoodIn wsX11_widen (va_wsO RX11 122 RX2 "CutAtlas$PlainKind" ⟨"CutAtlas$PlainKind", "costs", "(I)I"⟩ yX2_costs wsX2_costs) := goodIn_app (goodIn_of _ (by decide +kernel)) ggX11_widen_X2_costs
set_option maxRecDepth 20000 in
theorem ggX11_widen_X6_costs : GoodIn wsX11_widen wsX6_costs := gdp_In _ pcs_X11_widen pc_X11_widen [(1, 19)] rfl gw_X6_costs
set_option maxRecDepth 20000 in
theorem gX11_widen_X6_costs_u122X5 : GoodIn wsX11_widen (va_wsU RX11 122 RX5 "CutAtlas$PlainKind" ⟨"CutAtlas$PlainKind", "costs", "(I)I"⟩ yX6_costs wsX6_costs) := goodIn_app (goodIn_of _ (by decide +kernel)) ggX11_widen_X6_costs
set_option maxRecDepth 20000 in
theorem gX11_widen_X6_costs : GoodIn wsX11_widen (wsV RX11 122 RX6 yX6_costs wsX6_costs) := goodIn_app (gdp_In _ pcs_X11_widen pc_X11_widen [(1, 23), (1, 21), (2, 0), (1, 22)] rfl (gw_V _ _ _ _)) ggX11_widen_X6_costs
set_option maxRecDepth 20000 in
theorem ggX11_widen_X8_costs : GoodIn wsX11_widen wsX8_costs := gdp_In _ pcs_X11_widen pc_X11_widen [(2, 4), (2, 5), (2, 6), (2, 7), (1, 16), (1, 17), (1, 18)] rfl gw_X8_costs
set_option maxRecDepth 20000 in
theorem gX11_widen_X8_costs_u122X8 : GoodIn wsX11_widen (va_wsO RX11 122 RX8 "CutAtlas$PlainKind" ⟨"CutAtlas$PlainKind", "costs", "(I)I"⟩ yX8_costs wsX8_costs) := goodIn_app (goodIn_of _ (by decide +kernel)) ggX11_widen_X8_costs
set_option maxRecDepth 20000 in
theorem gX11_widen_X6_costs_u122X9 : GoodIn wsX11_widen (va_wsU RX11 122 RX9 "CutAtlas$PlainKind" ⟨"CutAtlas$PlainKind", "costs", "(I)I"⟩ yX6_costs wsX6_costs) := goodIn_app (goodIn_of _ (by decide +kernel)) ggX11_widen_X6_costs
set_option maxRecDepth 20000 in
theorem ggX11_widen_X3_isMissing : GoodIn wsX11_widen wsX3_isMissing := gdp_In _ pcs_X11_widen pc_X11_widen [(2, 12), (2, 13), (6, 0), (6, 1), (6, 2), (6, 3), (6, 4), (6, 5), (6, 6)] rfl gw_X3_isMissing
set_option maxRecDepth 20000 in
theorem gX11_widen_X3_isMissing : GoodIn wsX11_widen (wsV RX11 126 RX3 yX3_isMissing wsX3_isMissing) := goodIn_app (gdp_In _ pcs_X11_widen pc_X11_widen [(2, 9), (2, 10), (2, 11), (1, 9)] rfl (gw_V _ _ _ _)) ggX11_widen_X3_isMissing
set_option maxRecDepth 20000 in
theorem ggX11_widen_X11_remember : GoodIn wsX11_widen wsX11_remember := gdp_In _ pcs_X11_widen pc_X11_widen [(2, 18), (2, 19), (2, 20), (2, 21), (2, 22), (2, 23), (1, 9), (1, 0), (3, 0), (3, 1), (3, 2), (3, 3), (3, 4), (3, 5), (1, 11), (3, 6), (3, 7), (2, 13), (3, 8), (3, 9), (3, 10), (3, 11), (3, 12), (3, 13), (3, 14), (3, 15), (3, 16), (3, 17), (3, 18), (5, 0), (5, 1), (5, 2), (5, 3), (5, 4), (5, 5), (5, 6), (5, 7), (5, 8), (5, 9), (5, 10), (5, 11), (6, 0), (6, 1), (6, 2), (6, 3), (6, 4), (6, 5), (6, 6)] rfl gw_X11_remember
set_option maxRecDepth 20000 in
theorem gX11_widen_X11_remember : GoodIn wsX11_widen (wsV RX11 97 RX11 yX11_remember wsX11_remember) := goodIn_app (gdp_In _ pcs_X11_widen pc_X11_widen [(2, 14), (2, 15), (2, 16), (2, 17)] rfl (gw_V _ _ _ _)) ggX11_widen_X11_remember
set_option maxRecDepth 20000 in
theorem ggX11_widen_X2_costsMark : GoodIn wsX11_widen wsX2_costsMark := gdp_In _ pcs_X11_widen pc_X11_widen [(4, 0)] rfl gw_X2_costsMark
set_option maxRecDepth 20000 in
theorem gX11_widen_X2_costsMark_u132X2 : GoodIn wsX11_widen (va_wsO RX11 132 RX2 "CutAtlas$PlainKind" ⟨"CutAtlas$PlainKind", "costsMark", "()I"⟩ yX2_costsMark wsX2_costsMark) := goodIn_app (goodIn_of _ (by decide +kernel)) ggX11_widen_X2_costsMark
set_option maxRecDepth 20000 in
theorem ggX11_widen_X6_costsMark : GoodIn wsX11_widen wsX6_costsMark := gdp_In _ pcs_X11_widen pc_X11_widen [(4, 1)] rfl gw_X6_costsMark
set_option maxRecDepth 20000 in
theorem gX11_widen_X6_costsMark_u132X5 : GoodIn wsX11_widen (va_wsU RX11 132 RX5 "CutAtlas$PlainKind" ⟨"CutAtlas$PlainKind", "costsMark", "()I"⟩ yX6_costsMark wsX6_costsMark) := goodIn_app (goodIn_of _ (by decide +kernel)) ggX11_widen_X6_costsMark
set_option maxRecDepth 20000 in
theorem gX11_widen_X6_costsMark : GoodIn wsX11_widen (wsV RX11 132 RX6 yX6_costsMark wsX6_costsMark) := goodIn_app (gdp_In _ pcs_X11_widen pc_X11_widen [(4, 4), (4, 3), (4, 5), (1, 22)] rfl (gw_V _ _ _ _)) ggX11_widen_X6_costsMark
set_option maxRecDepth 20000 in
theorem ggX11_widen_X8_costsMark : GoodIn wsX11_widen wsX8_costsMark := gdp_In _ pcs_X11_widen pc_X11_widen [(4, 8), (4, 9), (4, 10), (4, 11), (2, 7), (3, 23), (1, 17), (4, 0)] rfl gw_X8_costsMark
set_option maxRecDepth 20000 in
theorem gX11_widen_X8_costsMark_u132X8 : GoodIn wsX11_widen (va_wsO RX11 132 RX8 "CutAtlas$PlainKind" ⟨"CutAtlas$PlainKind", "costsMark", "()I"⟩ yX8_costsMark wsX8_costsMark) := goodIn_app (goodIn_of _ (by decide +kernel)) ggX11_widen_X8_costsMark
set_option maxRecDepth 20000 in
theorem gX11_widen_X6_costsMark_u132X9 : GoodIn wsX11_widen (va_wsU RX11 132 RX9 "CutAtlas$PlainKind" ⟨"CutAtlas$PlainKind", "costsMark", "()I"⟩ yX6_costsMark wsX6_costsMark) := goodIn_app (goodIn_of _ (by decide +kernel)) ggX11_widen_X6_costsMark
set_option maxRecDepth 20000 in
theorem ggX11_width_X3_hasLine : GoodIn wsX11_width wsX3_hasLine := gdp_In _ pcs_X11_width pc_X11_width [(1, 6), (1, 7), (4, 0), (4, 1), (4, 2), (4, 3), (4, 4), (4, 5), (4, 6)] rfl gw_X3_hasLine
set_option maxRecDepth 20000 in
theorem gX11_width_X3_hasLine : GoodIn wsX11_width (wsV RX11 112 RX3 yX3_hasLine wsX3_hasLine) := goodIn_app (gdp_In _ pcs_X11_width pc_X11_width [(1, 2), (1, 3), (1, 4), (1, 5)] rfl (gw_V _ _ _ _)) ggX11_width_X3_hasLine
set_option maxRecDepth 20000 in
theorem ggX11_width_X3_isMissing : GoodIn wsX11_width wsX3_isMissing := gdp_In _ pcs_X11_width pc_X11_width [(1, 11), (1, 12), (4, 0), (4, 1), (4, 2), (4, 3), (4, 4), (4, 5), (4, 6)] rfl gw_X3_isMissing
set_option maxRecDepth 20000 in
theorem gX11_width_X3_isMissing : GoodIn wsX11_width (wsV RX11 126 RX3 yX3_isMissing wsX3_isMissing) := goodIn_app (gdp_In _ pcs_X11_width pc_X11_width [(1, 8), (1, 9), (1, 10), (1, 5)] rfl (gw_V _ _ _ _)) ggX11_width_X3_isMissing
set_option maxRecDepth 20000 in
theorem ggX11_width_X11_remember : GoodIn wsX11_width wsX11_remember := gdp_In _ pcs_X11_width pc_X11_width [(1, 17), (1, 18), (1, 19), (1, 20), (1, 21), (1, 22), (1, 5), (1, 0), (1, 23), (2, 0), (2, 1), (2, 2), (2, 3), (2, 4), (1, 7), (2, 5), (2, 6), (1, 12), (2, 7), (2, 8), (2, 9), (2, 10), (2, 11), (2, 12), (2, 13), (2, 14), (2, 15), (2, 16), (2, 17), (3, 0), (3, 1), (3, 2), (3, 3), (3, 4), (3, 5), (3, 6), (3, 7), (3, 8), (3, 9), (3, 10), (3, 11), (4, 0), (4, 1), (4, 2), (4, 3), (4, 4), (4, 5), (4, 6)] rfl gw_X11_remember
set_option maxRecDepth 20000 in
theorem gX11_width_X11_remember : GoodIn wsX11_width (wsV RX11 97 RX11 yX11_remember wsX11_remember) := goodIn_app (gdp_In _ pcs_X11_width pc_X11_width [(1, 13), (1, 14), (1, 15), (1, 16)] rfl (gw_V _ _ _ _)) ggX11_width_X11_remember
set_option maxRecDepth 20000 in
theorem ggX11_merge_X3_hasPair : GoodIn wsX11_merge wsX3_hasPair := gdp_In _ pcs_X11_merge pc_X11_merge [(1, 12), (1, 13), (1, 14), (1, 15), (1, 11), (1, 16), (1, 17), (5, 0), (5, 1), (5, 2), (5, 3), (5, 4), (5, 5), (5, 6)] rfl gw_X3_hasPair
set_option maxRecDepth 20000 in
theorem gX11_merge_X3_hasPair : GoodIn wsX11_merge (wsV RX11 135 RX3 yX3_hasPair wsX3_hasPair) := goodIn_app (gdp_In _ pcs_X11_merge pc_X11_merge [(1, 8), (1, 9), (1, 10), (1, 11)] rfl (gw_V _ _ _ _)) ggX11_merge_X3_hasPair
set_option maxRecDepth 20000 in
theorem ggX11_merge_X11_remember : GoodIn wsX11_merge wsX11_remember := gdp_In _ pcs_X11_merge pc_X11_merge [(1, 22), (1, 23), (2, 0), (2, 1), (2, 2), (2, 3), (1, 11), (1, 0), (2, 4), (2, 5), (2, 6), (2, 7), (2, 8), (1, 17), (2, 9), (2, 10), (2, 11), (2, 12), (2, 13), (2, 14), (2, 15), (2, 16), (2, 17), (2, 18), (2, 19), (2, 20), (2, 21), (2, 22), (2, 23), (4, 0), (4, 1), (4, 2), (4, 3), (4, 4), (4, 5), (4, 6), (4, 7), (4, 8), (4, 9), (4, 10), (4, 11), (5, 0), (5, 1), (5, 2), (5, 3), (5, 4), (5, 5), (5, 6)] rfl gw_X11_remember
set_option maxRecDepth 20000 in
theorem gX11_merge_X11_remember : GoodIn wsX11_merge (wsV RX11 97 RX11 yX11_remember wsX11_remember) := goodIn_app (gdp_In _ pcs_X11_merge pc_X11_merge [(1, 18), (1, 19), (1, 20), (1, 21)] rfl (gw_V _ _ _ _)) ggX11_merge_X11_remember
set_option maxRecDepth 20000 in
theorem ggX11_merge_X3_join : GoodIn wsX11_merge wsX3_join := gdp_In _ pcs_X11_merge pc_X11_merge [(3, 3), (2, 9), (2, 12), (2, 13), (1, 17), (3, 4), (3, 5), (3, 6), (1, 11), (3, 7), (3, 8), (3, 9), (3, 10), (5, 0), (5, 1), (5, 2), (5, 3), (5, 4), (5, 5), (5, 6)] rfl gw_X3_join
set_option maxRecDepth 20000 in
theorem gX11_merge_X3_join : GoodIn wsX11_merge (wsV RX11 148 RX3 yX3_join wsX3_join) := goodIn_app (gdp_In _ pcs_X11_merge pc_X11_merge [(3, 0), (3, 1), (3, 2), (1, 11)] rfl (gw_V _ _ _ _)) ggX11_merge_X3_join
set_option maxRecDepth 20000 in
theorem ggX11_undo_X3_become : GoodIn wsX11_undo wsX3_become := goodIn_r _ [9, 10, 11, 12, 13, 14, 15, 16, 17, 18, 19, 20, 33, 34, 35, 36, 37, 38, 39] rfl gw_X3_become
set_option maxRecDepth 20000 in
theorem gX11_undo_X3_become : GoodIn wsX11_undo (wsV RX11 151 RX3 yX3_become wsX3_become) := goodIn_app (goodIn_r _ [5, 6, 7, 8] rfl (gw_V _ _ _ _)) ggX11_undo_X3_become
set_option maxRecDepth 20000 in
theorem ggX11_told_X3_hasLine : GoodIn wsX11_told wsX3_hasLine := goodIn_r _ [11, 12, 30, 31, 32, 33, 34, 35, 36] rfl gw_X3_hasLine
set_option maxRecDepth 20000 in
theorem gX11_told_X3_hasLine : GoodIn wsX11_told (wsV RX11 112 RX3 yX3_hasLine wsX3_hasLine) := goodIn_app (goodIn_r _ [7, 8, 9, 10] rfl (gw_V _ _ _ _)) ggX11_told_X3_hasLine
set_option maxRecDepth 20000 in
theorem ggX11_told_X3_isMissing : GoodIn wsX11_told wsX3_isMissing := goodIn_r _ [16, 17, 30, 31, 32, 33, 34, 35, 36] rfl gw_X3_isMissing
set_option maxRecDepth 20000 in
theorem gX11_told_X3_isMissing : GoodIn wsX11_told (wsV RX11 126 RX3 yX3_isMissing wsX3_isMissing) := goodIn_app (goodIn_r _ [13, 14, 15, 10] rfl (gw_V _ _ _ _)) ggX11_told_X3_isMissing
set_option maxRecDepth 20000 in
theorem ggX11_ask_X3_hasLine : GoodIn wsX11_ask wsX3_hasLine := gdp_In _ pcs_X11_ask pc_X11_ask [(1, 10), (1, 11), (6, 0), (6, 1), (6, 2), (6, 3), (6, 4), (6, 5), (6, 6)] rfl gw_X3_hasLine
set_option maxRecDepth 20000 in
theorem gX11_ask_X3_hasLine : GoodIn wsX11_ask (wsV RX11 112 RX3 yX3_hasLine wsX3_hasLine) := goodIn_app (gdp_In _ pcs_X11_ask pc_X11_ask [(1, 6), (1, 7), (1, 8), (1, 9)] rfl (gw_V _ _ _ _)) ggX11_ask_X3_hasLine
set_option maxRecDepth 20000 in
theorem ggX11_ask_X2_costsMark : GoodIn wsX11_ask wsX2_costsMark := gdp_In _ pcs_X11_ask pc_X11_ask [(1, 18)] rfl gw_X2_costsMark
set_option maxRecDepth 20000 in
theorem gX11_ask_X2_costsMark_u132X2 : GoodIn wsX11_ask (va_wsO RX11 132 RX2 "CutAtlas$PlainKind" ⟨"CutAtlas$PlainKind", "costsMark", "()I"⟩ yX2_costsMark wsX2_costsMark) := goodIn_app (goodIn_of _ (by decide +kernel)) ggX11_ask_X2_costsMark
set_option maxRecDepth 20000 in
theorem ggX11_ask_X6_costsMark : GoodIn wsX11_ask wsX6_costsMark := gdp_In _ pcs_X11_ask pc_X11_ask [(1, 19)] rfl gw_X6_costsMark
set_option maxRecDepth 20000 in
theorem gX11_ask_X6_costsMark_u132X5 : GoodIn wsX11_ask (va_wsU RX11 132 RX5 "CutAtlas$PlainKind" ⟨"CutAtlas$PlainKind", "costsMark", "()I"⟩ yX6_costsMark wsX6_costsMark) := goodIn_app (goodIn_of _ (by decide +kernel)) ggX11_ask_X6_costsMark
set_option maxRecDepth 20000 in
theorem gX11_ask_X6_costsMark : GoodIn wsX11_ask (wsV RX11 132 RX6 yX6_costsMark wsX6_costsMark) := goodIn_app (gdp_In _ pcs_X11_ask pc_X11_ask [(1, 23), (1, 21), (2, 0), (1, 22)] rfl (gw_V _ _ _ _)) ggX11_ask_X6_costsMark
set_option maxRecDepth 20000 in
theorem ggX11_ask_X8_costsMark : GoodIn wsX11_ask wsX8_costsMark := gdp_In _ pcs_X11_ask pc_X11_ask [(2, 4), (2, 5), (2, 6), (2, 7), (2, 8), (1, 16), (1, 17), (1, 18)] rfl gw_X8_costsMark
set_option maxRecDepth 20000 in
theorem gX11_ask_X8_costsMark_u132X8 : GoodIn wsX11_ask (va_wsO RX11 132 RX8 "CutAtlas$PlainKind" ⟨"CutAtlas$PlainKind", "costsMark", "()I"⟩ yX8_costsMark wsX8_costsMark) := goodIn_app (goodIn_of _ (by decide +kernel)) ggX11_ask_X8_costsMark
set_option maxRecDepth 20000 in
theorem gX11_ask_X6_costsMark_u132X9 : GoodIn wsX11_ask (va_wsU RX11 132 RX9 "CutAtlas$PlainKind" ⟨"CutAtlas$PlainKind", "costsMark", "()I"⟩ yX6_costsMark wsX6_costsMark) := goodIn_app (goodIn_of _ (by decide +kernel)) ggX11_ask_X6_costsMark
set_option maxRecDepth 20000 in
theorem ggX11_ask_X2_costs : GoodIn wsX11_ask wsX2_costs := gdp_In _ pcs_X11_ask pc_X11_ask [(2, 15)] rfl gw_X2_costs
set_option maxRecDepth 20000 in
theorem gX11_ask_X2_costs_u122X2 : GoodIn wsX11_ask (va_wsO RX11 122 RX2 "CutAtlas$PlainKind" ⟨"CutAtlas$PlainKind", "costs", "(I)I"⟩ yX2_costs wsX2_costs) := goodIn_app (goodIn_of _ (by decide +kernel)) ggX11_ask_X2_costs
set_option maxRecDepth 20000 in
theorem ggX11_ask_X6_costs : GoodIn wsX11_ask wsX6_costs := gdp_In _ pcs_X11_ask pc_X11_ask [(2, 16)] rfl gw_X6_costs
set_option maxRecDepth 20000 in
theorem gX11_ask_X6_costs_u122X5 : GoodIn wsX11_ask (va_wsU RX11 122 RX5 "CutAtlas$PlainKind" ⟨"CutAtlas$PlainKind", "costs", "(I)I"⟩ yX6_costs wsX6_costs) := goodIn_app (goodIn_of _ (by decide +kernel)) ggX11_ask_X6_costs
set_option maxRecDepth 20000 in
theorem gX11_ask_X6_costs : GoodIn wsX11_ask (wsV RX11 122 RX6 yX6_costs wsX6_costs) := goodIn_app (gdp_In _ pcs_X11_ask pc_X11_ask [(2, 19), (2, 18), (2, 20), (1, 22)] rfl (gw_V _ _ _ _)) ggX11_ask_X6_costs
set_option maxRecDepth 20000 in
theorem ggX11_ask_X8_costs : GoodIn wsX11_ask wsX8_costs := gdp_In _ pcs_X11_ask pc_X11_ask [(2, 23), (3, 0), (3, 1), (2, 8), (2, 14), (1, 17), (2, 15)] rfl gw_X8_costs
set_option maxRecDepth 20000 in
theorem gX11_ask_X8_costs_u122X8 : GoodIn wsX11_ask (va_wsO RX11 122 RX8 "CutAtlas$PlainKind" ⟨"CutAtlas$PlainKind", "costs", "(I)I"⟩ yX8_costs wsX8_costs) := goodIn_app (goodIn_of _ (by decide +kernel)) ggX11_ask_X8_costs
set_option maxRecDepth 20000 in
theorem gX11_ask_X6_costs_u122X9 : GoodIn wsX11_ask (va_wsU RX11 122 RX9 "CutAtlas$PlainKind" ⟨"CutAtlas$PlainKind", "costs", "(I)I"⟩ yX6_costs wsX6_costs) := goodIn_app (goodIn_of _ (by decide +kernel)) ggX11_ask_X6_costs
set_option maxRecDepth 20000 in
theorem ggX11_ask_X6_letsMark : GoodIn wsX11_ask wsX6_letsMark := gdp_In _ pcs_X11_ask pc_X11_ask [(3, 7)] rfl gw_X6_letsMark
set_option maxRecDepth 20000 in
theorem gX11_ask_X6_letsMark_u161X2 : GoodIn wsX11_ask (va_wsU RX11 161 RX2 "CutAtlas$PlainKind" ⟨"CutAtlas$PlainKind", "letsMark", "(Z)I"⟩ yX6_letsMark wsX6_letsMark) := goodIn_app (goodIn_of _ (by decide +kernel)) ggX11_ask_X6_letsMark
set_option maxRecDepth 20000 in
theorem ggX11_ask_X5_letsMark : GoodIn wsX11_ask wsX5_letsMark := gdp_In _ pcs_X11_ask pc_X11_ask [(3, 12), (3, 13), (3, 4), (3, 14), (3, 6), (1, 22), (3, 7)] rfl gw_X5_letsMark
set_option maxRecDepth 20000 in
theorem gX11_ask_X5_letsMark_u161X5 : GoodIn wsX11_ask (va_wsO RX11 161 RX5 "CutAtlas$PlainKind" ⟨"CutAtlas$PlainKind", "letsMark", "(Z)I"⟩ yX5_letsMark wsX5_letsMark) := goodIn_app (goodIn_of _ (by decide +kernel)) ggX11_ask_X5_letsMark
set_option maxRecDepth 20000 in
theorem gX11_ask_X6_letsMark : GoodIn wsX11_ask (wsV RX11 161 RX6 yX6_letsMark wsX6_letsMark) := goodIn_app (gdp_In _ pcs_X11_ask pc_X11_ask [(3, 15), (3, 6), (3, 16), (1, 22)] rfl (gw_V _ _ _ _)) ggX11_ask_X6_letsMark
set_option maxRecDepth 20000 in
theorem gX11_ask_X6_letsMark_u161X8 : GoodIn wsX11_ask (va_wsU RX11 161 RX8 "CutAtlas$PlainKind" ⟨"CutAtlas$PlainKind", "letsMark", "(Z)I"⟩ yX6_letsMark wsX6_letsMark) := goodIn_app (goodIn_of _ (by decide +kernel)) ggX11_ask_X6_letsMark
set_option maxRecDepth 20000 in
theorem ggX11_ask_X9_letsMark : GoodIn wsX11_ask wsX9_letsMark := gdp_In _ pcs_X11_ask pc_X11_ask [(3, 21)] rfl gw_X9_letsMark
set_option maxRecDepth 20000 in
theorem gX11_ask_X9_letsMark_u161X9 : GoodIn wsX11_ask (va_wsO RX11 161 RX9 "CutAtlas$PlainKind" ⟨"CutAtlas$PlainKind", "letsMark", "(Z)I"⟩ yX9_letsMark wsX9_letsMark) := goodIn_app (goodIn_of _ (by decide +kernel)) ggX11_ask_X9_letsMark
set_option maxRecDepth 20000 in
theorem ggX11_ask_X6_lets : GoodIn wsX11_ask wsX6_lets := gdp_In _ pcs_X11_ask pc_X11_ask [(4, 2)] rfl gw_X6_lets
set_option maxRecDepth 20000 in
theorem gX11_ask_X6_lets_u165X2 : GoodIn wsX11_ask (va_wsU RX11 165 RX2 "CutAtlas$PlainKind" ⟨"CutAtlas$PlainKind", "lets", "(IZ)I"⟩ yX6_lets wsX6_lets) := goodIn_app (goodIn_of _ (by decide +kernel)) ggX11_ask_X6_lets
set_option maxRecDepth 20000 in
theorem ggX11_ask_X5_lets : GoodIn wsX11_ask wsX5_lets := gdp_In _ pcs_X11_ask pc_X11_ask [(4, 6), (4, 7), (3, 23), (3, 14), (4, 1), (1, 22), (4, 2)] rfl gw_X5_lets
set_option maxRecDepth 20000 in
theorem gX11_ask_X5_lets_u165X5 : GoodIn wsX11_ask (va_wsO RX11 165 RX5 "CutAtlas$PlainKind" ⟨"CutAtlas$PlainKind", "lets", "(IZ)I"⟩ yX5_lets wsX5_lets) := goodIn_app (goodIn_of _ (by decide +kernel)) ggX11_ask_X5_lets
set_option maxRecDepth 20000 in
theorem gX11_ask_X6_lets : GoodIn wsX11_ask (wsV RX11 165 RX6 yX6_lets wsX6_lets) := goodIn_app (gdp_In _ pcs_X11_ask pc_X11_ask [(4, 8), (4, 1), (4, 9), (1, 22)] rfl (gw_V _ _ _ _)) ggX11_ask_X6_lets
set_option maxRecDepth 20000 in
theorem gX11_ask_X6_lets_u165X8 : GoodIn wsX11_ask (va_wsU RX11 165 RX8 "CutAtlas$PlainKind" ⟨"CutAtlas$PlainKind", "lets", "(IZ)I"⟩ yX6_lets wsX6_lets) := goodIn_app (goodIn_of _ (by decide +kernel)) ggX11_ask_X6_lets
set_option maxRecDepth 20000 in
theorem ggX11_ask_X9_lets : GoodIn wsX11_ask wsX9_lets := gdp_In _ pcs_X11_ask pc_X11_ask [(4, 13)] rfl gw_X9_lets
set_option maxRecDepth 20000 in
theorem gX11_ask_X9_lets_u165X9 : GoodIn wsX11_ask (va_wsO RX11 165 RX9 "CutAtlas$PlainKind" ⟨"CutAtlas$PlainKind", "lets", "(IZ)I"⟩ yX9_lets wsX9_lets) := goodIn_app (goodIn_of _ (by decide +kernel)) ggX11_ask_X9_lets
set_option maxRecDepth 20000 in
theorem ggX11_most_X3_hasPair : GoodIn wsX11_most wsX3_hasPair := gdp_In _ pcs_X11_most pc_X11_most [(1, 5), (1, 6), (1, 7), (1, 8), (1, 4), (1, 9), (1, 10), (7, 0), (7, 1), (7, 2), (7, 3), (7, 4), (7, 5), (7, 6)] rfl gw_X3_hasPair
set_option maxRecDepth 20000 in
theorem gX11_most_X3_hasPair : GoodIn wsX11_most (wsV RX11 135 RX3 yX3_hasPair wsX3_hasPair) := goodIn_app (gdp_In _ pcs_X11_most pc_X11_most [(1, 1), (1, 2), (1, 3), (1, 4)] rfl (gw_V _ _ _ _)) ggX11_most_X3_hasPair
set_option maxRecDepth 20000 in
theorem ggX11_most_X11_mostNow : GoodIn wsX11_most wsX11_mostNow := gdp_In _ pcs_X11_most pc_X11_most [(1, 15), (1, 16), (1, 17), (1, 18), (1, 19), (1, 20), (1, 21), (1, 22), (1, 23), (2, 0), (2, 1), (2, 2), (2, 3), (2, 4), (2, 5), (2, 6), (2, 7), (2, 8), (2, 9), (2, 10), (2, 11), (2, 12), (2, 13), (2, 14), (2, 15), (1, 4), (2, 16), (2, 17), (2, 18), (2, 19), (2, 20), (2, 21), (2, 22), (2, 23), (3, 0), (3, 1), (3, 2), (3, 3), (3, 4), (3, 5), (3, 6), (3, 7), (3, 8), (3, 9), (3, 10), (3, 11), (3, 12), (3, 13), (3, 14), (3, 15), (3, 16), (3, 17), (3, 18), (3, 19), (3, 20), (3, 21), (3, 22), (3, 23), (4, 0), (4, 1), (4, 2), (4, 3), (4, 4), (4, 5), (4, 6), (4, 7), (4, 8), (4, 9), (4, 10), (4, 11), (4, 12), (4, 13), (4, 14), (4, 15), (4, 16), (4, 17), (4, 18), (4, 19), (4, 20), (4, 21), (4, 22), (4, 23), (5, 0), (5, 1), (5, 2), (6, 0), (6, 1), (6, 2), (6, 3), (6, 4), (6, 5), (6, 6), (6, 7), (6, 8), (6, 9), (6, 10), (6, 11), (8, 0), (8, 1), (8, 2), (8, 3), (8, 4), (8, 5), (8, 6), (8, 7), (8, 8), (7, 0), (7, 1), (7, 2), (7, 3), (7, 4), (7, 5), (7, 6)] rfl gw_X11_mostNow
set_option maxRecDepth 20000 in
theorem gX11_most_X11_mostNow : GoodIn wsX11_most (wsV RX11 169 RX11 yX11_mostNow wsX11_mostNow) := goodIn_app (gdp_In _ pcs_X11_most pc_X11_most [(1, 11), (1, 12), (1, 13), (1, 14)] rfl (gw_V _ _ _ _)) ggX11_most_X11_mostNow
set_option maxRecDepth 20000 in
theorem ggX11_flow_X3_hasPair : GoodIn wsX11_flow wsX3_hasPair := gdp_In _ pcs_X11_flow pc_X11_flow [(1, 8), (1, 9), (1, 10), (1, 11), (1, 7), (1, 12), (1, 13), (8, 0), (8, 1), (8, 2), (8, 3), (8, 4), (8, 5), (8, 6)] rfl gw_X3_hasPair
set_option maxRecDepth 20000 in
theorem gX11_flow_X3_hasPair : GoodIn wsX11_flow (wsV RX11 135 RX3 yX3_hasPair wsX3_hasPair) := goodIn_app (gdp_In _ pcs_X11_flow pc_X11_flow [(1, 4), (1, 5), (1, 6), (1, 7)] rfl (gw_V _ _ _ _)) ggX11_flow_X3_hasPair
set_option maxRecDepth 20000 in
theorem ggX11_flow_X3_hasLine : GoodIn wsX11_flow wsX3_hasLine := gdp_In _ pcs_X11_flow pc_X11_flow [(1, 17), (1, 18), (8, 0), (8, 1), (8, 2), (8, 3), (8, 4), (8, 5), (8, 6)] rfl gw_X3_hasLine
set_option maxRecDepth 20000 in
theorem gX11_flow_X3_hasLine : GoodIn wsX11_flow (wsV RX11 112 RX3 yX3_hasLine wsX3_hasLine) := goodIn_app (gdp_In _ pcs_X11_flow pc_X11_flow [(1, 14), (1, 15), (1, 16), (1, 7)] rfl (gw_V _ _ _ _)) ggX11_flow_X3_hasLine
set_option maxRecDepth 20000 in
theorem ggX11_flow_X3_isMissing : GoodIn wsX11_flow wsX3_isMissing := gdp_In _ pcs_X11_flow pc_X11_flow [(1, 22), (1, 23), (8, 0), (8, 1), (8, 2), (8, 3), (8, 4), (8, 5), (8, 6)] rfl gw_X3_isMissing
set_option maxRecDepth 20000 in
theorem gX11_flow_X3_isMissing : GoodIn wsX11_flow (wsV RX11 126 RX3 yX3_isMissing wsX3_isMissing) := goodIn_app (gdp_In _ pcs_X11_flow pc_X11_flow [(1, 19), (1, 20), (1, 21), (1, 7)] rfl (gw_V _ _ _ _)) ggX11_flow_X3_isMissing
set_option maxRecDepth 20000 in
theorem ggX11_flow_X11_mostNow : GoodIn wsX11_flow wsX11_mostNow := gdp_In _ pcs_X11_flow pc_X11_flow [(2, 4), (1, 2), (2, 5), (2, 6), (2, 7), (2, 8), (2, 9), (2, 10), (2, 11), (2, 12), (2, 13), (2, 14), (2, 15), (2, 16), (2, 17), (2, 18), (2, 19), (2, 20), (2, 21), (2, 22), (2, 23), (3, 0), (3, 1), (1, 20), (1, 21), (1, 7), (1, 22), (1, 23), (3, 2), (3, 3), (3, 4), (3, 5), (3, 6), (3, 7), (3, 8), (3, 9), (3, 10), (3, 11), (3, 12), (3, 13), (3, 14), (3, 15), (3, 16), (3, 17), (3, 18), (3, 19), (3, 20), (3, 21), (3, 22), (3, 23), (4, 0), (4, 1), (4, 2), (4, 3), (4, 4), (4, 5), (4, 6), (4, 7), (4, 8), (4, 9), (4, 10), (4, 11), (4, 12), (4, 13), (4, 14), (4, 15), (4, 16), (4, 17), (4, 18), (4, 19), (4, 20), (4, 21), (4, 22), (4, 23), (5, 0), (5, 1), (5, 2), (5, 3), (5, 4), (5, 5), (5, 6), (5, 7), (5, 8), (5, 9), (5, 10), (6, 0), (6, 1), (6, 2), (6, 3), (6, 4), (6, 5), (6, 6), (6, 7), (6, 8), (6, 9), (6, 10), (6, 11), (7, 0), (7, 1), (7, 2), (7, 3), (7, 4), (7, 5), (7, 6), (7, 7), (7, 8), (8, 0), (8, 1), (8, 2), (8, 3), (8, 4), (8, 5), (8, 6)] rfl gw_X11_mostNow
set_option maxRecDepth 20000 in
theorem gX11_flow_X11_mostNow : GoodIn wsX11_flow (wsV RX11 169 RX11 yX11_mostNow wsX11_mostNow) := goodIn_app (gdp_In _ pcs_X11_flow pc_X11_flow [(2, 0), (2, 1), (2, 2), (2, 3)] rfl (gw_V _ _ _ _)) ggX11_flow_X11_mostNow
set_option maxRecDepth 20000 in
theorem ggX11_cut_X3_hasPair : GoodIn wsX11_cut wsX3_hasPair := gdp_In _ pcs_X11_cut pc_X11_cut [(1, 6), (1, 7), (1, 8), (1, 9), (1, 5), (1, 10), (1, 11), (7, 0), (7, 1), (7, 2), (7, 3), (7, 4), (7, 5), (7, 6)] rfl gw_X3_hasPair
set_option maxRecDepth 20000 in
theorem gX11_cut_X3_hasPair : GoodIn wsX11_cut (wsV RX11 135 RX3 yX3_hasPair wsX3_hasPair) := goodIn_app (gdp_In _ pcs_X11_cut pc_X11_cut [(1, 2), (1, 3), (1, 4), (1, 5)] rfl (gw_V _ _ _ _)) ggX11_cut_X3_hasPair
set_option maxRecDepth 20000 in
theorem ggX11_cut_X11_mostNow : GoodIn wsX11_cut wsX11_mostNow := gdp_In _ pcs_X11_cut pc_X11_cut [(1, 16), (1, 1), (1, 17), (1, 18), (1, 19), (1, 20), (1, 21), (1, 22), (1, 23), (2, 0), (2, 1), (2, 2), (2, 3), (2, 4), (2, 5), (2, 6), (2, 7), (2, 8), (2, 9), (2, 10), (2, 11), (2, 12), (2, 13), (2, 14), (2, 15), (1, 5), (2, 16), (2, 17), (2, 18), (2, 19), (2, 20), (2, 21), (2, 22), (2, 23), (3, 0), (3, 1), (3, 2), (3, 3), (3, 4), (3, 5), (3, 6), (3, 7), (3, 8), (3, 9), (3, 10), (3, 11), (3, 12), (3, 13), (3, 14), (3, 15), (3, 16), (3, 17), (3, 18), (3, 19), (3, 20), (3, 21), (3, 22), (3, 23), (4, 0), (4, 1), (4, 2), (4, 3), (4, 4), (4, 5), (4, 6), (4, 7), (4, 8), (4, 9), (4, 10), (4, 11), (4, 12), (4, 13), (4, 14), (4, 15), (4, 16), (4, 17), (4, 18), (4, 19), (4, 20), (4, 21), (4, 22), (4, 23), (5, 0), (5, 1), (5, 2), (6, 0), (6, 1), (6, 2), (6, 3), (6, 4), (6, 5), (6, 6), (6, 7), (6, 8), (6, 9), (6, 10), (6, 11), (8, 0), (8, 1), (8, 2), (8, 3), (8, 4), (8, 5), (8, 6), (8, 7), (8, 8), (7, 0), (7, 1), (7, 2), (7, 3), (7, 4), (7, 5), (7, 6)] rfl gw_X11_mostNow
set_option maxRecDepth 20000 in
theorem gX11_cut_X11_mostNow : GoodIn wsX11_cut (wsV RX11 169 RX11 yX11_mostNow wsX11_mostNow) := goodIn_app (gdp_In _ pcs_X11_cut pc_X11_cut [(1, 12), (1, 13), (1, 14), (1, 15)] rfl (gw_V _ _ _ _)) ggX11_cut_X11_mostNow
set_option maxRecDepth 20000 in
theorem ggX11_cut_X0_nearCut : GoodIn wsX11_cut wsX0_nearCut := gdp_In _ pcs_X11_cut pc_X11_cut [(5, 6), (4, 4), (4, 5), (4, 6), (1, 20), (4, 7), (4, 8), (1, 22), (1, 23), (3, 23), (8, 0), (8, 1), (8, 2), (8, 3), (8, 4), (8, 5), (8, 6), (8, 7), (8, 8), (7, 0), (7, 1), (7, 2), (7, 3), (7, 4), (7, 5), (7, 6)] rfl gw_X0_nearCut
set_option maxRecDepth 20000 in
theorem gX11_cut_X0_nearCut : GoodIn wsX11_cut (wsV RX11 176 RX0 yX0_nearCut wsX0_nearCut) := goodIn_app (gdp_In _ pcs_X11_cut pc_X11_cut [(5, 3), (5, 4), (5, 5), (1, 20)] rfl (gw_V _ _ _ _)) ggX11_cut_X0_nearCut
set_option maxRecDepth 20000 in
theorem ggX11_cut_X0_farCut : GoodIn wsX11_cut wsX0_farCut := gdp_In _ pcs_X11_cut pc_X11_cut [(5, 10), (1, 22), (1, 23), (5, 11), (5, 12), (5, 13), (1, 20), (5, 14), (4, 8), (3, 23), (8, 0), (8, 1), (8, 2), (8, 3), (8, 4), (8, 5), (8, 6), (8, 7), (8, 8), (7, 0), (7, 1), (7, 2), (7, 3), (7, 4), (7, 5), (7, 6)] rfl gw_X0_farCut
set_option maxRecDepth 20000 in
theorem gX11_cut_X0_farCut : GoodIn wsX11_cut (wsV RX11 179 RX0 yX0_farCut wsX0_farCut) := goodIn_app (gdp_In _ pcs_X11_cut pc_X11_cut [(5, 7), (5, 8), (5, 9), (1, 20)] rfl (gw_V _ _ _ _)) ggX11_cut_X0_farCut
set_option maxRecDepth 20000 in
theorem ggX11_count_X3_hasPair : GoodIn wsX11_count wsX3_hasPair := gdp_In _ pcs_X11_count pc_X11_count [(1, 6), (1, 7), (1, 8), (1, 9), (1, 5), (1, 10), (1, 11), (8, 0), (8, 1), (8, 2), (8, 3), (8, 4), (8, 5), (8, 6)] rfl gw_X3_hasPair
set_option maxRecDepth 20000 in
theorem gX11_count_X3_hasPair : GoodIn wsX11_count (wsV RX11 135 RX3 yX3_hasPair wsX3_hasPair) := goodIn_app (gdp_In _ pcs_X11_count pc_X11_count [(1, 2), (1, 3), (1, 4), (1, 5)] rfl (gw_V _ _ _ _)) ggX11_count_X3_hasPair
set_option maxRecDepth 20000 in
theorem ggX11_count_X11_mostNow : GoodIn wsX11_count wsX11_mostNow := gdp_In _ pcs_X11_count pc_X11_count [(1, 16), (1, 17), (1, 18), (1, 19), (1, 20), (1, 21), (1, 22), (1, 23), (2, 0), (2, 1), (2, 2), (2, 3), (2, 4), (2, 5), (2, 6), (2, 7), (2, 8), (2, 9), (2, 10), (2, 11), (2, 12), (2, 13), (2, 14), (2, 15), (2, 16), (1, 5), (2, 17), (2, 18), (2, 19), (2, 20), (2, 21), (2, 22), (2, 23), (3, 0), (3, 1), (3, 2), (3, 3), (3, 4), (3, 5), (3, 6), (3, 7), (3, 8), (3, 9), (3, 10), (3, 11), (3, 12), (3, 13), (3, 14), (3, 15), (3, 16), (3, 17), (3, 18), (3, 19), (3, 20), (3, 21), (3, 22), (3, 23), (4, 0), (4, 1), (4, 2), (4, 3), (4, 4), (4, 5), (4, 6), (4, 7), (4, 8), (4, 9), (4, 10), (4, 11), (4, 12), (4, 13), (4, 14), (4, 15), (4, 16), (4, 17), (4, 18), (4, 19), (4, 20), (4, 21), (4, 22), (4, 23), (5, 0), (5, 1), (5, 2), (5, 3), (7, 0), (7, 1), (7, 2), (7, 3), (7, 4), (7, 5), (7, 6), (7, 7), (7, 8), (7, 9), (7, 10), (7, 11), (9, 0), (9, 1), (9, 2), (9, 3), (9, 4), (9, 5), (9, 6), (9, 7), (9, 8), (8, 0), (8, 1), (8, 2), (8, 3), (8, 4), (8, 5), (8, 6)] rfl gw_X11_mostNow
set_option maxRecDepth 20000 in
theorem gX11_count_X11_mostNow : GoodIn wsX11_count (wsV RX11 169 RX11 yX11_mostNow wsX11_mostNow) := goodIn_app (gdp_In _ pcs_X11_count pc_X11_count [(1, 12), (1, 13), (1, 14), (1, 15)] rfl (gw_V _ _ _ _)) ggX11_count_X11_mostNow
set_option maxRecDepth 20000 in
theorem ggX11_count_X7_countCuts : GoodIn wsX11_count wsX7_countCuts := gdp_In _ pcs_X11_count pc_X11_count [(5, 8), (5, 9), (5, 10), (5, 11), (5, 12), (5, 13), (5, 7), (5, 14), (5, 15), (5, 16), (5, 17), (5, 18), (5, 19), (5, 20), (5, 21), (5, 22), (5, 23), (6, 0), (6, 1), (6, 2), (6, 3), (6, 4), (6, 5), (6, 6), (6, 7), (6, 8), (6, 9), (6, 10), (6, 11), (6, 12), (6, 13), (6, 14), (6, 15), (10, 0), (10, 1), (10, 2), (10, 3), (10, 4), (10, 5), (10, 6), (10, 7), (10, 8), (9, 0), (9, 1), (9, 2), (9, 3), (9, 4), (9, 5), (9, 6), (9, 7), (9, 8), (8, 0), (8, 1), (8, 2), (8, 3), (8, 4), (8, 5), (8, 6)] rfl gw_X7_countCuts
set_option maxRecDepth 20000 in
theorem gX11_count_X7_countCuts : GoodIn wsX11_count (wsV RX11 182 RX7 yX7_countCuts wsX7_countCuts) := goodIn_app (gdp_In _ pcs_X11_count pc_X11_count [(5, 4), (5, 5), (5, 6), (5, 7)] rfl (gw_V _ _ _ _)) ggX11_count_X7_countCuts
set_option maxRecDepth 20000 in
theorem ggX11_next_X3_hasPair : GoodIn wsX11_next wsX3_hasPair := gdp_In _ pcs_X11_next pc_X11_next [(1, 6), (1, 7), (1, 8), (1, 9), (1, 5), (1, 10), (1, 11), (8, 0), (8, 1), (8, 2), (8, 3), (8, 4), (8, 5), (8, 6)] rfl gw_X3_hasPair
set_option maxRecDepth 20000 in
theorem gX11_next_X3_hasPair : GoodIn wsX11_next (wsV RX11 135 RX3 yX3_hasPair wsX3_hasPair) := goodIn_app (gdp_In _ pcs_X11_next pc_X11_next [(1, 2), (1, 3), (1, 4), (1, 5)] rfl (gw_V _ _ _ _)) ggX11_next_X3_hasPair
set_option maxRecDepth 20000 in
theorem ggX11_next_X11_mostNow : GoodIn wsX11_next wsX11_mostNow := gdp_In _ pcs_X11_next pc_X11_next [(1, 16), (1, 17), (1, 18), (1, 19), (1, 20), (1, 21), (1, 22), (1, 23), (2, 0), (2, 1), (2, 2), (2, 3), (2, 4), (2, 5), (2, 6), (2, 7), (2, 8), (2, 9), (2, 10), (2, 11), (2, 12), (2, 13), (2, 14), (2, 15), (2, 16), (1, 5), (2, 17), (2, 18), (2, 19), (2, 20), (2, 21), (2, 22), (2, 23), (3, 0), (3, 1), (3, 2), (3, 3), (3, 4), (3, 5), (3, 6), (3, 7), (3, 8), (3, 9), (3, 10), (3, 11), (3, 12), (3, 13), (3, 14), (3, 15), (3, 16), (3, 17), (3, 18), (3, 19), (3, 20), (3, 21), (3, 22), (3, 23), (4, 0), (4, 1), (4, 2), (4, 3), (4, 4), (4, 5), (4, 6), (4, 7), (4, 8), (4, 9), (4, 10), (4, 11), (4, 12), (4, 13), (4, 14), (4, 15), (4, 16), (4, 17), (4, 18), (4, 19), (4, 20), (4, 21), (4, 22), (4, 23), (5, 0), (5, 1), (5, 2), (5, 3), (7, 0), (7, 1), (7, 2), (7, 3), (7, 4), (7, 5), (7, 6), (7, 7), (7, 8), (7, 9), (7, 10), (7, 11), (9, 0), (9, 1), (9, 2), (9, 3), (9, 4), (9, 5), (9, 6), (9, 7), (9, 8), (8, 0), (8, 1), (8, 2), (8, 3), (8, 4), (8, 5), (8, 6)] rfl gw_X11_mostNow
set_option maxRecDepth 20000 in
theorem gX11_next_X11_mostNow : GoodIn wsX11_next (wsV RX11 169 RX11 yX11_mostNow wsX11_mostNow) := goodIn_app (gdp_In _ pcs_X11_next pc_X11_next [(1, 12), (1, 13), (1, 14), (1, 15)] rfl (gw_V _ _ _ _)) ggX11_next_X11_mostNow
set_option maxRecDepth 20000 in
theorem ggX11_next_X7_findCut : GoodIn wsX11_next wsX7_findCut := gdp_In _ pcs_X11_next pc_X11_next [(5, 8), (5, 9), (5, 10), (5, 11), (5, 12), (5, 7), (5, 13), (5, 14), (5, 15), (5, 16), (5, 17), (5, 18), (5, 19), (5, 20), (5, 21), (5, 22), (5, 23), (6, 0), (6, 1), (6, 2), (6, 3), (6, 4), (6, 5), (6, 6), (6, 7), (6, 8), (6, 9), (6, 10), (6, 11), (6, 12), (6, 13), (6, 14), (10, 0), (10, 1), (10, 2), (10, 3), (10, 4), (10, 5), (10, 6), (10, 7), (10, 8), (9, 0), (9, 1), (9, 2), (9, 3), (9, 4), (9, 5), (9, 6), (9, 7), (9, 8), (8, 0), (8, 1), (8, 2), (8, 3), (8, 4), (8, 5), (8, 6)] rfl gw_X7_findCut
set_option maxRecDepth 20000 in
theorem gX11_next_X7_findCut : GoodIn wsX11_next (wsV RX11 186 RX7 yX7_findCut wsX7_findCut) := goodIn_app (gdp_In _ pcs_X11_next pc_X11_next [(5, 4), (5, 5), (5, 6), (5, 7)] rfl (gw_V _ _ _ _)) ggX11_next_X7_findCut
set_option maxRecDepth 20000 in
theorem ggX11_size_X3_hasPair : GoodIn wsX11_size wsX3_hasPair := gdp_In _ pcs_X11_size pc_X11_size [(1, 7), (1, 8), (1, 9), (1, 10), (1, 6), (1, 11), (1, 12), (5, 0), (5, 1), (5, 2), (5, 3), (5, 4), (5, 5), (5, 6)] rfl gw_X3_hasPair
set_option maxRecDepth 20000 in
theorem gX11_size_X3_hasPair : GoodIn wsX11_size (wsV RX11 135 RX3 yX3_hasPair wsX3_hasPair) := goodIn_app (gdp_In _ pcs_X11_size pc_X11_size [(1, 3), (1, 4), (1, 5), (1, 6)] rfl (gw_V _ _ _ _)) ggX11_size_X3_hasPair
set_option maxRecDepth 20000 in
theorem ggX11_size_X0_load : GoodIn wsX11_size wsX0_load := gdp_In _ pcs_X11_size pc_X11_size [(1, 17), (1, 18), (1, 19), (1, 20), (1, 21), (1, 22), (1, 23), (2, 0), (2, 1), (2, 2), (2, 3), (2, 4), (2, 5), (2, 6), (2, 7), (2, 8), (2, 9), (2, 10), (2, 11), (1, 6), (2, 12), (2, 13), (2, 14), (2, 15), (2, 16), (2, 17), (2, 18), (2, 19), (2, 20), (2, 21), (2, 22), (2, 23), (3, 0), (3, 1), (3, 2), (3, 3), (3, 4), (3, 5), (3, 6), (3, 7), (3, 8), (3, 9), (3, 10), (3, 11), (1, 16), (3, 12), (3, 13), (6, 0), (6, 1), (6, 2), (6, 3), (6, 4), (6, 5), (6, 6), (6, 7), (6, 8), (5, 0), (5, 1), (5, 2), (5, 3), (5, 4), (5, 5), (5, 6)] rfl gw_X0_load
set_option maxRecDepth 20000 in
theorem gX11_size_X0_load : GoodIn wsX11_size (wsV RX11 190 RX0 yX0_load wsX0_load) := goodIn_app (gdp_In _ pcs_X11_size pc_X11_size [(1, 13), (1, 14), (1, 15), (1, 16)] rfl (gw_V _ _ _ _)) ggX11_size_X0_load
set_option maxRecDepth 20000 in
theorem ggX11_size_X0_leaving : GoodIn wsX11_size wsX0_leaving := gdp_In _ pcs_X11_size pc_X11_size [(3, 17), (1, 18), (1, 19), (3, 18), (3, 19), (3, 20), (1, 16), (3, 21), (1, 20), (6, 0), (6, 1), (6, 2), (6, 3), (6, 4), (6, 5), (6, 6), (6, 7), (6, 8), (5, 0), (5, 1), (5, 2), (5, 3), (5, 4), (5, 5), (5, 6)] rfl gw_X0_leaving
set_option maxRecDepth 20000 in
theorem gX11_size_X0_leaving : GoodIn wsX11_size (wsV RX11 194 RX0 yX0_leaving wsX0_leaving) := goodIn_app (gdp_In _ pcs_X11_size pc_X11_size [(3, 14), (3, 15), (3, 16), (1, 16)] rfl (gw_V _ _ _ _)) ggX11_size_X0_leaving
set_option maxRecDepth 20000 in
theorem ggX11_raise_X3_hasPair : GoodIn wsX11_raise wsX3_hasPair := gdp_In _ pcs_X11_raise pc_X11_raise [(1, 6), (1, 7), (1, 8), (1, 9), (1, 5), (1, 10), (1, 11), (7, 0), (7, 1), (7, 2), (7, 3), (7, 4), (7, 5), (7, 6)] rfl gw_X3_hasPair
set_option maxRecDepth 20000 in
theorem gX11_raise_X3_hasPair : GoodIn wsX11_raise (wsV RX11 135 RX3 yX3_hasPair wsX3_hasPair) := goodIn_app (gdp_In _ pcs_X11_raise pc_X11_raise [(1, 2), (1, 3), (1, 4), (1, 5)] rfl (gw_V _ _ _ _)) ggX11_raise_X3_hasPair
set_option maxRecDepth 20000 in
theorem ggX11_raise_X3_hasLine : GoodIn wsX11_raise wsX3_hasLine := gdp_In _ pcs_X11_raise pc_X11_raise [(1, 15), (1, 16), (7, 0), (7, 1), (7, 2), (7, 3), (7, 4), (7, 5), (7, 6)] rfl gw_X3_hasLine
set_option maxRecDepth 20000 in
theorem gX11_raise_X3_hasLine : GoodIn wsX11_raise (wsV RX11 112 RX3 yX3_hasLine wsX3_hasLine) := goodIn_app (gdp_In _ pcs_X11_raise pc_X11_raise [(1, 12), (1, 13), (1, 14), (1, 5)] rfl (gw_V _ _ _ _)) ggX11_raise_X3_hasLine
set_option maxRecDepth 20000 in
theorem ggX11_raise_X3_isMissing : GoodIn wsX11_raise wsX3_isMissing := gdp_In _ pcs_X11_raise pc_X11_raise [(1, 20), (1, 21), (7, 0), (7, 1), (7, 2), (7, 3), (7, 4), (7, 5), (7, 6)] rfl gw_X3_isMissing
set_option maxRecDepth 20000 in
theorem gX11_raise_X3_isMissing : GoodIn wsX11_raise (wsV RX11 126 RX3 yX3_isMissing wsX3_isMissing) := goodIn_app (gdp_In _ pcs_X11_raise pc_X11_raise [(1, 17), (1, 18), (1, 19), (1, 5)] rfl (gw_V _ _ _ _)) ggX11_raise_X3_isMissing
set_option maxRecDepth 20000 in
theorem ggX11_raise_X0_load : GoodIn wsX11_raise wsX0_load := gdp_In _ pcs_X11_raise pc_X11_raise [(2, 2), (2, 3), (2, 4), (2, 5), (2, 6), (2, 7), (2, 8), (2, 9), (2, 10), (2, 11), (2, 12), (2, 13), (2, 14), (2, 15), (2, 16), (2, 17), (2, 18), (1, 18), (1, 19), (1, 5), (1, 20), (1, 21), (2, 19), (2, 20), (2, 21), (2, 22), (2, 23), (3, 0), (3, 1), (3, 2), (3, 3), (3, 4), (3, 5), (3, 6), (3, 7), (3, 8), (3, 9), (3, 10), (3, 11), (3, 12), (3, 13), (3, 14), (3, 15), (3, 16), (2, 1), (3, 17), (3, 18), (8, 0), (8, 1), (8, 2), (8, 3), (8, 4), (8, 5), (8, 6), (8, 7), (8, 8), (7, 0), (7, 1), (7, 2), (7, 3), (7, 4), (7, 5), (7, 6)] rfl gw_X0_load
set_option maxRecDepth 20000 in
theorem gX11_raise_X0_load : GoodIn wsX11_raise (wsV RX11 190 RX0 yX0_load wsX0_load) := goodIn_app (gdp_In _ pcs_X11_raise pc_X11_raise [(1, 22), (1, 23), (2, 0), (2, 1)] rfl (gw_V _ _ _ _)) ggX11_raise_X0_load
set_option maxRecDepth 20000 in
theorem ggX11_raise_X0_fill : GoodIn wsX11_raise wsX0_fill := gdp_In _ pcs_X11_raise pc_X11_raise [(3, 22), (3, 23), (2, 3), (2, 4), (2, 5), (4, 0), (4, 1), (4, 2), (4, 3), (4, 4), (3, 18), (2, 14), (2, 15), (2, 16), (2, 17), (4, 5), (4, 6), (4, 7), (2, 1), (4, 8), (4, 9), (4, 10), (4, 11), (4, 12), (4, 13), (4, 14), (4, 15), (4, 16), (4, 17), (4, 18), (4, 19), (4, 20), (4, 21), (4, 22), (4, 23), (5, 0), (5, 1), (5, 2), (5, 3), (2, 6), (2, 12), (2, 13), (2, 10), (2, 11), (8, 0), (8, 1), (8, 2), (8, 3), (8, 4), (8, 5), (8, 6), (8, 7), (8, 8), (7, 0), (7, 1), (7, 2), (7, 3), (7, 4), (7, 5), (7, 6)] rfl gw_X0_fill
set_option maxRecDepth 20000 in
theorem gX11_raise_X0_fill : GoodIn wsX11_raise (wsV RX11 198 RX0 yX0_fill wsX0_fill) := goodIn_app (gdp_In _ pcs_X11_raise pc_X11_raise [(3, 19), (3, 20), (3, 21), (2, 1)] rfl (gw_V _ _ _ _)) ggX11_raise_X0_fill
set_option maxRecDepth 20000 in
theorem ggX11_cheapest_X3_hasPair : GoodIn wsX11_cheapest wsX3_hasPair := gdp_In _ pcs_X11_cheapest pc_X11_cheapest [(1, 6), (1, 7), (1, 8), (1, 9), (1, 5), (1, 10), (1, 11), (10, 0), (10, 1), (10, 2), (10, 3), (10, 4), (10, 5), (10, 6)] rfl gw_X3_hasPair
set_option maxRecDepth 20000 in
theorem gX11_cheapest_X3_hasPair : GoodIn wsX11_cheapest (wsV RX11 135 RX3 yX3_hasPair wsX3_hasPair) := goodIn_app (gdp_In _ pcs_X11_cheapest pc_X11_cheapest [(1, 2), (1, 3), (1, 4), (1, 5)] rfl (gw_V _ _ _ _)) ggX11_cheapest_X3_hasPair
set_option maxRecDepth 20000 in
theorem ggX11_cheapest_X11_mostNow : GoodIn wsX11_cheapest wsX11_mostNow := gdp_In _ pcs_X11_cheapest pc_X11_cheapest [(1, 16), (1, 17), (1, 18), (1, 19), (1, 20), (1, 21), (1, 22), (1, 23), (2, 0), (2, 1), (2, 2), (2, 3), (2, 4), (2, 5), (2, 6), (2, 7), (2, 8), (2, 9), (2, 10), (2, 11), (2, 12), (2, 13), (2, 14), (2, 15), (2, 16), (1, 5), (2, 17), (2, 18), (2, 19), (2, 20), (2, 21), (2, 22), (2, 23), (3, 0), (3, 1), (3, 2), (3, 3), (3, 4), (3, 5), (3, 6), (3, 7), (3, 8), (3, 9), (3, 10), (3, 11), (3, 12), (3, 13), (3, 14), (3, 15), (3, 16), (3, 17), (3, 18), (3, 19), (3, 20), (3, 21), (3, 22), (3, 23), (4, 0), (4, 1), (4, 2), (4, 3), (4, 4), (4, 5), (4, 6), (4, 7), (4, 8), (4, 9), (4, 10), (4, 11), (4, 12), (4, 13), (4, 14), (4, 15), (4, 16), (4, 17), (4, 18), (4, 19), (4, 20), (4, 21), (4, 22), (4, 23), (5, 0), (5, 1), (5, 2), (5, 3), (9, 0), (9, 1), (9, 2), (9, 3), (9, 4), (9, 5), (9, 6), (9, 7), (9, 8), (9, 9), (9, 10), (9, 11), (11, 0), (11, 1), (11, 2), (11, 3), (11, 4), (11, 5), (11, 6), (11, 7), (11, 8), (10, 0), (10, 1), (10, 2), (10, 3), (10, 4), (10, 5), (10, 6)] rfl gw_X11_mostNow
set_option maxRecDepth 20000 in
theorem gX11_cheapest_X11_mostNow : GoodIn wsX11_cheapest (wsV RX11 169 RX11 yX11_mostNow wsX11_mostNow) := goodIn_app (gdp_In _ pcs_X11_cheapest pc_X11_cheapest [(1, 12), (1, 13), (1, 14), (1, 15)] rfl (gw_V _ _ _ _)) ggX11_cheapest_X11_mostNow
set_option maxRecDepth 20000 in
theorem ggX11_cheapest_X10_pay : GoodIn wsX11_cheapest wsX10_pay := gdp_In _ pcs_X11_cheapest pc_X11_cheapest [(5, 8), (5, 9), (5, 10), (5, 11), (5, 12), (5, 13), (5, 7), (5, 14), (5, 15), (5, 16), (5, 17), (5, 18), (5, 19), (5, 20), (5, 21), (5, 22), (5, 23), (6, 0), (6, 1), (4, 21), (4, 22), (4, 23), (6, 2), (2, 11), (2, 12), (2, 13), (6, 3), (6, 4), (6, 5), (6, 6), (6, 7), (6, 8), (6, 9), (6, 10), (6, 11), (6, 12), (2, 23), (6, 13), (6, 14), (6, 15), (6, 16), (6, 17), (6, 18), (6, 19), (6, 20), (6, 21), (6, 22), (6, 23), (2, 15), (2, 16), (1, 5), (2, 17), (2, 18), (7, 0), (7, 1), (7, 2), (7, 3), (7, 4), (7, 5), (7, 6), (7, 7), (7, 8), (7, 9), (7, 10), (7, 11), (7, 12), (7, 13), (7, 14), (7, 15), (7, 16), (7, 17), (7, 18), (7, 19), (7, 20), (7, 21), (7, 22), (7, 23), (8, 0), (8, 1), (12, 0), (12, 1), (12, 2), (12, 3), (12, 4), (11, 0), (11, 1), (11, 2), (11, 3), (11, 4), (11, 5), (11, 6), (11, 7), (11, 8), (10, 0), (10, 1), (10, 2), (10, 3), (10, 4), (10, 5), (10, 6)] rfl gw_X10_pay
set_option maxRecDepth 20000 in
theorem gX11_cheapest_X10_pay : GoodIn wsX11_cheapest (wsV RX11 201 RX10 yX10_pay wsX10_pay) := goodIn_app (gdp_In _ pcs_X11_cheapest pc_X11_cheapest [(5, 4), (5, 5), (5, 6), (5, 7)] rfl (gw_V _ _ _ _)) ggX11_cheapest_X10_pay
set_option maxRecDepth 20000 in
theorem ggX11_tree_X3_isWhole : GoodIn wsX11_tree wsX3_isWhole := gdp_In _ pcs_X11_tree pc_X11_tree [(1, 8), (1, 9), (1, 10), (1, 11), (1, 12), (1, 13), (1, 14), (1, 7), (1, 15), (1, 16), (8, 0), (8, 1), (8, 2), (8, 3), (8, 4), (8, 5), (8, 6)] rfl gw_X3_isWhole
set_option maxRecDepth 20000 in
theorem gX11_tree_X3_isWhole : GoodIn wsX11_tree (wsV RX11 204 RX3 yX3_isWhole wsX3_isWhole) := goodIn_app (gdp_In _ pcs_X11_tree pc_X11_tree [(1, 4), (1, 5), (1, 6), (1, 7)] rfl (gw_V _ _ _ _)) ggX11_tree_X3_isWhole
set_option maxRecDepth 20000 in
theorem ggX11_tree_X3_hasPlace : GoodIn wsX11_tree wsX3_hasPlace := gdp_In _ pcs_X11_tree pc_X11_tree [(1, 20), (1, 11), (8, 0), (8, 1), (8, 2), (8, 3), (8, 4), (8, 5), (8, 6)] rfl gw_X3_hasPlace
set_option maxRecDepth 20000 in
theorem gX11_tree_X3_hasPlace : GoodIn wsX11_tree (wsV RX11 208 RX3 yX3_hasPlace wsX3_hasPlace) := goodIn_app (gdp_In _ pcs_X11_tree pc_X11_tree [(1, 17), (1, 18), (1, 19), (1, 7)] rfl (gw_V _ _ _ _)) ggX11_tree_X3_hasPlace
set_option maxRecDepth 20000 in
theorem ggX11_tree_X1_grow : GoodIn wsX11_tree wsX1_grow := gdp_In _ pcs_X11_tree pc_X11_tree [(2, 1), (2, 2), (2, 3), (2, 4), (2, 5), (2, 6), (2, 7), (2, 8), (2, 9), (2, 10), (2, 11), (2, 12), (2, 13), (2, 14), (2, 15), (2, 16), (2, 17), (2, 18), (2, 19), (2, 20), (2, 21), (2, 22), (2, 23), (3, 0), (3, 1), (3, 2), (3, 3), (1, 13), (1, 14), (1, 7), (1, 15), (1, 16), (3, 4), (3, 5), (3, 6), (3, 7), (3, 8), (3, 9), (3, 10), (3, 11), (3, 12), (3, 13), (3, 14), (3, 15), (3, 16), (3, 17), (3, 18), (3, 19), (3, 20), (3, 21), (3, 22), (3, 23), (4, 0), (4, 1), (4, 2), (4, 3), (4, 4), (4, 5), (4, 6), (4, 7), (2, 0), (4, 8), (4, 9), (4, 10), (4, 11), (4, 12), (4, 13), (4, 14), (4, 15), (4, 16), (4, 17), (4, 18), (4, 19), (4, 20), (4, 21), (4, 22), (4, 23), (5, 0), (5, 1), (5, 2), (5, 3), (5, 4), (5, 5), (5, 6), (5, 7), (5, 8), (5, 9), (5, 10), (5, 11), (5, 12), (5, 13), (5, 14), (5, 15), (5, 16), (5, 17), (5, 18), (5, 19), (5, 20), (5, 21), (7, 0), (7, 1), (7, 2), (9, 0), (9, 1), (9, 2), (9, 3), (9, 4), (9, 5), (9, 6), (9, 7), (9, 8), (8, 0), (8, 1), (8, 2), (8, 3), (8, 4), (8, 5), (8, 6)] rfl gw_X1_grow
set_option maxRecDepth 20000 in
theorem gX11_tree_X1_grow : GoodIn wsX11_tree (wsV RX11 212 RX1 yX1_grow wsX1_grow) := goodIn_app (gdp_In _ pcs_X11_tree pc_X11_tree [(1, 21), (1, 22), (1, 23), (2, 0)] rfl (gw_V _ _ _ _)) ggX11_tree_X1_grow
set_option maxRecDepth 20000 in
theorem ggX11_between_X3_isWhole : GoodIn wsX11_between wsX3_isWhole := gdp_In _ pcs_X11_between pc_X11_between [(1, 6), (1, 7), (1, 8), (1, 9), (1, 10), (1, 11), (1, 12), (1, 5), (1, 13), (1, 14), (8, 0), (8, 1), (8, 2), (8, 3), (8, 4), (8, 5), (8, 6)] rfl gw_X3_isWhole
set_option maxRecDepth 20000 in
theorem gX11_between_X3_isWhole : GoodIn wsX11_between (wsV RX11 204 RX3 yX3_isWhole wsX3_isWhole) := goodIn_app (gdp_In _ pcs_X11_between pc_X11_between [(1, 2), (1, 3), (1, 4), (1, 5)] rfl (gw_V _ _ _ _)) ggX11_between_X3_isWhole
set_option maxRecDepth 20000 in
theorem ggX11_between_X3_hasPair : GoodIn wsX11_between wsX3_hasPair := gdp_In _ pcs_X11_between pc_X11_between [(1, 18), (1, 19), (1, 20), (1, 21), (1, 5), (1, 22), (1, 9), (8, 0), (8, 1), (8, 2), (8, 3), (8, 4), (8, 5), (8, 6)] rfl gw_X3_hasPair
set_option maxRecDepth 20000 in
theorem gX11_between_X3_hasPair : GoodIn wsX11_between (wsV RX11 135 RX3 yX3_hasPair wsX3_hasPair) := goodIn_app (gdp_In _ pcs_X11_between pc_X11_between [(1, 15), (1, 16), (1, 17), (1, 5)] rfl (gw_V _ _ _ _)) ggX11_between_X3_hasPair
set_option maxRecDepth 20000 in
theorem ggX11_between_X1_grow : GoodIn wsX11_between wsX1_grow := gdp_In _ pcs_X11_between pc_X11_between [(2, 3), (2, 4), (2, 5), (2, 6), (2, 7), (2, 8), (2, 9), (2, 10), (2, 11), (2, 12), (2, 13), (2, 14), (2, 15), (2, 16), (2, 17), (2, 18), (2, 19), (2, 20), (2, 21), (2, 22), (2, 23), (3, 0), (3, 1), (3, 2), (3, 3), (3, 4), (3, 5), (1, 11), (1, 12), (1, 5), (1, 13), (1, 14), (3, 6), (3, 7), (3, 8), (3, 9), (3, 10), (3, 11), (3, 12), (3, 13), (3, 14), (3, 15), (3, 16), (3, 17), (3, 18), (3, 19), (3, 20), (3, 21), (3, 22), (3, 23), (4, 0), (4, 1), (4, 2), (4, 3), (4, 4), (4, 5), (4, 6), (4, 7), (4, 8), (4, 9), (2, 2), (4, 10), (4, 11), (4, 12), (4, 13), (4, 14), (4, 15), (4, 16), (4, 17), (4, 18), (4, 19), (4, 20), (4, 21), (4, 22), (4, 23), (5, 0), (5, 1), (5, 2), (5, 3), (5, 4), (5, 5), (5, 6), (5, 7), (5, 8), (5, 9), (5, 10), (5, 11), (5, 12), (5, 13), (5, 14), (5, 15), (5, 16), (5, 17), (5, 18), (5, 19), (5, 20), (5, 21), (5, 22), (5, 23), (9, 0), (9, 1), (9, 2), (10, 0), (10, 1), (10, 2), (10, 3), (10, 4), (10, 5), (10, 6), (10, 7), (10, 8), (8, 0), (8, 1), (8, 2), (8, 3), (8, 4), (8, 5), (8, 6)] rfl gw_X1_grow
set_option maxRecDepth 20000 in
theorem gX11_between_X1_grow : GoodIn wsX11_between (wsV RX11 212 RX1 yX1_grow wsX1_grow) := goodIn_app (gdp_In _ pcs_X11_between pc_X11_between [(1, 23), (2, 0), (2, 1), (2, 2)] rfl (gw_V _ _ _ _)) ggX11_between_X1_grow
set_option maxRecDepth 20000 in
theorem ggX11_between_X1_leastOnWay : GoodIn wsX11_between wsX1_leastOnWay := gdp_In _ pcs_X11_between pc_X11_between [(6, 3), (6, 4), (2, 6), (6, 5), (5, 13), (5, 14), (5, 15), (2, 5), (6, 6), (6, 7), (6, 8), (2, 2), (6, 9), (9, 0), (9, 1), (9, 2)] rfl gw_X1_leastOnWay
set_option maxRecDepth 20000 in
theorem gX11_between_X1_leastOnWay : GoodIn wsX11_between (wsV RX11 221 RX1 yX1_leastOnWay wsX1_leastOnWay) := goodIn_app (gdp_In _ pcs_X11_between pc_X11_between [(6, 0), (6, 1), (6, 2), (2, 2)] rfl (gw_V _ _ _ _)) ggX11_between_X1_leastOnWay
set_option maxRecDepth 20000 in
theorem ggX11_least_X3_isWhole : GoodIn wsX11_least wsX3_isWhole := gdp_In _ pcs_X11_least pc_X11_least [(1, 6), (1, 7), (1, 8), (1, 9), (1, 10), (1, 11), (1, 12), (1, 5), (1, 13), (1, 14), (7, 0), (7, 1), (7, 2), (7, 3), (7, 4), (7, 5), (7, 6)] rfl gw_X3_isWhole
set_option maxRecDepth 20000 in
theorem gX11_least_X3_isWhole : GoodIn wsX11_least (wsV RX11 204 RX3 yX3_isWhole wsX3_isWhole) := goodIn_app (gdp_In _ pcs_X11_least pc_X11_least [(1, 2), (1, 3), (1, 4), (1, 5)] rfl (gw_V _ _ _ _)) ggX11_least_X3_isWhole
set_option maxRecDepth 20000 in
theorem ggX11_least_X1_grow : GoodIn wsX11_least wsX1_grow := gdp_In _ pcs_X11_least pc_X11_least [(1, 19), (1, 20), (1, 21), (1, 22), (1, 23), (2, 0), (2, 1), (2, 2), (2, 3), (2, 4), (2, 5), (2, 6), (2, 7), (2, 8), (2, 9), (2, 10), (2, 11), (2, 12), (2, 13), (2, 14), (2, 15), (2, 16), (2, 17), (2, 18), (2, 19), (2, 20), (2, 21), (1, 11), (1, 12), (1, 5), (1, 13), (1, 14), (2, 22), (2, 23), (3, 0), (3, 1), (3, 2), (3, 3), (3, 4), (3, 5), (3, 6), (3, 7), (3, 8), (3, 9), (3, 10), (3, 11), (3, 12), (3, 13), (3, 14), (3, 15), (3, 16), (3, 17), (3, 18), (3, 19), (3, 20), (3, 21), (3, 22), (3, 23), (4, 0), (4, 1), (1, 18), (4, 2), (4, 3), (4, 4), (4, 5), (4, 6), (4, 7), (4, 8), (4, 9), (4, 10), (4, 11), (4, 12), (4, 13), (4, 14), (4, 15), (4, 16), (4, 17), (4, 18), (4, 19), (4, 20), (4, 21), (4, 22), (4, 23), (5, 0), (5, 1), (5, 2), (5, 3), (5, 4), (5, 5), (5, 6), (5, 7), (5, 8), (5, 9), (5, 10), (5, 11), (5, 12), (5, 13), (5, 14), (5, 15), (8, 0), (8, 1), (8, 2), (9, 0), (9, 1), (9, 2), (9, 3), (9, 4), (9, 5), (9, 6), (9, 7), (9, 8), (7, 0), (7, 1), (7, 2), (7, 3), (7, 4), (7, 5), (7, 6)] rfl gw_X1_grow
set_option maxRecDepth 20000 in
theorem gX11_least_X1_grow : GoodIn wsX11_least (wsV RX11 212 RX1 yX1_grow wsX1_grow) := goodIn_app (gdp_In _ pcs_X11_least pc_X11_least [(1, 15), (1, 16), (1, 17), (1, 18)] rfl (gw_V _ _ _ _)) ggX11_least_X1_grow
set_option maxRecDepth 20000 in
theorem ggX11_least_X1_leastNumber : GoodIn wsX11_least wsX1_leastNumber := gdp_In _ pcs_X11_least pc_X11_least [(5, 19), (5, 20), (1, 20), (1, 23), (2, 0), (1, 22), (5, 21), (5, 5), (5, 6), (5, 7), (8, 0), (8, 1), (8, 2), (9, 0), (9, 1), (9, 2), (9, 3), (9, 4), (9, 5), (9, 6), (9, 7), (9, 8), (7, 0), (7, 1), (7, 2), (7, 3), (7, 4), (7, 5), (7, 6)] rfl gw_X1_leastNumber
set_option maxRecDepth 20000 in
theorem gX11_least_X1_leastNumber : GoodIn wsX11_least (wsV RX11 224 RX1 yX1_leastNumber wsX1_leastNumber) := goodIn_app (gdp_In _ pcs_X11_least pc_X11_least [(5, 16), (5, 17), (5, 18), (1, 18)] rfl (gw_V _ _ _ _)) ggX11_least_X1_leastNumber
set_option maxRecDepth 20000 in
theorem ggX11_cuts_X3_isWhole : GoodIn wsX11_cuts wsX3_isWhole := gdp_In _ pcs_X11_cuts pc_X11_cuts [(1, 7), (1, 8), (1, 9), (1, 10), (1, 11), (1, 12), (1, 13), (1, 6), (1, 14), (1, 15), (9, 0), (9, 1), (9, 2), (9, 3), (9, 4), (9, 5), (9, 6)] rfl gw_X3_isWhole
end
