set_option maxHeartbeats 4000000 in
set_option maxRecDepth 100000 in
theorem c_X12_no (l : Launch) (D : va_G) (cy : Nat → ClassId) (sz : Nat) (mo : Nat) (g5 : Nat) (g6 : Nat) (g7 : Nat) (g8 : Nat) (g9 : Nat) (g10 : Nat) (g12 : Nat) (g13 : Nat) (g14 : Nat) (g15 : Nat) (g16 : Nat) (g17 : Nat) (g18 : Nat) (g19 : Nat) (g20 : Nat) (g22 : Nat) (g23 : Nat) (g24 : Nat) (g29 : Nat) (g30 : Nat) (g31 : Nat) (g32 : Nat) (g33 : Nat) (s0 : Int32) (s1 : Int32) (s3 : Int32) (s4 : Int32) (s11 : Int32) (s21 : Int32) (s25 : Int32) (s26 : Int32) (s27 : Int32) (s28 : Int32) (t2 : Int64) (a1 : Int32) : Met l yX12_no wsX12_no ({ frames := 0, cells := 0, slots := 0, locals := 0 }) (va_Pc [.ref mo, .int a1] (fun U => U.heap.size = sz ∧ va_P D vwCl [(mo, .inr (12, [.int s0, .int s1, .long t2, .int s3, .int s4, .ref g5, .ref g6, .ref g7, .ref g8, .ref g9, .ref g10, .int s11, .ref g12, .ref g13, .ref g14, .ref g15, .ref g16, .ref g17, .ref g18, .ref g19, .ref g20, .int s21, .ref g22, .ref g23, .ref g24, .int s25, .int s26, .int s27, .int s28, .ref g29, .ref g30, .ref g31, .ref g32, .ref g33]))] U.heap ∧ kk_ D cy U ∧ va_D (fun _ => True) [(mo, .inr (12, [.int s0, .int s1, .long t2, .int s3, .int s4, .ref g5, .ref g6, .ref g7, .ref g8, .ref g9, .ref g10, .int s11, .ref g12, .ref g13, .ref g14, .ref g15, .ref g16, .ref g17, .ref g18, .ref g19, .ref g20, .int s21, .ref g22, .ref g23, .ref g24, .int s25, .int s26, .int s27, .int s28, .ref g29, .ref g30, .ref g31, .ref g32, .ref g33]))])) (va_Qi (fun (r : Int32) (_ : Unit) => r = a1) (fun (_ : Unit) (t : State) => ∃ (n1 : Int32), va_P D vwCl [(mo, .inr (12, [.int s0, .int n1, .long t2, .int s3, .int s4, .ref g5, .ref g6, .ref g7, .ref g8, .ref g9, .ref g10, .int s11, .ref g12, .ref g13, .ref g14, .ref g15, .ref g16, .ref g17, .ref g18, .ref g19, .ref g20, .int s21, .ref g22, .ref g23, .ref g24, .int s25, .int s26, .int s27, .int s28, .ref g29, .ref g30, .ref g31, .ref g32, .ref g33]))] t.heap ∧ va_D (va_A [(mo, .inr (12, [.int s0, .int s1, .long t2, .int s3, .int s4, .ref g5, .ref g6, .ref g7, .ref g8, .ref g9, .ref g10, .int s11, .ref g12, .ref g13, .ref g14, .ref g15, .ref g16, .ref g17, .ref g18, .ref g19, .ref g20, .int s21, .ref g22, .ref g23, .ref g24, .int s25, .int s26, .int s27, .int s28, .ref g29, .ref g30, .ref g31, .ref g32, .ref g33]))] sz) [(mo, .inr (12, [.int s0, .int n1, .long t2, .int s3, .int s4, .ref g5, .ref g6, .ref g7, .ref g8, .ref g9, .ref g10, .int s11, .ref g12, .ref g13, .ref g14, .ref g15, .ref g16, .ref g17, .ref g18, .ref g19, .ref g20, .int s21, .ref g22, .ref g23, .ref g24, .int s25, .int s26, .int s27, .int s28, .ref g29, .ref g30, .ref g31, .ref g32, .ref g33]))]) (va_A [(mo, .inr (12, [.int s0, .int s1, .long t2, .int s3, .int s4, .ref g5, .ref g6, .ref g7, .ref g8, .ref g9, .ref g10, .int s11, .ref g12, .ref g13, .ref g14, .ref g15, .ref g16, .ref g17, .ref g18, .ref g19, .ref g20, .int s21, .ref g22, .ref g23, .ref g24, .int s25, .int s26, .int s27, .int s28, .ref g29, .ref g30, .ref g31, .ref g32, .ref g33]))] sz)) 0 0 (va_A [(mo, .inr (12, [.int s0, .int s1, .long t2, .int s3, .int s4, .ref g5, .ref g6, .ref g7, .ref g8, .ref g9, .ref g10, .int s11, .ref g12, .ref g13, .ref g14, .ref g15, .ref g16, .ref g17, .ref g18, .ref g19, .ref g20, .int s21, .ref g22, .ref g23, .ref g24, .int s25, .int s26, .int s27, .int s28, .ref g29, .ref g30, .ref g31, .ref g32, .ref g33]))] sz) := by
  refine ofQ (cc := cX12_no) (maxL := 2) (ret := (some .int)) (by decide) rfl ?_
  intro p e s m args below meth c s₁ Q hQ B hml hv
  obtain ⟨rfl, hsz, hP, hK, hD0⟩ := hv
  have hx := B.exec
  have hb := B.bytes
  have hr := B.returns
  have hts := atoms_spec (ws := wsX12_no) B.pre
  have hown : s.vm.findClass RX12 = some m.cls := findClass_of_methodNamed B.named
  have hlocks := B.notSynchronized
  subst hsz
  have hD := hD0.self (sz := s.heap.size)
  generalize hAe : va_A [(mo, .inr (12, [.int s0, .int s1, .long t2, .int s3, .int s4, .ref g5, .ref g6, .ref g7, .ref g8, .ref g9, .ref g10, .int s11, .ref g12, .ref g13, .ref g14, .ref g15, .ref g16, .ref g17, .ref g18, .ref g19, .ref g20, .int s21, .ref g22, .ref g23, .ref g24, .int s25, .int s26, .int s27, .int s28, .ref g29, .ref g30, .ref g31, .ref g32, .ref g33]))] s.heap.size = A at hD hQ
  have hA : ∀ q : Nat, s.heap.size ≤ q → A q := fun q h => by rw [← hAe]; exact Or.inr h
  have hS : va_S A s.heap s.heap [] := va_S.rf
  have hl := lv_entry ([.ref mo, .int a1]) (n := 2) (Nat.le_of_ble_eq_true rfl)
  rw [lg_entry_eq]
  generalize (lg_sl ([.ref mo, .int a1]) ++ List.replicate (2 - (lg_sl ([.ref mo, .int a1])).length) Slot.unset).toArray = ls at hl ⊢
  have hl : lv_has ls 2 [(0, .ref mo), (1, .int a1)] := hl
  refine lv_aload_n hx hb dX12_no_0 rfl (lv_at hl 0 rfl) ?_
  refine lv_iload_n hx hb dX12_no_1 rfl (lv_at hl 1 rfl) ?_
  refine va_put (ci := 12) (v := .int a1) (ty := .int) (C := RX12) (T := TX12) (N := 34) hx hb hts (fun _ h => List.mem_cons_of_mem _ (List.mem_append_right _ h)) tyX12 tyX12_ok nmX12 hown hK.1 hP hD hS 0 rfl rfl 1 (by decide) (hts (.fieldLink RX12 240 "CutAtlasModel" "status" "I") (by decide +kernel)) (fun _ h9 => h9) rfl (by decide +kernel) rfl rfl (Nat.le_of_ble_eq_true rfl) dX12_no_2 (fun H locs hP hD hS => ?_)
  have hP : va_P D vwCl [(mo, .inr (12, [.int s0, .int a1, .long t2, .int s3, .int s4, .ref g5, .ref g6, .ref g7, .ref g8, .ref g9, .ref g10, .int s11, .ref g12, .ref g13, .ref g14, .ref g15, .ref g16, .ref g17, .ref g18, .ref g19, .ref g20, .int s21, .ref g22, .ref g23, .ref g24, .int s25, .int s26, .int s27, .int s28, .ref g29, .ref g30, .ref g31, .ref g32, .ref g33]))] H := hP
  have hD : va_D A [(mo, .inr (12, [.int s0, .int a1, .long t2, .int s3, .int s4, .ref g5, .ref g6, .ref g7, .ref g8, .ref g9, .ref g10, .int s11, .ref g12, .ref g13, .ref g14, .ref g15, .ref g16, .ref g17, .ref g18, .ref g19, .ref g20, .int s21, .ref g22, .ref g23, .ref g24, .int s25, .int s26, .int s27, .int s28, .ref g29, .ref g30, .ref g31, .ref g32, .ref g33]))] := hD
  refine lv_iload_n hx hb dX12_no_5 rfl (lv_at hl 1 rfl) ?_
  have hP9 := hP.sub (ws' := [(mo, .inr (12, [.int s0, .int a1, .long t2, .int s3, .int s4, .ref g5, .ref g6, .ref g7, .ref g8, .ref g9, .ref g10, .int s11, .ref g12, .ref g13, .ref g14, .ref g15, .ref g16, .ref g17, .ref g18, .ref g19, .ref g20, .int s21, .ref g22, .ref g23, .ref g24, .int s25, .int s26, .int s27, .int s28, .ref g29, .ref g30, .ref g31, .ref g32, .ref g33]))]) [0] rfl
  have hD9 := hD.sub (ws' := [(mo, .inr (12, [.int s0, .int a1, .long t2, .int s3, .int s4, .ref g5, .ref g6, .ref g7, .ref g8, .ref g9, .ref g10, .int s11, .ref g12, .ref g13, .ref g14, .ref g15, .ref g16, .ref g17, .ref g18, .ref g19, .ref g20, .int s21, .ref g22, .ref g23, .ref g24, .int s25, .int s26, .int s27, .int s28, .ref g29, .ref g30, .ref g31, .ref g32, .ref g33]))]) [0] (by decide) rfl
  subst hQ
  exact W.iret (v := a1) hx hb hr (fun t ht hW => ⟨⟨a1, (), rfl, rfl, a1, by rw [ht]; exact hP9, hD9⟩, hS.F ht⟩) hS.2.2 dX12_no_6

set_option maxHeartbeats 4000000 in
set_option maxRecDepth 100000 in
theorem c_X12_wrong (l : Launch) (D : va_G) (cy : Nat → ClassId) (sz : Nat) (mo : Nat) (g5 : Nat) (g6 : Nat) (g7 : Nat) (g8 : Nat) (g9 : Nat) (g10 : Nat) (g12 : Nat) (g13 : Nat) (g14 : Nat) (g15 : Nat) (g16 : Nat) (g17 : Nat) (g18 : Nat) (g19 : Nat) (g20 : Nat) (g22 : Nat) (g23 : Nat) (g24 : Nat) (g29 : Nat) (g30 : Nat) (g31 : Nat) (g32 : Nat) (g33 : Nat) (s0 : Int32) (s1 : Int32) (s3 : Int32) (s4 : Int32) (s11 : Int32) (s21 : Int32) (s25 : Int32) (s26 : Int32) (s27 : Int32) (s28 : Int32) (t2 : Int64) (f15 : Nat → Int32) (f16 : Nat → Int32) (f17 : Nat → Int32) (f18 : Nat → Int32) (a1 : Int32) (a2 : Int32) (a3 : Int32) (a4 : Int32) (r_f17 : rng f17 4 (0) (6)) (r_f18 : rng f18 24 (-9) (5)) : Met l yX12_wrong wsX12_wrong ({ frames := 1, cells := 0, slots := 0, locals := 25 }) (va_Pc [.ref mo, .int a1, .int a2, .int a3, .int a4] (fun U => U.heap.size = sz ∧ va_P D vwCl [(mo, .inr (12, [.int s0, .int s1, .long t2, .int s3, .int s4, .ref g5, .ref g6, .ref g7, .ref g8, .ref g9, .ref g10, .int s11, .ref g12, .ref g13, .ref g14, .ref g15, .ref g16, .ref g17, .ref g18, .ref g19, .ref g20, .int s21, .ref g22, .ref g23, .ref g24, .int s25, .int s26, .int s27, .int s28, .ref g29, .ref g30, .ref g31, .ref g32, .ref g33])), (g15, .inl (cy 2, 4, .inl f15)), (g16, .inl (cy 0, 4, .inl f16)), (g17, .inl (cy 0, 4, .inl f17)), (g18, .inl (cy 0, 24, .inl f18))] U.heap ∧ kk_ D cy U ∧ va_D (fun _ => True) [(mo, .inr (12, [.int s0, .int s1, .long t2, .int s3, .int s4, .ref g5, .ref g6, .ref g7, .ref g8, .ref g9, .ref g10, .int s11, .ref g12, .ref g13, .ref g14, .ref g15, .ref g16, .ref g17, .ref g18, .ref g19, .ref g20, .int s21, .ref g22, .ref g23, .ref g24, .int s25, .int s26, .int s27, .int s28, .ref g29, .ref g30, .ref g31, .ref g32, .ref g33])), (g15, .inl (cy 2, 4, .inl f15)), (g16, .inl (cy 0, 4, .inl f16)), (g17, .inl (cy 0, 4, .inl f17)), (g18, .inl (cy 0, 24, .inl f18))])) (va_Qi (fun (r : Int32) (_ : Unit) => (r.toInt < 0 ∨ (r.toInt = 0 ∧ ((0 ≤ a1.toInt ∧ a1.toInt < 4) ∧ (0 ≤ a2.toInt ∧ a2.toInt < 3)) ∧ (0 ≤ a3.toInt ∧ a3.toInt ≤ 5) ∧ (0 ≤ a4.toInt ∧ a4.toInt ≤ 4)))) (fun (_ : Unit) (_ : State) => True) (va_A [] sz)) 0 0 (va_A [] sz) := by
  refine ofQ (cc := cX12_wrong) (maxL := 6) (ret := (some .int)) (by decide) rfl ?_
  intro p e s m args below meth c s₁ Q hQ B hml hv
  obtain ⟨rfl, hsz, hP, hK, hD0⟩ := hv
  have hx := B.exec
  have hb := B.bytes
  have hr := B.returns
  have hts := atoms_spec (ws := wsX12_wrong) B.pre
  have hown : s.vm.findClass RX12 = some m.cls := findClass_of_methodNamed B.named
  have hlocks := B.notSynchronized
  subst hsz
  have hD : va_D (va_A [] s.heap.size) [] := dd_nil
  generalize hAe : va_A [] s.heap.size = A at hD hQ
  have hA : ∀ q : Nat, s.heap.size ≤ q → A q := fun q h => by rw [← hAe]; exact Or.inr h
  have hS : va_S A s.heap s.heap [] := va_S.rf
  have hl := lv_entry ([.ref mo, .int a1, .int a2, .int a3, .int a4]) (n := 6) (Nat.le_of_ble_eq_true rfl)
  rw [lg_entry_eq]
  generalize (lg_sl ([.ref mo, .int a1, .int a2, .int a3, .int a4]) ++ List.replicate (6 - (lg_sl ([.ref mo, .int a1, .int a2, .int a3, .int a4])).length) Slot.unset).toArray = ls at hl ⊢
  have hl : lv_has ls 6 [(0, .ref mo), (1, .int a1), (2, .int a2), (3, .int a3), (4, .int a4)] := hl
  have zm13 : ((-13) : Int32).toInt = -13 := by decide
  have zm12 : ((-12) : Int32).toInt = -12 := by decide
  have zm11 : ((-11) : Int32).toInt = -11 := by decide
  have zm9 : ((-9) : Int32).toInt = -9 := by decide
  have zm1 : ((-1) : Int32).toInt = -1 := by decide
  have z0 : (0 : Int32).toInt = 0 := by decide
  have zl0 : (0 : Int64).toInt = 0 := by decide
  have z1 : (1 : Int32).toInt = 1 := by decide
  have zl2 : (2 : Int64).toInt = 2 := by decide
  have zl3 : (3 : Int64).toInt = 3 := by decide
  have z6 : (6 : Int32).toInt = 6 := by decide
  refine lv_iload_n hx hb dX12_wrong_0 rfl (lv_at hl 1 rfl) ?_
  refine lv_i2l (v := a1.toInt64) hx hb dX12_wrong_1 rfl ?_
  have q_1 : (a1.toInt64).toInt = a1.toInt := Int32.toInt_toInt64 a1
  refine lv_lconst (v := 0) hx hb dX12_wrong_2 (by decide) ?_
  refine lv_ldc2 (v := 3) hx hb hown (hts (.constantLong RX12 243 (3)) (by decide +kernel)) dX12_wrong_3 ?_
  have hPc := hP.sub (ws' := []) [] rfl
  have hDw : va_D (fun _ => True) [] := hD0.sub [] (by decide) rfl
  have hFc := va_free (wc := []) hD hS hA [] rfl
  refine va_calli (va_runS (As := [.long a1.toInt64, .long 0, .long 3]) (rest := []) ⟨hx, hb, hml, hown, hts⟩ (c_X12_in l D cy s.heap.size a1.toInt64 (0 : Int64) (3 : Int64)) (va_cwS 3 hts gX12_wrong_X12_in rfl rfl rfl (by decide +kernel) ⟨Nat.le_of_ble_eq_true rfl, Nat.le_of_ble_eq_true rfl⟩) ⟨bl_, fun U hU hW => ⟨rfl, by rw [hU], by rw [hU]; exact hPc, kk_mv hW hK, hDw⟩⟩ rfl rfl hl.1 rfl (lv_room (Nat.le_of_ble_eq_true rfl)) dX12_wrong_6 ⟨Nat.le_of_ble_eq_true rfl, Nat.le_of_ble_eq_true rfl⟩) hS (fun q _ h => hFc q h) hFc (fun r_1 u t H locs ht hvm hw hB hz1 hk1 hS => ?_)
  have hP := ro_keep hP hk1
  have hP : va_P D vwCl [(mo, .inr (12, [.int s0, .int s1, .long t2, .int s3, .int s4, .ref g5, .ref g6, .ref g7, .ref g8, .ref g9, .ref g10, .int s11, .ref g12, .ref g13, .ref g14, .ref g15, .ref g16, .ref g17, .ref g18, .ref g19, .ref g20, .int s21, .ref g22, .ref g23, .ref g24, .int s25, .int s26, .int s27, .int s28, .ref g29, .ref g30, .ref g31, .ref g32, .ref g33])), (g15, .inl (cy 2, 4, .inl f15)), (g16, .inl (cy 0, 4, .inl f16)), (g17, .inl (cy 0, 4, .inl f17)), (g18, .inl (cy 0, 24, .inl f18))] H := hP
  rcases hw with ⟨w_2, e_⟩ | ⟨w_2, e_⟩
  · have e_ := e_.symm
    subst e_
    refine lv_if_eq (tgt := 24) hx hb dX12_wrong_9 (by decide) (fun c_3 => ?_) (fun c_3 => ?_)
    · exact absurd c_3 (by decide)
    · have _ := c_3
      refine lv_iload_n hx hb dX12_wrong_12 rfl (lv_at hl 2 rfl) ?_
      refine lv_i2l (v := a2.toInt64) hx hb dX12_wrong_13 rfl ?_
      have q_13 : (a2.toInt64).toInt = a2.toInt := Int32.toInt_toInt64 a2
      refine lv_lconst (v := 0) hx hb dX12_wrong_14 (by decide) ?_
      refine lv_ldc2 (v := 2) hx hb hown (hts (.constantLong RX12 149 (2)) (by decide +kernel)) dX12_wrong_15 ?_
      have hPc := hP.sub (ws' := []) [] rfl
      have hDw : va_D (fun _ => True) [] := hD0.sub [] (by decide) rfl
      have hFc := va_free (wc := []) hD hS hA [] rfl
      refine va_calli (va_runS (As := [.long a2.toInt64, .long 0, .long 2]) (rest := []) ⟨hx, hb, hml, hown, hts⟩ (c_X12_in l D cy H.size a2.toInt64 (0 : Int64) (2 : Int64)) (va_cwS 3 hts gX12_wrong_X12_in rfl rfl rfl (by decide +kernel) ⟨Nat.le_of_ble_eq_true rfl, Nat.le_of_ble_eq_true rfl⟩) ⟨bl_, fun U hU hW => ⟨rfl, by rw [hU], by rw [hU]; exact hPc, kk_mv hW hK, hDw⟩⟩ rfl rfl hl.1 rfl (lv_room (Nat.le_of_ble_eq_true rfl)) dX12_wrong_18 ⟨Nat.le_of_ble_eq_true rfl, Nat.le_of_ble_eq_true rfl⟩) hS (fun q _ h => hFc q h) hFc (fun r_4 u t H locs ht hvm hw hB hz1 hk1 hS => ?_)
      have hP := ro_keep hP hk1
      have hP : va_P D vwCl [(mo, .inr (12, [.int s0, .int s1, .long t2, .int s3, .int s4, .ref g5, .ref g6, .ref g7, .ref g8, .ref g9, .ref g10, .int s11, .ref g12, .ref g13, .ref g14, .ref g15, .ref g16, .ref g17, .ref g18, .ref g19, .ref g20, .int s21, .ref g22, .ref g23, .ref g24, .int s25, .int s26, .int s27, .int s28, .ref g29, .ref g30, .ref g31, .ref g32, .ref g33])), (g15, .inl (cy 2, 4, .inl f15)), (g16, .inl (cy 0, 4, .inl f16)), (g17, .inl (cy 0, 4, .inl f17)), (g18, .inl (cy 0, 24, .inl f18))] H := hP
      rcases hw with ⟨w_5, e_⟩ | ⟨w_5, e_⟩
      · have e_ := e_.symm
        subst e_
        refine lv_if_ne (tgt := 26) hx hb dX12_wrong_21 (by decide) (fun c_6 => ?_) (fun c_6 => ?_)
        · have _ := c_6
          refine lv_aload_n hx hb dX12_wrong_26 rfl (lv_at hl 0 rfl) ?_
          refine va_get (ci := 12) (v := .ref g15) (C := RX12) (T := TX12) (N := 34) hx hb hts (fun _ h => List.mem_cons_of_mem _ (List.mem_append_right _ h)) hown hK.1 hP 0 rfl rfl 15 (by decide) (hts (.fieldLink RX12 38 "CutAtlasModel" "hasMap" "[Z") (by decide +kernel)) (fun _ h9 => h9) rfl dX12_wrong_27 ?_
          refine lv_iload_n hx hb dX12_wrong_30 rfl (lv_at hl 1 rfl) ?_
          have h_7 : vp_in a1 4 := in_I (by omega) (by omega)
          refine va_zald hx hb hK.1 hP 1 2 rfl rfl (i := a1) h_7 dX12_wrong_31 ?_
          refine lv_topi (fun y_8 ey_8 => ?_)
          refine lv_if_ne (tgt := 38) hx hb dX12_wrong_32 (by decide) (fun c_9 => ?_) (fun c_9 => ?_)
          · have t_9 : ¬ y_8.toInt = (0 : Int32).toInt := fun h => c_9 (Int32.toInt_inj.mp h)
            refine lv_aload_n hx hb dX12_wrong_38 rfl (lv_at hl 0 rfl) ?_
            refine va_get (ci := 12) (v := .ref g16) (C := RX12) (T := TX12) (N := 34) hx hb hts (fun _ h => List.mem_cons_of_mem _ (List.mem_append_right _ h)) hown hK.1 hP 0 rfl rfl 16 (by decide) (hts (.fieldLink RX12 41 "CutAtlasModel" "mapKind" "[I") (by decide +kernel)) (fun _ h9 => h9) rfl dX12_wrong_39 ?_
            refine lv_iload_n hx hb dX12_wrong_42 rfl (lv_at hl 1 rfl) ?_
            have h_10 : vp_in a1 4 := in_I (by omega) (by omega)
            refine va_iald hx hb hK.1 hP 2 0 rfl rfl (i := a1) h_10 dX12_wrong_43 ?_
            refine lv_topi (fun y_11 ey_11 => ?_)
            refine lv_iload_n hx hb dX12_wrong_44 rfl (lv_at hl 2 rfl) ?_
            refine lv_icmp_eq (tgt := 51) hx hb dX12_wrong_45 (by decide) (fun c_12 => ?_) (fun c_12 => ?_)
            · have t_12 : y_11.toInt = a2.toInt := congrArg Int32.toInt c_12
              refine lv_iload_n hx hb dX12_wrong_51 rfl (lv_at hl 3 rfl) ?_
              refine lv_i2l (v := a3.toInt64) hx hb dX12_wrong_52 rfl ?_
              have q_52 : (a3.toInt64).toInt = a3.toInt := Int32.toInt_toInt64 a3
              refine lv_lconst (v := 0) hx hb dX12_wrong_53 (by decide) ?_
              refine lv_aload_n hx hb dX12_wrong_54 rfl (lv_at hl 0 rfl) ?_
              refine va_get (ci := 12) (v := .ref g17) (C := RX12) (T := TX12) (N := 34) hx hb hts (fun _ h => List.mem_cons_of_mem _ (List.mem_append_right _ h)) hown hK.1 hP 0 rfl rfl 17 (by decide) (hts (.fieldLink RX12 44 "CutAtlasModel" "mapRows" "[I") (by decide +kernel)) (fun _ h9 => h9) rfl dX12_wrong_55 ?_
              refine lv_iload_n hx hb dX12_wrong_58 rfl (lv_at hl 1 rfl) ?_
              have h_13 : vp_in a1 4 := in_I (by omega) (by omega)
              refine va_iald hx hb hK.1 hP 3 0 rfl rfl (i := a1) h_13 dX12_wrong_59 ?_
              refine lv_topi (fun y_14 ey_14 => ?_)
              have ry_14 : 0 ≤ y_14.toInt ∧ y_14.toInt ≤ 6 := by rw [ey_14]; exact r_f17 _ (in_lt h_13)
              refine lv_iconst (v := 1) hx hb dX12_wrong_60 (by decide) ?_
              refine lv_isub hx hb dX12_wrong_61 ?_
              refine lv_topi (fun y_15 ey_15 => ?_)
              have ty_15 : y_15.toInt = y_14.toInt - (1 : Int32).toInt := by rw [ey_15]; exact subI (by omega) (by omega)
              refine lv_i2l (v := y_15.toInt64) hx hb dX12_wrong_62 rfl ?_
              have q_62 : (y_15.toInt64).toInt = y_15.toInt := Int32.toInt_toInt64 y_15
              have hPc := hP.sub (ws' := []) [] rfl
              have hDw : va_D (fun _ => True) [] := hD0.sub [] (by decide) rfl
              have hFc := va_free (wc := []) hD hS hA [] rfl
              refine va_calli (va_runS (As := [.long a3.toInt64, .long 0, .long y_15.toInt64]) (rest := []) ⟨hx, hb, hml, hown, hts⟩ (c_X12_in l D cy H.size a3.toInt64 (0 : Int64) y_15.toInt64) (va_cwS 3 hts gX12_wrong_X12_in rfl rfl rfl (by decide +kernel) ⟨Nat.le_of_ble_eq_true rfl, Nat.le_of_ble_eq_true rfl⟩) ⟨bl_, fun U hU hW => ⟨rfl, by rw [hU], by rw [hU]; exact hPc, kk_mv hW hK, hDw⟩⟩ rfl rfl hl.1 rfl (lv_room (Nat.le_of_ble_eq_true rfl)) dX12_wrong_63 ⟨Nat.le_of_ble_eq_true rfl, Nat.le_of_ble_eq_true rfl⟩) hS (fun q _ h => hFc q h) hFc (fun r_16 u t H locs ht hvm hw hB hz1 hk1 hS => ?_)
              have hP := ro_keep hP hk1
              have hP : va_P D vwCl [(mo, .inr (12, [.int s0, .int s1, .long t2, .int s3, .int s4, .ref g5, .ref g6, .ref g7, .ref g8, .ref g9, .ref g10, .int s11, .ref g12, .ref g13, .ref g14, .ref g15, .ref g16, .ref g17, .ref g18, .ref g19, .ref g20, .int s21, .ref g22, .ref g23, .ref g24, .int s25, .int s26, .int s27, .int s28, .ref g29, .ref g30, .ref g31, .ref g32, .ref g33])), (g15, .inl (cy 2, 4, .inl f15)), (g16, .inl (cy 0, 4, .inl f16)), (g17, .inl (cy 0, 4, .inl f17)), (g18, .inl (cy 0, 24, .inl f18))] H := hP
              rcases hw with ⟨w_17, e_⟩ | ⟨w_17, e_⟩
              · have e_ := e_.symm
                subst e_
                refine lv_if_ne (tgt := 72) hx hb dX12_wrong_66 (by decide) (fun c_18 => ?_) (fun c_18 => ?_)
                · have _ := c_18
                  refine lv_aload_n hx hb dX12_wrong_72 rfl (lv_at hl 0 rfl) ?_
                  refine va_get (ci := 12) (v := .ref g18) (C := RX12) (T := TX12) (N := 34) hx hb hts (fun _ h => List.mem_cons_of_mem _ (List.mem_append_right _ h)) hown hK.1 hP 0 rfl rfl 18 (by decide) (hts (.fieldLink RX12 47 "CutAtlasModel" "rowSize" "[I") (by decide +kernel)) (fun _ h9 => h9) rfl dX12_wrong_73 ?_
                  refine lv_bipush (v := 6) hx hb dX12_wrong_76 (by decide) ?_
                  refine lv_iload_n hx hb dX12_wrong_78 rfl (lv_at hl 1 rfl) ?_
                  refine lv_imul hx hb dX12_wrong_79 ?_
                  refine lv_topi (fun y_19 ey_19 => ?_)
                  have ty_19 : y_19.toInt = 6 * a1.toInt := by rw [ey_19]; exact mulC (by decide) (by omega) (by omega)
                  refine lv_iload_n hx hb dX12_wrong_80 rfl (lv_at hl 3 rfl) ?_
                  refine lv_iadd hx hb dX12_wrong_81 ?_
                  refine lv_topi (fun y_20 ey_20 => ?_)
                  have ty_20 : y_20.toInt = y_19.toInt + a3.toInt := by rw [ey_20]; exact addI (by omega) (by omega)
                  have h_21 : vp_in y_20 24 := in_I (by omega) (by omega)
                  refine va_iald hx hb hK.1 hP 4 0 rfl rfl (i := y_20) h_21 dX12_wrong_82 ?_
                  refine lv_topi (fun y_22 ey_22 => ?_)
                  have ry_22 : -9 ≤ y_22.toInt ∧ y_22.toInt ≤ 5 := by rw [ey_22]; exact r_f18 _ (in_lt h_21)
                  refine lv_istore (lv' := [(5, .int y_22), (0, .ref mo), (1, .int a1), (2, .int a2), (3, .int a3), (4, .int a4)]) hx hb dX12_wrong_83 hl (by decide) rfl (fun ls hl => ?_)
                  refine lv_iload hx hb dX12_wrong_85 (lv_at hl 0 rfl) ?_
                  refine lv_bipush (v := (-9)) hx hb dX12_wrong_87 (by decide) ?_
                  refine lv_icmp_ne (tgt := 97) hx hb dX12_wrong_89 (by decide) (fun c_23 => ?_) (fun c_23 => ?_)
                  · have t_23 : ¬ y_22.toInt = ((-9) : Int32).toInt := fun h => c_23 (Int32.toInt_inj.mp h)
                    refine lv_iload hx hb dX12_wrong_97 (lv_at hl 5 rfl) ?_
                    refine lv_i2l (v := a4.toInt64) hx hb dX12_wrong_99 rfl ?_
                    have q_99 : (a4.toInt64).toInt = a4.toInt := Int32.toInt_toInt64 a4
                    refine lv_lconst (v := 0) hx hb dX12_wrong_100 (by decide) ?_
                    refine lv_iload hx hb dX12_wrong_101 (lv_at hl 0 rfl) ?_
                    refine lv_iconst (v := 1) hx hb dX12_wrong_103 (by decide) ?_
                    refine lv_isub hx hb dX12_wrong_104 ?_
                    refine lv_topi (fun y_24 ey_24 => ?_)
                    have ty_24 : y_24.toInt = y_22.toInt - (1 : Int32).toInt := by rw [ey_24]; exact subI (by omega) (by omega)
                    refine lv_i2l (v := y_24.toInt64) hx hb dX12_wrong_105 rfl ?_
                    have q_105 : (y_24.toInt64).toInt = y_24.toInt := Int32.toInt_toInt64 y_24
                    have hPc := hP.sub (ws' := []) [] rfl
                    have hDw : va_D (fun _ => True) [] := hD0.sub [] (by decide) rfl
                    have hFc := va_free (wc := []) hD hS hA [] rfl
                    refine va_calli (va_runS (As := [.long a4.toInt64, .long 0, .long y_24.toInt64]) (rest := []) ⟨hx, hb, hml, hown, hts⟩ (c_X12_in l D cy H.size a4.toInt64 (0 : Int64) y_24.toInt64) (va_cwS 3 hts gX12_wrong_X12_in rfl rfl rfl (by decide +kernel) ⟨Nat.le_of_ble_eq_true rfl, Nat.le_of_ble_eq_true rfl⟩) ⟨bl_, fun U hU hW => ⟨rfl, by rw [hU], by rw [hU]; exact hPc, kk_mv hW hK, hDw⟩⟩ rfl rfl hl.1 rfl (lv_room (Nat.le_of_ble_eq_true rfl)) dX12_wrong_106 ⟨Nat.le_of_ble_eq_true rfl, Nat.le_of_ble_eq_true rfl⟩) hS (fun q _ h => hFc q h) hFc (fun r_25 u t H locs ht hvm hw hB hz1 hk1 hS => ?_)
                    have hP := ro_keep hP hk1
                    have hP : va_P D vwCl [(mo, .inr (12, [.int s0, .int s1, .long t2, .int s3, .int s4, .ref g5, .ref g6, .ref g7, .ref g8, .ref g9, .ref g10, .int s11, .ref g12, .ref g13, .ref g14, .ref g15, .ref g16, .ref g17, .ref g18, .ref g19, .ref g20, .int s21, .ref g22, .ref g23, .ref g24, .int s25, .int s26, .int s27, .int s28, .ref g29, .ref g30, .ref g31, .ref g32, .ref g33])), (g15, .inl (cy 2, 4, .inl f15)), (g16, .inl (cy 0, 4, .inl f16)), (g17, .inl (cy 0, 4, .inl f17)), (g18, .inl (cy 0, 24, .inl f18))] H := hP
                    rcases hw with ⟨w_26, e_⟩ | ⟨w_26, e_⟩
                    · have e_ := e_.symm
                      subst e_
                      refine lv_if_ne (tgt := 117) hx hb dX12_wrong_109 (by decide) (fun c_27 => ?_) (fun c_27 => ?_)
                      · have _ := c_27
                        refine lv_iconst (v := 0) hx hb dX12_wrong_117 (by decide) ?_
                        subst hQ
                        exact W.iret (v := 0) hx hb hr (fun t ht hW => ⟨⟨0, (), rfl, (by omega), trivial⟩, hS.F ht⟩) hS.2.2 dX12_wrong_118
                      · exact absurd c_27 (by decide)
                    · have e_ := e_.symm
                      subst e_
                      refine lv_if_ne (tgt := 117) hx hb dX12_wrong_109 (by decide) (fun c_28 => ?_) (fun c_28 => ?_)
                      · exact absurd c_28 (by decide)
                      · have _ := c_28
                        refine lv_bipush (v := (-12)) hx hb dX12_wrong_112 (by decide) ?_
                        refine lv_goto (tgt := 118) hx hb dX12_wrong_114 (by decide) ?_
                        subst hQ
                        exact W.iret (v := (-12)) hx hb hr (fun t ht hW => ⟨⟨(-12), (), rfl, (by omega), trivial⟩, hS.F ht⟩) hS.2.2 dX12_wrong_118
                  · have t_23 : y_22.toInt = ((-9) : Int32).toInt := congrArg Int32.toInt c_23
                    refine lv_bipush (v := (-11)) hx hb dX12_wrong_92 (by decide) ?_
                    refine lv_goto (tgt := 118) hx hb dX12_wrong_94 (by decide) ?_
                    subst hQ
                    exact W.iret (v := (-11)) hx hb hr (fun t ht hW => ⟨⟨(-11), (), rfl, (by omega), trivial⟩, hS.F ht⟩) hS.2.2 dX12_wrong_118
                · exact absurd c_18 (by decide)
              · have e_ := e_.symm
                subst e_
                refine lv_if_ne (tgt := 72) hx hb dX12_wrong_66 (by decide) (fun c_29 => ?_) (fun c_29 => ?_)
                · exact absurd c_29 (by decide)
                · have _ := c_29
                  refine lv_bipush (v := (-12)) hx hb dX12_wrong_69 (by decide) ?_
                  subst hQ
                  exact W.iret (v := (-12)) hx hb hr (fun t ht hW => ⟨⟨(-12), (), rfl, (by omega), trivial⟩, hS.F ht⟩) hS.2.2 dX12_wrong_71
            · have t_12 : ¬ y_11.toInt = a2.toInt := fun h => c_12 (Int32.toInt_inj.mp h)
              refine lv_bipush (v := (-13)) hx hb dX12_wrong_48 (by decide) ?_
              subst hQ
              exact W.iret (v := (-13)) hx hb hr (fun t ht hW => ⟨⟨(-13), (), rfl, (by omega), trivial⟩, hS.F ht⟩) hS.2.2 dX12_wrong_50
          · have t_9 : y_8.toInt = (0 : Int32).toInt := congrArg Int32.toInt c_9
            refine lv_bipush (v := (-11)) hx hb dX12_wrong_35 (by decide) ?_
            subst hQ
            exact W.iret (v := (-11)) hx hb hr (fun t ht hW => ⟨⟨(-11), (), rfl, (by omega), trivial⟩, hS.F ht⟩) hS.2.2 dX12_wrong_37
        · exact absurd c_6 (by decide)
      · have e_ := e_.symm
        subst e_
        refine lv_if_ne (tgt := 26) hx hb dX12_wrong_21 (by decide) (fun c_30 => ?_) (fun c_30 => ?_)
        · exact absurd c_30 (by decide)
        · have _ := c_30
          refine lv_iconst (v := (-1)) hx hb dX12_wrong_24 (by decide) ?_
          subst hQ
          exact W.iret (v := (-1)) hx hb hr (fun t ht hW => ⟨⟨(-1), (), rfl, (by omega), trivial⟩, hS.F ht⟩) hS.2.2 dX12_wrong_25
  · have e_ := e_.symm
    subst e_
    refine lv_if_eq (tgt := 24) hx hb dX12_wrong_9 (by decide) (fun c_31 => ?_) (fun c_31 => ?_)
    · have _ := c_31
      refine lv_iconst (v := (-1)) hx hb dX12_wrong_24 (by decide) ?_
      subst hQ
      exact W.iret (v := (-1)) hx hb hr (fun t ht hW => ⟨⟨(-1), (), rfl, (by omega), trivial⟩, hS.F ht⟩) hS.2.2 dX12_wrong_25
    · exact absurd c_31 (by decide)

set_option maxHeartbeats 4000000 in
set_option maxRecDepth 100000 in
theorem c_X12_map (l : Launch) (D : va_G) (cy : Nat → ClassId) (sz : Nat) (mo : Nat) (g5 : Nat) (g6 : Nat) (g7 : Nat) (g8 : Nat) (g9 : Nat) (g10 : Nat) (g12 : Nat) (g13 : Nat) (g14 : Nat) (g15 : Nat) (g16 : Nat) (g17 : Nat) (g18 : Nat) (g19 : Nat) (g20 : Nat) (g22 : Nat) (g23 : Nat) (g24 : Nat) (g29 : Nat) (g30 : Nat) (g31 : Nat) (g32 : Nat) (g33 : Nat) (s0 : Int32) (s1 : Int32) (s3 : Int32) (s4 : Int32) (s11 : Int32) (s21 : Int32) (s25 : Int32) (s26 : Int32) (s27 : Int32) (s28 : Int32) (t2 : Int64) (f15 : Nat → Int32) (f16 : Nat → Int32) (f17 : Nat → Int32) (f18 : Nat → Int32) (a1 : Int32) (a2 : Int32) (a3 : Int32) (r_f17 : rng f17 4 (0) (6)) (r_f18 : rng f18 24 (-9) (5)) : Met l yX12_map wsX12_map ({ frames := 1, cells := 0, slots := 0, locals := 25 }) (va_Pc [.ref mo, .int a1, .int a2, .int a3] (fun U => U.heap.size = sz ∧ va_P D vwCl [(mo, .inr (12, [.int s0, .int s1, .long t2, .int s3, .int s4, .ref g5, .ref g6, .ref g7, .ref g8, .ref g9, .ref g10, .int s11, .ref g12, .ref g13, .ref g14, .ref g15, .ref g16, .ref g17, .ref g18, .ref g19, .ref g20, .int s21, .ref g22, .ref g23, .ref g24, .int s25, .int s26, .int s27, .int s28, .ref g29, .ref g30, .ref g31, .ref g32, .ref g33])), (g15, .inl (cy 2, 4, .inl f15)), (g16, .inl (cy 0, 4, .inl f16)), (g17, .inl (cy 0, 4, .inl f17)), (g18, .inl (cy 0, 24, .inl f18))] U.heap ∧ kk_ D cy U ∧ va_D (fun _ => True) [(mo, .inr (12, [.int s0, .int s1, .long t2, .int s3, .int s4, .ref g5, .ref g6, .ref g7, .ref g8, .ref g9, .ref g10, .int s11, .ref g12, .ref g13, .ref g14, .ref g15, .ref g16, .ref g17, .ref g18, .ref g19, .ref g20, .int s21, .ref g22, .ref g23, .ref g24, .int s25, .int s26, .int s27, .int s28, .ref g29, .ref g30, .ref g31, .ref g32, .ref g33])), (g15, .inl (cy 2, 4, .inl f15)), (g16, .inl (cy 0, 4, .inl f16)), (g17, .inl (cy 0, 4, .inl f17)), (g18, .inl (cy 0, 24, .inl f18))])) (va_Qi (fun (r : Int32) (_ : Unit) => ((¬ ((0 ≤ a1.toInt ∧ a1.toInt < 4) ∧ (0 ≤ a2.toInt ∧ a2.toInt < 3) ∧ a3.toInt ≤ 6)) ∧ r = (-1)) ∨ ((((0 ≤ a1.toInt ∧ a1.toInt < 4) ∧ (0 ≤ a2.toInt ∧ a2.toInt < 3) ∧ a3.toInt ≤ 6) ∧ a3.toInt < 0) ∧ r = (-15)) ∨ ((((0 ≤ a1.toInt ∧ a1.toInt < 4) ∧ (0 ≤ a2.toInt ∧ a2.toInt < 3) ∧ a3.toInt ≤ 6) ∧ 0 ≤ a3.toInt) ∧ r = 1)) (fun (_ : Unit) (t : State) => ∃ (n1 : Int32), ∃ (e15 : Nat → Int32), ∃ (e16 : Nat → Int32), ∃ (e17 : Nat → Int32), ∃ (e18 : Nat → Int32), (rng e17 4 (0) (6)) ∧ (rng e18 24 (-9) (5)) ∧ va_P D vwCl [(mo, .inr (12, [.int 0, .int n1, .long t2, .int s3, .int s4, .ref g5, .ref g6, .ref g7, .ref g8, .ref g9, .ref g10, .int s11, .ref g12, .ref g13, .ref g14, .ref g15, .ref g16, .ref g17, .ref g18, .ref g19, .ref g20, .int s21, .ref g22, .ref g23, .ref g24, .int s25, .int s26, .int s27, .int s28, .ref g29, .ref g30, .ref g31, .ref g32, .ref g33])), (g15, .inl (cy 2, 4, .inl e15)), (g16, .inl (cy 0, 4, .inl e16)), (g17, .inl (cy 0, 4, .inl e17)), (g18, .inl (cy 0, 24, .inl e18))] t.heap ∧ va_D (va_A [(mo, .inr (12, [.int s0, .int s1, .long t2, .int s3, .int s4, .ref g5, .ref g6, .ref g7, .ref g8, .ref g9, .ref g10, .int s11, .ref g12, .ref g13, .ref g14, .ref g15, .ref g16, .ref g17, .ref g18, .ref g19, .ref g20, .int s21, .ref g22, .ref g23, .ref g24, .int s25, .int s26, .int s27, .int s28, .ref g29, .ref g30, .ref g31, .ref g32, .ref g33])), (g15, .inl (cy 2, 4, .inl f15)), (g16, .inl (cy 0, 4, .inl f16)), (g17, .inl (cy 0, 4, .inl f17)), (g18, .inl (cy 0, 24, .inl f18))] sz) [(mo, .inr (12, [.int 0, .int n1, .long t2, .int s3, .int s4, .ref g5, .ref g6, .ref g7, .ref g8, .ref g9, .ref g10, .int s11, .ref g12, .ref g13, .ref g14, .ref g15, .ref g16, .ref g17, .ref g18, .ref g19, .ref g20, .int s21, .ref g22, .ref g23, .ref g24, .int s25, .int s26, .int s27, .int s28, .ref g29, .ref g30, .ref g31, .ref g32, .ref g33])), (g15, .inl (cy 2, 4, .inl e15)), (g16, .inl (cy 0, 4, .inl e16)), (g17, .inl (cy 0, 4, .inl e17)), (g18, .inl (cy 0, 24, .inl e18))]) (va_A [(mo, .inr (12, [.int s0, .int s1, .long t2, .int s3, .int s4, .ref g5, .ref g6, .ref g7, .ref g8, .ref g9, .ref g10, .int s11, .ref g12, .ref g13, .ref g14, .ref g15, .ref g16, .ref g17, .ref g18, .ref g19, .ref g20, .int s21, .ref g22, .ref g23, .ref g24, .int s25, .int s26, .int s27, .int s28, .ref g29, .ref g30, .ref g31, .ref g32, .ref g33])), (g15, .inl (cy 2, 4, .inl f15)), (g16, .inl (cy 0, 4, .inl f16)), (g17, .inl (cy 0, 4, .inl f17)), (g18, .inl (cy 0, 24, .inl f18))] sz)) 0 0 (va_A [(mo, .inr (12, [.int s0, .int s1, .long t2, .int s3, .int s4, .ref g5, .ref g6, .ref g7, .ref g8, .ref g9, .ref g10, .int s11, .ref g12, .ref g13, .ref g14, .ref g15, .ref g16, .ref g17, .ref g18, .ref g19, .ref g20, .int s21, .ref g22, .ref g23, .ref g24, .int s25, .int s26, .int s27, .int s28, .ref g29, .ref g30, .ref g31, .ref g32, .ref g33])), (g15, .inl (cy 2, 4, .inl f15)), (g16, .inl (cy 0, 4, .inl f16)), (g17, .inl (cy 0, 4, .inl f17)), (g18, .inl (cy 0, 24, .inl f18))] sz) := by
  refine ofQ (cc := cX12_map) (maxL := 5) (ret := (some .int)) (by decide) rfl ?_
  intro p e s m args below meth c s₁ Q hQ B hml hv
  obtain ⟨rfl, hsz, hP, hK, hD0⟩ := hv
  have hx := B.exec
  have hb := B.bytes
  have hr := B.returns
  have hts := atoms_spec (ws := wsX12_map) B.pre
  have hown : s.vm.findClass RX12 = some m.cls := findClass_of_methodNamed B.named
  have hlocks := B.notSynchronized
  subst hsz
  have hD := hD0.self (sz := s.heap.size)
  generalize hAe : va_A [(mo, .inr (12, [.int s0, .int s1, .long t2, .int s3, .int s4, .ref g5, .ref g6, .ref g7, .ref g8, .ref g9, .ref g10, .int s11, .ref g12, .ref g13, .ref g14, .ref g15, .ref g16, .ref g17, .ref g18, .ref g19, .ref g20, .int s21, .ref g22, .ref g23, .ref g24, .int s25, .int s26, .int s27, .int s28, .ref g29, .ref g30, .ref g31, .ref g32, .ref g33])), (g15, .inl (cy 2, 4, .inl f15)), (g16, .inl (cy 0, 4, .inl f16)), (g17, .inl (cy 0, 4, .inl f17)), (g18, .inl (cy 0, 24, .inl f18))] s.heap.size = A at hD hQ
  have hA : ∀ q : Nat, s.heap.size ≤ q → A q := fun q h => by rw [← hAe]; exact Or.inr h
  have hS : va_S A s.heap s.heap [] := va_S.rf
  have hl := lv_entry ([.ref mo, .int a1, .int a2, .int a3]) (n := 5) (Nat.le_of_ble_eq_true rfl)
  rw [lg_entry_eq]
  generalize (lg_sl ([.ref mo, .int a1, .int a2, .int a3]) ++ List.replicate (5 - (lg_sl ([.ref mo, .int a1, .int a2, .int a3])).length) Slot.unset).toArray = ls at hl ⊢
  have hl : lv_has ls 5 [(0, .ref mo), (1, .int a1), (2, .int a2), (3, .int a3)] := hl
  have zm15 : ((-15) : Int32).toInt = -15 := by decide
  have zm9 : ((-9) : Int32).toInt = -9 := by decide
  have zm1 : ((-1) : Int32).toInt = -1 := by decide
  have z0 : (0 : Int32).toInt = 0 := by decide
  have zl0 : (0 : Int64).toInt = 0 := by decide
  have z1 : (1 : Int32).toInt = 1 := by decide
  have zl2 : (2 : Int64).toInt = 2 := by decide
  have zl3 : (3 : Int64).toInt = 3 := by decide
  have z6 : (6 : Int32).toInt = 6 := by decide
  refine lv_aload_n hx hb dX12_map_0 rfl (lv_at hl 0 rfl) ?_
  refine lv_iconst (v := 0) hx hb dX12_map_1 (by decide) ?_
  refine va_put (ci := 12) (v := .int 0) (ty := .int) (C := RX12) (T := TX12) (N := 34) hx hb hts (fun _ h => List.mem_cons_of_mem _ (List.mem_append_right _ h)) tyX12 tyX12_ok nmX12 hown hK.1 hP hD hS 0 rfl rfl 0 (by decide) (hts (.fieldLink RX12 85 "CutAtlasModel" "thrown" "I") (by decide +kernel)) (fun _ h9 => h9) rfl (by decide +kernel) rfl rfl (Nat.le_of_ble_eq_true rfl) dX12_map_2 (fun H locs hP hD hS => ?_)
  have hP : va_P D vwCl [(mo, .inr (12, [.int 0, .int s1, .long t2, .int s3, .int s4, .ref g5, .ref g6, .ref g7, .ref g8, .ref g9, .ref g10, .int s11, .ref g12, .ref g13, .ref g14, .ref g15, .ref g16, .ref g17, .ref g18, .ref g19, .ref g20, .int s21, .ref g22, .ref g23, .ref g24, .int s25, .int s26, .int s27, .int s28, .ref g29, .ref g30, .ref g31, .ref g32, .ref g33])), (g15, .inl (cy 2, 4, .inl f15)), (g16, .inl (cy 0, 4, .inl f16)), (g17, .inl (cy 0, 4, .inl f17)), (g18, .inl (cy 0, 24, .inl f18))] H := hP
  have hD : va_D A [(mo, .inr (12, [.int 0, .int s1, .long t2, .int s3, .int s4, .ref g5, .ref g6, .ref g7, .ref g8, .ref g9, .ref g10, .int s11, .ref g12, .ref g13, .ref g14, .ref g15, .ref g16, .ref g17, .ref g18, .ref g19, .ref g20, .int s21, .ref g22, .ref g23, .ref g24, .int s25, .int s26, .int s27, .int s28, .ref g29, .ref g30, .ref g31, .ref g32, .ref g33])), (g15, .inl (cy 2, 4, .inl f15)), (g16, .inl (cy 0, 4, .inl f16)), (g17, .inl (cy 0, 4, .inl f17)), (g18, .inl (cy 0, 24, .inl f18))] := hD
  refine lv_aload_n hx hb dX12_map_5 rfl (lv_at hl 0 rfl) ?_
  refine lv_iconst (v := 0) hx hb dX12_map_6 (by decide) ?_
  refine va_put (ci := 12) (v := .int 0) (ty := .int) (C := RX12) (T := TX12) (N := 34) hx hb hts (fun _ h => List.mem_cons_of_mem _ (List.mem_append_right _ h)) tyX12 tyX12_ok nmX12 hown hK.1 hP hD hS 0 rfl rfl 1 (by decide) (hts (.fieldLink RX12 240 "CutAtlasModel" "status" "I") (by decide +kernel)) (fun _ h9 => h9) rfl (by decide +kernel) rfl rfl (Nat.le_of_ble_eq_true rfl) dX12_map_7 (fun H locs hP hD hS => ?_)
  have hP : va_P D vwCl [(mo, .inr (12, [.int 0, .int 0, .long t2, .int s3, .int s4, .ref g5, .ref g6, .ref g7, .ref g8, .ref g9, .ref g10, .int s11, .ref g12, .ref g13, .ref g14, .ref g15, .ref g16, .ref g17, .ref g18, .ref g19, .ref g20, .int s21, .ref g22, .ref g23, .ref g24, .int s25, .int s26, .int s27, .int s28, .ref g29, .ref g30, .ref g31, .ref g32, .ref g33])), (g15, .inl (cy 2, 4, .inl f15)), (g16, .inl (cy 0, 4, .inl f16)), (g17, .inl (cy 0, 4, .inl f17)), (g18, .inl (cy 0, 24, .inl f18))] H := hP
  have hD : va_D A [(mo, .inr (12, [.int 0, .int 0, .long t2, .int s3, .int s4, .ref g5, .ref g6, .ref g7, .ref g8, .ref g9, .ref g10, .int s11, .ref g12, .ref g13, .ref g14, .ref g15, .ref g16, .ref g17, .ref g18, .ref g19, .ref g20, .int s21, .ref g22, .ref g23, .ref g24, .int s25, .int s26, .int s27, .int s28, .ref g29, .ref g30, .ref g31, .ref g32, .ref g33])), (g15, .inl (cy 2, 4, .inl f15)), (g16, .inl (cy 0, 4, .inl f16)), (g17, .inl (cy 0, 4, .inl f17)), (g18, .inl (cy 0, 24, .inl f18))] := hD
  refine lv_iload_n hx hb dX12_map_10 rfl (lv_at hl 1 rfl) ?_
  refine lv_i2l (v := a1.toInt64) hx hb dX12_map_11 rfl ?_
  have q_11 : (a1.toInt64).toInt = a1.toInt := Int32.toInt_toInt64 a1
  refine lv_lconst (v := 0) hx hb dX12_map_12 (by decide) ?_
  refine lv_ldc2 (v := 3) hx hb hown (hts (.constantLong RX12 243 (3)) (by decide +kernel)) dX12_map_13 ?_
  have hPc := hP.sub (ws' := []) [] rfl
  have hDc := hD.sub (ws' := []) [] (by decide) rfl
  have hDw : va_D (fun _ => True) [] := hDc.weaken (fun _ _ _ _ => trivial)
  have hFc := va_free (wc := []) hD hS hA [] rfl
  refine va_calli (va_runS (As := [.long a1.toInt64, .long 0, .long 3]) (rest := []) ⟨hx, hb, hml, hown, hts⟩ (c_X12_in l D cy H.size a1.toInt64 (0 : Int64) (3 : Int64)) (va_cwS 3 hts gX12_map_X12_in rfl rfl rfl (by decide +kernel) ⟨Nat.le_of_ble_eq_true rfl, Nat.le_of_ble_eq_true rfl⟩) ⟨bl_, fun U hU hW => ⟨rfl, by rw [hU], by rw [hU]; exact hPc, kk_mv hW hK, hDw⟩⟩ rfl rfl hl.1 rfl (lv_room (Nat.le_of_ble_eq_true rfl)) dX12_map_16 ⟨Nat.le_of_ble_eq_true rfl, Nat.le_of_ble_eq_true rfl⟩) hS (fun q _ h => hFc q h) hFc (fun r_1 u t H locs ht hvm hw hB hz1 hk1 hS => ?_)
  have hP := ro_keep hP hk1
  have hP : va_P D vwCl [(mo, .inr (12, [.int 0, .int 0, .long t2, .int s3, .int s4, .ref g5, .ref g6, .ref g7, .ref g8, .ref g9, .ref g10, .int s11, .ref g12, .ref g13, .ref g14, .ref g15, .ref g16, .ref g17, .ref g18, .ref g19, .ref g20, .int s21, .ref g22, .ref g23, .ref g24, .int s25, .int s26, .int s27, .int s28, .ref g29, .ref g30, .ref g31, .ref g32, .ref g33])), (g15, .inl (cy 2, 4, .inl f15)), (g16, .inl (cy 0, 4, .inl f16)), (g17, .inl (cy 0, 4, .inl f17)), (g18, .inl (cy 0, 24, .inl f18))] H := hP
  rcases hw with ⟨w_2, e_⟩ | ⟨w_2, e_⟩
  · have e_ := e_.symm
    subst e_
    refine lv_if_eq (tgt := 40) hx hb dX12_map_19 (by decide) (fun c_3 => ?_) (fun c_3 => ?_)
    · exact absurd c_3 (by decide)
    · have _ := c_3
      refine lv_iload_n hx hb dX12_map_22 rfl (lv_at hl 2 rfl) ?_
      refine lv_i2l (v := a2.toInt64) hx hb dX12_map_23 rfl ?_
      have q_23 : (a2.toInt64).toInt = a2.toInt := Int32.toInt_toInt64 a2
      refine lv_lconst (v := 0) hx hb dX12_map_24 (by decide) ?_
      refine lv_ldc2 (v := 2) hx hb hown (hts (.constantLong RX12 149 (2)) (by decide +kernel)) dX12_map_25 ?_
      have hPc := hP.sub (ws' := []) [] rfl
      have hDc := hD.sub (ws' := []) [] (by decide) rfl
      have hDw : va_D (fun _ => True) [] := hDc.weaken (fun _ _ _ _ => trivial)
      have hFc := va_free (wc := []) hD hS hA [] rfl
      refine va_calli (va_runS (As := [.long a2.toInt64, .long 0, .long 2]) (rest := []) ⟨hx, hb, hml, hown, hts⟩ (c_X12_in l D cy H.size a2.toInt64 (0 : Int64) (2 : Int64)) (va_cwS 3 hts gX12_map_X12_in rfl rfl rfl (by decide +kernel) ⟨Nat.le_of_ble_eq_true rfl, Nat.le_of_ble_eq_true rfl⟩) ⟨bl_, fun U hU hW => ⟨rfl, by rw [hU], by rw [hU]; exact hPc, kk_mv hW hK, hDw⟩⟩ rfl rfl hl.1 rfl (lv_room (Nat.le_of_ble_eq_true rfl)) dX12_map_28 ⟨Nat.le_of_ble_eq_true rfl, Nat.le_of_ble_eq_true rfl⟩) hS (fun q _ h => hFc q h) hFc (fun r_4 u t H locs ht hvm hw hB hz1 hk1 hS => ?_)
      have hP := ro_keep hP hk1
      have hP : va_P D vwCl [(mo, .inr (12, [.int 0, .int 0, .long t2, .int s3, .int s4, .ref g5, .ref g6, .ref g7, .ref g8, .ref g9, .ref g10, .int s11, .ref g12, .ref g13, .ref g14, .ref g15, .ref g16, .ref g17, .ref g18, .ref g19, .ref g20, .int s21, .ref g22, .ref g23, .ref g24, .int s25, .int s26, .int s27, .int s28, .ref g29, .ref g30, .ref g31, .ref g32, .ref g33])), (g15, .inl (cy 2, 4, .inl f15)), (g16, .inl (cy 0, 4, .inl f16)), (g17, .inl (cy 0, 4, .inl f17)), (g18, .inl (cy 0, 24, .inl f18))] H := hP
      rcases hw with ⟨w_5, e_⟩ | ⟨w_5, e_⟩
      · have e_ := e_.symm
        subst e_
        refine lv_if_eq (tgt := 40) hx hb dX12_map_31 (by decide) (fun c_6 => ?_) (fun c_6 => ?_)
        · exact absurd c_6 (by decide)
        · have _ := c_6
          refine lv_iload_n hx hb dX12_map_34 rfl (lv_at hl 3 rfl) ?_
          refine lv_bipush (v := 6) hx hb dX12_map_35 (by decide) ?_
          refine lv_icmp_le (tgt := 46) hx hb dX12_map_37 (by decide) (fun c_7 => ?_) (fun c_7 => ?_)
          · have t_7 : a3.toInt ≤ (6 : Int32).toInt := Int32.le_iff_toInt_le.mp c_7
            refine lv_iload_n hx hb dX12_map_46 rfl (lv_at hl 3 rfl) ?_
            refine lv_if_ge (tgt := 57) hx hb dX12_map_47 (by decide) (fun c_8 => ?_) (fun c_8 => ?_)
            · have t_8 : (0 : Int32).toInt ≤ a3.toInt := Int32.le_iff_toInt_le.mp c_8
              refine lv_aload_n hx hb dX12_map_57 rfl (lv_at hl 0 rfl) ?_
              refine va_get (ci := 12) (v := .ref g15) (C := RX12) (T := TX12) (N := 34) hx hb hts (fun _ h => List.mem_cons_of_mem _ (List.mem_append_right _ h)) hown hK.1 hP 0 rfl rfl 15 (by decide) (hts (.fieldLink RX12 38 "CutAtlasModel" "hasMap" "[Z") (by decide +kernel)) (fun _ h9 => h9) rfl dX12_map_58 ?_
              refine lv_iload_n hx hb dX12_map_61 rfl (lv_at hl 1 rfl) ?_
              refine lv_iconst (v := 1) hx hb dX12_map_62 (by decide) ?_
              have h_9 : vp_in a1 4 := in_I (by omega) (by omega)
              refine va_zast hx hb hK.1 hP hD hS 1 2 rfl rfl (i := a1) h_9 dX12_map_63 (fun H locs hP hD hS => ?_)
              obtain ⟨f_10, ef_10⟩ : ∃ g : Nat → Int32, g = upd f15 a1.toNatClampNeg (vp_nar .boolean (1 : Int32)) := ⟨_, rfl⟩
              have hP : va_P D vwCl [(mo, .inr (12, [.int 0, .int 0, .long t2, .int s3, .int s4, .ref g5, .ref g6, .ref g7, .ref g8, .ref g9, .ref g10, .int s11, .ref g12, .ref g13, .ref g14, .ref g15, .ref g16, .ref g17, .ref g18, .ref g19, .ref g20, .int s21, .ref g22, .ref g23, .ref g24, .int s25, .int s26, .int s27, .int s28, .ref g29, .ref g30, .ref g31, .ref g32, .ref g33])), (g15, .inl (cy 2, 4, .inl f_10)), (g16, .inl (cy 0, 4, .inl f16)), (g17, .inl (cy 0, 4, .inl f17)), (g18, .inl (cy 0, 24, .inl f18))] H := by rw [ef_10]; exact hP
              have hD : va_D A [(mo, .inr (12, [.int 0, .int 0, .long t2, .int s3, .int s4, .ref g5, .ref g6, .ref g7, .ref g8, .ref g9, .ref g10, .int s11, .ref g12, .ref g13, .ref g14, .ref g15, .ref g16, .ref g17, .ref g18, .ref g19, .ref g20, .int s21, .ref g22, .ref g23, .ref g24, .int s25, .int s26, .int s27, .int s28, .ref g29, .ref g30, .ref g31, .ref g32, .ref g33])), (g15, .inl (cy 2, 4, .inl f_10)), (g16, .inl (cy 0, 4, .inl f16)), (g17, .inl (cy 0, 4, .inl f17)), (g18, .inl (cy 0, 24, .inl f18))] := by rw [ef_10]; exact hD
              refine lv_aload_n hx hb dX12_map_64 rfl (lv_at hl 0 rfl) ?_
              refine va_get (ci := 12) (v := .ref g16) (C := RX12) (T := TX12) (N := 34) hx hb hts (fun _ h => List.mem_cons_of_mem _ (List.mem_append_right _ h)) hown hK.1 hP 0 rfl rfl 16 (by decide) (hts (.fieldLink RX12 41 "CutAtlasModel" "mapKind" "[I") (by decide +kernel)) (fun _ h9 => h9) rfl dX12_map_65 ?_
              refine lv_iload_n hx hb dX12_map_68 rfl (lv_at hl 1 rfl) ?_
              refine lv_iload_n hx hb dX12_map_69 rfl (lv_at hl 2 rfl) ?_
              have h_11 : vp_in a1 4 := in_I (by omega) (by omega)
              refine va_iast hx hb hK.1 hP hD hS 2 0 rfl rfl (i := a1) h_11 dX12_map_70 (fun H locs hP hD hS => ?_)
              obtain ⟨f_12, ef_12⟩ : ∃ g : Nat → Int32, g = upd f16 a1.toNatClampNeg a2 := ⟨_, rfl⟩
              have hP : va_P D vwCl [(mo, .inr (12, [.int 0, .int 0, .long t2, .int s3, .int s4, .ref g5, .ref g6, .ref g7, .ref g8, .ref g9, .ref g10, .int s11, .ref g12, .ref g13, .ref g14, .ref g15, .ref g16, .ref g17, .ref g18, .ref g19, .ref g20, .int s21, .ref g22, .ref g23, .ref g24, .int s25, .int s26, .int s27, .int s28, .ref g29, .ref g30, .ref g31, .ref g32, .ref g33])), (g15, .inl (cy 2, 4, .inl f_10)), (g16, .inl (cy 0, 4, .inl f_12)), (g17, .inl (cy 0, 4, .inl f17)), (g18, .inl (cy 0, 24, .inl f18))] H := by rw [ef_12]; exact hP
              have hD : va_D A [(mo, .inr (12, [.int 0, .int 0, .long t2, .int s3, .int s4, .ref g5, .ref g6, .ref g7, .ref g8, .ref g9, .ref g10, .int s11, .ref g12, .ref g13, .ref g14, .ref g15, .ref g16, .ref g17, .ref g18, .ref g19, .ref g20, .int s21, .ref g22, .ref g23, .ref g24, .int s25, .int s26, .int s27, .int s28, .ref g29, .ref g30, .ref g31, .ref g32, .ref g33])), (g15, .inl (cy 2, 4, .inl f_10)), (g16, .inl (cy 0, 4, .inl f_12)), (g17, .inl (cy 0, 4, .inl f17)), (g18, .inl (cy 0, 24, .inl f18))] := by rw [ef_12]; exact hD
              refine lv_aload_n hx hb dX12_map_71 rfl (lv_at hl 0 rfl) ?_
              refine va_get (ci := 12) (v := .ref g17) (C := RX12) (T := TX12) (N := 34) hx hb hts (fun _ h => List.mem_cons_of_mem _ (List.mem_append_right _ h)) hown hK.1 hP 0 rfl rfl 17 (by decide) (hts (.fieldLink RX12 44 "CutAtlasModel" "mapRows" "[I") (by decide +kernel)) (fun _ h9 => h9) rfl dX12_map_72 ?_
              refine lv_iload_n hx hb dX12_map_75 rfl (lv_at hl 1 rfl) ?_
              refine lv_iload_n hx hb dX12_map_76 rfl (lv_at hl 3 rfl) ?_
              have h_13 : vp_in a1 4 := in_I (by omega) (by omega)
              refine va_iast hx hb hK.1 hP hD hS 3 0 rfl rfl (i := a1) h_13 dX12_map_77 (fun H locs hP hD hS => ?_)
              obtain ⟨f_14, ef_14⟩ : ∃ g : Nat → Int32, g = upd f17 a1.toNatClampNeg a3 := ⟨_, rfl⟩
              have hP : va_P D vwCl [(mo, .inr (12, [.int 0, .int 0, .long t2, .int s3, .int s4, .ref g5, .ref g6, .ref g7, .ref g8, .ref g9, .ref g10, .int s11, .ref g12, .ref g13, .ref g14, .ref g15, .ref g16, .ref g17, .ref g18, .ref g19, .ref g20, .int s21, .ref g22, .ref g23, .ref g24, .int s25, .int s26, .int s27, .int s28, .ref g29, .ref g30, .ref g31, .ref g32, .ref g33])), (g15, .inl (cy 2, 4, .inl f_10)), (g16, .inl (cy 0, 4, .inl f_12)), (g17, .inl (cy 0, 4, .inl f_14)), (g18, .inl (cy 0, 24, .inl f18))] H := by rw [ef_14]; exact hP
              have hD : va_D A [(mo, .inr (12, [.int 0, .int 0, .long t2, .int s3, .int s4, .ref g5, .ref g6, .ref g7, .ref g8, .ref g9, .ref g10, .int s11, .ref g12, .ref g13, .ref g14, .ref g15, .ref g16, .ref g17, .ref g18, .ref g19, .ref g20, .int s21, .ref g22, .ref g23, .ref g24, .int s25, .int s26, .int s27, .int s28, .ref g29, .ref g30, .ref g31, .ref g32, .ref g33])), (g15, .inl (cy 2, 4, .inl f_10)), (g16, .inl (cy 0, 4, .inl f_12)), (g17, .inl (cy 0, 4, .inl f_14)), (g18, .inl (cy 0, 24, .inl f18))] := by rw [ef_14]; exact hD
              have rf_14 : rng f_14 4 (0) (6) := by rw [ef_14]; exact rng_upd r_f17 (by omega) (by omega)
              refine lv_iconst (v := 0) hx hb dX12_map_78 (by decide) ?_
              refine lv_istore (lv' := [(4, .int 0), (0, .ref mo), (1, .int a1), (2, .int a2), (3, .int a3)]) hx hb dX12_map_79 hl (by decide) rfl (fun ls hl => ?_)
              suffices LOOP_15 : ∀ (n_15 : Nat) (x4_15 : Int32) (c_g18_15 : Nat → Int32) (H : Heap) (locs : List Loc) (ls : Array Slot), 6 - x4_15.toInt < (n_15 : Int) → (0 ≤ x4_15.toInt) → (x4_15.toInt ≤ 6) → (rng c_g18_15 24 (-9) (5)) → va_P D vwCl [(mo, .inr (12, [.int 0, .int 0, .long t2, .int s3, .int s4, .ref g5, .ref g6, .ref g7, .ref g8, .ref g9, .ref g10, .int s11, .ref g12, .ref g13, .ref g14, .ref g15, .ref g16, .ref g17, .ref g18, .ref g19, .ref g20, .int s21, .ref g22, .ref g23, .ref g24, .int s25, .int s26, .int s27, .int s28, .ref g29, .ref g30, .ref g31, .ref g32, .ref g33])), (g15, .inl (cy 2, 4, .inl f_10)), (g16, .inl (cy 0, 4, .inl f_12)), (g17, .inl (cy 0, 4, .inl f_14)), (g18, .inl (cy 0, 24, .inl c_g18_15))] H → va_D A [(mo, .inr (12, [.int 0, .int 0, .long t2, .int s3, .int s4, .ref g5, .ref g6, .ref g7, .ref g8, .ref g9, .ref g10, .int s11, .ref g12, .ref g13, .ref g14, .ref g15, .ref g16, .ref g17, .ref g18, .ref g19, .ref g20, .int s21, .ref g22, .ref g23, .ref g24, .int s25, .int s26, .int s27, .int s28, .ref g29, .ref g30, .ref g31, .ref g32, .ref g33])), (g15, .inl (cy 2, 4, .inl f_10)), (g16, .inl (cy 0, 4, .inl f_12)), (g17, .inl (cy 0, 4, .inl f_14)), (g18, .inl (cy 0, 24, .inl c_g18_15))] → va_S A s.heap H locs → lv_has ls 5 [(4, .int x4_15), (0, .ref mo), (1, .int a1), (2, .int a2), (3, .int a3)] → W p l e ({ frames := 1, cells := 0, slots := 0, locals := 25 } : Room) s m (([.ref mo, .int a1, .int a2, .int a3] : List Value).toArray) below meth c H locs 0 0 Q (F0 m 81 ls []) from LOOP_15 ((6 - (0 : Int32).toInt).toNat + 1) (0 : Int32) f18 _ _ _ (by omega) (by first | assumption | omega) (by first | assumption | omega) (by first | assumption | exact rng_zero (by omega) (by omega) | exact orng_zero) hP hD hS (lv_sub hl [0, 1, 2, 3, 4] rfl)
              intro n_15
              induction n_15 with
              | zero =>
                intro x4_15 c_g18_15 H locs ls hm v0_15 v1_15 rc_g18_15 hP hD hS hl
                exact absurd hm (by omega)
              | succ n_15 ih_15 =>
                intro x4_15 c_g18_15 H locs ls hm v0_15 v1_15 rc_g18_15 hP hD hS hl
                refine lv_iload hx hb dX12_map_81 (lv_at hl 0 rfl) ?_
                refine lv_bipush (v := 6) hx hb dX12_map_83 (by decide) ?_
                refine lv_icmp_ge (tgt := 108) hx hb dX12_map_85 (by decide) (fun c_16 => ?_) (fun c_16 => ?_)
                · have t_16 : (6 : Int32).toInt ≤ x4_15.toInt := Int32.le_iff_toInt_le.mp c_16
                  refine lv_iconst (v := 1) hx hb dX12_map_108 (by decide) ?_
                  have hP9 := hP.sub (ws' := [(mo, .inr (12, [.int 0, .int 0, .long t2, .int s3, .int s4, .ref g5, .ref g6, .ref g7, .ref g8, .ref g9, .ref g10, .int s11, .ref g12, .ref g13, .ref g14, .ref g15, .ref g16, .ref g17, .ref g18, .ref g19, .ref g20, .int s21, .ref g22, .ref g23, .ref g24, .int s25, .int s26, .int s27, .int s28, .ref g29, .ref g30, .ref g31, .ref g32, .ref g33])), (g15, .inl (cy 2, 4, .inl f_10)), (g16, .inl (cy 0, 4, .inl f_12)), (g17, .inl (cy 0, 4, .inl f_14)), (g18, .inl (cy 0, 24, .inl c_g18_15))]) [0, 1, 2, 3, 4] rfl
                  have hD9 := hD.sub (ws' := [(mo, .inr (12, [.int 0, .int 0, .long t2, .int s3, .int s4, .ref g5, .ref g6, .ref g7, .ref g8, .ref g9, .ref g10, .int s11, .ref g12, .ref g13, .ref g14, .ref g15, .ref g16, .ref g17, .ref g18, .ref g19, .ref g20, .int s21, .ref g22, .ref g23, .ref g24, .int s25, .int s26, .int s27, .int s28, .ref g29, .ref g30, .ref g31, .ref g32, .ref g33])), (g15, .inl (cy 2, 4, .inl f_10)), (g16, .inl (cy 0, 4, .inl f_12)), (g17, .inl (cy 0, 4, .inl f_14)), (g18, .inl (cy 0, 24, .inl c_g18_15))]) [0, 1, 2, 3, 4] (by decide) rfl
                  subst hQ
                  exact W.iret (v := 1) hx hb hr (fun t ht hW => ⟨⟨1, (), rfl, Or.inr (Or.inr (⟨by omega, rfl⟩)), (0 : Int32), f_10, f_12, f_14, c_g18_15, (by first | assumption | exact rng_zero (by omega) (by omega) | omega), (by first | assumption | exact rng_zero (by omega) (by omega) | omega), by rw [ht]; exact hP9, hD9⟩, hS.F ht⟩) hS.2.2 dX12_map_109
                · have t_16 : ¬ (6 : Int32).toInt ≤ x4_15.toInt := fun h => c_16 (Int32.le_iff_toInt_le.mpr h)
                  refine lv_aload_n hx hb dX12_map_88 rfl (lv_at hl 1 rfl) ?_
                  refine va_get (ci := 12) (v := .ref g18) (C := RX12) (T := TX12) (N := 34) hx hb hts (fun _ h => List.mem_cons_of_mem _ (List.mem_append_right _ h)) hown hK.1 hP 0 rfl rfl 18 (by decide) (hts (.fieldLink RX12 47 "CutAtlasModel" "rowSize" "[I") (by decide +kernel)) (fun _ h9 => h9) rfl dX12_map_89 ?_
                  refine lv_bipush (v := 6) hx hb dX12_map_92 (by decide) ?_
                  refine lv_iload_n hx hb dX12_map_94 rfl (lv_at hl 2 rfl) ?_
                  refine lv_imul hx hb dX12_map_95 ?_
                  refine lv_topi (fun y_17 ey_17 => ?_)
                  have ty_17 : y_17.toInt = 6 * a1.toInt := by rw [ey_17]; exact mulC (by decide) (by omega) (by omega)
                  refine lv_iload hx hb dX12_map_96 (lv_at hl 0 rfl) ?_
                  refine lv_iadd hx hb dX12_map_98 ?_
                  refine lv_topi (fun y_18 ey_18 => ?_)
                  have ty_18 : y_18.toInt = y_17.toInt + x4_15.toInt := by rw [ey_18]; exact addI (by omega) (by omega)
                  refine lv_bipush (v := (-9)) hx hb dX12_map_99 (by decide) ?_
                  have h_19 : vp_in y_18 24 := in_I (by omega) (by omega)
                  refine va_iast hx hb hK.1 hP hD hS 4 0 rfl rfl (i := y_18) h_19 dX12_map_101 (fun H locs hP hD hS => ?_)
                  obtain ⟨f_20, ef_20⟩ : ∃ g : Nat → Int32, g = upd c_g18_15 y_18.toNatClampNeg ((-9) : Int32) := ⟨_, rfl⟩
                  have hP : va_P D vwCl [(mo, .inr (12, [.int 0, .int 0, .long t2, .int s3, .int s4, .ref g5, .ref g6, .ref g7, .ref g8, .ref g9, .ref g10, .int s11, .ref g12, .ref g13, .ref g14, .ref g15, .ref g16, .ref g17, .ref g18, .ref g19, .ref g20, .int s21, .ref g22, .ref g23, .ref g24, .int s25, .int s26, .int s27, .int s28, .ref g29, .ref g30, .ref g31, .ref g32, .ref g33])), (g15, .inl (cy 2, 4, .inl f_10)), (g16, .inl (cy 0, 4, .inl f_12)), (g17, .inl (cy 0, 4, .inl f_14)), (g18, .inl (cy 0, 24, .inl f_20))] H := by rw [ef_20]; exact hP
                  have hD : va_D A [(mo, .inr (12, [.int 0, .int 0, .long t2, .int s3, .int s4, .ref g5, .ref g6, .ref g7, .ref g8, .ref g9, .ref g10, .int s11, .ref g12, .ref g13, .ref g14, .ref g15, .ref g16, .ref g17, .ref g18, .ref g19, .ref g20, .int s21, .ref g22, .ref g23, .ref g24, .int s25, .int s26, .int s27, .int s28, .ref g29, .ref g30, .ref g31, .ref g32, .ref g33])), (g15, .inl (cy 2, 4, .inl f_10)), (g16, .inl (cy 0, 4, .inl f_12)), (g17, .inl (cy 0, 4, .inl f_14)), (g18, .inl (cy 0, 24, .inl f_20))] := by rw [ef_20]; exact hD
                  have rf_20 : rng f_20 24 (-9) (5) := by rw [ef_20]; exact rng_upd rc_g18_15 (by omega) (by omega)
                  obtain ⟨y_21, ey_21⟩ : ∃ y : Int32, y = x4_15 + 1 := ⟨_, rfl⟩
                  have ty_21 : y_21.toInt = x4_15.toInt + (1 : Int32).toInt := by rw [ey_21]; exact addI (by omega) (by omega)
                  refine lv_iinc (v := y_21) (lv' := [(4, .int y_21), (0, .ref mo), (1, .int a1), (2, .int a2), (3, .int a3)]) hx hb dX12_map_102 hl (k := 0) rfl (by rw [ey_21]; rfl) (by decide) rfl (fun ls hl => ?_)
                  refine lv_goto (tgt := 81) hx hb dX12_map_105 (by decide) ?_
                  exact ih_15 y_21 f_20 _ _ _ (by omega) (by first | assumption | omega) (by first | assumption | omega) (by first | assumption | exact rng_zero (by omega) (by omega) | exact orng_zero) hP hD hS (lv_sub hl [0, 1, 2, 3, 4] rfl)
            · have t_8 : ¬ (0 : Int32).toInt ≤ a3.toInt := fun h => c_8 (Int32.le_iff_toInt_le.mpr h)
              refine lv_aload_n hx hb dX12_map_50 rfl (lv_at hl 0 rfl) ?_
              refine lv_bipush (v := (-15)) hx hb dX12_map_51 (by decide) ?_
              have hPc := hP.sub (ws' := [(mo, .inr (12, [.int 0, .int 0, .long t2, .int s3, .int s4, .ref g5, .ref g6, .ref g7, .ref g8, .ref g9, .ref g10, .int s11, .ref g12, .ref g13, .ref g14, .ref g15, .ref g16, .ref g17, .ref g18, .ref g19, .ref g20, .int s21, .ref g22, .ref g23, .ref g24, .int s25, .int s26, .int s27, .int s28, .ref g29, .ref g30, .ref g31, .ref g32, .ref g33]))]) [0] rfl
              have hDc := hD.sub (ws' := [(mo, .inr (12, [.int 0, .int 0, .long t2, .int s3, .int s4, .ref g5, .ref g6, .ref g7, .ref g8, .ref g9, .ref g10, .int s11, .ref g12, .ref g13, .ref g14, .ref g15, .ref g16, .ref g17, .ref g18, .ref g19, .ref g20, .int s21, .ref g22, .ref g23, .ref g24, .int s25, .int s26, .int s27, .int s28, .ref g29, .ref g30, .ref g31, .ref g32, .ref g33]))]) [0] (by decide) rfl
              have hDw : va_D (fun _ => True) [(mo, .inr (12, [.int 0, .int 0, .long t2, .int s3, .int s4, .ref g5, .ref g6, .ref g7, .ref g8, .ref g9, .ref g10, .int s11, .ref g12, .ref g13, .ref g14, .ref g15, .ref g16, .ref g17, .ref g18, .ref g19, .ref g20, .int s21, .ref g22, .ref g23, .ref g24, .int s25, .int s26, .int s27, .int s28, .ref g29, .ref g30, .ref g31, .ref g32, .ref g33]))] := hDc.weaken (fun _ _ _ _ => trivial)
              have hFc := va_free (wc := [(mo, .inr (12, [.int 0, .int 0, .long t2, .int s3, .int s4, .ref g5, .ref g6, .ref g7, .ref g8, .ref g9, .ref g10, .int s11, .ref g12, .ref g13, .ref g14, .ref g15, .ref g16, .ref g17, .ref g18, .ref g19, .ref g20, .int s21, .ref g22, .ref g23, .ref g24, .int s25, .int s26, .int s27, .int s28, .ref g29, .ref g30, .ref g31, .ref g32, .ref g33]))]) hD hS hA [0] rfl
              refine va_calli (va_runV (As := [.int (-15)]) (rest := []) ⟨hx, hb, hml, hown, hts⟩ (c_X12_no l D cy H.size mo g5 g6 g7 g8 g9 g10 g12 g13 g14 g15 g16 g17 g18 g19 g20 g22 g23 g24 g29 g30 g31 g32 g33 (0 : Int32) (0 : Int32) s3 s4 s11 s21 s25 s26 s27 s28 t2 ((-15) : Int32)) (cwV 1 hts gX12_map_X12_no rfl rfl rfl (by decide +kernel) ⟨Nat.le_of_ble_eq_true rfl, Nat.le_of_ble_eq_true rfl⟩) ⟨bl_, va_recv hK.1 hP (ci := 12) (q0 := 0) rfl rfl, fun U hU hW => ⟨rfl, by rw [hU], by rw [hU]; exact hPc, kk_mv hW hK, hDw⟩⟩ rfl rfl hl.1 rfl (lv_room (Nat.le_of_ble_eq_true rfl)) dX12_map_53 ⟨Nat.le_of_ble_eq_true rfl, Nat.le_of_ble_eq_true rfl⟩) hS (fun q _ h => hFc q h) hFc (fun r_22 u t H locs ht hvm hw hB hz1 hk1 hS => ?_)
              obtain ⟨n1_23, hP1, hD1⟩ := hB
              rw [ht] at hP1
              obtain ⟨hP, hD⟩ := va_join (wr := [(g15, .inl (cy 2, 4, .inl f15)), (g16, .inl (cy 0, 4, .inl f16)), (g17, .inl (cy 0, 4, .inl f17)), (g18, .inl (cy 0, 24, .inl f18))]) (w1 := [(mo, .inr (12, [.int 0, .int n1_23, .long t2, .int s3, .int s4, .ref g5, .ref g6, .ref g7, .ref g8, .ref g9, .ref g10, .int s11, .ref g12, .ref g13, .ref g14, .ref g15, .ref g16, .ref g17, .ref g18, .ref g19, .ref g20, .int s21, .ref g22, .ref g23, .ref g24, .int s25, .int s26, .int s27, .int s28, .ref g29, .ref g30, .ref g31, .ref g32, .ref g33]))]) hP hD [0] [1, 2, 3, 4] rfl rfl (by decide) (by decide) hk1 hFc hP1 hD1
              have hP : va_P D vwCl [(g15, .inl (cy 2, 4, .inl f15)), (g16, .inl (cy 0, 4, .inl f16)), (g17, .inl (cy 0, 4, .inl f17)), (g18, .inl (cy 0, 24, .inl f18)), (mo, .inr (12, [.int 0, .int n1_23, .long t2, .int s3, .int s4, .ref g5, .ref g6, .ref g7, .ref g8, .ref g9, .ref g10, .int s11, .ref g12, .ref g13, .ref g14, .ref g15, .ref g16, .ref g17, .ref g18, .ref g19, .ref g20, .int s21, .ref g22, .ref g23, .ref g24, .int s25, .int s26, .int s27, .int s28, .ref g29, .ref g30, .ref g31, .ref g32, .ref g33]))] H := hP
              have hD : va_D A [(g15, .inl (cy 2, 4, .inl f15)), (g16, .inl (cy 0, 4, .inl f16)), (g17, .inl (cy 0, 4, .inl f17)), (g18, .inl (cy 0, 24, .inl f18)), (mo, .inr (12, [.int 0, .int n1_23, .long t2, .int s3, .int s4, .ref g5, .ref g6, .ref g7, .ref g8, .ref g9, .ref g10, .int s11, .ref g12, .ref g13, .ref g14, .ref g15, .ref g16, .ref g17, .ref g18, .ref g19, .ref g20, .int s21, .ref g22, .ref g23, .ref g24, .int s25, .int s26, .int s27, .int s28, .ref g29, .ref g30, .ref g31, .ref g32, .ref g33]))] := hD
              have hP : va_P D vwCl [(mo, .inr (12, [.int 0, .int n1_23, .long t2, .int s3, .int s4, .ref g5, .ref g6, .ref g7, .ref g8, .ref g9, .ref g10, .int s11, .ref g12, .ref g13, .ref g14, .ref g15, .ref g16, .ref g17, .ref g18, .ref g19, .ref g20, .int s21, .ref g22, .ref g23, .ref g24, .int s25, .int s26, .int s27, .int s28, .ref g29, .ref g30, .ref g31, .ref g32, .ref g33])), (g15, .inl (cy 2, 4, .inl f15)), (g16, .inl (cy 0, 4, .inl f16)), (g17, .inl (cy 0, 4, .inl f17)), (g18, .inl (cy 0, 24, .inl f18))] H := hP.sub [4, 0, 1, 2, 3] rfl
              have hD : va_D A [(mo, .inr (12, [.int 0, .int n1_23, .long t2, .int s3, .int s4, .ref g5, .ref g6, .ref g7, .ref g8, .ref g9, .ref g10, .int s11, .ref g12, .ref g13, .ref g14, .ref g15, .ref g16, .ref g17, .ref g18, .ref g19, .ref g20, .int s21, .ref g22, .ref g23, .ref g24, .int s25, .int s26, .int s27, .int s28, .ref g29, .ref g30, .ref g31, .ref g32, .ref g33])), (g15, .inl (cy 2, 4, .inl f15)), (g16, .inl (cy 0, 4, .inl f16)), (g17, .inl (cy 0, 4, .inl f17)), (g18, .inl (cy 0, 24, .inl f18))] := hD.sub [4, 0, 1, 2, 3] (by decide) rfl
              have e_ := hw.symm
              subst e_
              have hP9 := hP.sub (ws' := [(mo, .inr (12, [.int 0, .int n1_23, .long t2, .int s3, .int s4, .ref g5, .ref g6, .ref g7, .ref g8, .ref g9, .ref g10, .int s11, .ref g12, .ref g13, .ref g14, .ref g15, .ref g16, .ref g17, .ref g18, .ref g19, .ref g20, .int s21, .ref g22, .ref g23, .ref g24, .int s25, .int s26, .int s27, .int s28, .ref g29, .ref g30, .ref g31, .ref g32, .ref g33])), (g15, .inl (cy 2, 4, .inl f15)), (g16, .inl (cy 0, 4, .inl f16)), (g17, .inl (cy 0, 4, .inl f17)), (g18, .inl (cy 0, 24, .inl f18))]) [0, 1, 2, 3, 4] rfl
              have hD9 := hD.sub (ws' := [(mo, .inr (12, [.int 0, .int n1_23, .long t2, .int s3, .int s4, .ref g5, .ref g6, .ref g7, .ref g8, .ref g9, .ref g10, .int s11, .ref g12, .ref g13, .ref g14, .ref g15, .ref g16, .ref g17, .ref g18, .ref g19, .ref g20, .int s21, .ref g22, .ref g23, .ref g24, .int s25, .int s26, .int s27, .int s28, .ref g29, .ref g30, .ref g31, .ref g32, .ref g33])), (g15, .inl (cy 2, 4, .inl f15)), (g16, .inl (cy 0, 4, .inl f16)), (g17, .inl (cy 0, 4, .inl f17)), (g18, .inl (cy 0, 24, .inl f18))]) [0, 1, 2, 3, 4] (by decide) rfl
              subst hQ
              exact W.iret (v := (-15)) hx hb hr (fun t ht hW => ⟨⟨(-15), (), rfl, Or.inr (Or.inl (⟨by omega, rfl⟩)), n1_23, f15, f16, f17, f18, (by first | assumption | exact rng_zero (by omega) (by omega) | omega), (by first | assumption | exact rng_zero (by omega) (by omega) | omega), by rw [ht]; exact hP9, hD9⟩, hS.F ht⟩) hS.2.2 dX12_map_56
          · have t_7 : ¬ a3.toInt ≤ (6 : Int32).toInt := fun h => c_7 (Int32.le_iff_toInt_le.mpr h)
            refine lv_aload_n hx hb dX12_map_40 rfl (lv_at hl 0 rfl) ?_
            refine lv_iconst (v := (-1)) hx hb dX12_map_41 (by decide) ?_
            have hPc := hP.sub (ws' := [(mo, .inr (12, [.int 0, .int 0, .long t2, .int s3, .int s4, .ref g5, .ref g6, .ref g7, .ref g8, .ref g9, .ref g10, .int s11, .ref g12, .ref g13, .ref g14, .ref g15, .ref g16, .ref g17, .ref g18, .ref g19, .ref g20, .int s21, .ref g22, .ref g23, .ref g24, .int s25, .int s26, .int s27, .int s28, .ref g29, .ref g30, .ref g31, .ref g32, .ref g33]))]) [0] rfl
            have hDc := hD.sub (ws' := [(mo, .inr (12, [.int 0, .int 0, .long t2, .int s3, .int s4, .ref g5, .ref g6, .ref g7, .ref g8, .ref g9, .ref g10, .int s11, .ref g12, .ref g13, .ref g14, .ref g15, .ref g16, .ref g17, .ref g18, .ref g19, .ref g20, .int s21, .ref g22, .ref g23, .ref g24, .int s25, .int s26, .int s27, .int s28, .ref g29, .ref g30, .ref g31, .ref g32, .ref g33]))]) [0] (by decide) rfl
            have hDw : va_D (fun _ => True) [(mo, .inr (12, [.int 0, .int 0, .long t2, .int s3, .int s4, .ref g5, .ref g6, .ref g7, .ref g8, .ref g9, .ref g10, .int s11, .ref g12, .ref g13, .ref g14, .ref g15, .ref g16, .ref g17, .ref g18, .ref g19, .ref g20, .int s21, .ref g22, .ref g23, .ref g24, .int s25, .int s26, .int s27, .int s28, .ref g29, .ref g30, .ref g31, .ref g32, .ref g33]))] := hDc.weaken (fun _ _ _ _ => trivial)
            have hFc := va_free (wc := [(mo, .inr (12, [.int 0, .int 0, .long t2, .int s3, .int s4, .ref g5, .ref g6, .ref g7, .ref g8, .ref g9, .ref g10, .int s11, .ref g12, .ref g13, .ref g14, .ref g15, .ref g16, .ref g17, .ref g18, .ref g19, .ref g20, .int s21, .ref g22, .ref g23, .ref g24, .int s25, .int s26, .int s27, .int s28, .ref g29, .ref g30, .ref g31, .ref g32, .ref g33]))]) hD hS hA [0] rfl
            refine va_calli (va_runV (As := [.int (-1)]) (rest := []) ⟨hx, hb, hml, hown, hts⟩ (c_X12_no l D cy H.size mo g5 g6 g7 g8 g9 g10 g12 g13 g14 g15 g16 g17 g18 g19 g20 g22 g23 g24 g29 g30 g31 g32 g33 (0 : Int32) (0 : Int32) s3 s4 s11 s21 s25 s26 s27 s28 t2 ((-1) : Int32)) (cwV 1 hts gX12_map_X12_no rfl rfl rfl (by decide +kernel) ⟨Nat.le_of_ble_eq_true rfl, Nat.le_of_ble_eq_true rfl⟩) ⟨bl_, va_recv hK.1 hP (ci := 12) (q0 := 0) rfl rfl, fun U hU hW => ⟨rfl, by rw [hU], by rw [hU]; exact hPc, kk_mv hW hK, hDw⟩⟩ rfl rfl hl.1 rfl (lv_room (Nat.le_of_ble_eq_true rfl)) dX12_map_42 ⟨Nat.le_of_ble_eq_true rfl, Nat.le_of_ble_eq_true rfl⟩) hS (fun q _ h => hFc q h) hFc (fun r_24 u t H locs ht hvm hw hB hz1 hk1 hS => ?_)
            obtain ⟨n1_25, hP1, hD1⟩ := hB
            rw [ht] at hP1
            obtain ⟨hP, hD⟩ := va_join (wr := [(g15, .inl (cy 2, 4, .inl f15)), (g16, .inl (cy 0, 4, .inl f16)), (g17, .inl (cy 0, 4, .inl f17)), (g18, .inl (cy 0, 24, .inl f18))]) (w1 := [(mo, .inr (12, [.int 0, .int n1_25, .long t2, .int s3, .int s4, .ref g5, .ref g6, .ref g7, .ref g8, .ref g9, .ref g10, .int s11, .ref g12, .ref g13, .ref g14, .ref g15, .ref g16, .ref g17, .ref g18, .ref g19, .ref g20, .int s21, .ref g22, .ref g23, .ref g24, .int s25, .int s26, .int s27, .int s28, .ref g29, .ref g30, .ref g31, .ref g32, .ref g33]))]) hP hD [0] [1, 2, 3, 4] rfl rfl (by decide) (by decide) hk1 hFc hP1 hD1
            have hP : va_P D vwCl [(g15, .inl (cy 2, 4, .inl f15)), (g16, .inl (cy 0, 4, .inl f16)), (g17, .inl (cy 0, 4, .inl f17)), (g18, .inl (cy 0, 24, .inl f18)), (mo, .inr (12, [.int 0, .int n1_25, .long t2, .int s3, .int s4, .ref g5, .ref g6, .ref g7, .ref g8, .ref g9, .ref g10, .int s11, .ref g12, .ref g13, .ref g14, .ref g15, .ref g16, .ref g17, .ref g18, .ref g19, .ref g20, .int s21, .ref g22, .ref g23, .ref g24, .int s25, .int s26, .int s27, .int s28, .ref g29, .ref g30, .ref g31, .ref g32, .ref g33]))] H := hP
            have hD : va_D A [(g15, .inl (cy 2, 4, .inl f15)), (g16, .inl (cy 0, 4, .inl f16)), (g17, .inl (cy 0, 4, .inl f17)), (g18, .inl (cy 0, 24, .inl f18)), (mo, .inr (12, [.int 0, .int n1_25, .long t2, .int s3, .int s4, .ref g5, .ref g6, .ref g7, .ref g8, .ref g9, .ref g10, .int s11, .ref g12, .ref g13, .ref g14, .ref g15, .ref g16, .ref g17, .ref g18, .ref g19, .ref g20, .int s21, .ref g22, .ref g23, .ref g24, .int s25, .int s26, .int s27, .int s28, .ref g29, .ref g30, .ref g31, .ref g32, .ref g33]))] := hD
            have hP : va_P D vwCl [(mo, .inr (12, [.int 0, .int n1_25, .long t2, .int s3, .int s4, .ref g5, .ref g6, .ref g7, .ref g8, .ref g9, .ref g10, .int s11, .ref g12, .ref g13, .ref g14, .ref g15, .ref g16, .ref g17, .ref g18, .ref g19, .ref g20, .int s21, .ref g22, .ref g23, .ref g24, .int s25, .int s26, .int s27, .int s28, .ref g29, .ref g30, .ref g31, .ref g32, .ref g33])), (g15, .inl (cy 2, 4, .inl f15)), (g16, .inl (cy 0, 4, .inl f16)), (g17, .inl (cy 0, 4, .inl f17)), (g18, .inl (cy 0, 24, .inl f18))] H := hP.sub [4, 0, 1, 2, 3] rfl
            have hD : va_D A [(mo, .inr (12, [.int 0, .int n1_25, .long t2, .int s3, .int s4, .ref g5, .ref g6, .ref g7, .ref g8, .ref g9, .ref g10, .int s11, .ref g12, .ref g13, .ref g14, .ref g15, .ref g16, .ref g17, .ref g18, .ref g19, .ref g20, .int s21, .ref g22, .ref g23, .ref g24, .int s25, .int s26, .int s27, .int s28, .ref g29, .ref g30, .ref g31, .ref g32, .ref g33])), (g15, .inl (cy 2, 4, .inl f15)), (g16, .inl (cy 0, 4, .inl f16)), (g17, .inl (cy 0, 4, .inl f17)), (g18, .inl (cy 0, 24, .inl f18))] := hD.sub [4, 0, 1, 2, 3] (by decide) rfl
            have e_ := hw.symm
            subst e_
            have hP9 := hP.sub (ws' := [(mo, .inr (12, [.int 0, .int n1_25, .long t2, .int s3, .int s4, .ref g5, .ref g6, .ref g7, .ref g8, .ref g9, .ref g10, .int s11, .ref g12, .ref g13, .ref g14, .ref g15, .ref g16, .ref g17, .ref g18, .ref g19, .ref g20, .int s21, .ref g22, .ref g23, .ref g24, .int s25, .int s26, .int s27, .int s28, .ref g29, .ref g30, .ref g31, .ref g32, .ref g33])), (g15, .inl (cy 2, 4, .inl f15)), (g16, .inl (cy 0, 4, .inl f16)), (g17, .inl (cy 0, 4, .inl f17)), (g18, .inl (cy 0, 24, .inl f18))]) [0, 1, 2, 3, 4] rfl
            have hD9 := hD.sub (ws' := [(mo, .inr (12, [.int 0, .int n1_25, .long t2, .int s3, .int s4, .ref g5, .ref g6, .ref g7, .ref g8, .ref g9, .ref g10, .int s11, .ref g12, .ref g13, .ref g14, .ref g15, .ref g16, .ref g17, .ref g18, .ref g19, .ref g20, .int s21, .ref g22, .ref g23, .ref g24, .int s25, .int s26, .int s27, .int s28, .ref g29, .ref g30, .ref g31, .ref g32, .ref g33])), (g15, .inl (cy 2, 4, .inl f15)), (g16, .inl (cy 0, 4, .inl f16)), (g17, .inl (cy 0, 4, .inl f17)), (g18, .inl (cy 0, 24, .inl f18))]) [0, 1, 2, 3, 4] (by decide) rfl
            subst hQ
            exact W.iret (v := (-1)) hx hb hr (fun t ht hW => ⟨⟨(-1), (), rfl, Or.inl (⟨by omega, rfl⟩), n1_25, f15, f16, f17, f18, (by first | assumption | exact rng_zero (by omega) (by omega) | omega), (by first | assumption | exact rng_zero (by omega) (by omega) | omega), by rw [ht]; exact hP9, hD9⟩, hS.F ht⟩) hS.2.2 dX12_map_45
      · have e_ := e_.symm
        subst e_
        refine lv_if_eq (tgt := 40) hx hb dX12_map_31 (by decide) (fun c_26 => ?_) (fun c_26 => ?_)
        · have _ := c_26
          refine lv_aload_n hx hb dX12_map_40 rfl (lv_at hl 0 rfl) ?_
          refine lv_iconst (v := (-1)) hx hb dX12_map_41 (by decide) ?_
          have hPc := hP.sub (ws' := [(mo, .inr (12, [.int 0, .int 0, .long t2, .int s3, .int s4, .ref g5, .ref g6, .ref g7, .ref g8, .ref g9, .ref g10, .int s11, .ref g12, .ref g13, .ref g14, .ref g15, .ref g16, .ref g17, .ref g18, .ref g19, .ref g20, .int s21, .ref g22, .ref g23, .ref g24, .int s25, .int s26, .int s27, .int s28, .ref g29, .ref g30, .ref g31, .ref g32, .ref g33]))]) [0] rfl
          have hDc := hD.sub (ws' := [(mo, .inr (12, [.int 0, .int 0, .long t2, .int s3, .int s4, .ref g5, .ref g6, .ref g7, .ref g8, .ref g9, .ref g10, .int s11, .ref g12, .ref g13, .ref g14, .ref g15, .ref g16, .ref g17, .ref g18, .ref g19, .ref g20, .int s21, .ref g22, .ref g23, .ref g24, .int s25, .int s26, .int s27, .int s28, .ref g29, .ref g30, .ref g31, .ref g32, .ref g33]))]) [0] (by decide) rfl
          have hDw : va_D (fun _ => True) [(mo, .inr (12, [.int 0, .int 0, .long t2, .int s3, .int s4, .ref g5, .ref g6, .ref g7, .ref g8, .ref g9, .ref g10, .int s11, .ref g12, .ref g13, .ref g14, .ref g15, .ref g16, .ref g17, .ref g18, .ref g19, .ref g20, .int s21, .ref g22, .ref g23, .ref g24, .int s25, .int s26, .int s27, .int s28, .ref g29, .ref g30, .ref g31, .ref g32, .ref g33]))] := hDc.weaken (fun _ _ _ _ => trivial)
          have hFc := va_free (wc := [(mo, .inr (12, [.int 0, .int 0, .long t2, .int s3, .int s4, .ref g5, .ref g6, .ref g7, .ref g8, .ref g9, .ref g10, .int s11, .ref g12, .ref g13, .ref g14, .ref g15, .ref g16, .ref g17, .ref g18, .ref g19, .ref g20, .int s21, .ref g22, .ref g23, .ref g24, .int s25, .int s26, .int s27, .int s28, .ref g29, .ref g30, .ref g31, .ref g32, .ref g33]))]) hD hS hA [0] rfl
          refine va_calli (va_runV (As := [.int (-1)]) (rest := []) ⟨hx, hb, hml, hown, hts⟩ (c_X12_no l D cy H.size mo g5 g6 g7 g8 g9 g10 g12 g13 g14 g15 g16 g17 g18 g19 g20 g22 g23 g24 g29 g30 g31 g32 g33 (0 : Int32) (0 : Int32) s3 s4 s11 s21 s25 s26 s27 s28 t2 ((-1) : Int32)) (cwV 1 hts gX12_map_X12_no rfl rfl rfl (by decide +kernel) ⟨Nat.le_of_ble_eq_true rfl, Nat.le_of_ble_eq_true rfl⟩) ⟨bl_, va_recv hK.1 hP (ci := 12) (q0 := 0) rfl rfl, fun U hU hW => ⟨rfl, by rw [hU], by rw [hU]; exact hPc, kk_mv hW hK, hDw⟩⟩ rfl rfl hl.1 rfl (lv_room (Nat.le_of_ble_eq_true rfl)) dX12_map_42 ⟨Nat.le_of_ble_eq_true rfl, Nat.le_of_ble_eq_true rfl⟩) hS (fun q _ h => hFc q h) hFc (fun r_27 u t H locs ht hvm hw hB hz1 hk1 hS => ?_)
          obtain ⟨n1_28, hP1, hD1⟩ := hB
          rw [ht] at hP1
          obtain ⟨hP, hD⟩ := va_join (wr := [(g15, .inl (cy 2, 4, .inl f15)), (g16, .inl (cy 0, 4, .inl f16)), (g17, .inl (cy 0, 4, .inl f17)), (g18, .inl (cy 0, 24, .inl f18))]) (w1 := [(mo, .inr (12, [.int 0, .int n1_28, .long t2, .int s3, .int s4, .ref g5, .ref g6, .ref g7, .ref g8, .ref g9, .ref g10, .int s11, .ref g12, .ref g13, .ref g14, .ref g15, .ref g16, .ref g17, .ref g18, .ref g19, .ref g20, .int s21, .ref g22, .ref g23, .ref g24, .int s25, .int s26, .int s27, .int s28, .ref g29, .ref g30, .ref g31, .ref g32, .ref g33]))]) hP hD [0] [1, 2, 3, 4] rfl rfl (by decide) (by decide) hk1 hFc hP1 hD1
          have hP : va_P D vwCl [(g15, .inl (cy 2, 4, .inl f15)), (g16, .inl (cy 0, 4, .inl f16)), (g17, .inl (cy 0, 4, .inl f17)), (g18, .inl (cy 0, 24, .inl f18)), (mo, .inr (12, [.int 0, .int n1_28, .long t2, .int s3, .int s4, .ref g5, .ref g6, .ref g7, .ref g8, .ref g9, .ref g10, .int s11, .ref g12, .ref g13, .ref g14, .ref g15, .ref g16, .ref g17, .ref g18, .ref g19, .ref g20, .int s21, .ref g22, .ref g23, .ref g24, .int s25, .int s26, .int s27, .int s28, .ref g29, .ref g30, .ref g31, .ref g32, .ref g33]))] H := hP
          have hD : va_D A [(g15, .inl (cy 2, 4, .inl f15)), (g16, .inl (cy 0, 4, .inl f16)), (g17, .inl (cy 0, 4, .inl f17)), (g18, .inl (cy 0, 24, .inl f18)), (mo, .inr (12, [.int 0, .int n1_28, .long t2, .int s3, .int s4, .ref g5, .ref g6, .ref g7, .ref g8, .ref g9, .ref g10, .int s11, .ref g12, .ref g13, .ref g14, .ref g15, .ref g16, .ref g17, .ref g18, .ref g19, .ref g20, .int s21, .ref g22, .ref g23, .ref g24, .int s25, .int s26, .int s27, .int s28, .ref g29, .ref g30, .ref g31, .ref g32, .ref g33]))] := hD
          have hP : va_P D vwCl [(mo, .inr (12, [.int 0, .int n1_28, .long t2, .int s3, .int s4, .ref g5, .ref g6, .ref g7, .ref g8, .ref g9, .ref g10, .int s11, .ref g12, .ref g13, .ref g14, .ref g15, .ref g16, .ref g17, .ref g18, .ref g19, .ref g20, .int s21, .ref g22, .ref g23, .ref g24, .int s25, .int s26, .int s27, .int s28, .ref g29, .ref g30, .ref g31, .ref g32, .ref g33])), (g15, .inl (cy 2, 4, .inl f15)), (g16, .inl (cy 0, 4, .inl f16)), (g17, .inl (cy 0, 4, .inl f17)), (g18, .inl (cy 0, 24, .inl f18))] H := hP.sub [4, 0, 1, 2, 3] rfl
          have hD : va_D A [(mo, .inr (12, [.int 0, .int n1_28, .long t2, .int s3, .int s4, .ref g5, .ref g6, .ref g7, .ref g8, .ref g9, .ref g10, .int s11, .ref g12, .ref g13, .ref g14, .ref g15, .ref g16, .ref g17, .ref g18, .ref g19, .ref g20, .int s21, .ref g22, .ref g23, .ref g24, .int s25, .int s26, .int s27, .int s28, .ref g29, .ref g30, .ref g31, .ref g32, .ref g33])), (g15, .inl (cy 2, 4, .inl f15)), (g16, .inl (cy 0, 4, .inl f16)), (g17, .inl (cy 0, 4, .inl f17)), (g18, .inl (cy 0, 24, .inl f18))] := hD.sub [4, 0, 1, 2, 3] (by decide) rfl
          have e_ := hw.symm
          subst e_
          have hP9 := hP.sub (ws' := [(mo, .inr (12, [.int 0, .int n1_28, .long t2, .int s3, .int s4, .ref g5, .ref g6, .ref g7, .ref g8, .ref g9, .ref g10, .int s11, .ref g12, .ref g13, .ref g14, .ref g15, .ref g16, .ref g17, .ref g18, .ref g19, .ref g20, .int s21, .ref g22, .ref g23, .ref g24, .int s25, .int s26, .int s27, .int s28, .ref g29, .ref g30, .ref g31, .ref g32, .ref g33])), (g15, .inl (cy 2, 4, .inl f15)), (g16, .inl (cy 0, 4, .inl f16)), (g17, .inl (cy 0, 4, .inl f17)), (g18, .inl (cy 0, 24, .inl f18))]) [0, 1, 2, 3, 4] rfl
          have hD9 := hD.sub (ws' := [(mo, .inr (12, [.int 0, .int n1_28, .long t2, .int s3, .int s4, .ref g5, .ref g6, .ref g7, .ref g8, .ref g9, .ref g10, .int s11, .ref g12, .ref g13, .ref g14, .ref g15, .ref g16, .ref g17, .ref g18, .ref g19, .ref g20, .int s21, .ref g22, .ref g23, .ref g24, .int s25, .int s26, .int s27, .int s28, .ref g29, .ref g30, .ref g31, .ref g32, .ref g33])), (g15, .inl (cy 2, 4, .inl f15)), (g16, .inl (cy 0, 4, .inl f16)), (g17, .inl (cy 0, 4, .inl f17)), (g18, .inl (cy 0, 24, .inl f18))]) [0, 1, 2, 3, 4] (by decide) rfl
          subst hQ
          exact W.iret (v := (-1)) hx hb hr (fun t ht hW => ⟨⟨(-1), (), rfl, Or.inl (⟨by omega, rfl⟩), n1_28, f15, f16, f17, f18, (by first | assumption | exact rng_zero (by omega) (by omega) | omega), (by first | assumption | exact rng_zero (by omega) (by omega) | omega), by rw [ht]; exact hP9, hD9⟩, hS.F ht⟩) hS.2.2 dX12_map_45
        · exact absurd c_26 (by decide)
  · have e_ := e_.symm
    subst e_
    refine lv_if_eq (tgt := 40) hx hb dX12_map_19 (by decide) (fun c_29 => ?_) (fun c_29 => ?_)
    · have _ := c_29
      refine lv_aload_n hx hb dX12_map_40 rfl (lv_at hl 0 rfl) ?_
      refine lv_iconst (v := (-1)) hx hb dX12_map_41 (by decide) ?_
      have hPc := hP.sub (ws' := [(mo, .inr (12, [.int 0, .int 0, .long t2, .int s3, .int s4, .ref g5, .ref g6, .ref g7, .ref g8, .ref g9, .ref g10, .int s11, .ref g12, .ref g13, .ref g14, .ref g15, .ref g16, .ref g17, .ref g18, .ref g19, .ref g20, .int s21, .ref g22, .ref g23, .ref g24, .int s25, .int s26, .int s27, .int s28, .ref g29, .ref g30, .ref g31, .ref g32, .ref g33]))]) [0] rfl
      have hDc := hD.sub (ws' := [(mo, .inr (12, [.int 0, .int 0, .long t2, .int s3, .int s4, .ref g5, .ref g6, .ref g7, .ref g8, .ref g9, .ref g10, .int s11, .ref g12, .ref g13, .ref g14, .ref g15, .ref g16, .ref g17, .ref g18, .ref g19, .ref g20, .int s21, .ref g22, .ref g23, .ref g24, .int s25, .int s26, .int s27, .int s28, .ref g29, .ref g30, .ref g31, .ref g32, .ref g33]))]) [0] (by decide) rfl
      have hDw : va_D (fun _ => True) [(mo, .inr (12, [.int 0, .int 0, .long t2, .int s3, .int s4, .ref g5, .ref g6, .ref g7, .ref g8, .ref g9, .ref g10, .int s11, .ref g12, .ref g13, .ref g14, .ref g15, .ref g16, .ref g17, .ref g18, .ref g19, .ref g20, .int s21, .ref g22, .ref g23, .ref g24, .int s25, .int s26, .int s27, .int s28, .ref g29, .ref g30, .ref g31, .ref g32, .ref g33]))] := hDc.weaken (fun _ _ _ _ => trivial)
      have hFc := va_free (wc := [(mo, .inr (12, [.int 0, .int 0, .long t2, .int s3, .int s4, .ref g5, .ref g6, .ref g7, .ref g8, .ref g9, .ref g10, .int s11, .ref g12, .ref g13, .ref g14, .ref g15, .ref g16, .ref g17, .ref g18, .ref g19, .ref g20, .int s21, .ref g22, .ref g23, .ref g24, .int s25, .int s26, .int s27, .int s28, .ref g29, .ref g30, .ref g31, .ref g32, .ref g33]))]) hD hS hA [0] rfl
      refine va_calli (va_runV (As := [.int (-1)]) (rest := []) ⟨hx, hb, hml, hown, hts⟩ (c_X12_no l D cy H.size mo g5 g6 g7 g8 g9 g10 g12 g13 g14 g15 g16 g17 g18 g19 g20 g22 g23 g24 g29 g30 g31 g32 g33 (0 : Int32) (0 : Int32) s3 s4 s11 s21 s25 s26 s27 s28 t2 ((-1) : Int32)) (cwV 1 hts gX12_map_X12_no rfl rfl rfl (by decide +kernel) ⟨Nat.le_of_ble_eq_true rfl, Nat.le_of_ble_eq_true rfl⟩) ⟨bl_, va_recv hK.1 hP (ci := 12) (q0 := 0) rfl rfl, fun U hU hW => ⟨rfl, by rw [hU], by rw [hU]; exact hPc, kk_mv hW hK, hDw⟩⟩ rfl rfl hl.1 rfl (lv_room (Nat.le_of_ble_eq_true rfl)) dX12_map_42 ⟨Nat.le_of_ble_eq_true rfl, Nat.le_of_ble_eq_true rfl⟩) hS (fun q _ h => hFc q h) hFc (fun r_30 u t H locs ht hvm hw hB hz1 hk1 hS => ?_)
      obtain ⟨n1_31, hP1, hD1⟩ := hB
      rw [ht] at hP1
      obtain ⟨hP, hD⟩ := va_join (wr := [(g15, .inl (cy 2, 4, .inl f15)), (g16, .inl (cy 0, 4, .inl f16)), (g17, .inl (cy 0, 4, .inl f17)), (g18, .inl (cy 0, 24, .inl f18))]) (w1 := [(mo, .inr (12, [.int 0, .int n1_31, .long t2, .int s3, .int s4, .ref g5, .ref g6, .ref g7, .ref g8, .ref g9, .ref g10, .int s11, .ref g12, .ref g13, .ref g14, .ref g15, .ref g16, .ref g17, .ref g18, .ref g19, .ref g20, .int s21, .ref g22, .ref g23, .ref g24, .int s25, .int s26, .int s27, .int s28, .ref g29, .ref g30, .ref g31, .ref g32, .ref g33]))]) hP hD [0] [1, 2, 3, 4] rfl rfl (by decide) (by decide) hk1 hFc hP1 hD1
      have hP : va_P D vwCl [(g15, .inl (cy 2, 4, .inl f15)), (g16, .inl (cy 0, 4, .inl f16)), (g17, .inl (cy 0, 4, .inl f17)), (g18, .inl (cy 0, 24, .inl f18)), (mo, .inr (12, [.int 0, .int n1_31, .long t2, .int s3, .int s4, .ref g5, .ref g6, .ref g7, .ref g8, .ref g9, .ref g10, .int s11, .ref g12, .ref g13, .ref g14, .ref g15, .ref g16, .ref g17, .ref g18, .ref g19, .ref g20, .int s21, .ref g22, .ref g23, .ref g24, .int s25, .int s26, .int s27, .int s28, .ref g29, .ref g30, .ref g31, .ref g32, .ref g33]))] H := hP
      have hD : va_D A [(g15, .inl (cy 2, 4, .inl f15)), (g16, .inl (cy 0, 4, .inl f16)), (g17, .inl (cy 0, 4, .inl f17)), (g18, .inl (cy 0, 24, .inl f18)), (mo, .inr (12, [.int 0, .int n1_31, .long t2, .int s3, .int s4, .ref g5, .ref g6, .ref g7, .ref g8, .ref g9, .ref g10, .int s11, .ref g12, .ref g13, .ref g14, .ref g15, .ref g16, .ref g17, .ref g18, .ref g19, .ref g20, .int s21, .ref g22, .ref g23, .ref g24, .int s25, .int s26, .int s27, .int s28, .ref g29, .ref g30, .ref g31, .ref g32, .ref g33]))] := hD
      have hP : va_P D vwCl [(mo, .inr (12, [.int 0, .int n1_31, .long t2, .int s3, .int s4, .ref g5, .ref g6, .ref g7, .ref g8, .ref g9, .ref g10, .int s11, .ref g12, .ref g13, .ref g14, .ref g15, .ref g16, .ref g17, .ref g18, .ref g19, .ref g20, .int s21, .ref g22, .ref g23, .ref g24, .int s25, .int s26, .int s27, .int s28, .ref g29, .ref g30, .ref g31, .ref g32, .ref g33])), (g15, .inl (cy 2, 4, .inl f15)), (g16, .inl (cy 0, 4, .inl f16)), (g17, .inl (cy 0, 4, .inl f17)), (g18, .inl (cy 0, 24, .inl f18))] H := hP.sub [4, 0, 1, 2, 3] rfl
      have hD : va_D A [(mo, .inr (12, [.int 0, .int n1_31, .long t2, .int s3, .int s4, .ref g5, .ref g6, .ref g7, .ref g8, .ref g9, .ref g10, .int s11, .ref g12, .ref g13, .ref g14, .ref g15, .ref g16, .ref g17, .ref g18, .ref g19, .ref g20, .int s21, .ref g22, .ref g23, .ref g24, .int s25, .int s26, .int s27, .int s28, .ref g29, .ref g30, .ref g31, .ref g32, .ref g33])), (g15, .inl (cy 2, 4, .inl f15)), (g16, .inl (cy 0, 4, .inl f16)), (g17, .inl (cy 0, 4, .inl f17)), (g18, .inl (cy 0, 24, .inl f18))] := hD.sub [4, 0, 1, 2, 3] (by decide) rfl
      have e_ := hw.symm
      subst e_
      have hP9 := hP.sub (ws' := [(mo, .inr (12, [.int 0, .int n1_31, .long t2, .int s3, .int s4, .ref g5, .ref g6, .ref g7, .ref g8, .ref g9, .ref g10, .int s11, .ref g12, .ref g13, .ref g14, .ref g15, .ref g16, .ref g17, .ref g18, .ref g19, .ref g20, .int s21, .ref g22, .ref g23, .ref g24, .int s25, .int s26, .int s27, .int s28, .ref g29, .ref g30, .ref g31, .ref g32, .ref g33])), (g15, .inl (cy 2, 4, .inl f15)), (g16, .inl (cy 0, 4, .inl f16)), (g17, .inl (cy 0, 4, .inl f17)), (g18, .inl (cy 0, 24, .inl f18))]) [0, 1, 2, 3, 4] rfl
      have hD9 := hD.sub (ws' := [(mo, .inr (12, [.int 0, .int n1_31, .long t2, .int s3, .int s4, .ref g5, .ref g6, .ref g7, .ref g8, .ref g9, .ref g10, .int s11, .ref g12, .ref g13, .ref g14, .ref g15, .ref g16, .ref g17, .ref g18, .ref g19, .ref g20, .int s21, .ref g22, .ref g23, .ref g24, .int s25, .int s26, .int s27, .int s28, .ref g29, .ref g30, .ref g31, .ref g32, .ref g33])), (g15, .inl (cy 2, 4, .inl f15)), (g16, .inl (cy 0, 4, .inl f16)), (g17, .inl (cy 0, 4, .inl f17)), (g18, .inl (cy 0, 24, .inl f18))]) [0, 1, 2, 3, 4] (by decide) rfl
      subst hQ
      exact W.iret (v := (-1)) hx hb hr (fun t ht hW => ⟨⟨(-1), (), rfl, Or.inl (⟨by omega, rfl⟩), n1_31, f15, f16, f17, f18, (by first | assumption | exact rng_zero (by omega) (by omega) | omega), (by first | assumption | exact rng_zero (by omega) (by omega) | omega), by rw [ht]; exact hP9, hD9⟩, hS.F ht⟩) hS.2.2 dX12_map_45
    · exact absurd c_29 (by decide)
