set_option maxHeartbeats 4000000 in
set_option maxRecDepth 100000 in
theorem c_X12_copy2 (l : Launch) (D : va_G) (cy : Nat → ClassId) (sz : Nat) (mo : Nat) (g5 : Nat) (g6 : Nat) (g7 : Nat) (g8 : Nat) (g9 : Nat) (g10 : Nat) (g12 : Nat) (g13 : Nat) (g14 : Nat) (g15 : Nat) (g16 : Nat) (g17 : Nat) (g18 : Nat) (g19 : Nat) (g20 : Nat) (g22 : Nat) (g23 : Nat) (g24 : Nat) (g29 : Nat) (g30 : Nat) (g31 : Nat) (g32 : Nat) (g33 : Nat) (s0 : Int32) (s1 : Int32) (s3 : Int32) (s4 : Int32) (s11 : Int32) (s21 : Int32) (s25 : Int32) (s26 : Int32) (s27 : Int32) (s28 : Int32) (t2 : Int64) (f15 : Nat → Int32) (f17 : Nat → Int32) (f18 : Nat → Int32) (f19 : Nat → Int64) (f20 : Nat → Int64) (a1 : Int32) (a2 : Int32) (a3 : Int32) (a4 : Int32) (a5 : Int32) (a6 : Int32) (hlk : lok f18 24) (r_f17 : rng f17 4 (0) (6)) (r_f18 : rng f18 24 (-9) (5)) : Met l yX12_copy wsX12_copy ({ frames := 1, cells := 0, slots := 0, locals := 25 }) (va_Pc [.ref mo, .int a1, .int a2, .int a3, .int a4, .int a5, .int a6] (fun U => U.heap.size = sz ∧ va_P D vwCl [ob12_0_ mo s0 s1 t2 s3 s4 g5 g6 g7 g8 g9 g10 s11 g12 g13 g14 g15 g16 g17 g18 g19 g20 s21 g22 g23 g24 s25 s26 s27 s28 g29 g30 g31 g32 g33, az_ cy g15 4 f15, ai_ cy g17 4 f17, ai_ cy g18 24 f18, aj_ cy g19 120 f19, aj_ cy g20 5 f20] U.heap ∧ kk_ D cy U ∧ va_D (fun _ => True) [ob12_0_ mo s0 s1 t2 s3 s4 g5 g6 g7 g8 g9 g10 s11 g12 g13 g14 g15 g16 g17 g18 g19 g20 s21 g22 g23 g24 s25 s26 s27 s28 g29 g30 g31 g32 g33, az_ cy g15 4 f15, ai_ cy g17 4 f17, ai_ cy g18 24 f18, aj_ cy g19 120 f19, aj_ cy g20 5 f20])) (va_Qi (fun (r : Int32) (_ : Unit) => (r.toInt = if cpyI a1.toInt a2.toInt a3.toInt a4.toInt a5.toInt a6.toInt (f15 a1.toNatClampNeg).toInt (f17 a1.toNatClampNeg).toInt (f18 (6 * a1.toInt + a2.toInt).toNat).toInt (f18 (6 * a1.toInt + a4.toInt).toNat).toInt = 0 then a6.toInt else cpyI a1.toInt a2.toInt a3.toInt a4.toInt a5.toInt a6.toInt (f15 a1.toNatClampNeg).toInt (f17 a1.toNatClampNeg).toInt (f18 (6 * a1.toInt + a2.toInt).toNat).toInt (f18 (6 * a1.toInt + a4.toInt).toNat).toInt)) (fun (_ : Unit) (t : State) => ∃ (n1 : Int32), ∃ (e19 : Nat → Int64), ∃ (e20 : Nat → Int64), (n1.toInt = cpyI a1.toInt a2.toInt a3.toInt a4.toInt a5.toInt a6.toInt (f15 a1.toNatClampNeg).toInt (f17 a1.toNatClampNeg).toInt (f18 (6 * a1.toInt + a2.toInt).toNat).toInt (f18 (6 * a1.toInt + a4.toInt).toNat).toInt) ∧ ((n1.toInt ≠ 0 → e19 = f19) ∧ (n1.toInt = 0 → ∀ q : Nat, e19 q = if 30 * a1.toInt + 5 * a4.toInt + a5.toInt ≤ (q : Int) ∧ (q : Int) < 30 * a1.toInt + 5 * a4.toInt + a5.toInt + a6.toInt then f19 (30 * a1.toInt + 5 * a2.toInt + a3.toInt + ((q : Int) - (30 * a1.toInt + 5 * a4.toInt + a5.toInt))).toNat else f19 q)) ∧ va_P D vwCl [ob12_0_ mo 0 n1 t2 s3 s4 g5 g6 g7 g8 g9 g10 s11 g12 g13 g14 g15 g16 g17 g18 g19 g20 s21 g22 g23 g24 s25 s26 s27 s28 g29 g30 g31 g32 g33, az_ cy g15 4 f15, ai_ cy g17 4 f17, ai_ cy g18 24 f18, aj_ cy g19 120 e19, aj_ cy g20 5 e20] t.heap ∧ va_D (va_A [ob12_0_ mo s0 s1 t2 s3 s4 g5 g6 g7 g8 g9 g10 s11 g12 g13 g14 g15 g16 g17 g18 g19 g20 s21 g22 g23 g24 s25 s26 s27 s28 g29 g30 g31 g32 g33, az_ cy g15 4 f15, ai_ cy g17 4 f17, ai_ cy g18 24 f18, aj_ cy g19 120 f19, aj_ cy g20 5 f20] sz) [ob12_0_ mo 0 n1 t2 s3 s4 g5 g6 g7 g8 g9 g10 s11 g12 g13 g14 g15 g16 g17 g18 g19 g20 s21 g22 g23 g24 s25 s26 s27 s28 g29 g30 g31 g32 g33, az_ cy g15 4 f15, ai_ cy g17 4 f17, ai_ cy g18 24 f18, aj_ cy g19 120 e19, aj_ cy g20 5 e20]) (va_A [ob12_0_ mo s0 s1 t2 s3 s4 g5 g6 g7 g8 g9 g10 s11 g12 g13 g14 g15 g16 g17 g18 g19 g20 s21 g22 g23 g24 s25 s26 s27 s28 g29 g30 g31 g32 g33, az_ cy g15 4 f15, ai_ cy g17 4 f17, ai_ cy g18 24 f18, aj_ cy g19 120 f19, aj_ cy g20 5 f20] sz)) 0 0 (va_A [ob12_0_ mo s0 s1 t2 s3 s4 g5 g6 g7 g8 g9 g10 s11 g12 g13 g14 g15 g16 g17 g18 g19 g20 s21 g22 g23 g24 s25 s26 s27 s28 g29 g30 g31 g32 g33, az_ cy g15 4 f15, ai_ cy g17 4 f17, ai_ cy g18 24 f18, aj_ cy g19 120 f19, aj_ cy g20 5 f20] sz) := by
  refine ofQ (cc := cX12_copy) (maxL := 10) (ret := (some .int)) (by decide) rfl ?_
  intro p e s m args below meth c s₁ Q hQ B hml hv
  obtain ⟨rfl, hsz, hP, hK, hD0⟩ := hv
  have hx := B.exec
  have hb := B.bytes
  have hr := B.returns
  have hts := atoms_spec (ws := wsX12_copy) B.pre
  have hown : s.vm.findClass RX12 = some m.cls := by have h_ := findClass_of_methodNamed B.named; exact h_
  have hlocks := B.notSynchronized
  subst hsz
  have hD := hD0.self (sz := s.heap.size)
  generalize hAe : va_A [ob12_0_ mo s0 s1 t2 s3 s4 g5 g6 g7 g8 g9 g10 s11 g12 g13 g14 g15 g16 g17 g18 g19 g20 s21 g22 g23 g24 s25 s26 s27 s28 g29 g30 g31 g32 g33, az_ cy g15 4 f15, ai_ cy g17 4 f17, ai_ cy g18 24 f18, aj_ cy g19 120 f19, aj_ cy g20 5 f20] s.heap.size = A at hD hQ
  have hA : ∀ q : Nat, s.heap.size ≤ q → A q := fun q h => by rw [← hAe]; exact Or.inr h
  have hS : va_S A s.heap s.heap [] := va_S.rf
  have hl := lv_entry ([.ref mo, .int a1, .int a2, .int a3, .int a4, .int a5, .int a6]) (n := 10) (Nat.le_of_ble_eq_true rfl)
  rw [lg_entry_eq]
  generalize (lg_sl ([.ref mo, .int a1, .int a2, .int a3, .int a4, .int a5, .int a6]) ++ List.replicate (10 - (lg_sl ([.ref mo, .int a1, .int a2, .int a3, .int a4, .int a5, .int a6])).length) Slot.unset).toArray = ls at hl ⊢
  have hl : lv_has ls 10 [(0, .ref mo), (1, .int a1), (2, .int a2), (3, .int a3), (4, .int a4), (5, .int a5), (6, .int a6)] := hl
  have zm12 : ((-12) : Int32).toInt = -12 := by decide
  have zm11 : ((-11) : Int32).toInt = -11 := by decide
  have zm9 : ((-9) : Int32).toInt = -9 := by decide
  have zm1 : ((-1) : Int32).toInt = -1 := by decide
  have z0 : (0 : Int32).toInt = 0 := by decide
  have zl0 : (0 : Int64).toInt = 0 := by decide
  have z1 : (1 : Int32).toInt = 1 := by decide
  have zl3 : (3 : Int64).toInt = 3 := by decide
  have z5 : (5 : Int32).toInt = 5 := by decide
  have z6 : (6 : Int32).toInt = 6 := by decide
  have z30 : (30 : Int32).toInt = 30 := by decide
  have zq1 : (1 : Int32).toInt = 1 := by decide
  refine lv_aload_n hx hb dB_3_3_21.2.1.1.2 rfl (lv_at hl 0 rfl) ?_
  refine lv_iconst (v := 0) hx hb dB_3_3_21.2.1.2.1 (by decide) ?_
  refine va_put (ci := 12) (v := .int 0) (ty := .int) (C := RX12) (T := TX12) (N := 34) hx hb hts (fun _ h => List.mem_cons_of_mem _ (List.mem_append_right _ h)) tyX12 tyX12_ok nmX12 hown hK.1 hP hD hS 0 rfl rfl 0 (by decide) (hts (.fieldLink RX12 85 "CutAtlasModel" "thrown" "I") (List.mem_of_getElem? (i := 1) rfl)) (fun _ h9 => h9) rfl (by decide +kernel) rfl rfl (Nat.le_of_ble_eq_true rfl) dB_3_3_21.2.1.2.2 (fun H locs hP hD hS => ?_)
  refine pd_K [ob12_0_ mo 0 s1 t2 s3 s4 g5 g6 g7 g8 g9 g10 s11 g12 g13 g14 g15 g16 g17 g18 g19 g20 s21 g22 g23 g24 s25 s26 s27 s28 g29 g30 g31 g32 g33, az_ cy g15 4 f15, ai_ cy g17 4 f17, ai_ cy g18 24 f18, aj_ cy g19 120 f19, aj_ cy g20 5 f20] hP hD (fun hP hD => ?_)
  refine lv_aload_n hx hb dB_3_3_21.2.2.1.1 rfl (lv_at hl 0 rfl) ?_
  refine lv_iconst (v := 0) hx hb dB_3_3_21.2.2.1.2 (by decide) ?_
  refine va_put (ci := 12) (v := .int 0) (ty := .int) (C := RX12) (T := TX12) (N := 34) hx hb hts (fun _ h => List.mem_cons_of_mem _ (List.mem_append_right _ h)) tyX12 tyX12_ok nmX12 hown hK.1 hP hD hS 0 rfl rfl 1 (by decide) (hts (.fieldLink RX12 240 "CutAtlasModel" "status" "I") (List.mem_of_getElem? (i := 2) rfl)) (fun _ h9 => h9) rfl (by decide +kernel) rfl rfl (Nat.le_of_ble_eq_true rfl) dB_3_3_21.2.2.2.1 (fun H locs hP hD hS => ?_)
  refine pd_K [ob12_0_ mo 0 0 t2 s3 s4 g5 g6 g7 g8 g9 g10 s11 g12 g13 g14 g15 g16 g17 g18 g19 g20 s21 g22 g23 g24 s25 s26 s27 s28 g29 g30 g31 g32 g33, az_ cy g15 4 f15, ai_ cy g17 4 f17, ai_ cy g18 24 f18, aj_ cy g19 120 f19, aj_ cy g20 5 f20] hP hD (fun hP hD => ?_)
  refine lv_iload_n hx hb dB_3_3_21.2.2.2.2 rfl (lv_at hl 1 rfl) ?_
  refine lv_i2l (v := a1.toInt64) hx hb dB_3_3_22.1.1.1.1 rfl ?_
  have q_11 : (a1.toInt64).toInt = a1.toInt := Int32.toInt_toInt64 a1
  refine lv_lconst (v := 0) hx hb dB_3_3_22.1.1.1.2 (by decide) ?_
  refine lv_ldc2 (v := 3) hx hb hown (hts (.constantLong RX12 243 (3)) (List.mem_of_getElem? (i := 3) rfl)) dB_3_3_22.1.1.2.1 ?_
  refine ct_R hP hD [] [] (by decide) rfl (fun hPc hDw => ?_)
  have hFc := va_free (wc := []) hD hS hA [] rfl
  refine va_calli (va_runS (As := [.long a1.toInt64, .long 0, .long 3]) (rest := []) ⟨hx, hb, hml, hown, hts⟩ (c_X12_in l D cy H.size a1.toInt64 (0 : Int64) (3 : Int64)) (va_cwS 3 hts gX12_copy_X12_in rfl rfl rfl hd_X12_in ⟨Nat.le_of_ble_eq_true rfl, Nat.le_of_ble_eq_true rfl⟩) ⟨bl_, fun U hU hW => ⟨rfl, by rw [hU], by rw [hU]; exact hPc, kk_mv hW hK, hDw⟩⟩ rfl rfl hl.1 rfl (lv_room (Nat.le_of_ble_eq_true rfl)) dB_3_3_22.1.1.2.2 ⟨Nat.le_of_ble_eq_true rfl, Nat.le_of_ble_eq_true rfl⟩) hS (fun q _ h => hFc q h) hFc (fun r_1 u t H locs ht hvm hw hB hz1 hk1 hS => ?_)
  have hP : va_P D vwCl _ H := ro_keep hP hk1
  rcases hw with ⟨w_2, e_⟩ | ⟨w_2, e_⟩
  · have e_ := e_.symm
    subst e_
    refine lv_if_ne (tgt := 28) hx hb dB_3_3_22.1.2.1.1 (by decide) (fun c_3 => ?_) (fun c_3 => ?_)
    · have _ := c_3
      refine lv_aload_n hx hb dB_3_3_22.2.1.1.2 rfl (lv_at hl 0 rfl) ?_
      refine va_get (ci := 12) (v := .ref g15) (C := RX12) (T := TX12) (N := 34) hx hb hts (fun _ h => List.mem_cons_of_mem _ (List.mem_append_right _ h)) hown hK.1 hP 0 rfl rfl 15 (by decide) (hts (.fieldLink RX12 38 "CutAtlasModel" "hasMap" "[Z") (List.mem_of_getElem? (i := 4) rfl)) (fun _ h9 => h9) rfl dB_3_3_22.2.1.2.1 ?_
      refine lv_iload_n hx hb dB_3_3_22.2.1.2.2 rfl (lv_at hl 1 rfl) ?_
      have h_4 : vp_in a1 4 := in_I (by omega) (by omega)
      refine va_zald hx hb hK.1 hP 1 2 rfl rfl (i := a1) h_4 dB_3_3_22.2.2.1.1 ?_
      refine lv_topi (fun y_5 ey_5 => ?_)
      have ky_5 : y_5.toInt = (f15 a1.toNatClampNeg).toInt := by rw [ey_5]
      refine lv_if_ne (tgt := 44) hx hb dB_3_3_22.2.2.1.2 (by decide) (fun c_6 => ?_) (fun c_6 => ?_)
      · have t_6 : ¬ y_5.toInt = (0 : Int32).toInt := fun h => c_6 (Int32.toInt_inj.mp h)
        refine lv_iload_n hx hb dB_3_3_23.1.1.2.1 rfl (lv_at hl 2 rfl) ?_
        refine lv_i2l (v := a2.toInt64) hx hb dB_3_3_23.1.1.2.2 rfl ?_
        have q_45 : (a2.toInt64).toInt = a2.toInt := Int32.toInt_toInt64 a2
        refine lv_lconst (v := 0) hx hb dB_3_3_23.1.2.1.1 (by decide) ?_
        refine lv_aload_n hx hb dB_3_3_23.1.2.1.2 rfl (lv_at hl 0 rfl) ?_
        refine va_get (ci := 12) (v := .ref g17) (C := RX12) (T := TX12) (N := 34) hx hb hts (fun _ h => List.mem_cons_of_mem _ (List.mem_append_right _ h)) hown hK.1 hP 0 rfl rfl 17 (by decide) (hts (.fieldLink RX12 44 "CutAtlasModel" "mapRows" "[I") (List.mem_of_getElem? (i := 5) rfl)) (fun _ h9 => h9) rfl dB_3_3_23.1.2.2.1 ?_
        refine lv_iload_n hx hb dB_3_3_23.1.2.2.2 rfl (lv_at hl 1 rfl) ?_
        have h_7 : vp_in a1 4 := in_I (by omega) (by omega)
        refine va_iald hx hb hK.1 hP 2 0 rfl rfl (i := a1) h_7 dB_3_3_23.2.1.1.1 ?_
        refine lv_topi (fun y_8 ey_8 => ?_)
        have ky_8 : y_8.toInt = (f17 a1.toNatClampNeg).toInt := by rw [ey_8]
        have ry_8 : 0 ≤ y_8.toInt ∧ y_8.toInt ≤ 6 := by rw [ey_8]; exact r_f17 _ (in_lt h_7)
        refine lv_iconst (v := 1) hx hb dB_3_3_23.2.1.1.2 (by decide) ?_
        refine lv_isub hx hb dB_3_3_23.2.1.2.1 ?_
        refine lv_topi (fun y_9 ey_9 => ?_)
        have ty_9 : y_9.toInt = y_8.toInt - (1 : Int32).toInt := by rw [ey_9]; exact subI (by omega) (by omega)
        refine lv_i2l (v := y_9.toInt64) hx hb dB_3_3_23.2.1.2.2 rfl ?_
        have q_55 : (y_9.toInt64).toInt = y_9.toInt := Int32.toInt_toInt64 y_9
        refine ct_R hP hD [] [] (by decide) rfl (fun hPc hDw => ?_)
        have hFc := va_free (wc := []) hD hS hA [] rfl
        refine va_calli (va_runS (As := [.long a2.toInt64, .long 0, .long y_9.toInt64]) (rest := []) ⟨hx, hb, hml, hown, hts⟩ (c_X12_in l D cy H.size a2.toInt64 (0 : Int64) y_9.toInt64) (va_cwS 3 hts gX12_copy_X12_in rfl rfl rfl hd_X12_in ⟨Nat.le_of_ble_eq_true rfl, Nat.le_of_ble_eq_true rfl⟩) ⟨bl_, fun U hU hW => ⟨rfl, by rw [hU], by rw [hU]; exact hPc, kk_mv hW hK, hDw⟩⟩ rfl rfl hl.1 rfl (lv_room (Nat.le_of_ble_eq_true rfl)) dB_3_3_23.2.2.1.1 ⟨Nat.le_of_ble_eq_true rfl, Nat.le_of_ble_eq_true rfl⟩) hS (fun q _ h => hFc q h) hFc (fun r_10 u t H locs ht hvm hw hB hz1 hk1 hS => ?_)
        have hP : va_P D vwCl _ H := ro_keep hP hk1
        rcases hw with ⟨w_11, e_⟩ | ⟨w_11, e_⟩
        · have e_ := e_.symm
          subst e_
          refine lv_if_eq (tgt := 81) hx hb dB_3_3_23.2.2.1.2 (by decide) (fun c_12 => ?_) (fun c_12 => ?_)
          · exact absurd c_12 (by decide)
          · have _ := c_12
            refine lv_iload hx hb dB_3_3_23.2.2.2.1 (lv_at hl 4 rfl) ?_
            refine lv_i2l (v := a4.toInt64) hx hb dB_3_3_23.2.2.2.2 rfl ?_
            have q_64 : (a4.toInt64).toInt = a4.toInt := Int32.toInt_toInt64 a4
            refine lv_lconst (v := 0) hx hb dB_3_3_24.1.1.1.1 (by decide) ?_
            refine lv_aload_n hx hb dB_3_3_24.1.1.1.2 rfl (lv_at hl 0 rfl) ?_
            refine va_get (ci := 12) (v := .ref g17) (C := RX12) (T := TX12) (N := 34) hx hb hts (fun _ h => List.mem_cons_of_mem _ (List.mem_append_right _ h)) hown hK.1 hP 0 rfl rfl 17 (by decide) (hts (.fieldLink RX12 44 "CutAtlasModel" "mapRows" "[I") (List.mem_of_getElem? (i := 5) rfl)) (fun _ h9 => h9) rfl dB_3_3_24.1.1.2.1 ?_
            refine lv_iload_n hx hb dB_3_3_24.1.1.2.2 rfl (lv_at hl 1 rfl) ?_
            have h_13 : vp_in a1 4 := in_I (by omega) (by omega)
            refine va_iald hx hb hK.1 hP 2 0 rfl rfl (i := a1) h_13 dB_3_3_24.1.2.1.1 ?_
            refine lv_topi (fun y_14 ey_14 => ?_)
            have e_ := (ey_14.trans ey_8.symm).symm
            subst e_
            skip
            refine lv_iconst (v := 1) hx hb dB_3_3_24.1.2.1.2 (by decide) ?_
            refine lv_isub hx hb dB_3_3_24.1.2.2.1 ?_
            refine lv_topi (fun y_15 ey_15 => ?_)
            have e_ := (ey_15.trans ey_9.symm).symm
            subst e_
            refine lv_i2l (v := y_9.toInt64) hx hb dB_3_3_24.1.2.2.2 rfl ?_
            have q_74 : (y_9.toInt64).toInt = y_9.toInt := Int32.toInt_toInt64 y_9
            refine ct_R hP hD [] [] (by decide) rfl (fun hPc hDw => ?_)
            have hFc := va_free (wc := []) hD hS hA [] rfl
            refine va_calli (va_runS (As := [.long a4.toInt64, .long 0, .long y_9.toInt64]) (rest := []) ⟨hx, hb, hml, hown, hts⟩ (c_X12_in l D cy H.size a4.toInt64 (0 : Int64) y_9.toInt64) (va_cwS 3 hts gX12_copy_X12_in rfl rfl rfl hd_X12_in ⟨Nat.le_of_ble_eq_true rfl, Nat.le_of_ble_eq_true rfl⟩) ⟨bl_, fun U hU hW => ⟨rfl, by rw [hU], by rw [hU]; exact hPc, kk_mv hW hK, hDw⟩⟩ rfl rfl hl.1 rfl (lv_room (Nat.le_of_ble_eq_true rfl)) dB_3_3_24.2.1.1.1 ⟨Nat.le_of_ble_eq_true rfl, Nat.le_of_ble_eq_true rfl⟩) hS (fun q _ h => hFc q h) hFc (fun r_16 u t H locs ht hvm hw hB hz1 hk1 hS => ?_)
            have hP : va_P D vwCl _ H := ro_keep hP hk1
            rcases hw with ⟨w_17, e_⟩ | ⟨w_17, e_⟩
            · have e_ := e_.symm
              subst e_
              refine lv_if_ne (tgt := 88) hx hb dB_3_3_24.2.1.1.2 (by decide) (fun c_18 => ?_) (fun c_18 => ?_)
              · have _ := c_18
                refine lv_aload_n hx hb dB_3_3_24.2.2.2.1 rfl (lv_at hl 0 rfl) ?_
                refine va_get (ci := 12) (v := .ref g18) (C := RX12) (T := TX12) (N := 34) hx hb hts (fun _ h => List.mem_cons_of_mem _ (List.mem_append_right _ h)) hown hK.1 hP 0 rfl rfl 18 (by decide) (hts (.fieldLink RX12 47 "CutAtlasModel" "rowSize" "[I") (List.mem_of_getElem? (i := 6) rfl)) (fun _ h9 => h9) rfl dB_3_3_24.2.2.2.2 ?_
                refine lv_bipush (v := 6) hx hb dB_3_3_25.1.1.1.1 (by decide) ?_
                refine lv_iload_n hx hb dB_3_3_25.1.1.1.2 rfl (lv_at hl 1 rfl) ?_
                refine lv_imul hx hb dB_3_3_25.1.1.2.1 ?_
                refine lv_topi (fun y_19 ey_19 => ?_)
                have ty_19 : y_19.toInt = 6 * a1.toInt := by rw [ey_19]; exact mulC (by decide) (by omega) (by omega)
                refine lv_iload_n hx hb dB_3_3_25.1.1.2.2 rfl (lv_at hl 2 rfl) ?_
                refine lv_iadd hx hb dB_3_3_25.1.2.1.1 ?_
                refine lv_topi (fun y_20 ey_20 => ?_)
                have ty_20 : y_20.toInt = y_19.toInt + a2.toInt := by rw [ey_20]; exact addI (by omega) (by omega)
                have hia_ : y_20.toNatClampNeg = (6 * a1.toInt + a2.toInt).toNat := ixn (by omega)
                have hla_ := hlk y_20.toNatClampNeg (by rw [hia_]; omega)
                have h_21 : vp_in y_20 24 := in_I (by omega) (by omega)
                refine va_iald hx hb hK.1 hP 3 0 rfl rfl (i := y_20) h_21 dB_3_3_25.1.2.1.2 ?_
                refine lv_topi (fun y_22 ey_22 => ?_)
                have ky_22 : y_22.toInt = (f18 y_20.toNatClampNeg).toInt := by rw [ey_22]
                have ry_22 : -9 ≤ y_22.toInt ∧ y_22.toInt ≤ 5 := by rw [ey_22]; exact r_f18 _ (in_lt h_21)
                have ka_ : y_22.toInt = (f18 (6 * a1.toInt + a2.toInt).toNat).toInt := by rw [ey_22, hia_]
                refine lv_istore (lv' := [(7, .int y_22), (0, .ref mo), (1, .int a1), (2, .int a2), (3, .int a3), (4, .int a4), (5, .int a5), (6, .int a6)]) hx hb dB_3_3_25.1.2.2.1 hl (by decide) rfl (fun ls hl => ?_)
                refine lv_aload_n hx hb dB_3_3_25.1.2.2.2 rfl (lv_at hl 1 rfl) ?_
                refine va_get (ci := 12) (v := .ref g18) (C := RX12) (T := TX12) (N := 34) hx hb hts (fun _ h => List.mem_cons_of_mem _ (List.mem_append_right _ h)) hown hK.1 hP 0 rfl rfl 18 (by decide) (hts (.fieldLink RX12 47 "CutAtlasModel" "rowSize" "[I") (List.mem_of_getElem? (i := 6) rfl)) (fun _ h9 => h9) rfl dB_3_3_25.2.1.1.1 ?_
                refine lv_bipush (v := 6) hx hb dB_3_3_25.2.1.1.2 (by decide) ?_
                refine lv_iload_n hx hb dB_3_3_25.2.1.2.1 rfl (lv_at hl 2 rfl) ?_
                refine lv_imul hx hb dB_3_3_25.2.1.2.2 ?_
                refine lv_topi (fun y_23 ey_23 => ?_)
                have e_ := (ey_23.trans ey_19.symm).symm
                subst e_
                refine lv_iload hx hb dB_3_3_25.2.2.1.1 (lv_at hl 5 rfl) ?_
                refine lv_iadd hx hb dB_3_3_25.2.2.1.2 ?_
                refine lv_topi (fun y_24 ey_24 => ?_)
                have ty_24 : y_24.toInt = y_19.toInt + a4.toInt := by rw [ey_24]; exact addI (by omega) (by omega)
                have hib_ : y_24.toNatClampNeg = (6 * a1.toInt + a4.toInt).toNat := ixn (by omega)
                have hlb_ := hlk y_24.toNatClampNeg (by rw [hib_]; omega)
                have h_25 : vp_in y_24 24 := in_I (by omega) (by omega)
                refine va_iald hx hb hK.1 hP 3 0 rfl rfl (i := y_24) h_25 dB_3_3_25.2.2.2.1 ?_
                refine lv_topi (fun y_26 ey_26 => ?_)
                have ky_26 : y_26.toInt = (f18 y_24.toNatClampNeg).toInt := by rw [ey_26]
                have ry_26 : -9 ≤ y_26.toInt ∧ y_26.toInt ≤ 5 := by rw [ey_26]; exact r_f18 _ (in_lt h_25)
                have kb_ : y_26.toInt = (f18 (6 * a1.toInt + a4.toInt).toNat).toInt := by rw [ey_26, hib_]
                refine lv_istore (lv' := [(8, .int y_26), (7, .int y_22), (0, .ref mo), (1, .int a1), (2, .int a2), (3, .int a3), (4, .int a4), (5, .int a5), (6, .int a6)]) hx hb dB_3_3_25.2.2.2.2 hl (by decide) rfl (fun ls hl => ?_)
                refine lv_iload hx hb dB_3_3_26.1.1.1.1 (lv_at hl 1 rfl) ?_
                refine lv_bipush (v := (-9)) hx hb dB_3_3_26.1.1.1.2 (by decide) ?_
                refine lv_icmp_eq (tgt := 129) hx hb dB_3_3_26.1.1.2.1 (by decide) (fun c_27 => ?_) (fun c_27 => ?_)
                · have t_27 : y_22.toInt = ((-9) : Int32).toInt := congrArg Int32.toInt c_27
                  refine lv_aload_n hx hb dB_3_3_26.1.2.2.1 rfl (lv_at hl 2 rfl) ?_
                  refine lv_bipush (v := (-11)) hx hb dB_3_3_26.1.2.2.2 (by decide) ?_
                  refine ct_S hP hD hS hA [ob12_0_ mo 0 0 t2 s3 s4 g5 g6 g7 g8 g9 g10 s11 g12 g13 g14 g15 g16 g17 g18 g19 g20 s21 g22 g23 g24 s25 s26 s27 s28 g29 g30 g31 g32 g33] [0] (by decide) rfl (fun hPc hDw hFc hC_ => ?_)
                  refine va_calli (va_runV (As := [.int (-11)]) (rest := []) ⟨hx, hb, hml, hown, hts⟩ (c_X12_no2 l D cy H.size mo g5 g6 g7 g8 g9 g10 g12 g13 g14 g15 g16 g17 g18 g19 g20 g22 g23 g24 g29 g30 g31 g32 g33 (0 : Int32) (0 : Int32) s3 s4 s11 s21 s25 s26 s27 s28 t2 ((-11) : Int32)) (cwV 1 hts gX12_copy_X12_no rfl rfl rfl ⟨rfl, hd_X12_no⟩ ⟨Nat.le_of_ble_eq_true rfl, Nat.le_of_ble_eq_true rfl⟩) ⟨bl_, va_recvX hK.1 hP (ci := 12) (q0 := 0) rfl rfl, fun U hU hW => ⟨rfl, by rw [hU], by rw [hU]; exact hPc, kk_mv hW hK, hDw⟩⟩ rfl rfl hl.1 rfl (lv_room (Nat.le_of_ble_eq_true rfl)) dB_3_3_26.2.1.1.1 ⟨Nat.le_of_ble_eq_true rfl, Nat.le_of_ble_eq_true rfl⟩) hS (fun q _ h => hFc q h) hFc (fun r_28 u t H locs ht hvm hw hB hz1 hk1 hS => ?_)
                  obtain ⟨n1_29, g_30, hP1, hD1⟩ := hB
                  rw [ht] at hP1
                  obtain ⟨hP, hD⟩ := va_join (wr := [az_ cy g15 4 f15, ai_ cy g17 4 f17, ai_ cy g18 24 f18, aj_ cy g19 120 f19, aj_ cy g20 5 f20]) (w1 := [ob12_0_ mo 0 n1_29 t2 s3 s4 g5 g6 g7 g8 g9 g10 s11 g12 g13 g14 g15 g16 g17 g18 g19 g20 s21 g22 g23 g24 s25 s26 s27 s28 g29 g30 g31 g32 g33]) hP hD [0] [1, 2, 3, 4, 5] hC_ rfl (by decide) (by decide) hk1 hFc hP1 hD1
                  refine pd_S hP hD [ob12_0_ mo 0 n1_29 t2 s3 s4 g5 g6 g7 g8 g9 g10 s11 g12 g13 g14 g15 g16 g17 g18 g19 g20 s21 g22 g23 g24 s25 s26 s27 s28 g29 g30 g31 g32 g33, az_ cy g15 4 f15, ai_ cy g17 4 f17, ai_ cy g18 24 f18, aj_ cy g19 120 f19, aj_ cy g20 5 f20] [5, 0, 1, 2, 3, 4] (by decide) rfl (fun hP hD => ?_)
                  have f0_r_28 := hw
                  have hno_ := g_30
                  rw [hQ]
                  exact W.iret (v := r_28) hx hb hr (fun t ht hW => ⟨⟨r_28, (), rfl, (by first | (unfold cpyI; (repeat' (first | with_reducible exact if_p (by omega) (by omega) | with_reducible exact if_ps (by omega) (by omega) | with_reducible exact if_pz (by omega) (by omega) | with_reducible refine if_n (by omega) ?_ | with_reducible refine if_ns (by omega) ?_ | with_reducible refine if_nz (by omega) ?_)) <;> omega) | (have h9 := congrArg Int32.toInt f0_r_28; unfold cpyI; (repeat' (first | with_reducible exact if_p (by omega) (by omega) | with_reducible exact if_ps (by omega) (by omega) | with_reducible exact if_pz (by omega) (by omega) | with_reducible refine if_n (by omega) ?_ | with_reducible refine if_ns (by omega) ?_ | with_reducible refine if_nz (by omega) ?_)) <;> omega)), n1_29, f19, f20, (by first | (unfold cpyI; (repeat' (first | with_reducible exact if_p (by omega) (by omega) | with_reducible exact if_ps (by omega) (by omega) | with_reducible exact if_pz (by omega) (by omega) | with_reducible refine if_n (by omega) ?_ | with_reducible refine if_ns (by omega) ?_ | with_reducible refine if_nz (by omega) ?_)) <;> omega) | (have h9 := congrArg Int32.toInt hno_; unfold cpyI; (repeat' (first | with_reducible exact if_p (by omega) (by omega) | with_reducible exact if_ps (by omega) (by omega) | with_reducible exact if_pz (by omega) (by omega) | with_reducible refine if_n (by omega) ?_ | with_reducible refine if_ns (by omega) ?_ | with_reducible refine if_nz (by omega) ?_)) <;> omega)), (by first | exact ⟨fun _ => rfl, fun h => absurd h (by first | omega | (have h9_ := congrArg Int32.toInt hno_; omega) | decide)⟩ | exact ⟨fun h => absurd (by first | omega | (have h9_ := congrArg Int32.toInt hno_; omega) | decide) h, fun _ => h9_⟩), by rw [ht]; exact hP, hD⟩, hS.F ht⟩) hS.2.2 dB_3_3_26.2.1.1.2
                · have t_27 : ¬ y_22.toInt = ((-9) : Int32).toInt := fun h => c_27 (Int32.toInt_inj.mp h)
                  refine lv_iload hx hb dB_3_3_26.1.1.2.2 (lv_at hl 0 rfl) ?_
                  refine lv_bipush (v := (-9)) hx hb dB_3_3_26.1.2.1.1 (by decide) ?_
                  refine lv_icmp_ne (tgt := 136) hx hb dB_3_3_26.1.2.1.2 (by decide) (fun c_31 => ?_) (fun c_31 => ?_)
                  · have t_31 : ¬ y_26.toInt = ((-9) : Int32).toInt := fun h => c_31 (Int32.toInt_inj.mp h)
                    refine lv_iload_n hx hb dB_3_3_26.2.1.2.1 rfl (lv_at hl 5 rfl) ?_
                    refine lv_iload hx hb dB_3_3_26.2.1.2.2 (lv_at hl 8 rfl) ?_
                    refine lv_iload hx hb dB_3_3_26.2.2.1.1 (lv_at hl 1 rfl) ?_
                    refine ct_R hP hD [] [] (by decide) rfl (fun hPc hDw => ?_)
                    have hFc := va_free (wc := []) hD hS hA [] rfl
                    refine va_calli (va_runS (As := [.int a3, .int a6, .int y_22]) (rest := []) ⟨hx, hb, hml, hown, hts⟩ (c_X12_areThere l D cy H.size a3 a6 y_22) (va_cwS 3 hts gX12_copy_X12_areThere rfl rfl rfl hd_X12_areThere ⟨Nat.le_of_ble_eq_true rfl, Nat.le_of_ble_eq_true rfl⟩) ⟨bl_, fun U hU hW => ⟨rfl, by rw [hU], by rw [hU]; exact hPc, kk_mv hW hK, hDw⟩⟩ rfl rfl hl.1 rfl (lv_room (Nat.le_of_ble_eq_true rfl)) dB_3_3_26.2.2.1.2 ⟨Nat.le_of_ble_eq_true rfl, Nat.le_of_ble_eq_true rfl⟩) hS (fun q _ h => hFc q h) hFc (fun r_32 u t H locs ht hvm hw hB hz1 hk1 hS => ?_)
                    have hP : va_P D vwCl _ H := ro_keep hP hk1
                    rcases hw with ⟨w_33, e_⟩ | ⟨w_33, e_⟩
                    · have e_ := e_.symm
                      subst e_
                      refine lv_if_eq (tgt := 159) hx hb dB_3_3_26.2.2.2.1 (by decide) (fun c_34 => ?_) (fun c_34 => ?_)
                      · exact absurd c_34 (by decide)
                      · have _ := c_34
                        refine lv_iload hx hb dB_3_3_26.2.2.2.2 (lv_at hl 7 rfl) ?_
                        refine lv_iload hx hb dB_3_3_27.1.1.1.1 (lv_at hl 8 rfl) ?_
                        refine lv_iload hx hb dB_3_3_27.1.1.1.2 (lv_at hl 0 rfl) ?_
                        refine ct_R hP hD [] [] (by decide) rfl (fun hPc hDw => ?_)
                        have hFc := va_free (wc := []) hD hS hA [] rfl
                        refine va_calli (va_runS (As := [.int a5, .int a6, .int y_26]) (rest := []) ⟨hx, hb, hml, hown, hts⟩ (c_X12_areThere l D cy H.size a5 a6 y_26) (va_cwS 3 hts gX12_copy_X12_areThere rfl rfl rfl hd_X12_areThere ⟨Nat.le_of_ble_eq_true rfl, Nat.le_of_ble_eq_true rfl⟩) ⟨bl_, fun U hU hW => ⟨rfl, by rw [hU], by rw [hU]; exact hPc, kk_mv hW hK, hDw⟩⟩ rfl rfl hl.1 rfl (lv_room (Nat.le_of_ble_eq_true rfl)) dB_3_3_27.1.1.2.1 ⟨Nat.le_of_ble_eq_true rfl, Nat.le_of_ble_eq_true rfl⟩) hS (fun q _ h => hFc q h) hFc (fun r_35 u t H locs ht hvm hw hB hz1 hk1 hS => ?_)
                        have hP : va_P D vwCl _ H := ro_keep hP hk1
                        rcases hw with ⟨w_36, e_⟩ | ⟨w_36, e_⟩
                        · have e_ := e_.symm
                          subst e_
                          refine lv_if_ne (tgt := 166) hx hb dB_3_3_27.1.1.2.2 (by decide) (fun c_37 => ?_) (fun c_37 => ?_)
                          · have _ := c_37
                            refine lv_iconst (v := 0) hx hb dB_3_3_27.2.1.1.1 (by decide) ?_
                            refine lv_istore (lv' := [(9, .int 0), (8, .int y_26), (7, .int y_22), (0, .ref mo), (1, .int a1), (2, .int a2), (3, .int a3), (4, .int a4), (5, .int a5), (6, .int a6)]) hx hb dB_3_3_27.2.1.1.2 hl (by decide) rfl (fun ls hl => ?_)
                            suffices LOOP_38 : ∀ (n_38 : Nat) (x9_38 : Int32) (c_g20_38 : Nat → Int64) (H : Heap) (locs : List Loc) (ls : Array Slot), a6.toInt - x9_38.toInt < (n_38 : Int) → (0 ≤ x9_38.toInt) → (x9_38.toInt ≤ a6.toInt) → (∀ q : Nat, (q : Int) < x9_38.toInt → c_g20_38 q = f19 (30 * a1.toInt + 5 * a2.toInt + a3.toInt + q).toNat) → pd_2 D vwCl A [ob12_0_ mo 0 0 t2 s3 s4 g5 g6 g7 g8 g9 g10 s11 g12 g13 g14 g15 g16 g17 g18 g19 g20 s21 g22 g23 g24 s25 s26 s27 s28 g29 g30 g31 g32 g33, az_ cy g15 4 f15, ai_ cy g17 4 f17, ai_ cy g18 24 f18, aj_ cy g19 120 f19, aj_ cy g20 5 c_g20_38] H → va_S A s.heap H locs → lv_has ls 10 [(9, .int x9_38), (8, .int y_26), (7, .int y_22), (0, .ref mo), (1, .int a1), (2, .int a2), (3, .int a3), (4, .int a4), (5, .int a5), (6, .int a6)] → W p l e ({ frames := 1, cells := 0, slots := 0, locals := 25 } : Room) s m (([.ref mo, .int a1, .int a2, .int a3, .int a4, .int a5, .int a6] : List Value).toArray) below meth c H locs 0 0 Q (F0 m 169 ls []) from LOOP_38 ((a6.toInt - (0 : Int32).toInt).toNat + 1) (0 : Int32) f20 _ _ _ (by omega) (by first | with_reducible assumption | omega | assumption) (by first | with_reducible assumption | omega | assumption) (by first | exact cpd_st v_none S[q20] S[v20] (by omega) (by omega) (by omega) | (intro q hq; omega)) ⟨hP, hD⟩ hS (lv_sub hl [0, 1, 2, 3, 4, 5, 6, 7, 8, 9] rfl)
                            intro n_38
                            induction n_38 with
                            | zero =>
                              intro x9_38 c_g20_38 H locs ls hm v0_38 v1_38 v2_38 hPD hS hl; obtain ⟨hP, hD⟩ := hPD
                              exact absurd hm (by omega)
                            | succ n_38 ih_38 =>
                              intro x9_38 c_g20_38 H locs ls hm v0_38 v1_38 v2_38 hPD hS hl; obtain ⟨hP, hD⟩ := hPD
                              refine lv_iload hx hb dB_3_3_27.2.1.2.1 (lv_at hl 0 rfl) ?_
                              refine lv_iload hx hb dB_3_3_27.2.1.2.2 (lv_at hl 9 rfl) ?_
                              refine lv_icmp_ge (tgt := 207) hx hb dB_3_3_27.2.2.1.1 (by decide) (fun c_39 => ?_) (fun c_39 => ?_)
                              · have t_39 : a6.toInt ≤ x9_38.toInt := Int32.le_iff_toInt_le.mp c_39
                                have ht_ : ∀ q : Nat, (q : Int) < a6.toInt → c_g20_38 q = f19 (30 * a1.toInt + 5 * a2.toInt + a3.toInt + q).toNat := fun q hq => v2_38 q (by omega)
                                refine lv_iconst (v := 0) hx hb dB_3_3_29.1.1.1.2 (by decide) ?_
                                refine lv_istore (lv' := [(9, .int 0), (8, .int y_26), (7, .int y_22), (0, .ref mo), (1, .int a1), (2, .int a2), (3, .int a3), (4, .int a4), (5, .int a5), (6, .int a6)]) hx hb dB_3_3_29.1.1.2.1 hl (by decide) rfl (fun ls hl => ?_)
                                suffices LOOP_40 : ∀ (n_40 : Nat) (x9_40 : Int32) (c_g19_40 : Nat → Int64) (H : Heap) (locs : List Loc) (ls : Array Slot), a6.toInt - x9_40.toInt < (n_40 : Int) → (0 ≤ x9_40.toInt) → (x9_40.toInt ≤ a6.toInt) → (∀ q : Nat, c_g19_40 q = if 30 * a1.toInt + 5 * a4.toInt + a5.toInt ≤ (q : Int) ∧ (q : Int) < 30 * a1.toInt + 5 * a4.toInt + a5.toInt + x9_40.toInt then f19 (30 * a1.toInt + 5 * a2.toInt + a3.toInt + ((q : Int) - (30 * a1.toInt + 5 * a4.toInt + a5.toInt))).toNat else f19 q) → pd_2 D vwCl A [ob12_0_ mo 0 0 t2 s3 s4 g5 g6 g7 g8 g9 g10 s11 g12 g13 g14 g15 g16 g17 g18 g19 g20 s21 g22 g23 g24 s25 s26 s27 s28 g29 g30 g31 g32 g33, az_ cy g15 4 f15, ai_ cy g17 4 f17, ai_ cy g18 24 f18, aj_ cy g19 120 c_g19_40, aj_ cy g20 5 c_g20_38] H → va_S A s.heap H locs → lv_has ls 10 [(9, .int x9_40), (8, .int y_26), (7, .int y_22), (0, .ref mo), (1, .int a1), (2, .int a2), (3, .int a3), (4, .int a4), (5, .int a5), (6, .int a6)] → W p l e ({ frames := 1, cells := 0, slots := 0, locals := 25 } : Room) s m (([.ref mo, .int a1, .int a2, .int a3, .int a4, .int a5, .int a6] : List Value).toArray) below meth c H locs 0 0 Q (F0 m 210 ls []) from LOOP_40 ((a6.toInt - (0 : Int32).toInt).toNat + 1) (0 : Int32) f19 _ _ _ (by omega) (by first | with_reducible assumption | omega | assumption) (by first | with_reducible assumption | omega | assumption) (by first | exact cpe0 | exact cpe_st ht_ v_none S[q19] S[v19] (by omega) (by omega) (by omega) (by omega) (by omega)) ⟨hP, hD⟩ hS (lv_sub hl [0, 1, 2, 3, 4, 5, 6, 7, 8, 9] rfl)
                                intro n_40
                                induction n_40 with
                                | zero =>
                                  intro x9_40 c_g19_40 H locs ls hm v0_40 v1_40 v2_40 hPD hS hl; obtain ⟨hP, hD⟩ := hPD
                                  exact absurd hm (by omega)
                                | succ n_40 ih_40 =>
                                  intro x9_40 c_g19_40 H locs ls hm v0_40 v1_40 v2_40 hPD hS hl; obtain ⟨hP, hD⟩ := hPD
                                  refine lv_iload hx hb dB_3_3_29.1.1.2.2 (lv_at hl 0 rfl) ?_
                                  refine lv_iload hx hb dB_3_3_29.1.2.1.1 (lv_at hl 9 rfl) ?_
                                  refine lv_icmp_ge (tgt := 250) hx hb dB_3_3_29.1.2.1.2 (by decide) (fun c_41 => ?_) (fun c_41 => ?_)
                                  · have t_41 : a6.toInt ≤ x9_40.toInt := Int32.le_iff_toInt_le.mp c_41
                                    have h9_ : ∀ q : Nat, c_g19_40 q = if 30 * a1.toInt + 5 * a4.toInt + a5.toInt ≤ (q : Int) ∧ (q : Int) < 30 * a1.toInt + 5 * a4.toInt + a5.toInt + a6.toInt then f19 (30 * a1.toInt + 5 * a2.toInt + a3.toInt + ((q : Int) - (30 * a1.toInt + 5 * a4.toInt + a5.toInt))).toNat else f19 q := fun q => by rw [v2_40 q, show x9_40.toInt = a6.toInt by omega]
                                    refine lv_iload hx hb dB_3_3_30.2.1.2.1 (lv_at hl 9 rfl) ?_
                                    rw [hQ]
                                    exact W.iret (v := a6) hx hb hr (fun t ht hW => ⟨⟨a6, (), rfl, (by first | (unfold cpyI; (repeat' (first | with_reducible exact if_p (by omega) (by omega) | with_reducible exact if_ps (by omega) (by omega) | with_reducible exact if_pz (by omega) (by omega) | with_reducible refine if_n (by omega) ?_ | with_reducible refine if_ns (by omega) ?_ | with_reducible refine if_nz (by omega) ?_)) <;> omega) | (have h9 := congrArg Int32.toInt f0_a6; unfold cpyI; (repeat' (first | with_reducible exact if_p (by omega) (by omega) | with_reducible exact if_ps (by omega) (by omega) | with_reducible exact if_pz (by omega) (by omega) | with_reducible refine if_n (by omega) ?_ | with_reducible refine if_ns (by omega) ?_ | with_reducible refine if_nz (by omega) ?_)) <;> omega)), (0 : Int32), c_g19_40, c_g20_38, (by first | (unfold cpyI; (repeat' (first | with_reducible exact if_p (by omega) (by omega) | with_reducible exact if_ps (by omega) (by omega) | with_reducible exact if_pz (by omega) (by omega) | with_reducible refine if_n (by omega) ?_ | with_reducible refine if_ns (by omega) ?_ | with_reducible refine if_nz (by omega) ?_)) <;> omega) | (have h9 := congrArg Int32.toInt hno_; unfold cpyI; (repeat' (first | with_reducible exact if_p (by omega) (by omega) | with_reducible exact if_ps (by omega) (by omega) | with_reducible exact if_pz (by omega) (by omega) | with_reducible refine if_n (by omega) ?_ | with_reducible refine if_ns (by omega) ?_ | with_reducible refine if_nz (by omega) ?_)) <;> omega)), (by first | exact ⟨fun _ => rfl, fun h => absurd h (by first | omega | (have h9_ := congrArg Int32.toInt hno_; omega) | decide)⟩ | exact ⟨fun h => absurd (by first | omega | (have h9_ := congrArg Int32.toInt hno_; omega) | decide) h, fun _ => h9_⟩), by rw [ht]; exact hP, hD⟩, hS.F ht⟩) hS.2.2 dB_3_3_30.2.1.2.2
                                  · have t_41 : ¬ a6.toInt ≤ x9_40.toInt := fun h => c_41 (Int32.le_iff_toInt_le.mpr h)
                                    refine lv_aload_n hx hb dB_3_3_29.1.2.2.1 rfl (lv_at hl 3 rfl) ?_
                                    refine va_get (ci := 12) (v := .ref g19) (C := RX12) (T := TX12) (N := 34) hx hb hts (fun _ h => List.mem_cons_of_mem _ (List.mem_append_right _ h)) hown hK.1 hP 0 rfl rfl 19 (by decide) (hts (.fieldLink RX12 50 "CutAtlasModel" "cells" "[J") (List.mem_of_getElem? (i := 8) rfl)) (fun _ h9 => h9) rfl dB_3_3_29.1.2.2.2 ?_
                                    refine lv_bipush (v := 30) hx hb dB_3_3_29.2.1.1.1 (by decide) ?_
                                    refine lv_iload_n hx hb dB_3_3_29.2.1.1.2 rfl (lv_at hl 4 rfl) ?_
                                    refine lv_imul hx hb dB_3_3_29.2.1.2.1 ?_
                                    refine lv_topi (fun y_42 ey_42 => ?_)
                                    have ty_42 : y_42.toInt = 30 * a1.toInt := by rw [ey_42]; exact mulC (by decide) (by omega) (by omega)
                                    refine lv_iconst (v := 5) hx hb dB_3_3_29.2.1.2.2 (by decide) ?_
                                    refine lv_iload hx hb dB_3_3_29.2.2.1.1 (lv_at hl 7 rfl) ?_
                                    refine lv_imul hx hb dB_3_3_29.2.2.1.2 ?_
                                    refine lv_topi (fun y_43 ey_43 => ?_)
                                    have ty_43 : y_43.toInt = 5 * a4.toInt := by rw [ey_43]; exact mulC (by decide) (by omega) (by omega)
                                    refine lv_iadd hx hb dB_3_3_29.2.2.2.1 ?_
                                    refine lv_topi (fun y_44 ey_44 => ?_)
                                    have ty_44 : y_44.toInt = y_42.toInt + y_43.toInt := by rw [ey_44]; exact addI (by omega) (by omega)
                                    refine lv_iload hx hb dB_3_3_29.2.2.2.2 (lv_at hl 8 rfl) ?_
                                    refine lv_iadd hx hb dB_3_3_30.1.1.1.1 ?_
                                    refine lv_topi (fun y_45 ey_45 => ?_)
                                    have ty_45 : y_45.toInt = y_44.toInt + a5.toInt := by rw [ey_45]; exact addI (by omega) (by omega)
                                    refine lv_iload hx hb dB_3_3_30.1.1.1.2 (lv_at hl 0 rfl) ?_
                                    refine lv_iadd hx hb dB_3_3_30.1.1.2.1 ?_
                                    refine lv_topi (fun y_46 ey_46 => ?_)
                                    have ty_46 : y_46.toInt = y_45.toInt + x9_40.toInt := by rw [ey_46]; exact addI (by omega) (by omega)
                                    refine lv_aload_n hx hb dB_3_3_30.1.1.2.2 rfl (lv_at hl 3 rfl) ?_
                                    refine va_get (ci := 12) (v := .ref g20) (C := RX12) (T := TX12) (N := 34) hx hb hts (fun _ h => List.mem_cons_of_mem _ (List.mem_append_right _ h)) hown hK.1 hP 0 rfl rfl 20 (by decide) (hts (.fieldLink RX12 54 "CutAtlasModel" "copied" "[J") (List.mem_of_getElem? (i := 7) rfl)) (fun _ h9 => h9) rfl dB_3_3_30.1.2.1.1 ?_
                                    refine lv_iload hx hb dB_3_3_30.1.2.1.2 (lv_at hl 0 rfl) ?_
                                    have h_47 : vp_in x9_40 5 := in_I (by omega) (by omega)
                                    refine va_lald hx hb hK.1 hP 5 1 rfl rfl (i := x9_40) h_47 dB_3_3_30.1.2.2.1 ?_
                                    refine lv_topl (fun y_48 ey_48 => ?_)
                                    have h_49 : vp_in y_46 120 := in_I (by omega) (by omega)
                                    refine va_last hx hb hK.1 hP hD hS 4 1 rfl rfl (i := y_46) h_49 dB_3_3_30.1.2.2.2 (fun H locs hP hD hS => ?_)
                                    obtain ⟨f_50, ef_50⟩ : ∃ g : Nat → Int64, g = vp_updL c_g19_40 y_46.toNatClampNeg y_48 := ⟨_, rfl⟩
                                    refine pd_K (D := D) (cl := vwCl) (H := H) (A := A) [ob12_0_ mo 0 0 t2 s3 s4 g5 g6 g7 g8 g9 g10 s11 g12 g13 g14 g15 g16 g17 g18 g19 g20 s21 g22 g23 g24 s25 s26 s27 s28 g29 g30 g31 g32 g33, az_ cy g15 4 f15, ai_ cy g17 4 f17, ai_ cy g18 24 f18, aj_ cy g19 120 f_50, aj_ cy g20 5 c_g20_38] (by rw [ef_50]; exact hP) (by rw [ef_50]; exact hD) (fun hP hD => ?_)
                                    obtain ⟨y_51, ey_51⟩ : ∃ y : Int32, y = x9_40 + 1 := ⟨_, rfl⟩
                                    have ty_51 : y_51.toInt = x9_40.toInt + (1 : Int32).toInt := by rw [ey_51]; exact addI (by omega) (by omega)
                                    refine lv_iinc (v := y_51) (lv' := [(9, .int y_51), (8, .int y_26), (7, .int y_22), (0, .ref mo), (1, .int a1), (2, .int a2), (3, .int a3), (4, .int a4), (5, .int a5), (6, .int a6)]) hx hb dB_3_3_30.2.1.1.1 hl (k := 0) rfl (by rw [ey_51]; rfl) (by decide) rfl (fun ls hl => ?_)
                                    refine lv_goto (tgt := 210) hx hb dB_3_3_30.2.1.1.2 (by decide) ?_
                                    exact ih_40 y_51 f_50 _ _ _ (by omega) (by first | with_reducible assumption | omega | assumption) (by first | with_reducible assumption | omega | assumption) (by first | exact cpe0 | exact cpe_st ht_ v2_40 ef_50 ey_48 (by omega) (by omega) (by omega) (by omega) (by omega)) ⟨hP, hD⟩ hS (lv_sub hl [0, 1, 2, 3, 4, 5, 6, 7, 8, 9] rfl)
                              · have t_39 : ¬ a6.toInt ≤ x9_38.toInt := fun h => c_39 (Int32.le_iff_toInt_le.mpr h)
                                refine lv_aload_n hx hb dB_3_3_27.2.2.1.2 rfl (lv_at hl 3 rfl) ?_
                                refine va_get (ci := 12) (v := .ref g20) (C := RX12) (T := TX12) (N := 34) hx hb hts (fun _ h => List.mem_cons_of_mem _ (List.mem_append_right _ h)) hown hK.1 hP 0 rfl rfl 20 (by decide) (hts (.fieldLink RX12 54 "CutAtlasModel" "copied" "[J") (List.mem_of_getElem? (i := 7) rfl)) (fun _ h9 => h9) rfl dB_3_3_27.2.2.2.1 ?_
                                refine lv_iload hx hb dB_3_3_27.2.2.2.2 (lv_at hl 0 rfl) ?_
                                refine lv_aload_n hx hb dB_3_3_28.1.1.1.1 rfl (lv_at hl 3 rfl) ?_
                                refine va_get (ci := 12) (v := .ref g19) (C := RX12) (T := TX12) (N := 34) hx hb hts (fun _ h => List.mem_cons_of_mem _ (List.mem_append_right _ h)) hown hK.1 hP 0 rfl rfl 19 (by decide) (hts (.fieldLink RX12 50 "CutAtlasModel" "cells" "[J") (List.mem_of_getElem? (i := 8) rfl)) (fun _ h9 => h9) rfl dB_3_3_28.1.1.1.2 ?_
                                refine lv_bipush (v := 30) hx hb dB_3_3_28.1.1.2.1 (by decide) ?_
                                refine lv_iload_n hx hb dB_3_3_28.1.1.2.2 rfl (lv_at hl 4 rfl) ?_
                                refine lv_imul hx hb dB_3_3_28.1.2.1.1 ?_
                                refine lv_topi (fun y_52 ey_52 => ?_)
                                have ty_52 : y_52.toInt = 30 * a1.toInt := by rw [ey_52]; exact mulC (by decide) (by omega) (by omega)
                                refine lv_iconst (v := 5) hx hb dB_3_3_28.1.2.1.2 (by decide) ?_
                                refine lv_iload_n hx hb dB_3_3_28.1.2.2.1 rfl (lv_at hl 5 rfl) ?_
                                refine lv_imul hx hb dB_3_3_28.1.2.2.2 ?_
                                refine lv_topi (fun y_53 ey_53 => ?_)
                                have ty_53 : y_53.toInt = 5 * a2.toInt := by rw [ey_53]; exact mulC (by decide) (by omega) (by omega)
                                refine lv_iadd hx hb dB_3_3_28.2.1.1.1 ?_
                                refine lv_topi (fun y_54 ey_54 => ?_)
                                have ty_54 : y_54.toInt = y_52.toInt + y_53.toInt := by rw [ey_54]; exact addI (by omega) (by omega)
                                refine lv_iload_n hx hb dB_3_3_28.2.1.1.2 rfl (lv_at hl 6 rfl) ?_
                                refine lv_iadd hx hb dB_3_3_28.2.1.2.1 ?_
                                refine lv_topi (fun y_55 ey_55 => ?_)
                                have ty_55 : y_55.toInt = y_54.toInt + a3.toInt := by rw [ey_55]; exact addI (by omega) (by omega)
                                refine lv_iload hx hb dB_3_3_28.2.1.2.2 (lv_at hl 0 rfl) ?_
                                refine lv_iadd hx hb dB_3_3_28.2.2.1.1 ?_
                                refine lv_topi (fun y_56 ey_56 => ?_)
                                have ty_56 : y_56.toInt = y_55.toInt + x9_38.toInt := by rw [ey_56]; exact addI (by omega) (by omega)
                                have h_57 : vp_in y_56 120 := in_I (by omega) (by omega)
                                refine va_lald hx hb hK.1 hP 4 1 rfl rfl (i := y_56) h_57 dB_3_3_28.2.2.1.2 ?_
                                refine lv_topl (fun y_58 ey_58 => ?_)
                                have h_59 : vp_in x9_38 5 := in_I (by omega) (by omega)
                                refine va_last hx hb hK.1 hP hD hS 5 1 rfl rfl (i := x9_38) h_59 dB_3_3_28.2.2.2.1 (fun H locs hP hD hS => ?_)
                                obtain ⟨f_60, ef_60⟩ : ∃ g : Nat → Int64, g = vp_updL c_g20_38 x9_38.toNatClampNeg y_58 := ⟨_, rfl⟩
                                refine pd_K (D := D) (cl := vwCl) (H := H) (A := A) [ob12_0_ mo 0 0 t2 s3 s4 g5 g6 g7 g8 g9 g10 s11 g12 g13 g14 g15 g16 g17 g18 g19 g20 s21 g22 g23 g24 s25 s26 s27 s28 g29 g30 g31 g32 g33, az_ cy g15 4 f15, ai_ cy g17 4 f17, ai_ cy g18 24 f18, aj_ cy g19 120 f19, aj_ cy g20 5 f_60] (by rw [ef_60]; exact hP) (by rw [ef_60]; exact hD) (fun hP hD => ?_)
                                obtain ⟨y_61, ey_61⟩ : ∃ y : Int32, y = x9_38 + 1 := ⟨_, rfl⟩
                                have ty_61 : y_61.toInt = x9_38.toInt + (1 : Int32).toInt := by rw [ey_61]; exact addI (by omega) (by omega)
                                refine lv_iinc (v := y_61) (lv' := [(9, .int y_61), (8, .int y_26), (7, .int y_22), (0, .ref mo), (1, .int a1), (2, .int a2), (3, .int a3), (4, .int a4), (5, .int a5), (6, .int a6)]) hx hb dB_3_3_28.2.2.2.2 hl (k := 0) rfl (by rw [ey_61]; rfl) (by decide) rfl (fun ls hl => ?_)
                                refine lv_goto (tgt := 169) hx hb dB_3_3_29.1.1.1.1 (by decide) ?_
                                exact ih_38 y_61 f_60 _ _ _ (by omega) (by first | with_reducible assumption | omega | assumption) (by first | with_reducible assumption | omega | assumption) (by first | exact cpd_st v2_38 ef_60 ey_58 (by omega) (by omega) (by omega) | (intro q hq; omega)) ⟨hP, hD⟩ hS (lv_sub hl [0, 1, 2, 3, 4, 5, 6, 7, 8, 9] rfl)
                          · exact absurd c_37 (by decide)
                        · have e_ := e_.symm
                          subst e_
                          refine lv_if_ne (tgt := 166) hx hb dB_3_3_27.1.1.2.2 (by decide) (fun c_62 => ?_) (fun c_62 => ?_)
                          · exact absurd c_62 (by decide)
                          · have _ := c_62
                            refine lv_aload_n hx hb dB_3_3_27.1.2.1.1 rfl (lv_at hl 2 rfl) ?_
                            refine lv_bipush (v := (-12)) hx hb dB_3_3_27.1.2.1.2 (by decide) ?_
                            refine ct_S hP hD hS hA [ob12_0_ mo 0 0 t2 s3 s4 g5 g6 g7 g8 g9 g10 s11 g12 g13 g14 g15 g16 g17 g18 g19 g20 s21 g22 g23 g24 s25 s26 s27 s28 g29 g30 g31 g32 g33] [0] (by decide) rfl (fun hPc hDw hFc hC_ => ?_)
                            refine va_calli (va_runV (As := [.int (-12)]) (rest := []) ⟨hx, hb, hml, hown, hts⟩ (c_X12_no2 l D cy H.size mo g5 g6 g7 g8 g9 g10 g12 g13 g14 g15 g16 g17 g18 g19 g20 g22 g23 g24 g29 g30 g31 g32 g33 (0 : Int32) (0 : Int32) s3 s4 s11 s21 s25 s26 s27 s28 t2 ((-12) : Int32)) (cwV 1 hts gX12_copy_X12_no rfl rfl rfl ⟨rfl, hd_X12_no⟩ ⟨Nat.le_of_ble_eq_true rfl, Nat.le_of_ble_eq_true rfl⟩) ⟨bl_, va_recvX hK.1 hP (ci := 12) (q0 := 0) rfl rfl, fun U hU hW => ⟨rfl, by rw [hU], by rw [hU]; exact hPc, kk_mv hW hK, hDw⟩⟩ rfl rfl hl.1 rfl (lv_room (Nat.le_of_ble_eq_true rfl)) dB_3_3_27.1.2.2.1 ⟨Nat.le_of_ble_eq_true rfl, Nat.le_of_ble_eq_true rfl⟩) hS (fun q _ h => hFc q h) hFc (fun r_63 u t H locs ht hvm hw hB hz1 hk1 hS => ?_)
                            obtain ⟨n1_64, g_65, hP1, hD1⟩ := hB
                            rw [ht] at hP1
                            obtain ⟨hP, hD⟩ := va_join (wr := [az_ cy g15 4 f15, ai_ cy g17 4 f17, ai_ cy g18 24 f18, aj_ cy g19 120 f19, aj_ cy g20 5 f20]) (w1 := [ob12_0_ mo 0 n1_64 t2 s3 s4 g5 g6 g7 g8 g9 g10 s11 g12 g13 g14 g15 g16 g17 g18 g19 g20 s21 g22 g23 g24 s25 s26 s27 s28 g29 g30 g31 g32 g33]) hP hD [0] [1, 2, 3, 4, 5] hC_ rfl (by decide) (by decide) hk1 hFc hP1 hD1
                            refine pd_S hP hD [ob12_0_ mo 0 n1_64 t2 s3 s4 g5 g6 g7 g8 g9 g10 s11 g12 g13 g14 g15 g16 g17 g18 g19 g20 s21 g22 g23 g24 s25 s26 s27 s28 g29 g30 g31 g32 g33, az_ cy g15 4 f15, ai_ cy g17 4 f17, ai_ cy g18 24 f18, aj_ cy g19 120 f19, aj_ cy g20 5 f20] [5, 0, 1, 2, 3, 4] (by decide) rfl (fun hP hD => ?_)
                            have f0_r_63 := hw
                            have hno_ := g_65
                            rw [hQ]
                            exact W.iret (v := r_63) hx hb hr (fun t ht hW => ⟨⟨r_63, (), rfl, (by first | (unfold cpyI; (repeat' (first | with_reducible exact if_p (by omega) (by omega) | with_reducible exact if_ps (by omega) (by omega) | with_reducible exact if_pz (by omega) (by omega) | with_reducible refine if_n (by omega) ?_ | with_reducible refine if_ns (by omega) ?_ | with_reducible refine if_nz (by omega) ?_)) <;> omega) | (have h9 := congrArg Int32.toInt f0_r_63; unfold cpyI; (repeat' (first | with_reducible exact if_p (by omega) (by omega) | with_reducible exact if_ps (by omega) (by omega) | with_reducible exact if_pz (by omega) (by omega) | with_reducible refine if_n (by omega) ?_ | with_reducible refine if_ns (by omega) ?_ | with_reducible refine if_nz (by omega) ?_)) <;> omega)), n1_64, f19, f20, (by first | (unfold cpyI; (repeat' (first | with_reducible exact if_p (by omega) (by omega) | with_reducible exact if_ps (by omega) (by omega) | with_reducible exact if_pz (by omega) (by omega) | with_reducible refine if_n (by omega) ?_ | with_reducible refine if_ns (by omega) ?_ | with_reducible refine if_nz (by omega) ?_)) <;> omega) | (have h9 := congrArg Int32.toInt hno_; unfold cpyI; (repeat' (first | with_reducible exact if_p (by omega) (by omega) | with_reducible exact if_ps (by omega) (by omega) | with_reducible exact if_pz (by omega) (by omega) | with_reducible refine if_n (by omega) ?_ | with_reducible refine if_ns (by omega) ?_ | with_reducible refine if_nz (by omega) ?_)) <;> omega)), (by first | exact ⟨fun _ => rfl, fun h => absurd h (by first | omega | (have h9_ := congrArg Int32.toInt hno_; omega) | decide)⟩ | exact ⟨fun h => absurd (by first | omega | (have h9_ := congrArg Int32.toInt hno_; omega) | decide) h, fun _ => h9_⟩), by rw [ht]; exact hP, hD⟩, hS.F ht⟩) hS.2.2 dB_3_3_27.1.2.2.2
                    · have e_ := e_.symm
                      subst e_
                      refine lv_if_eq (tgt := 159) hx hb dB_3_3_26.2.2.2.1 (by decide) (fun c_66 => ?_) (fun c_66 => ?_)
                      · have _ := c_66
                        refine lv_aload_n hx hb dB_3_3_27.1.2.1.1 rfl (lv_at hl 2 rfl) ?_
                        refine lv_bipush (v := (-12)) hx hb dB_3_3_27.1.2.1.2 (by decide) ?_
                        refine ct_S hP hD hS hA [ob12_0_ mo 0 0 t2 s3 s4 g5 g6 g7 g8 g9 g10 s11 g12 g13 g14 g15 g16 g17 g18 g19 g20 s21 g22 g23 g24 s25 s26 s27 s28 g29 g30 g31 g32 g33] [0] (by decide) rfl (fun hPc hDw hFc hC_ => ?_)
                        refine va_calli (va_runV (As := [.int (-12)]) (rest := []) ⟨hx, hb, hml, hown, hts⟩ (c_X12_no2 l D cy H.size mo g5 g6 g7 g8 g9 g10 g12 g13 g14 g15 g16 g17 g18 g19 g20 g22 g23 g24 g29 g30 g31 g32 g33 (0 : Int32) (0 : Int32) s3 s4 s11 s21 s25 s26 s27 s28 t2 ((-12) : Int32)) (cwV 1 hts gX12_copy_X12_no rfl rfl rfl ⟨rfl, hd_X12_no⟩ ⟨Nat.le_of_ble_eq_true rfl, Nat.le_of_ble_eq_true rfl⟩) ⟨bl_, va_recvX hK.1 hP (ci := 12) (q0 := 0) rfl rfl, fun U hU hW => ⟨rfl, by rw [hU], by rw [hU]; exact hPc, kk_mv hW hK, hDw⟩⟩ rfl rfl hl.1 rfl (lv_room (Nat.le_of_ble_eq_true rfl)) dB_3_3_27.1.2.2.1 ⟨Nat.le_of_ble_eq_true rfl, Nat.le_of_ble_eq_true rfl⟩) hS (fun q _ h => hFc q h) hFc (fun r_67 u t H locs ht hvm hw hB hz1 hk1 hS => ?_)
                        obtain ⟨n1_68, g_69, hP1, hD1⟩ := hB
                        rw [ht] at hP1
                        obtain ⟨hP, hD⟩ := va_join (wr := [az_ cy g15 4 f15, ai_ cy g17 4 f17, ai_ cy g18 24 f18, aj_ cy g19 120 f19, aj_ cy g20 5 f20]) (w1 := [ob12_0_ mo 0 n1_68 t2 s3 s4 g5 g6 g7 g8 g9 g10 s11 g12 g13 g14 g15 g16 g17 g18 g19 g20 s21 g22 g23 g24 s25 s26 s27 s28 g29 g30 g31 g32 g33]) hP hD [0] [1, 2, 3, 4, 5] hC_ rfl (by decide) (by decide) hk1 hFc hP1 hD1
                        refine pd_S hP hD [ob12_0_ mo 0 n1_68 t2 s3 s4 g5 g6 g7 g8 g9 g10 s11 g12 g13 g14 g15 g16 g17 g18 g19 g20 s21 g22 g23 g24 s25 s26 s27 s28 g29 g30 g31 g32 g33, az_ cy g15 4 f15, ai_ cy g17 4 f17, ai_ cy g18 24 f18, aj_ cy g19 120 f19, aj_ cy g20 5 f20] [5, 0, 1, 2, 3, 4] (by decide) rfl (fun hP hD => ?_)
                        have f0_r_67 := hw
                        have hno_ := g_69
                        rw [hQ]
                        exact W.iret (v := r_67) hx hb hr (fun t ht hW => ⟨⟨r_67, (), rfl, (by first | (unfold cpyI; (repeat' (first | with_reducible exact if_p (by omega) (by omega) | with_reducible exact if_ps (by omega) (by omega) | with_reducible exact if_pz (by omega) (by omega) | with_reducible refine if_n (by omega) ?_ | with_reducible refine if_ns (by omega) ?_ | with_reducible refine if_nz (by omega) ?_)) <;> omega) | (have h9 := congrArg Int32.toInt f0_r_67; unfold cpyI; (repeat' (first | with_reducible exact if_p (by omega) (by omega) | with_reducible exact if_ps (by omega) (by omega) | with_reducible exact if_pz (by omega) (by omega) | with_reducible refine if_n (by omega) ?_ | with_reducible refine if_ns (by omega) ?_ | with_reducible refine if_nz (by omega) ?_)) <;> omega)), n1_68, f19, f20, (by first | (unfold cpyI; (repeat' (first | with_reducible exact if_p (by omega) (by omega) | with_reducible exact if_ps (by omega) (by omega) | with_reducible exact if_pz (by omega) (by omega) | with_reducible refine if_n (by omega) ?_ | with_reducible refine if_ns (by omega) ?_ | with_reducible refine if_nz (by omega) ?_)) <;> omega) | (have h9 := congrArg Int32.toInt hno_; unfold cpyI; (repeat' (first | with_reducible exact if_p (by omega) (by omega) | with_reducible exact if_ps (by omega) (by omega) | with_reducible exact if_pz (by omega) (by omega) | with_reducible refine if_n (by omega) ?_ | with_reducible refine if_ns (by omega) ?_ | with_reducible refine if_nz (by omega) ?_)) <;> omega)), (by first | exact ⟨fun _ => rfl, fun h => absurd h (by first | omega | (have h9_ := congrArg Int32.toInt hno_; omega) | decide)⟩ | exact ⟨fun h => absurd (by first | omega | (have h9_ := congrArg Int32.toInt hno_; omega) | decide) h, fun _ => h9_⟩), by rw [ht]; exact hP, hD⟩, hS.F ht⟩) hS.2.2 dB_3_3_27.1.2.2.2
                      · exact absurd c_66 (by decide)
                  · have t_31 : y_26.toInt = ((-9) : Int32).toInt := congrArg Int32.toInt c_31
                    refine lv_aload_n hx hb dB_3_3_26.1.2.2.1 rfl (lv_at hl 2 rfl) ?_
                    refine lv_bipush (v := (-11)) hx hb dB_3_3_26.1.2.2.2 (by decide) ?_
                    refine ct_S hP hD hS hA [ob12_0_ mo 0 0 t2 s3 s4 g5 g6 g7 g8 g9 g10 s11 g12 g13 g14 g15 g16 g17 g18 g19 g20 s21 g22 g23 g24 s25 s26 s27 s28 g29 g30 g31 g32 g33] [0] (by decide) rfl (fun hPc hDw hFc hC_ => ?_)
                    refine va_calli (va_runV (As := [.int (-11)]) (rest := []) ⟨hx, hb, hml, hown, hts⟩ (c_X12_no2 l D cy H.size mo g5 g6 g7 g8 g9 g10 g12 g13 g14 g15 g16 g17 g18 g19 g20 g22 g23 g24 g29 g30 g31 g32 g33 (0 : Int32) (0 : Int32) s3 s4 s11 s21 s25 s26 s27 s28 t2 ((-11) : Int32)) (cwV 1 hts gX12_copy_X12_no rfl rfl rfl ⟨rfl, hd_X12_no⟩ ⟨Nat.le_of_ble_eq_true rfl, Nat.le_of_ble_eq_true rfl⟩) ⟨bl_, va_recvX hK.1 hP (ci := 12) (q0 := 0) rfl rfl, fun U hU hW => ⟨rfl, by rw [hU], by rw [hU]; exact hPc, kk_mv hW hK, hDw⟩⟩ rfl rfl hl.1 rfl (lv_room (Nat.le_of_ble_eq_true rfl)) dB_3_3_26.2.1.1.1 ⟨Nat.le_of_ble_eq_true rfl, Nat.le_of_ble_eq_true rfl⟩) hS (fun q _ h => hFc q h) hFc (fun r_70 u t H locs ht hvm hw hB hz1 hk1 hS => ?_)
                    obtain ⟨n1_71, g_72, hP1, hD1⟩ := hB
                    rw [ht] at hP1
                    obtain ⟨hP, hD⟩ := va_join (wr := [az_ cy g15 4 f15, ai_ cy g17 4 f17, ai_ cy g18 24 f18, aj_ cy g19 120 f19, aj_ cy g20 5 f20]) (w1 := [ob12_0_ mo 0 n1_71 t2 s3 s4 g5 g6 g7 g8 g9 g10 s11 g12 g13 g14 g15 g16 g17 g18 g19 g20 s21 g22 g23 g24 s25 s26 s27 s28 g29 g30 g31 g32 g33]) hP hD [0] [1, 2, 3, 4, 5] hC_ rfl (by decide) (by decide) hk1 hFc hP1 hD1
                    refine pd_S hP hD [ob12_0_ mo 0 n1_71 t2 s3 s4 g5 g6 g7 g8 g9 g10 s11 g12 g13 g14 g15 g16 g17 g18 g19 g20 s21 g22 g23 g24 s25 s26 s27 s28 g29 g30 g31 g32 g33, az_ cy g15 4 f15, ai_ cy g17 4 f17, ai_ cy g18 24 f18, aj_ cy g19 120 f19, aj_ cy g20 5 f20] [5, 0, 1, 2, 3, 4] (by decide) rfl (fun hP hD => ?_)
                    have f0_r_70 := hw
                    have hno_ := g_72
                    rw [hQ]
                    exact W.iret (v := r_70) hx hb hr (fun t ht hW => ⟨⟨r_70, (), rfl, (by first | (unfold cpyI; (repeat' (first | with_reducible exact if_p (by omega) (by omega) | with_reducible exact if_ps (by omega) (by omega) | with_reducible exact if_pz (by omega) (by omega) | with_reducible refine if_n (by omega) ?_ | with_reducible refine if_ns (by omega) ?_ | with_reducible refine if_nz (by omega) ?_)) <;> omega) | (have h9 := congrArg Int32.toInt f0_r_70; unfold cpyI; (repeat' (first | with_reducible exact if_p (by omega) (by omega) | with_reducible exact if_ps (by omega) (by omega) | with_reducible exact if_pz (by omega) (by omega) | with_reducible refine if_n (by omega) ?_ | with_reducible refine if_ns (by omega) ?_ | with_reducible refine if_nz (by omega) ?_)) <;> omega)), n1_71, f19, f20, (by first | (unfold cpyI; (repeat' (first | with_reducible exact if_p (by omega) (by omega) | with_reducible exact if_ps (by omega) (by omega) | with_reducible exact if_pz (by omega) (by omega) | with_reducible refine if_n (by omega) ?_ | with_reducible refine if_ns (by omega) ?_ | with_reducible refine if_nz (by omega) ?_)) <;> omega) | (have h9 := congrArg Int32.toInt hno_; unfold cpyI; (repeat' (first | with_reducible exact if_p (by omega) (by omega) | with_reducible exact if_ps (by omega) (by omega) | with_reducible exact if_pz (by omega) (by omega) | with_reducible refine if_n (by omega) ?_ | with_reducible refine if_ns (by omega) ?_ | with_reducible refine if_nz (by omega) ?_)) <;> omega)), (by first | exact ⟨fun _ => rfl, fun h => absurd h (by first | omega | (have h9_ := congrArg Int32.toInt hno_; omega) | decide)⟩ | exact ⟨fun h => absurd (by first | omega | (have h9_ := congrArg Int32.toInt hno_; omega) | decide) h, fun _ => h9_⟩), by rw [ht]; exact hP, hD⟩, hS.F ht⟩) hS.2.2 dB_3_3_26.2.1.1.2
              · exact absurd c_18 (by decide)
            · have e_ := e_.symm
              subst e_
              refine lv_if_ne (tgt := 88) hx hb dB_3_3_24.2.1.1.2 (by decide) (fun c_73 => ?_) (fun c_73 => ?_)
              · exact absurd c_73 (by decide)
              · have _ := c_73
                refine lv_aload_n hx hb dB_3_3_24.2.1.2.1 rfl (lv_at hl 0 rfl) ?_
                refine lv_bipush (v := (-12)) hx hb dB_3_3_24.2.1.2.2 (by decide) ?_
                refine ct_S hP hD hS hA [ob12_0_ mo 0 0 t2 s3 s4 g5 g6 g7 g8 g9 g10 s11 g12 g13 g14 g15 g16 g17 g18 g19 g20 s21 g22 g23 g24 s25 s26 s27 s28 g29 g30 g31 g32 g33] [0] (by decide) rfl (fun hPc hDw hFc hC_ => ?_)
                refine va_calli (va_runV (As := [.int (-12)]) (rest := []) ⟨hx, hb, hml, hown, hts⟩ (c_X12_no2 l D cy H.size mo g5 g6 g7 g8 g9 g10 g12 g13 g14 g15 g16 g17 g18 g19 g20 g22 g23 g24 g29 g30 g31 g32 g33 (0 : Int32) (0 : Int32) s3 s4 s11 s21 s25 s26 s27 s28 t2 ((-12) : Int32)) (cwV 1 hts gX12_copy_X12_no rfl rfl rfl ⟨rfl, hd_X12_no⟩ ⟨Nat.le_of_ble_eq_true rfl, Nat.le_of_ble_eq_true rfl⟩) ⟨bl_, va_recvX hK.1 hP (ci := 12) (q0 := 0) rfl rfl, fun U hU hW => ⟨rfl, by rw [hU], by rw [hU]; exact hPc, kk_mv hW hK, hDw⟩⟩ rfl rfl hl.1 rfl (lv_room (Nat.le_of_ble_eq_true rfl)) dB_3_3_24.2.2.1.1 ⟨Nat.le_of_ble_eq_true rfl, Nat.le_of_ble_eq_true rfl⟩) hS (fun q _ h => hFc q h) hFc (fun r_74 u t H locs ht hvm hw hB hz1 hk1 hS => ?_)
                obtain ⟨n1_75, g_76, hP1, hD1⟩ := hB
                rw [ht] at hP1
                obtain ⟨hP, hD⟩ := va_join (wr := [az_ cy g15 4 f15, ai_ cy g17 4 f17, ai_ cy g18 24 f18, aj_ cy g19 120 f19, aj_ cy g20 5 f20]) (w1 := [ob12_0_ mo 0 n1_75 t2 s3 s4 g5 g6 g7 g8 g9 g10 s11 g12 g13 g14 g15 g16 g17 g18 g19 g20 s21 g22 g23 g24 s25 s26 s27 s28 g29 g30 g31 g32 g33]) hP hD [0] [1, 2, 3, 4, 5] hC_ rfl (by decide) (by decide) hk1 hFc hP1 hD1
                refine pd_S hP hD [ob12_0_ mo 0 n1_75 t2 s3 s4 g5 g6 g7 g8 g9 g10 s11 g12 g13 g14 g15 g16 g17 g18 g19 g20 s21 g22 g23 g24 s25 s26 s27 s28 g29 g30 g31 g32 g33, az_ cy g15 4 f15, ai_ cy g17 4 f17, ai_ cy g18 24 f18, aj_ cy g19 120 f19, aj_ cy g20 5 f20] [5, 0, 1, 2, 3, 4] (by decide) rfl (fun hP hD => ?_)
                have f0_r_74 := hw
                have hno_ := g_76
                rw [hQ]
                exact W.iret (v := r_74) hx hb hr (fun t ht hW => ⟨⟨r_74, (), rfl, (by first | (unfold cpyI; (repeat' (first | with_reducible exact if_p (by omega) (by omega) | with_reducible exact if_ps (by omega) (by omega) | with_reducible exact if_pz (by omega) (by omega) | with_reducible refine if_n (by omega) ?_ | with_reducible refine if_ns (by omega) ?_ | with_reducible refine if_nz (by omega) ?_)) <;> omega) | (have h9 := congrArg Int32.toInt f0_r_74; unfold cpyI; (repeat' (first | with_reducible exact if_p (by omega) (by omega) | with_reducible exact if_ps (by omega) (by omega) | with_reducible exact if_pz (by omega) (by omega) | with_reducible refine if_n (by omega) ?_ | with_reducible refine if_ns (by omega) ?_ | with_reducible refine if_nz (by omega) ?_)) <;> omega)), n1_75, f19, f20, (by first | (unfold cpyI; (repeat' (first | with_reducible exact if_p (by omega) (by omega) | with_reducible exact if_ps (by omega) (by omega) | with_reducible exact if_pz (by omega) (by omega) | with_reducible refine if_n (by omega) ?_ | with_reducible refine if_ns (by omega) ?_ | with_reducible refine if_nz (by omega) ?_)) <;> omega) | (have h9 := congrArg Int32.toInt hno_; unfold cpyI; (repeat' (first | with_reducible exact if_p (by omega) (by omega) | with_reducible exact if_ps (by omega) (by omega) | with_reducible exact if_pz (by omega) (by omega) | with_reducible refine if_n (by omega) ?_ | with_reducible refine if_ns (by omega) ?_ | with_reducible refine if_nz (by omega) ?_)) <;> omega)), (by first | exact ⟨fun _ => rfl, fun h => absurd h (by first | omega | (have h9_ := congrArg Int32.toInt hno_; omega) | decide)⟩ | exact ⟨fun h => absurd (by first | omega | (have h9_ := congrArg Int32.toInt hno_; omega) | decide) h, fun _ => h9_⟩), by rw [ht]; exact hP, hD⟩, hS.F ht⟩) hS.2.2 dB_3_3_24.2.2.1.2
        · have e_ := e_.symm
          subst e_
          refine lv_if_eq (tgt := 81) hx hb dB_3_3_23.2.2.1.2 (by decide) (fun c_77 => ?_) (fun c_77 => ?_)
          · have _ := c_77
            refine lv_aload_n hx hb dB_3_3_24.2.1.2.1 rfl (lv_at hl 0 rfl) ?_
            refine lv_bipush (v := (-12)) hx hb dB_3_3_24.2.1.2.2 (by decide) ?_
            refine ct_S hP hD hS hA [ob12_0_ mo 0 0 t2 s3 s4 g5 g6 g7 g8 g9 g10 s11 g12 g13 g14 g15 g16 g17 g18 g19 g20 s21 g22 g23 g24 s25 s26 s27 s28 g29 g30 g31 g32 g33] [0] (by decide) rfl (fun hPc hDw hFc hC_ => ?_)
            refine va_calli (va_runV (As := [.int (-12)]) (rest := []) ⟨hx, hb, hml, hown, hts⟩ (c_X12_no2 l D cy H.size mo g5 g6 g7 g8 g9 g10 g12 g13 g14 g15 g16 g17 g18 g19 g20 g22 g23 g24 g29 g30 g31 g32 g33 (0 : Int32) (0 : Int32) s3 s4 s11 s21 s25 s26 s27 s28 t2 ((-12) : Int32)) (cwV 1 hts gX12_copy_X12_no rfl rfl rfl ⟨rfl, hd_X12_no⟩ ⟨Nat.le_of_ble_eq_true rfl, Nat.le_of_ble_eq_true rfl⟩) ⟨bl_, va_recvX hK.1 hP (ci := 12) (q0 := 0) rfl rfl, fun U hU hW => ⟨rfl, by rw [hU], by rw [hU]; exact hPc, kk_mv hW hK, hDw⟩⟩ rfl rfl hl.1 rfl (lv_room (Nat.le_of_ble_eq_true rfl)) dB_3_3_24.2.2.1.1 ⟨Nat.le_of_ble_eq_true rfl, Nat.le_of_ble_eq_true rfl⟩) hS (fun q _ h => hFc q h) hFc (fun r_78 u t H locs ht hvm hw hB hz1 hk1 hS => ?_)
            obtain ⟨n1_79, g_80, hP1, hD1⟩ := hB
            rw [ht] at hP1
            obtain ⟨hP, hD⟩ := va_join (wr := [az_ cy g15 4 f15, ai_ cy g17 4 f17, ai_ cy g18 24 f18, aj_ cy g19 120 f19, aj_ cy g20 5 f20]) (w1 := [ob12_0_ mo 0 n1_79 t2 s3 s4 g5 g6 g7 g8 g9 g10 s11 g12 g13 g14 g15 g16 g17 g18 g19 g20 s21 g22 g23 g24 s25 s26 s27 s28 g29 g30 g31 g32 g33]) hP hD [0] [1, 2, 3, 4, 5] hC_ rfl (by decide) (by decide) hk1 hFc hP1 hD1
            refine pd_S hP hD [ob12_0_ mo 0 n1_79 t2 s3 s4 g5 g6 g7 g8 g9 g10 s11 g12 g13 g14 g15 g16 g17 g18 g19 g20 s21 g22 g23 g24 s25 s26 s27 s28 g29 g30 g31 g32 g33, az_ cy g15 4 f15, ai_ cy g17 4 f17, ai_ cy g18 24 f18, aj_ cy g19 120 f19, aj_ cy g20 5 f20] [5, 0, 1, 2, 3, 4] (by decide) rfl (fun hP hD => ?_)
            have f0_r_78 := hw
            have hno_ := g_80
            rw [hQ]
            exact W.iret (v := r_78) hx hb hr (fun t ht hW => ⟨⟨r_78, (), rfl, (by first | (unfold cpyI; (repeat' (first | with_reducible exact if_p (by omega) (by omega) | with_reducible exact if_ps (by omega) (by omega) | with_reducible exact if_pz (by omega) (by omega) | with_reducible refine if_n (by omega) ?_ | with_reducible refine if_ns (by omega) ?_ | with_reducible refine if_nz (by omega) ?_)) <;> omega) | (have h9 := congrArg Int32.toInt f0_r_78; unfold cpyI; (repeat' (first | with_reducible exact if_p (by omega) (by omega) | with_reducible exact if_ps (by omega) (by omega) | with_reducible exact if_pz (by omega) (by omega) | with_reducible refine if_n (by omega) ?_ | with_reducible refine if_ns (by omega) ?_ | with_reducible refine if_nz (by omega) ?_)) <;> omega)), n1_79, f19, f20, (by first | (unfold cpyI; (repeat' (first | with_reducible exact if_p (by omega) (by omega) | with_reducible exact if_ps (by omega) (by omega) | with_reducible exact if_pz (by omega) (by omega) | with_reducible refine if_n (by omega) ?_ | with_reducible refine if_ns (by omega) ?_ | with_reducible refine if_nz (by omega) ?_)) <;> omega) | (have h9 := congrArg Int32.toInt hno_; unfold cpyI; (repeat' (first | with_reducible exact if_p (by omega) (by omega) | with_reducible exact if_ps (by omega) (by omega) | with_reducible exact if_pz (by omega) (by omega) | with_reducible refine if_n (by omega) ?_ | with_reducible refine if_ns (by omega) ?_ | with_reducible refine if_nz (by omega) ?_)) <;> omega)), (by first | exact ⟨fun _ => rfl, fun h => absurd h (by first | omega | (have h9_ := congrArg Int32.toInt hno_; omega) | decide)⟩ | exact ⟨fun h => absurd (by first | omega | (have h9_ := congrArg Int32.toInt hno_; omega) | decide) h, fun _ => h9_⟩), by rw [ht]; exact hP, hD⟩, hS.F ht⟩) hS.2.2 dB_3_3_24.2.2.1.2
          · exact absurd c_77 (by decide)
      · have t_6 : y_5.toInt = (0 : Int32).toInt := congrArg Int32.toInt c_6
        refine lv_aload_n hx hb dB_3_3_22.2.2.2.1 rfl (lv_at hl 0 rfl) ?_
        refine lv_bipush (v := (-11)) hx hb dB_3_3_22.2.2.2.2 (by decide) ?_
        refine ct_S hP hD hS hA [ob12_0_ mo 0 0 t2 s3 s4 g5 g6 g7 g8 g9 g10 s11 g12 g13 g14 g15 g16 g17 g18 g19 g20 s21 g22 g23 g24 s25 s26 s27 s28 g29 g30 g31 g32 g33] [0] (by decide) rfl (fun hPc hDw hFc hC_ => ?_)
        refine va_calli (va_runV (As := [.int (-11)]) (rest := []) ⟨hx, hb, hml, hown, hts⟩ (c_X12_no2 l D cy H.size mo g5 g6 g7 g8 g9 g10 g12 g13 g14 g15 g16 g17 g18 g19 g20 g22 g23 g24 g29 g30 g31 g32 g33 (0 : Int32) (0 : Int32) s3 s4 s11 s21 s25 s26 s27 s28 t2 ((-11) : Int32)) (cwV 1 hts gX12_copy_X12_no rfl rfl rfl ⟨rfl, hd_X12_no⟩ ⟨Nat.le_of_ble_eq_true rfl, Nat.le_of_ble_eq_true rfl⟩) ⟨bl_, va_recvX hK.1 hP (ci := 12) (q0 := 0) rfl rfl, fun U hU hW => ⟨rfl, by rw [hU], by rw [hU]; exact hPc, kk_mv hW hK, hDw⟩⟩ rfl rfl hl.1 rfl (lv_room (Nat.le_of_ble_eq_true rfl)) dB_3_3_23.1.1.1.1 ⟨Nat.le_of_ble_eq_true rfl, Nat.le_of_ble_eq_true rfl⟩) hS (fun q _ h => hFc q h) hFc (fun r_81 u t H locs ht hvm hw hB hz1 hk1 hS => ?_)
        obtain ⟨n1_82, g_83, hP1, hD1⟩ := hB
        rw [ht] at hP1
        obtain ⟨hP, hD⟩ := va_join (wr := [az_ cy g15 4 f15, ai_ cy g17 4 f17, ai_ cy g18 24 f18, aj_ cy g19 120 f19, aj_ cy g20 5 f20]) (w1 := [ob12_0_ mo 0 n1_82 t2 s3 s4 g5 g6 g7 g8 g9 g10 s11 g12 g13 g14 g15 g16 g17 g18 g19 g20 s21 g22 g23 g24 s25 s26 s27 s28 g29 g30 g31 g32 g33]) hP hD [0] [1, 2, 3, 4, 5] hC_ rfl (by decide) (by decide) hk1 hFc hP1 hD1
        refine pd_S hP hD [ob12_0_ mo 0 n1_82 t2 s3 s4 g5 g6 g7 g8 g9 g10 s11 g12 g13 g14 g15 g16 g17 g18 g19 g20 s21 g22 g23 g24 s25 s26 s27 s28 g29 g30 g31 g32 g33, az_ cy g15 4 f15, ai_ cy g17 4 f17, ai_ cy g18 24 f18, aj_ cy g19 120 f19, aj_ cy g20 5 f20] [5, 0, 1, 2, 3, 4] (by decide) rfl (fun hP hD => ?_)
        have f0_r_81 := hw
        have hno_ := g_83
        rw [hQ]
        exact W.iret (v := r_81) hx hb hr (fun t ht hW => ⟨⟨r_81, (), rfl, (by first | (unfold cpyI; (repeat' (first | with_reducible exact if_p (by omega) (by omega) | with_reducible exact if_ps (by omega) (by omega) | with_reducible exact if_pz (by omega) (by omega) | with_reducible refine if_n (by omega) ?_ | with_reducible refine if_ns (by omega) ?_ | with_reducible refine if_nz (by omega) ?_)) <;> omega) | (have h9 := congrArg Int32.toInt f0_r_81; unfold cpyI; (repeat' (first | with_reducible exact if_p (by omega) (by omega) | with_reducible exact if_ps (by omega) (by omega) | with_reducible exact if_pz (by omega) (by omega) | with_reducible refine if_n (by omega) ?_ | with_reducible refine if_ns (by omega) ?_ | with_reducible refine if_nz (by omega) ?_)) <;> omega)), n1_82, f19, f20, (by first | (unfold cpyI; (repeat' (first | with_reducible exact if_p (by omega) (by omega) | with_reducible exact if_ps (by omega) (by omega) | with_reducible exact if_pz (by omega) (by omega) | with_reducible refine if_n (by omega) ?_ | with_reducible refine if_ns (by omega) ?_ | with_reducible refine if_nz (by omega) ?_)) <;> omega) | (have h9 := congrArg Int32.toInt hno_; unfold cpyI; (repeat' (first | with_reducible exact if_p (by omega) (by omega) | with_reducible exact if_ps (by omega) (by omega) | with_reducible exact if_pz (by omega) (by omega) | with_reducible refine if_n (by omega) ?_ | with_reducible refine if_ns (by omega) ?_ | with_reducible refine if_nz (by omega) ?_)) <;> omega)), (by first | exact ⟨fun _ => rfl, fun h => absurd h (by first | omega | (have h9_ := congrArg Int32.toInt hno_; omega) | decide)⟩ | exact ⟨fun h => absurd (by first | omega | (have h9_ := congrArg Int32.toInt hno_; omega) | decide) h, fun _ => h9_⟩), by rw [ht]; exact hP, hD⟩, hS.F ht⟩) hS.2.2 dB_3_3_23.1.1.1.2
    · exact absurd c_3 (by decide)
  · have e_ := e_.symm
    subst e_
    refine lv_if_ne (tgt := 28) hx hb dB_3_3_22.1.2.1.1 (by decide) (fun c_84 => ?_) (fun c_84 => ?_)
    · exact absurd c_84 (by decide)
    · have _ := c_84
      refine lv_aload_n hx hb dB_3_3_22.1.2.1.2 rfl (lv_at hl 0 rfl) ?_
      refine lv_iconst (v := (-1)) hx hb dB_3_3_22.1.2.2.1 (by decide) ?_
      refine ct_S hP hD hS hA [ob12_0_ mo 0 0 t2 s3 s4 g5 g6 g7 g8 g9 g10 s11 g12 g13 g14 g15 g16 g17 g18 g19 g20 s21 g22 g23 g24 s25 s26 s27 s28 g29 g30 g31 g32 g33] [0] (by decide) rfl (fun hPc hDw hFc hC_ => ?_)
      refine va_calli (va_runV (As := [.int (-1)]) (rest := []) ⟨hx, hb, hml, hown, hts⟩ (c_X12_no2 l D cy H.size mo g5 g6 g7 g8 g9 g10 g12 g13 g14 g15 g16 g17 g18 g19 g20 g22 g23 g24 g29 g30 g31 g32 g33 (0 : Int32) (0 : Int32) s3 s4 s11 s21 s25 s26 s27 s28 t2 ((-1) : Int32)) (cwV 1 hts gX12_copy_X12_no rfl rfl rfl ⟨rfl, hd_X12_no⟩ ⟨Nat.le_of_ble_eq_true rfl, Nat.le_of_ble_eq_true rfl⟩) ⟨bl_, va_recvX hK.1 hP (ci := 12) (q0 := 0) rfl rfl, fun U hU hW => ⟨rfl, by rw [hU], by rw [hU]; exact hPc, kk_mv hW hK, hDw⟩⟩ rfl rfl hl.1 rfl (lv_room (Nat.le_of_ble_eq_true rfl)) dB_3_3_22.1.2.2.2 ⟨Nat.le_of_ble_eq_true rfl, Nat.le_of_ble_eq_true rfl⟩) hS (fun q _ h => hFc q h) hFc (fun r_85 u t H locs ht hvm hw hB hz1 hk1 hS => ?_)
      obtain ⟨n1_86, g_87, hP1, hD1⟩ := hB
      rw [ht] at hP1
      obtain ⟨hP, hD⟩ := va_join (wr := [az_ cy g15 4 f15, ai_ cy g17 4 f17, ai_ cy g18 24 f18, aj_ cy g19 120 f19, aj_ cy g20 5 f20]) (w1 := [ob12_0_ mo 0 n1_86 t2 s3 s4 g5 g6 g7 g8 g9 g10 s11 g12 g13 g14 g15 g16 g17 g18 g19 g20 s21 g22 g23 g24 s25 s26 s27 s28 g29 g30 g31 g32 g33]) hP hD [0] [1, 2, 3, 4, 5] hC_ rfl (by decide) (by decide) hk1 hFc hP1 hD1
      refine pd_S hP hD [ob12_0_ mo 0 n1_86 t2 s3 s4 g5 g6 g7 g8 g9 g10 s11 g12 g13 g14 g15 g16 g17 g18 g19 g20 s21 g22 g23 g24 s25 s26 s27 s28 g29 g30 g31 g32 g33, az_ cy g15 4 f15, ai_ cy g17 4 f17, ai_ cy g18 24 f18, aj_ cy g19 120 f19, aj_ cy g20 5 f20] [5, 0, 1, 2, 3, 4] (by decide) rfl (fun hP hD => ?_)
      have f0_r_85 := hw
      have hno_ := g_87
      rw [hQ]
      exact W.iret (v := r_85) hx hb hr (fun t ht hW => ⟨⟨r_85, (), rfl, (by first | (unfold cpyI; (repeat' (first | with_reducible exact if_p (by omega) (by omega) | with_reducible exact if_ps (by omega) (by omega) | with_reducible exact if_pz (by omega) (by omega) | with_reducible refine if_n (by omega) ?_ | with_reducible refine if_ns (by omega) ?_ | with_reducible refine if_nz (by omega) ?_)) <;> omega) | (have h9 := congrArg Int32.toInt f0_r_85; unfold cpyI; (repeat' (first | with_reducible exact if_p (by omega) (by omega) | with_reducible exact if_ps (by omega) (by omega) | with_reducible exact if_pz (by omega) (by omega) | with_reducible refine if_n (by omega) ?_ | with_reducible refine if_ns (by omega) ?_ | with_reducible refine if_nz (by omega) ?_)) <;> omega)), n1_86, f19, f20, (by first | (unfold cpyI; (repeat' (first | with_reducible exact if_p (by omega) (by omega) | with_reducible exact if_ps (by omega) (by omega) | with_reducible exact if_pz (by omega) (by omega) | with_reducible refine if_n (by omega) ?_ | with_reducible refine if_ns (by omega) ?_ | with_reducible refine if_nz (by omega) ?_)) <;> omega) | (have h9 := congrArg Int32.toInt hno_; unfold cpyI; (repeat' (first | with_reducible exact if_p (by omega) (by omega) | with_reducible exact if_ps (by omega) (by omega) | with_reducible exact if_pz (by omega) (by omega) | with_reducible refine if_n (by omega) ?_ | with_reducible refine if_ns (by omega) ?_ | with_reducible refine if_nz (by omega) ?_)) <;> omega)), (by first | exact ⟨fun _ => rfl, fun h => absurd h (by first | omega | (have h9_ := congrArg Int32.toInt hno_; omega) | decide)⟩ | exact ⟨fun h => absurd (by first | omega | (have h9_ := congrArg Int32.toInt hno_; omega) | decide) h, fun _ => h9_⟩), by rw [ht]; exact hP, hD⟩, hS.F ht⟩) hS.2.2 dB_3_3_22.2.1.1.1
