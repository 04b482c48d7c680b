section
set_option maxHeartbeats 4000000 in
set_option maxRecDepth 100000 in
theorem c_X12_undo2 (l : Launch) (D : va_G) (cy : Nat → ClassId) (sz : Nat) (mo : Nat) (g5 : Nat) (g6 : Nat) (g7 : Nat) (g8 : Nat) (g9 : Nat) (g10 : Nat) (g12 : Nat) (g13 : Nat) (g14 : Nat) (g15 : Nat) (g16 : Nat) (g17 : Nat) (g18 : Nat) (g19 : Nat) (g20 : Nat) (g22 : Nat) (g23 : Nat) (g24 : Nat) (g29 : Nat) (g30 : Nat) (g31 : Nat) (g32 : Nat) (g33 : Nat) (s0 : Int32) (s1 : Int32) (s3 : Int32) (s4 : Int32) (s11 : Int32) (s21 : Int32) (s25 : Int32) (s26 : Int32) (s27 : Int32) (s28 : Int32) (t2 : Int64) (f5 : Nat → Int32) (f6 : Nat → Int32) (f7 : Nat → Int32) (f8 : Nat → Int32) (f9 : Nat → Int32) (f10 : Nat → Int32) (f12 : Nat → Int32) (f13 : Nat → Int32) (f14 : Nat → Int32) (hN : 0 ≤ s4.toInt ∧ s4.toInt ≤ 40) (hPl : 0 ≤ s3.toInt ∧ s3.toInt ≤ 12) (hU : 0 ≤ s11.toInt ∧ s11.toInt ≤ 30) (hnet : netE s3.toInt s4.toInt f6 f7 f10) (hpast : pastE s11.toInt f12 f13 f14) (r_f6 : rng f6 40 (0) (11)) (r_f7 : rng f7 40 (0) (11)) (r_f8 : rng f8 40 (0) (2000)) (r_f9 : rng f9 40 (0) (100)) (r_f12 : rng f12 30 (0) (12)) (r_f13 : rng f13 30 (0) (40)) (r_f14 : orng f14 6000) : Met l yX12_undo wsX12_undo ({ frames := 0, cells := 0, slots := 0, locals := 0 }) (va_Pc [.ref mo] (fun U => U.heap.size = sz ∧ va_P D vwCl [ob12_0_ mo s0 s1 t2 s3 s4 g5 g6 g7 g8 g9 g10 s11 g12 g13 g14 g15 g16 g17 g18 g19 g20 s21 g22 g23 g24 s25 s26 s27 s28 g29 g30 g31 g32 g33, ai_ cy g5 40 f5, ai_ cy g6 40 f6, ai_ cy g7 40 f7, ai_ cy g8 40 f8, ai_ cy g9 40 f9, az_ cy g10 40 f10, ai_ cy g12 30 f12, ai_ cy g13 30 f13, ai_ cy g14 6000 f14] U.heap ∧ kk_ D cy U ∧ va_D (fun _ => True) [ob12_0_ mo s0 s1 t2 s3 s4 g5 g6 g7 g8 g9 g10 s11 g12 g13 g14 g15 g16 g17 g18 g19 g20 s21 g22 g23 g24 s25 s26 s27 s28 g29 g30 g31 g32 g33, ai_ cy g5 40 f5, ai_ cy g6 40 f6, ai_ cy g7 40 f7, ai_ cy g8 40 f8, ai_ cy g9 40 f9, az_ cy g10 40 f10, ai_ cy g12 30 f12, ai_ cy g13 30 f13, ai_ cy g14 6000 f14])) (va_Qi (fun (r : Int32) (_ : Unit) => True) (fun (_ : Unit) (t : State) => ∃ (n3 : Int32), ∃ (n4 : Int32), ∃ (n11 : Int32), ∃ (e5 : Nat → Int32), ∃ (e6 : Nat → Int32), ∃ (e7 : Nat → Int32), ∃ (e8 : Nat → Int32), ∃ (e9 : Nat → Int32), ∃ (e10 : Nat → Int32), (0 ≤ n3.toInt ∧ n3.toInt ≤ 12) ∧ (0 ≤ n4.toInt ∧ n4.toInt ≤ 40) ∧ (0 ≤ n11.toInt ∧ n11.toInt ≤ 30) ∧ (netE n3.toInt n4.toInt e6 e7 e10) ∧ (pastE n11.toInt f12 f13 f14) ∧ (rng e6 40 (0) (11)) ∧ (rng e7 40 (0) (11)) ∧ (rng e8 40 (0) (2000)) ∧ (rng e9 40 (0) (100)) ∧ va_P D vwCl [ob12_0_ mo 0 s1 t2 n3 n4 g5 g6 g7 g8 g9 g10 n11 g12 g13 g14 g15 g16 g17 g18 g19 g20 s21 g22 g23 g24 s25 s26 s27 s28 g29 g30 g31 g32 g33, ai_ cy g5 40 e5, ai_ cy g6 40 e6, ai_ cy g7 40 e7, ai_ cy g8 40 e8, ai_ cy g9 40 e9, az_ cy g10 40 e10, ai_ cy g12 30 f12, ai_ cy g13 30 f13, ai_ cy g14 6000 f14] t.heap ∧ va_D (va_A [ob12_0_ mo s0 s1 t2 s3 s4 g5 g6 g7 g8 g9 g10 s11 g12 g13 g14 g15 g16 g17 g18 g19 g20 s21 g22 g23 g24 s25 s26 s27 s28 g29 g30 g31 g32 g33, ai_ cy g5 40 f5, ai_ cy g6 40 f6, ai_ cy g7 40 f7, ai_ cy g8 40 f8, ai_ cy g9 40 f9, az_ cy g10 40 f10, ai_ cy g12 30 f12, ai_ cy g13 30 f13, ai_ cy g14 6000 f14] sz) [ob12_0_ mo 0 s1 t2 n3 n4 g5 g6 g7 g8 g9 g10 n11 g12 g13 g14 g15 g16 g17 g18 g19 g20 s21 g22 g23 g24 s25 s26 s27 s28 g29 g30 g31 g32 g33, ai_ cy g5 40 e5, ai_ cy g6 40 e6, ai_ cy g7 40 e7, ai_ cy g8 40 e8, ai_ cy g9 40 e9, az_ cy g10 40 e10, ai_ cy g12 30 f12, ai_ cy g13 30 f13, ai_ cy g14 6000 f14]) (va_A [ob12_0_ mo s0 s1 t2 s3 s4 g5 g6 g7 g8 g9 g10 s11 g12 g13 g14 g15 g16 g17 g18 g19 g20 s21 g22 g23 g24 s25 s26 s27 s28 g29 g30 g31 g32 g33, ai_ cy g5 40 f5, ai_ cy g6 40 f6, ai_ cy g7 40 f7, ai_ cy g8 40 f8, ai_ cy g9 40 f9, az_ cy g10 40 f10, ai_ cy g12 30 f12, ai_ cy g13 30 f13, ai_ cy g14 6000 f14] sz)) 0 0 (va_A [ob12_0_ mo s0 s1 t2 s3 s4 g5 g6 g7 g8 g9 g10 s11 g12 g13 g14 g15 g16 g17 g18 g19 g20 s21 g22 g23 g24 s25 s26 s27 s28 g29 g30 g31 g32 g33, ai_ cy g5 40 f5, ai_ cy g6 40 f6, ai_ cy g7 40 f7, ai_ cy g8 40 f8, ai_ cy g9 40 f9, az_ cy g10 40 f10, ai_ cy g12 30 f12, ai_ cy g13 30 f13, ai_ cy g14 6000 f14] sz) := by
  refine ofQ (cc := cX12_undo) (maxL := 3) (ret := (some .int)) (by decide) rfl ?_
  intro p e s m args below meth c s₁ Q hQ B hml hv
  obtain ⟨rfl, hsz, hP, hK, hD0⟩ := hv
  have hx := B.exec
  have hb := B.bytes
  have hr := B.returns
  have hts := atoms_spec (ws := wsX12_undo) B.pre
  have hown : s.vm.findClass RX12 = some m.cls := by have h_ := findClass_of_methodNamed B.named; exact h_
  have hlocks := B.notSynchronized
  subst hsz
  have hD := hD0.self (sz := s.heap.size)
  generalize hAe : va_A [ob12_0_ mo s0 s1 t2 s3 s4 g5 g6 g7 g8 g9 g10 s11 g12 g13 g14 g15 g16 g17 g18 g19 g20 s21 g22 g23 g24 s25 s26 s27 s28 g29 g30 g31 g32 g33, ai_ cy g5 40 f5, ai_ cy g6 40 f6, ai_ cy g7 40 f7, ai_ cy g8 40 f8, ai_ cy g9 40 f9, az_ cy g10 40 f10, ai_ cy g12 30 f12, ai_ cy g13 30 f13, ai_ cy g14 6000 f14] s.heap.size = A at hD hQ
  have hA : ∀ q : Nat, s.heap.size ≤ q → A q := fun q h => by rw [← hAe]; exact Or.inr h
  have hS : va_S A s.heap s.heap [] := va_S.rf
  have hl := lv_entry ([.ref mo]) (n := 3) (Nat.le_of_ble_eq_true rfl)
  rw [lg_entry_eq]
  generalize (lg_sl ([.ref mo]) ++ List.replicate (3 - (lg_sl ([.ref mo])).length) Slot.unset).toArray = ls at hl ⊢
  have hl : lv_has ls 3 [(0, .ref mo)] := hl
  have zm2 : ((-2) : Int32).toInt = -2 := by decide
  have z0 : (0 : Int32).toInt = 0 := by decide
  have z1 : (1 : Int32).toInt = 1 := by decide
  have z2 : (2 : Int32).toInt = 2 := by decide
  have z3 : (3 : Int32).toInt = 3 := by decide
  have z4 : (4 : Int32).toInt = 4 := by decide
  have z5 : (5 : Int32).toInt = 5 := by decide
  have z40 : (40 : Int32).toInt = 40 := by decide
  have z200 : (200 : Int32).toInt = 200 := by decide
  have z999 : (999 : Int32).toInt = 999 := by decide
  have z1000 : (1000 : Int32).toInt = 1000 := by decide
  refine lv_aload_n hx hb dB_3_0_45.2.2.2.1 rfl (lv_at hl 0 rfl) ?_
  refine lv_iconst (v := 0) hx hb dB_3_0_45.2.2.2.2 (by decide) ?_
  refine va_put (ci := 12) (v := .int 0) (ty := .int) (C := RX12) (T := TX12) (N := 34) hx hb hts (fun _ h => List.mem_cons_of_mem _ (List.mem_append_right _ h)) tyX12 tyX12_ok nmX12 hown hK.1 hP hD hS 0 rfl rfl 0 (by decide) (hts (.fieldLink RX12 85 "CutAtlasModel" "thrown" "I") (List.mem_of_getElem? (i := 1) rfl)) (fun _ h9 => h9) rfl (by decide +kernel) rfl rfl (Nat.le_of_ble_eq_true rfl) dB_3_0_46.1.1.1.1 (fun H locs hP hD hS => ?_)
  refine pd_K [ob12_0_ mo 0 s1 t2 s3 s4 g5 g6 g7 g8 g9 g10 s11 g12 g13 g14 g15 g16 g17 g18 g19 g20 s21 g22 g23 g24 s25 s26 s27 s28 g29 g30 g31 g32 g33, ai_ cy g5 40 f5, ai_ cy g6 40 f6, ai_ cy g7 40 f7, ai_ cy g8 40 f8, ai_ cy g9 40 f9, az_ cy g10 40 f10, ai_ cy g12 30 f12, ai_ cy g13 30 f13, ai_ cy g14 6000 f14] hP hD (fun hP hD => ?_)
  refine lv_aload_n hx hb dB_3_0_46.1.1.1.2 rfl (lv_at hl 0 rfl) ?_
  refine va_get (ci := 12) (v := .int s11) (C := RX12) (T := TX12) (N := 34) hx hb hts (fun _ h => List.mem_cons_of_mem _ (List.mem_append_right _ h)) hown hK.1 hP 0 rfl rfl 11 (by decide) (hts (.fieldLink RX12 102 "CutAtlasModel" "undone" "I") (List.mem_of_getElem? (i := 2) rfl)) (fun _ h9 => h9) rfl dB_3_0_46.1.1.2.1 ?_
  refine lv_if_ne (tgt := 15) hx hb dB_3_0_46.1.1.2.2 (by decide) (fun c_1 => ?_) (fun c_1 => ?_)
  · have t_1 : ¬ s11.toInt = (0 : Int32).toInt := fun h => c_1 (Int32.toInt_inj.mp h)
    refine lv_aload_n hx hb dB_3_0_46.1.2.2.1 rfl (lv_at hl 0 rfl) ?_
    refine lv_dup hx hb dB_3_0_46.1.2.2.2 rfl ?_
    refine va_get (ci := 12) (v := .int s11) (C := RX12) (T := TX12) (N := 34) hx hb hts (fun _ h => List.mem_cons_of_mem _ (List.mem_append_right _ h)) hown hK.1 hP 0 rfl rfl 11 (by decide) (hts (.fieldLink RX12 102 "CutAtlasModel" "undone" "I") (List.mem_of_getElem? (i := 2) rfl)) (fun _ h9 => h9) rfl dB_3_0_46.2.1.1.1 ?_
    refine lv_iconst (v := 1) hx hb dB_3_0_46.2.1.1.2 (by decide) ?_
    refine lv_isub hx hb dB_3_0_46.2.1.2.1 ?_
    refine lv_topi (fun y_2 ey_2 => ?_)
    have ty_2 : y_2.toInt = s11.toInt - (1 : Int32).toInt := by rw [ey_2]; exact subI (by omega) (by omega)
    refine va_put (ci := 12) (v := .int y_2) (ty := .int) (C := RX12) (T := TX12) (N := 34) hx hb hts (fun _ h => List.mem_cons_of_mem _ (List.mem_append_right _ h)) tyX12 tyX12_ok nmX12 hown hK.1 hP hD hS 0 rfl rfl 11 (by decide) (hts (.fieldLink RX12 102 "CutAtlasModel" "undone" "I") (List.mem_of_getElem? (i := 2) rfl)) (fun _ h9 => h9) rfl (by decide +kernel) rfl rfl (Nat.le_of_ble_eq_true rfl) dB_3_0_46.2.1.2.2 (fun H locs hP hD hS => ?_)
    refine pd_K [ob12_0_ mo 0 s1 t2 s3 s4 g5 g6 g7 g8 g9 g10 y_2 g12 g13 g14 g15 g16 g17 g18 g19 g20 s21 g22 g23 g24 s25 s26 s27 s28 g29 g30 g31 g32 g33, ai_ cy g5 40 f5, ai_ cy g6 40 f6, ai_ cy g7 40 f7, ai_ cy g8 40 f8, ai_ cy g9 40 f9, az_ cy g10 40 f10, ai_ cy g12 30 f12, ai_ cy g13 30 f13, ai_ cy g14 6000 f14] hP hD (fun hP hD => ?_)
    refine lv_aload_n hx hb dB_3_0_46.2.2.1.1 rfl (lv_at hl 0 rfl) ?_
    refine lv_aload_n hx hb dB_3_0_46.2.2.1.2 rfl (lv_at hl 0 rfl) ?_
    refine va_get (ci := 12) (v := .ref g12) (C := RX12) (T := TX12) (N := 34) hx hb hts (fun _ h => List.mem_cons_of_mem _ (List.mem_append_right _ h)) hown hK.1 hP 0 rfl rfl 12 (by decide) (hts (.fieldLink RX12 29 "CutAtlasModel" "oldPlaces" "[I") (List.mem_of_getElem? (i := 3) rfl)) (fun _ h9 => h9) rfl dB_3_0_46.2.2.2.1 ?_
    refine lv_aload_n hx hb dB_3_0_46.2.2.2.2 rfl (lv_at hl 0 rfl) ?_
    refine va_get (ci := 12) (v := .int y_2) (C := RX12) (T := TX12) (N := 34) hx hb hts (fun _ h => List.mem_cons_of_mem _ (List.mem_append_right _ h)) hown hK.1 hP 0 rfl rfl 11 (by decide) (hts (.fieldLink RX12 102 "CutAtlasModel" "undone" "I") (List.mem_of_getElem? (i := 2) rfl)) (fun _ h9 => h9) rfl dB_3_0_47.1.1.1.1 ?_
    have h_3 : vp_in y_2 30 := in_I (by omega) (by omega)
    refine va_iald hx hb hK.1 hP 7 0 rfl rfl (i := y_2) h_3 dB_3_0_47.1.1.1.2 ?_
    refine lv_topi (fun y_4 ey_4 => ?_)
    have ky_4 : y_4.toInt = (f12 y_2.toNatClampNeg).toInt := by rw [ey_4]
    have ry_4 : 0 ≤ y_4.toInt ∧ y_4.toInt ≤ 12 := by rw [ey_4]; exact r_f12 _ (in_lt h_3)
    refine va_put (ci := 12) (v := .int y_4) (ty := .int) (C := RX12) (T := TX12) (N := 34) hx hb hts (fun _ h => List.mem_cons_of_mem _ (List.mem_append_right _ h)) tyX12 tyX12_ok nmX12 hown hK.1 hP hD hS 0 rfl rfl 3 (by decide) (hts (.fieldLink RX12 88 "CutAtlasModel" "places" "I") (List.mem_of_getElem? (i := 4) rfl)) (fun _ h9 => h9) rfl (by decide +kernel) rfl rfl (Nat.le_of_ble_eq_true rfl) dB_3_0_47.1.1.2.1 (fun H locs hP hD hS => ?_)
    refine pd_K [ob12_0_ mo 0 s1 t2 y_4 s4 g5 g6 g7 g8 g9 g10 y_2 g12 g13 g14 g15 g16 g17 g18 g19 g20 s21 g22 g23 g24 s25 s26 s27 s28 g29 g30 g31 g32 g33, ai_ cy g5 40 f5, ai_ cy g6 40 f6, ai_ cy g7 40 f7, ai_ cy g8 40 f8, ai_ cy g9 40 f9, az_ cy g10 40 f10, ai_ cy g12 30 f12, ai_ cy g13 30 f13, ai_ cy g14 6000 f14] hP hD (fun hP hD => ?_)
    refine lv_aload_n hx hb dB_3_0_47.1.1.2.2 rfl (lv_at hl 0 rfl) ?_
    refine lv_aload_n hx hb dB_3_0_47.1.2.1.1 rfl (lv_at hl 0 rfl) ?_
    refine va_get (ci := 12) (v := .ref g13) (C := RX12) (T := TX12) (N := 34) hx hb hts (fun _ h => List.mem_cons_of_mem _ (List.mem_append_right _ h)) hown hK.1 hP 0 rfl rfl 13 (by decide) (hts (.fieldLink RX12 32 "CutAtlasModel" "oldLines" "[I") (List.mem_of_getElem? (i := 5) rfl)) (fun _ h9 => h9) rfl dB_3_0_47.1.2.1.2 ?_
    refine lv_aload_n hx hb dB_3_0_47.1.2.2.1 rfl (lv_at hl 0 rfl) ?_
    refine va_get (ci := 12) (v := .int y_2) (C := RX12) (T := TX12) (N := 34) hx hb hts (fun _ h => List.mem_cons_of_mem _ (List.mem_append_right _ h)) hown hK.1 hP 0 rfl rfl 11 (by decide) (hts (.fieldLink RX12 102 "CutAtlasModel" "undone" "I") (List.mem_of_getElem? (i := 2) rfl)) (fun _ h9 => h9) rfl dB_3_0_47.1.2.2.2 ?_
    have h_5 : vp_in y_2 30 := in_I (by omega) (by omega)
    refine va_iald hx hb hK.1 hP 8 0 rfl rfl (i := y_2) h_5 dB_3_0_47.2.1.1.1 ?_
    refine lv_topi (fun y_6 ey_6 => ?_)
    have ky_6 : y_6.toInt = (f13 y_2.toNatClampNeg).toInt := by rw [ey_6]
    have ry_6 : 0 ≤ y_6.toInt ∧ y_6.toInt ≤ 40 := by rw [ey_6]; exact r_f13 _ (in_lt h_5)
    refine va_put (ci := 12) (v := .int y_6) (ty := .int) (C := RX12) (T := TX12) (N := 34) hx hb hts (fun _ h => List.mem_cons_of_mem _ (List.mem_append_right _ h)) tyX12 tyX12_ok nmX12 hown hK.1 hP hD hS 0 rfl rfl 4 (by decide) (hts (.fieldLink RX12 95 "CutAtlasModel" "lines" "I") (List.mem_of_getElem? (i := 6) rfl)) (fun _ h9 => h9) rfl (by decide +kernel) rfl rfl (Nat.le_of_ble_eq_true rfl) dB_3_0_47.2.1.1.2 (fun H locs hP hD hS => ?_)
    refine pd_K [ob12_0_ mo 0 s1 t2 y_4 y_6 g5 g6 g7 g8 g9 g10 y_2 g12 g13 g14 g15 g16 g17 g18 g19 g20 s21 g22 g23 g24 s25 s26 s27 s28 g29 g30 g31 g32 g33, ai_ cy g5 40 f5, ai_ cy g6 40 f6, ai_ cy g7 40 f7, ai_ cy g8 40 f8, ai_ cy g9 40 f9, az_ cy g10 40 f10, ai_ cy g12 30 f12, ai_ cy g13 30 f13, ai_ cy g14 6000 f14] hP hD (fun hP hD => ?_)
    refine lv_iconst (v := 0) hx hb dB_3_0_47.2.1.2.1 (by decide) ?_
    refine lv_istore_n (lv' := [(1, .int 0), (0, .ref mo)]) hx hb dB_3_0_47.2.1.2.2 rfl hl (by decide) rfl (fun ls hl => ?_)
    suffices LOOP_7 : ∀ (n_7 : Nat) (x1_7 : Int32) (c_g5_7 : Nat → Int32) (c_g6_7 : Nat → Int32) (c_g7_7 : Nat → Int32) (c_g8_7 : Nat → Int32) (c_g9_7 : Nat → Int32) (c_g10_7 : Nat → Int32) (H : Heap) (locs : List Loc) (ls : Array Slot), 40 - x1_7.toInt < (n_7 : Int) → (0 ≤ x1_7.toInt) → (x1_7.toInt ≤ 40) → (∀ j : Nat, (j : Int) < x1_7.toInt → back f14 (200 * y_2.toNatClampNeg) c_g5_7 c_g6_7 c_g7_7 c_g8_7 c_g9_7 c_g10_7 j) → (rng c_g6_7 40 (0) (11)) → (rng c_g7_7 40 (0) (11)) → (rng c_g8_7 40 (0) (2000)) → (rng c_g9_7 40 (0) (100)) → pd_2 D vwCl A [ob12_0_ mo 0 s1 t2 y_4 y_6 g5 g6 g7 g8 g9 g10 y_2 g12 g13 g14 g15 g16 g17 g18 g19 g20 s21 g22 g23 g24 s25 s26 s27 s28 g29 g30 g31 g32 g33, ai_ cy g5 40 c_g5_7, ai_ cy g6 40 c_g6_7, ai_ cy g7 40 c_g7_7, ai_ cy g8 40 c_g8_7, ai_ cy g9 40 c_g9_7, az_ cy g10 40 c_g10_7, ai_ cy g12 30 f12, ai_ cy g13 30 f13, ai_ cy g14 6000 f14] H → va_S A s.heap H locs → lv_has ls 3 [(1, .int x1_7), (0, .ref mo)] → W p l e ({ frames := 0, cells := 0, slots := 0, locals := 0 } : Room) s m (([.ref mo] : List Value).toArray) below meth c H locs 0 0 Q (F0 m 53 ls []) from LOOP_7 ((40 - (0 : Int32).toInt).toNat + 1) (0 : Int32) f5 f6 f7 f8 f9 f10 _ _ _ (by omega) (by first | with_reducible assumption | omega | assumption) (by first | with_reducible assumption | omega | assumption) (by first | exact hE_ (0 : Int32) (by omega) | (intro j hj; omega)) (by first | with_reducible assumption | assumption | exact rng_zero (by omega) (by omega) | exact orng_zero) (by first | with_reducible assumption | assumption | exact rng_zero (by omega) (by omega) | exact orng_zero) (by first | with_reducible assumption | assumption | exact rng_zero (by omega) (by omega) | exact orng_zero) (by first | with_reducible assumption | assumption | exact rng_zero (by omega) (by omega) | exact orng_zero) ⟨hP, hD⟩ hS (lv_sub hl [0, 1] rfl)
    intro n_7
    induction n_7 with
    | zero =>
      intro x1_7 c_g5_7 c_g6_7 c_g7_7 c_g8_7 c_g9_7 c_g10_7 H locs ls hm v0_7 v1_7 v2_7 rc_g6_7 rc_g7_7 rc_g8_7 rc_g9_7 hPD hS hl; obtain ⟨hP, hD⟩ := hPD
      exact absurd hm (by omega)
    | succ n_7 ih_7 =>
      intro x1_7 c_g5_7 c_g6_7 c_g7_7 c_g8_7 c_g9_7 c_g10_7 H locs ls hm v0_7 v1_7 v2_7 rc_g6_7 rc_g7_7 rc_g8_7 rc_g9_7 hPD hS hl; obtain ⟨hP, hD⟩ := hPD
      refine lv_iload_n hx hb dB_3_0_47.2.2.1.1 rfl (lv_at hl 0 rfl) ?_
      refine lv_bipush (v := 40) hx hb dB_3_0_47.2.2.1.2 (by decide) ?_
      refine lv_icmp_ge (tgt := 175) hx hb dB_3_0_47.2.2.2.1 (by decide) (fun c_8 => ?_) (fun c_8 => ?_)
      · have t_8 : (40 : Int32).toInt ≤ x1_7.toInt := Int32.le_iff_toInt_le.mp c_8
        have hne_ : netE y_4.toInt y_6.toInt c_g6_7 c_g7_7 c_g10_7 := back_net (u := y_2) (L := x1_7) hpast (by omega) (by omega) ey_4 ey_6 (by omega) v2_7 (by omega)
        refine lv_aload_n hx hb dB_3_0_52.2.1.2.2 rfl (lv_at hl 1 rfl) ?_
        refine va_get (ci := 12) (v := .int y_2) (C := RX12) (T := TX12) (N := 34) hx hb hts (fun _ h => List.mem_cons_of_mem _ (List.mem_append_right _ h)) hown hK.1 hP 0 rfl rfl 11 (by decide) (hts (.fieldLink RX12 102 "CutAtlasModel" "undone" "I") (List.mem_of_getElem? (i := 2) rfl)) (fun _ h9 => h9) rfl dB_3_0_52.2.2.1.1 ?_
        rw [hQ]
        exact W.iret (v := y_2) hx hb hr (fun t ht hW => ⟨⟨y_2, (), rfl, trivial, y_4, y_6, y_2, c_g5_7, c_g6_7, c_g7_7, c_g8_7, c_g9_7, c_g10_7, (by first | with_reducible assumption | omega | assumption), (by first | with_reducible assumption | omega | assumption), (by first | with_reducible assumption | omega | assumption), (by first | exact hne_ | assumption), (by first | with_reducible assumption | assumption | exact past_dn hpast (by omega)), (by first | with_reducible assumption | assumption | exact rng_zero (by omega) (by omega) | omega), (by first | with_reducible assumption | assumption | exact rng_zero (by omega) (by omega) | omega), (by first | with_reducible assumption | assumption | exact rng_zero (by omega) (by omega) | omega), (by first | with_reducible assumption | assumption | exact rng_zero (by omega) (by omega) | omega), by rw [ht]; exact hP, hD⟩, hS.F ht⟩) hS.2.2 dB_3_0_52.2.2.1.2
      · have t_8 : ¬ (40 : Int32).toInt ≤ x1_7.toInt := fun h => c_8 (Int32.le_iff_toInt_le.mpr h)
        refine lv_sipush (v := 200) hx hb dB_3_0_47.2.2.2.2 (by decide) ?_
        refine lv_aload_n hx hb dB_3_0_48.1.1.1.1 rfl (lv_at hl 1 rfl) ?_
        refine va_get (ci := 12) (v := .int y_2) (C := RX12) (T := TX12) (N := 34) hx hb hts (fun _ h => List.mem_cons_of_mem _ (List.mem_append_right _ h)) hown hK.1 hP 0 rfl rfl 11 (by decide) (hts (.fieldLink RX12 102 "CutAtlasModel" "undone" "I") (List.mem_of_getElem? (i := 2) rfl)) (fun _ h9 => h9) rfl dB_3_0_48.1.1.1.2 ?_
        refine lv_imul hx hb dB_3_0_48.1.1.2.1 ?_
        refine lv_topi (fun y_9 ey_9 => ?_)
        have ty_9 : y_9.toInt = 200 * y_2.toInt := by rw [ey_9]; exact mulC (by decide) (by omega) (by omega)
        refine lv_iconst (v := 5) hx hb dB_3_0_48.1.1.2.2 (by decide) ?_
        refine lv_iload_n hx hb dB_3_0_48.1.2.1.1 rfl (lv_at hl 0 rfl) ?_
        refine lv_imul hx hb dB_3_0_48.1.2.1.2 ?_
        refine lv_topi (fun y_10 ey_10 => ?_)
        have ty_10 : y_10.toInt = 5 * x1_7.toInt := by rw [ey_10]; exact mulC (by decide) (by omega) (by omega)
        refine lv_iadd hx hb dB_3_0_48.1.2.2.1 ?_
        refine lv_topi (fun y_11 ey_11 => ?_)
        have ty_11 : y_11.toInt = y_9.toInt + y_10.toInt := by rw [ey_11]; exact addI (by omega) (by omega)
        refine lv_istore_n (lv' := [(2, .int y_11), (1, .int x1_7), (0, .ref mo)]) hx hb dB_3_0_48.1.2.2.2 rfl hl (by decide) rfl (fun ls hl => ?_)
        refine lv_aload_n hx hb dB_3_0_48.2.1.1.1 rfl (lv_at hl 2 rfl) ?_
        refine va_get (ci := 12) (v := .ref g5) (C := RX12) (T := TX12) (N := 34) hx hb hts (fun _ h => List.mem_cons_of_mem _ (List.mem_append_right _ h)) hown hK.1 hP 0 rfl rfl 5 (by decide) (hts (.fieldLink RX12 7 "CutAtlasModel" "kind" "[I") (List.mem_of_getElem? (i := 7) rfl)) (fun _ h9 => h9) rfl dB_3_0_48.2.1.1.2 ?_
        refine lv_iload_n hx hb dB_3_0_48.2.1.2.1 rfl (lv_at hl 1 rfl) ?_
        refine lv_aload_n hx hb dB_3_0_48.2.1.2.2 rfl (lv_at hl 2 rfl) ?_
        refine va_get (ci := 12) (v := .ref g14) (C := RX12) (T := TX12) (N := 34) hx hb hts (fun _ h => List.mem_cons_of_mem _ (List.mem_append_right _ h)) hown hK.1 hP 0 rfl rfl 14 (by decide) (hts (.fieldLink RX12 35 "CutAtlasModel" "old" "[I") (List.mem_of_getElem? (i := 8) rfl)) (fun _ h9 => h9) rfl dB_3_0_48.2.2.1.1 ?_
        refine lv_iload_n hx hb dB_3_0_48.2.2.1.2 rfl (lv_at hl 0 rfl) ?_
        have h_12 : vp_in y_11 6000 := in_I (by omega) (by omega)
        refine va_iald hx hb hK.1 hP 9 0 rfl rfl (i := y_11) h_12 dB_3_0_48.2.2.2.1 ?_
        refine lv_topi (fun y_13 ey_13 => ?_)
        have ky_13 : y_13.toInt = (f14 y_11.toNatClampNeg).toInt := by rw [ey_13]
        have ry_13 : oc y_11.toNatClampNeg y_13.toInt := by rw [ey_13]; exact r_f14 _ (in_lt h_12)
        unfold oc at ry_13
        have ky_13 := clI (i := y_11) (by omega)
        have h_14 : vp_in x1_7 40 := in_I (by omega) (by omega)
        refine va_iast hx hb hK.1 hP hD hS 1 0 rfl rfl (i := x1_7) h_14 dB_3_0_48.2.2.2.2 (fun H locs hP hD hS => ?_)
        obtain ⟨f_15, ef_15⟩ : ∃ g : Nat → Int32, g = upd c_g5_7 x1_7.toNatClampNeg y_13 := ⟨_, rfl⟩
        refine pd_K (D := D) (cl := vwCl) (H := H) (A := A) [ob12_0_ mo 0 s1 t2 y_4 y_6 g5 g6 g7 g8 g9 g10 y_2 g12 g13 g14 g15 g16 g17 g18 g19 g20 s21 g22 g23 g24 s25 s26 s27 s28 g29 g30 g31 g32 g33, ai_ cy g5 40 f_15, ai_ cy g6 40 c_g6_7, ai_ cy g7 40 c_g7_7, ai_ cy g8 40 c_g8_7, ai_ cy g9 40 c_g9_7, az_ cy g10 40 c_g10_7, ai_ cy g12 30 f12, ai_ cy g13 30 f13, ai_ cy g14 6000 f14] (by rw [ef_15]; exact hP) (by rw [ef_15]; exact hD) (fun hP hD => ?_)
        refine lv_aload_n hx hb dB_3_0_49.1.1.1.1 rfl (lv_at hl 2 rfl) ?_
        refine va_get (ci := 12) (v := .ref g6) (C := RX12) (T := TX12) (N := 34) hx hb hts (fun _ h => List.mem_cons_of_mem _ (List.mem_append_right _ h)) hown hK.1 hP 0 rfl rfl 6 (by decide) (hts (.fieldLink RX12 13 "CutAtlasModel" "from" "[I") (List.mem_of_getElem? (i := 9) rfl)) (fun _ h9 => h9) rfl dB_3_0_49.1.1.1.2 ?_
        refine lv_iload_n hx hb dB_3_0_49.1.1.2.1 rfl (lv_at hl 1 rfl) ?_
        refine lv_aload_n hx hb dB_3_0_49.1.1.2.2 rfl (lv_at hl 2 rfl) ?_
        refine va_get (ci := 12) (v := .ref g14) (C := RX12) (T := TX12) (N := 34) hx hb hts (fun _ h => List.mem_cons_of_mem _ (List.mem_append_right _ h)) hown hK.1 hP 0 rfl rfl 14 (by decide) (hts (.fieldLink RX12 35 "CutAtlasModel" "old" "[I") (List.mem_of_getElem? (i := 8) rfl)) (fun _ h9 => h9) rfl dB_3_0_49.1.2.1.1 ?_
        refine lv_iload_n hx hb dB_3_0_49.1.2.1.2 rfl (lv_at hl 0 rfl) ?_
        refine lv_iconst (v := 1) hx hb dB_3_0_49.1.2.2.1 (by decide) ?_
        refine lv_iadd hx hb dB_3_0_49.1.2.2.2 ?_
        refine lv_topi (fun y_16 ey_16 => ?_)
        have ty_16 : y_16.toInt = y_11.toInt + (1 : Int32).toInt := by rw [ey_16]; exact addI (by omega) (by omega)
        have h_17 : vp_in y_16 6000 := in_I (by omega) (by omega)
        refine va_iald hx hb hK.1 hP 9 0 rfl rfl (i := y_16) h_17 dB_3_0_49.2.1.1.1 ?_
        refine lv_topi (fun y_18 ey_18 => ?_)
        have ky_18 : y_18.toInt = (f14 y_16.toNatClampNeg).toInt := by rw [ey_18]
        have ry_18 : oc y_16.toNatClampNeg y_18.toInt := by rw [ey_18]; exact r_f14 _ (in_lt h_17)
        unfold oc at ry_18
        have ky_18 := clI (i := y_16) (by omega)
        have h_19 : vp_in x1_7 40 := in_I (by omega) (by omega)
        refine va_iast hx hb hK.1 hP hD hS 2 0 rfl rfl (i := x1_7) h_19 dB_3_0_49.2.1.1.2 (fun H locs hP hD hS => ?_)
        obtain ⟨f_20, ef_20⟩ : ∃ g : Nat → Int32, g = upd c_g6_7 x1_7.toNatClampNeg y_18 := ⟨_, rfl⟩
        refine pd_K (D := D) (cl := vwCl) (H := H) (A := A) [ob12_0_ mo 0 s1 t2 y_4 y_6 g5 g6 g7 g8 g9 g10 y_2 g12 g13 g14 g15 g16 g17 g18 g19 g20 s21 g22 g23 g24 s25 s26 s27 s28 g29 g30 g31 g32 g33, ai_ cy g5 40 f_15, ai_ cy g6 40 f_20, ai_ cy g7 40 c_g7_7, ai_ cy g8 40 c_g8_7, ai_ cy g9 40 c_g9_7, az_ cy g10 40 c_g10_7, ai_ cy g12 30 f12, ai_ cy g13 30 f13, ai_ cy g14 6000 f14] (by rw [ef_20]; exact hP) (by rw [ef_20]; exact hD) (fun hP hD => ?_)
        have rf_20 : rng f_20 40 (0) (11) := by rw [ef_20]; exact rng_upd rc_g6_7 (by omega) (by omega)
        refine lv_aload_n hx hb dB_3_0_49.2.1.2.1 rfl (lv_at hl 2 rfl) ?_
        refine va_get (ci := 12) (v := .ref g7) (C := RX12) (T := TX12) (N := 34) hx hb hts (fun _ h => List.mem_cons_of_mem _ (List.mem_append_right _ h)) hown hK.1 hP 0 rfl rfl 7 (by decide) (hts (.fieldLink RX12 16 "CutAtlasModel" "to" "[I") (List.mem_of_getElem? (i := 10) rfl)) (fun _ h9 => h9) rfl dB_3_0_49.2.1.2.2 ?_
        refine lv_iload_n hx hb dB_3_0_49.2.2.1.1 rfl (lv_at hl 1 rfl) ?_
        refine lv_aload_n hx hb dB_3_0_49.2.2.1.2 rfl (lv_at hl 2 rfl) ?_
        refine va_get (ci := 12) (v := .ref g14) (C := RX12) (T := TX12) (N := 34) hx hb hts (fun _ h => List.mem_cons_of_mem _ (List.mem_append_right _ h)) hown hK.1 hP 0 rfl rfl 14 (by decide) (hts (.fieldLink RX12 35 "CutAtlasModel" "old" "[I") (List.mem_of_getElem? (i := 8) rfl)) (fun _ h9 => h9) rfl dB_3_0_49.2.2.2.1 ?_
        refine lv_iload_n hx hb dB_3_0_49.2.2.2.2 rfl (lv_at hl 0 rfl) ?_
        refine lv_iconst (v := 2) hx hb dB_3_0_50.1.1.1.1 (by decide) ?_
        refine lv_iadd hx hb dB_3_0_50.1.1.1.2 ?_
        refine lv_topi (fun y_21 ey_21 => ?_)
        have ty_21 : y_21.toInt = y_11.toInt + (2 : Int32).toInt := by rw [ey_21]; exact addI (by omega) (by omega)
        have h_22 : vp_in y_21 6000 := in_I (by omega) (by omega)
        refine va_iald hx hb hK.1 hP 9 0 rfl rfl (i := y_21) h_22 dB_3_0_50.1.1.2.1 ?_
        refine lv_topi (fun y_23 ey_23 => ?_)
        have ky_23 : y_23.toInt = (f14 y_21.toNatClampNeg).toInt := by rw [ey_23]
        have ry_23 : oc y_21.toNatClampNeg y_23.toInt := by rw [ey_23]; exact r_f14 _ (in_lt h_22)
        unfold oc at ry_23
        have ky_23 := clI (i := y_21) (by omega)
        have h_24 : vp_in x1_7 40 := in_I (by omega) (by omega)
        refine va_iast hx hb hK.1 hP hD hS 3 0 rfl rfl (i := x1_7) h_24 dB_3_0_50.1.1.2.2 (fun H locs hP hD hS => ?_)
        obtain ⟨f_25, ef_25⟩ : ∃ g : Nat → Int32, g = upd c_g7_7 x1_7.toNatClampNeg y_23 := ⟨_, rfl⟩
        refine pd_K (D := D) (cl := vwCl) (H := H) (A := A) [ob12_0_ mo 0 s1 t2 y_4 y_6 g5 g6 g7 g8 g9 g10 y_2 g12 g13 g14 g15 g16 g17 g18 g19 g20 s21 g22 g23 g24 s25 s26 s27 s28 g29 g30 g31 g32 g33, ai_ cy g5 40 f_15, ai_ cy g6 40 f_20, ai_ cy g7 40 f_25, ai_ cy g8 40 c_g8_7, ai_ cy g9 40 c_g9_7, az_ cy g10 40 c_g10_7, ai_ cy g12 30 f12, ai_ cy g13 30 f13, ai_ cy g14 6000 f14] (by rw [ef_25]; exact hP) (by rw [ef_25]; exact hD) (fun hP hD => ?_)
        have rf_25 : rng f_25 40 (0) (11) := by rw [ef_25]; exact rng_upd rc_g7_7 (by omega) (by omega)
        refine lv_aload_n hx hb dB_3_0_50.1.2.1.1 rfl (lv_at hl 2 rfl) ?_
        refine va_get (ci := 12) (v := .ref g8) (C := RX12) (T := TX12) (N := 34) hx hb hts (fun _ h => List.mem_cons_of_mem _ (List.mem_append_right _ h)) hown hK.1 hP 0 rfl rfl 8 (by decide) (hts (.fieldLink RX12 19 "CutAtlasModel" "width" "[I") (List.mem_of_getElem? (i := 11) rfl)) (fun _ h9 => h9) rfl dB_3_0_50.1.2.1.2 ?_
        refine lv_iload_n hx hb dB_3_0_50.1.2.2.1 rfl (lv_at hl 1 rfl) ?_
        refine lv_aload_n hx hb dB_3_0_50.1.2.2.2 rfl (lv_at hl 2 rfl) ?_
        refine va_get (ci := 12) (v := .ref g14) (C := RX12) (T := TX12) (N := 34) hx hb hts (fun _ h => List.mem_cons_of_mem _ (List.mem_append_right _ h)) hown hK.1 hP 0 rfl rfl 14 (by decide) (hts (.fieldLink RX12 35 "CutAtlasModel" "old" "[I") (List.mem_of_getElem? (i := 8) rfl)) (fun _ h9 => h9) rfl dB_3_0_50.2.1.1.1 ?_
        refine lv_iload_n hx hb dB_3_0_50.2.1.1.2 rfl (lv_at hl 0 rfl) ?_
        refine lv_iconst (v := 3) hx hb dB_3_0_50.2.1.2.1 (by decide) ?_
        refine lv_iadd hx hb dB_3_0_50.2.1.2.2 ?_
        refine lv_topi (fun y_26 ey_26 => ?_)
        have ty_26 : y_26.toInt = y_11.toInt + (3 : Int32).toInt := by rw [ey_26]; exact addI (by omega) (by omega)
        have h_27 : vp_in y_26 6000 := in_I (by omega) (by omega)
        refine va_iald hx hb hK.1 hP 9 0 rfl rfl (i := y_26) h_27 dB_3_0_50.2.2.1.1 ?_
        refine lv_topi (fun y_28 ey_28 => ?_)
        have ky_28 : y_28.toInt = (f14 y_26.toNatClampNeg).toInt := by rw [ey_28]
        have ry_28 : oc y_26.toNatClampNeg y_28.toInt := by rw [ey_28]; exact r_f14 _ (in_lt h_27)
        unfold oc at ry_28
        have ky_28 := clI (i := y_26) (by omega)
        have h_29 : vp_in x1_7 40 := in_I (by omega) (by omega)
        refine va_iast hx hb hK.1 hP hD hS 4 0 rfl rfl (i := x1_7) h_29 dB_3_0_50.2.2.1.2 (fun H locs hP hD hS => ?_)
        obtain ⟨f_30, ef_30⟩ : ∃ g : Nat → Int32, g = upd c_g8_7 x1_7.toNatClampNeg y_28 := ⟨_, rfl⟩
        refine pd_K (D := D) (cl := vwCl) (H := H) (A := A) [ob12_0_ mo 0 s1 t2 y_4 y_6 g5 g6 g7 g8 g9 g10 y_2 g12 g13 g14 g15 g16 g17 g18 g19 g20 s21 g22 g23 g24 s25 s26 s27 s28 g29 g30 g31 g32 g33, ai_ cy g5 40 f_15, ai_ cy g6 40 f_20, ai_ cy g7 40 f_25, ai_ cy g8 40 f_30, ai_ cy g9 40 c_g9_7, az_ cy g10 40 c_g10_7, ai_ cy g12 30 f12, ai_ cy g13 30 f13, ai_ cy g14 6000 f14] (by rw [ef_30]; exact hP) (by rw [ef_30]; exact hD) (fun hP hD => ?_)
        have rf_30 : rng f_30 40 (0) (2000) := by rw [ef_30]; exact rng_upd rc_g8_7 (by omega) (by omega)
        refine lv_aload_n hx hb dB_3_0_50.2.2.2.1 rfl (lv_at hl 2 rfl) ?_
        refine va_get (ci := 12) (v := .ref g9) (C := RX12) (T := TX12) (N := 34) hx hb hts (fun _ h => List.mem_cons_of_mem _ (List.mem_append_right _ h)) hown hK.1 hP 0 rfl rfl 9 (by decide) (hts (.fieldLink RX12 22 "CutAtlasModel" "price" "[I") (List.mem_of_getElem? (i := 12) rfl)) (fun _ h9 => h9) rfl dB_3_0_50.2.2.2.2 ?_
        refine lv_iload_n hx hb dB_3_0_51.1.1.1.1 rfl (lv_at hl 1 rfl) ?_
        refine lv_aload_n hx hb dB_3_0_51.1.1.1.2 rfl (lv_at hl 2 rfl) ?_
        refine va_get (ci := 12) (v := .ref g14) (C := RX12) (T := TX12) (N := 34) hx hb hts (fun _ h => List.mem_cons_of_mem _ (List.mem_append_right _ h)) hown hK.1 hP 0 rfl rfl 14 (by decide) (hts (.fieldLink RX12 35 "CutAtlasModel" "old" "[I") (List.mem_of_getElem? (i := 8) rfl)) (fun _ h9 => h9) rfl dB_3_0_51.1.1.2.1 ?_
        refine lv_iload_n hx hb dB_3_0_51.1.1.2.2 rfl (lv_at hl 0 rfl) ?_
        refine lv_iconst (v := 4) hx hb dB_3_0_51.1.2.1.1 (by decide) ?_
        refine lv_iadd hx hb dB_3_0_51.1.2.1.2 ?_
        refine lv_topi (fun y_31 ey_31 => ?_)
        have ty_31 : y_31.toInt = y_11.toInt + (4 : Int32).toInt := by rw [ey_31]; exact addI (by omega) (by omega)
        have h_32 : vp_in y_31 6000 := in_I (by omega) (by omega)
        refine va_iald hx hb hK.1 hP 9 0 rfl rfl (i := y_31) h_32 dB_3_0_51.1.2.2.1 ?_
        refine lv_topi (fun y_33 ey_33 => ?_)
        have ky_33 : y_33.toInt = (f14 y_31.toNatClampNeg).toInt := by rw [ey_33]
        have ry_33 : oc y_31.toNatClampNeg y_33.toInt := by rw [ey_33]; exact r_f14 _ (in_lt h_32)
        unfold oc at ry_33
        have ky_33 := clI (i := y_31) (by omega)
        refine lv_sipush (v := 1000) hx hb dB_3_0_51.1.2.2.2 (by decide) ?_
        refine lv_irem hx hb dB_3_0_51.2.1.1.1 (by decide) ?_
        refine lv_topi (fun y_34 ey_34 => ?_)
        have ty_34 : (0 ≤ y_34.toInt ∧ y_34.toInt ≤ 100) ∧ y_34.toInt = y_33.toInt % 1000 := by rw [ey_34]; exact ⟨rem1000 (by omega), rem1000e (by omega)⟩
        have h_35 : vp_in x1_7 40 := in_I (by omega) (by omega)
        refine va_iast hx hb hK.1 hP hD hS 5 0 rfl rfl (i := x1_7) h_35 dB_3_0_51.2.1.1.2 (fun H locs hP hD hS => ?_)
        obtain ⟨f_36, ef_36⟩ : ∃ g : Nat → Int32, g = upd c_g9_7 x1_7.toNatClampNeg y_34 := ⟨_, rfl⟩
        refine pd_K (D := D) (cl := vwCl) (H := H) (A := A) [ob12_0_ mo 0 s1 t2 y_4 y_6 g5 g6 g7 g8 g9 g10 y_2 g12 g13 g14 g15 g16 g17 g18 g19 g20 s21 g22 g23 g24 s25 s26 s27 s28 g29 g30 g31 g32 g33, ai_ cy g5 40 f_15, ai_ cy g6 40 f_20, ai_ cy g7 40 f_25, ai_ cy g8 40 f_30, ai_ cy g9 40 f_36, az_ cy g10 40 c_g10_7, ai_ cy g12 30 f12, ai_ cy g13 30 f13, ai_ cy g14 6000 f14] (by rw [ef_36]; exact hP) (by rw [ef_36]; exact hD) (fun hP hD => ?_)
        have rf_36 : rng f_36 40 (0) (100) := by rw [ef_36]; exact rng_upd rc_g9_7 (by omega) (by omega)
        refine lv_aload_n hx hb dB_3_0_51.2.1.2.1 rfl (lv_at hl 2 rfl) ?_
        refine va_get (ci := 12) (v := .ref g10) (C := RX12) (T := TX12) (N := 34) hx hb hts (fun _ h => List.mem_cons_of_mem _ (List.mem_append_right _ h)) hown hK.1 hP 0 rfl rfl 10 (by decide) (hts (.fieldLink RX12 25 "CutAtlasModel" "isMissing" "[Z") (List.mem_of_getElem? (i := 13) rfl)) (fun _ h9 => h9) rfl dB_3_0_51.2.1.2.2 ?_
        refine lv_iload_n hx hb dB_3_0_51.2.2.1.1 rfl (lv_at hl 1 rfl) ?_
        have JOIN_37 : ∀ (u0_37 : Int32) (H : Heap) (locs : List Loc) (ls : Array Slot), (u0_37.toInt = if (999 : Int) < y_33.toInt then 1 else 0) → pd_2 D vwCl A [ob12_0_ mo 0 s1 t2 y_4 y_6 g5 g6 g7 g8 g9 g10 y_2 g12 g13 g14 g15 g16 g17 g18 g19 g20 s21 g22 g23 g24 s25 s26 s27 s28 g29 g30 g31 g32 g33, ai_ cy g5 40 f_15, ai_ cy g6 40 f_20, ai_ cy g7 40 f_25, ai_ cy g8 40 f_30, ai_ cy g9 40 f_36, az_ cy g10 40 c_g10_7, ai_ cy g12 30 f12, ai_ cy g13 30 f13, ai_ cy g14 6000 f14] H → va_S A s.heap H locs → lv_has ls 3 [(2, .int y_11), (1, .int x1_7), (0, .ref mo)] → W p l e ({ frames := 0, cells := 0, slots := 0, locals := 0 } : Room) s m (([.ref mo] : List Value).toArray) below meth c H locs 0 0 Q (F0 m 168 ls [.int u0_37, .int x1_7, .ref g10]) := by
          intro u0_37 H locs ls v0_37 hPD hS hl; obtain ⟨hP, hD⟩ := hPD
          have h_38 : vp_in x1_7 40 := in_I (by omega) (by omega)
          refine va_zast hx hb hK.1 hP hD hS 6 2 rfl rfl (i := x1_7) h_38 dB_3_0_52.2.1.1.1 (fun H locs hP hD hS => ?_)
          obtain ⟨f_39, ef_39⟩ : ∃ g : Nat → Int32, g = upd c_g10_7 x1_7.toNatClampNeg (vp_nar .boolean u0_37) := ⟨_, rfl⟩
          refine pd_K (D := D) (cl := vwCl) (H := H) (A := A) [ob12_0_ mo 0 s1 t2 y_4 y_6 g5 g6 g7 g8 g9 g10 y_2 g12 g13 g14 g15 g16 g17 g18 g19 g20 s21 g22 g23 g24 s25 s26 s27 s28 g29 g30 g31 g32 g33, ai_ cy g5 40 f_15, ai_ cy g6 40 f_20, ai_ cy g7 40 f_25, ai_ cy g8 40 f_30, ai_ cy g9 40 f_36, az_ cy g10 40 f_39, ai_ cy g12 30 f12, ai_ cy g13 30 f13, ai_ cy g14 6000 f14] (by rw [ef_39]; exact hP) (by rw [ef_39]; exact hD) (fun hP hD => ?_)
          have hE_ : ∀ l2 : Int32, l2.toInt = x1_7.toInt + 1 → ∀ j : Nat, (j : Int) < l2.toInt → back f14 (200 * y_2.toNatClampNeg) f_15 f_20 f_25 f_30 f_36 f_39 j := fun l2 e2 => back_st (p := y_11) (x4 := y_33) (by omega) (by omega) (by omega) ef_15 ef_20 ef_25 ef_30 ef_36 ef_39 ey_13 ey_18 (by omega) ey_23 (by omega) ey_28 (by omega) ey_33 (by omega) (by omega) (nar_gt v0_37) v2_7 e2
          obtain ⟨y_40, ey_40⟩ : ∃ y : Int32, y = x1_7 + 1 := ⟨_, rfl⟩
          have ty_40 : y_40.toInt = x1_7.toInt + (1 : Int32).toInt := by rw [ey_40]; exact addI (by omega) (by omega)
          refine lv_iinc (v := y_40) (lv' := [(1, .int y_40), (2, .int y_11), (0, .ref mo)]) hx hb dB_3_0_52.2.1.1.2 hl (k := 1) rfl (by rw [ey_40]; rfl) (by decide) rfl (fun ls hl => ?_)
          refine lv_goto (tgt := 53) hx hb dB_3_0_52.2.1.2.1 (by decide) ?_
          exact ih_7 y_40 f_15 f_20 f_25 f_30 f_36 f_39 _ _ _ (by omega) (by first | with_reducible assumption | omega | assumption) (by first | with_reducible assumption | omega | assumption) (by first | exact hE_ y_40 (by omega) | (intro j hj; omega)) (by first | with_reducible assumption | assumption | exact rng_zero (by omega) (by omega) | exact orng_zero) (by first | with_reducible assumption | assumption | exact rng_zero (by omega) (by omega) | exact orng_zero) (by first | with_reducible assumption | assumption | exact rng_zero (by omega) (by omega) | exact orng_zero) (by first | with_reducible assumption | assumption | exact rng_zero (by omega) (by omega) | exact orng_zero) ⟨hP, hD⟩ hS (lv_sub hl [0, 2] rfl)
        refine lv_aload_n hx hb dB_3_0_51.2.2.1.2 rfl (lv_at hl 2 rfl) ?_
        refine va_get (ci := 12) (v := .ref g14) (C := RX12) (T := TX12) (N := 34) hx hb hts (fun _ h => List.mem_cons_of_mem _ (List.mem_append_right _ h)) hown hK.1 hP 0 rfl rfl 14 (by decide) (hts (.fieldLink RX12 35 "CutAtlasModel" "old" "[I") (List.mem_of_getElem? (i := 8) rfl)) (fun _ h9 => h9) rfl dB_3_0_51.2.2.2.1 ?_
        refine lv_iload_n hx hb dB_3_0_51.2.2.2.2 rfl (lv_at hl 0 rfl) ?_
        refine lv_iconst (v := 4) hx hb dB_3_0_52.1.1.1.1 (by decide) ?_
        refine lv_iadd hx hb dB_3_0_52.1.1.1.2 ?_
        refine lv_topi (fun y_41 ey_41 => ?_)
        have e_ := (ey_41.trans ey_31.symm).symm
        subst e_
        have h_42 : vp_in y_31 6000 := in_I (by omega) (by omega)
        refine va_iald hx hb hK.1 hP 9 0 rfl rfl (i := y_31) h_42 dB_3_0_52.1.1.2.1 ?_
        refine lv_topi (fun y_43 ey_43 => ?_)
        have e_ := (ey_43.trans ey_33.symm).symm
        subst e_
        skip
        refine lv_sipush (v := 999) hx hb dB_3_0_52.1.1.2.2 (by decide) ?_
        refine lv_icmp_le (tgt := 167) hx hb dB_3_0_52.1.2.1.1 (by decide) (fun c_44 => ?_) (fun c_44 => ?_)
        · have t_44 : y_33.toInt ≤ (999 : Int32).toInt := Int32.le_iff_toInt_le.mp c_44
          refine lv_iconst (v := 0) hx hb dB_3_0_52.1.2.2.2 (by decide) ?_
          exact JOIN_37 (0 : Int32) _ _ _ (by first | (rw [if_pos (by omega)]; decide) | (rw [if_neg (by omega)]; decide)) ⟨hP, hD⟩ hS (lv_sub hl [0, 1, 2] rfl)
        · have t_44 : ¬ y_33.toInt ≤ (999 : Int32).toInt := fun h => c_44 (Int32.le_iff_toInt_le.mpr h)
          refine lv_iconst (v := 1) hx hb dB_3_0_52.1.2.1.2 (by decide) ?_
          refine lv_goto (tgt := 168) hx hb dB_3_0_52.1.2.2.1 (by decide) ?_
          exact JOIN_37 (1 : Int32) _ _ _ (by first | (rw [if_pos (by omega)]; decide) | (rw [if_neg (by omega)]; decide)) ⟨hP, hD⟩ hS (lv_sub hl [0, 1, 2] rfl)
  · have t_1 : s11.toInt = (0 : Int32).toInt := congrArg Int32.toInt c_1
    refine lv_bipush (v := (-2)) hx hb dB_3_0_46.1.2.1.1 (by decide) ?_
    rw [hQ]
    exact W.iret (v := (-2)) hx hb hr (fun t ht hW => ⟨⟨(-2), (), rfl, trivial, s3, s4, s11, f5, f6, f7, f8, f9, f10, (by first | with_reducible assumption | omega | assumption), (by first | with_reducible assumption | omega | assumption), (by first | with_reducible assumption | omega | assumption), (by first | exact hne_ | assumption), (by first | with_reducible assumption | assumption | exact past_dn hpast (by omega)), (by first | with_reducible assumption | assumption | exact rng_zero (by omega) (by omega) | omega), (by first | with_reducible assumption | assumption | exact rng_zero (by omega) (by omega) | omega), (by first | with_reducible assumption | assumption | exact rng_zero (by omega) (by omega) | omega), (by first | with_reducible assumption | assumption | exact rng_zero (by omega) (by omega) | omega), by rw [ht]; exact hP, hD⟩, hS.F ht⟩) hS.2.2 dB_3_0_46.1.2.1.2
end

section
set_option maxHeartbeats 4000000 in
set_option maxRecDepth 100000 in
theorem c_X12_read2 (l : Launch) (D : va_G) (cy : Nat → ClassId) (sz : Nat) (mo : Nat) (g5 : Nat) (g6 : Nat) (g7 : Nat) (g8 : Nat) (g9 : Nat) (g10 : Nat) (g12 : Nat) (g13 : Nat) (g14 : Nat) (g15 : Nat) (g16 : Nat) (g17 : Nat) (g18 : Nat) (g19 : Nat) (g20 : Nat) (g22 : Nat) (g23 : Nat) (g24 : Nat) (g29 : Nat) (g30 : Nat) (g31 : Nat) (g32 : Nat) (g33 : Nat) (s0 : Int32) (s1 : Int32) (s3 : Int32) (s4 : Int32) (s11 : Int32) (s21 : Int32) (s25 : Int32) (s26 : Int32) (s27 : Int32) (s28 : Int32) (t2 : Int64) (f5 : Nat → Int32) (f6 : Nat → Int32) (f7 : Nat → Int32) (f8 : Nat → Int32) (f9 : Nat → Int32) (f10 : Nat → Int32) (f12 : Nat → Int32) (f13 : Nat → Int32) (f14 : Nat → Int32) (f15 : Nat → Int32) (f17 : Nat → Int32) (f18 : Nat → Int32) (f19 : Nat → Int64) (a1 : Int32) (hN : 0 ≤ s4.toInt ∧ s4.toInt ≤ 40) (hPl : 0 ≤ s3.toInt ∧ s3.toInt ≤ 12) (hU : 0 ≤ s11.toInt ∧ s11.toInt ≤ 30) (hnet : netE s3.toInt s4.toInt f6 f7 f10) (hpast : pastE s11.toInt f12 f13 f14) (r_f6 : rng f6 40 (0) (11)) (r_f7 : rng f7 40 (0) (11)) (r_f8 : rng f8 40 (0) (2000)) (r_f9 : rng f9 40 (0) (100)) (r_f12 : rng f12 30 (0) (12)) (r_f13 : rng f13 30 (0) (40)) (r_f17 : rng f17 4 (0) (6)) (r_f18 : rng f18 24 (-9) (5)) (r_f14 : orng f14 6000) : Met l yX12_read wsX12_read ({ frames := 2, cells := 0, slots := 0, locals := 56 }) (va_Pc [.ref mo, .int a1] (fun U => U.heap.size = sz ∧ va_P D vwCl [ob12_0_ mo s0 s1 t2 s3 s4 g5 g6 g7 g8 g9 g10 s11 g12 g13 g14 g15 g16 g17 g18 g19 g20 s21 g22 g23 g24 s25 s26 s27 s28 g29 g30 g31 g32 g33, ai_ cy g5 40 f5, ai_ cy g6 40 f6, ai_ cy g7 40 f7, ai_ cy g8 40 f8, ai_ cy g9 40 f9, az_ cy g10 40 f10, ai_ cy g12 30 f12, ai_ cy g13 30 f13, ai_ cy g14 6000 f14, az_ cy g15 4 f15, ai_ cy g17 4 f17, ai_ cy g18 24 f18, aj_ cy g19 120 f19] U.heap ∧ kk_ D cy U ∧ va_D (fun _ => True) [ob12_0_ mo s0 s1 t2 s3 s4 g5 g6 g7 g8 g9 g10 s11 g12 g13 g14 g15 g16 g17 g18 g19 g20 s21 g22 g23 g24 s25 s26 s27 s28 g29 g30 g31 g32 g33, ai_ cy g5 40 f5, ai_ cy g6 40 f6, ai_ cy g7 40 f7, ai_ cy g8 40 f8, ai_ cy g9 40 f9, az_ cy g10 40 f10, ai_ cy g12 30 f12, ai_ cy g13 30 f13, ai_ cy g14 6000 f14, az_ cy g15 4 f15, ai_ cy g17 4 f17, ai_ cy g18 24 f18, aj_ cy g19 120 f19])) (va_Qi (fun (r : Int32) (_ : Unit) => True) (fun (_ : Unit) (t : State) => ∃ (n1 : Int32), ∃ (n2 : Int64), ∃ (n4 : Int32), ∃ (n11 : Int32), ∃ (e5 : Nat → Int32), ∃ (e6 : Nat → Int32), ∃ (e7 : Nat → Int32), ∃ (e8 : Nat → Int32), ∃ (e9 : Nat → Int32), ∃ (e10 : Nat → Int32), ∃ (e12 : Nat → Int32), ∃ (e13 : Nat → Int32), ∃ (e14 : Nat → Int32), (0 ≤ n4.toInt ∧ n4.toInt ≤ 40) ∧ (0 ≤ n11.toInt ∧ n11.toInt ≤ 30) ∧ (netE s3.toInt n4.toInt e6 e7 e10) ∧ (pastE n11.toInt e12 e13 e14) ∧ (rng e6 40 (0) (11)) ∧ (rng e7 40 (0) (11)) ∧ (rng e8 40 (0) (2000)) ∧ (rng e9 40 (0) (100)) ∧ (rng e12 30 (0) (12)) ∧ (rng e13 30 (0) (40)) ∧ (orng e14 6000) ∧ va_P D vwCl [ob12_0_ mo 0 n1 n2 s3 n4 g5 g6 g7 g8 g9 g10 n11 g12 g13 g14 g15 g16 g17 g18 g19 g20 s21 g22 g23 g24 s25 s26 s27 s28 g29 g30 g31 g32 g33, ai_ cy g5 40 e5, ai_ cy g6 40 e6, ai_ cy g7 40 e7, ai_ cy g8 40 e8, ai_ cy g9 40 e9, az_ cy g10 40 e10, ai_ cy g12 30 e12, ai_ cy g13 30 e13, ai_ cy g14 6000 e14, az_ cy g15 4 f15, ai_ cy g17 4 f17, ai_ cy g18 24 f18, aj_ cy g19 120 f19] t.heap ∧ va_D (va_A [ob12_0_ mo s0 s1 t2 s3 s4 g5 g6 g7 g8 g9 g10 s11 g12 g13 g14 g15 g16 g17 g18 g19 g20 s21 g22 g23 g24 s25 s26 s27 s28 g29 g30 g31 g32 g33, ai_ cy g5 40 f5, ai_ cy g6 40 f6, ai_ cy g7 40 f7, ai_ cy g8 40 f8, ai_ cy g9 40 f9, az_ cy g10 40 f10, ai_ cy g12 30 f12, ai_ cy g13 30 f13, ai_ cy g14 6000 f14, az_ cy g15 4 f15, ai_ cy g17 4 f17, ai_ cy g18 24 f18, aj_ cy g19 120 f19] sz) [ob12_0_ mo 0 n1 n2 s3 n4 g5 g6 g7 g8 g9 g10 n11 g12 g13 g14 g15 g16 g17 g18 g19 g20 s21 g22 g23 g24 s25 s26 s27 s28 g29 g30 g31 g32 g33, ai_ cy g5 40 e5, ai_ cy g6 40 e6, ai_ cy g7 40 e7, ai_ cy g8 40 e8, ai_ cy g9 40 e9, az_ cy g10 40 e10, ai_ cy g12 30 e12, ai_ cy g13 30 e13, ai_ cy g14 6000 e14, az_ cy g15 4 f15, ai_ cy g17 4 f17, ai_ cy g18 24 f18, aj_ cy g19 120 f19]) (va_A [ob12_0_ mo s0 s1 t2 s3 s4 g5 g6 g7 g8 g9 g10 s11 g12 g13 g14 g15 g16 g17 g18 g19 g20 s21 g22 g23 g24 s25 s26 s27 s28 g29 g30 g31 g32 g33, ai_ cy g5 40 f5, ai_ cy g6 40 f6, ai_ cy g7 40 f7, ai_ cy g8 40 f8, ai_ cy g9 40 f9, az_ cy g10 40 f10, ai_ cy g12 30 f12, ai_ cy g13 30 f13, ai_ cy g14 6000 f14, az_ cy g15 4 f15, ai_ cy g17 4 f17, ai_ cy g18 24 f18, aj_ cy g19 120 f19] sz)) 0 0 (va_A [ob12_0_ mo s0 s1 t2 s3 s4 g5 g6 g7 g8 g9 g10 s11 g12 g13 g14 g15 g16 g17 g18 g19 g20 s21 g22 g23 g24 s25 s26 s27 s28 g29 g30 g31 g32 g33, ai_ cy g5 40 f5, ai_ cy g6 40 f6, ai_ cy g7 40 f7, ai_ cy g8 40 f8, ai_ cy g9 40 f9, az_ cy g10 40 f10, ai_ cy g12 30 f12, ai_ cy g13 30 f13, ai_ cy g14 6000 f14, az_ cy g15 4 f15, ai_ cy g17 4 f17, ai_ cy g18 24 f18, aj_ cy g19 120 f19] sz) := by
  refine ofQ (cc := cX12_read) (maxL := 7) (ret := (some .int)) (by decide) rfl ?_
  intro p e s m args below meth c s₁ Q hQ B hml hv
  obtain ⟨rfl, hsz, hP, hK, hD0⟩ := hv
  have hx := B.exec
  have hb := B.bytes
  have hr := B.returns
  have hts := atoms_spec (ws := wsX12_read) B.pre
  have hown : s.vm.findClass RX12 = some m.cls := by have h_ := findClass_of_methodNamed B.named; exact h_
  have hlocks := B.notSynchronized
  subst hsz
  have hD := hD0.self (sz := s.heap.size)
  generalize hAe : va_A [ob12_0_ mo s0 s1 t2 s3 s4 g5 g6 g7 g8 g9 g10 s11 g12 g13 g14 g15 g16 g17 g18 g19 g20 s21 g22 g23 g24 s25 s26 s27 s28 g29 g30 g31 g32 g33, ai_ cy g5 40 f5, ai_ cy g6 40 f6, ai_ cy g7 40 f7, ai_ cy g8 40 f8, ai_ cy g9 40 f9, az_ cy g10 40 f10, ai_ cy g12 30 f12, ai_ cy g13 30 f13, ai_ cy g14 6000 f14, az_ cy g15 4 f15, ai_ cy g17 4 f17, ai_ cy g18 24 f18, aj_ cy g19 120 f19] s.heap.size = A at hD hQ
  have hA : ∀ q : Nat, s.heap.size ≤ q → A q := fun q h => by rw [← hAe]; exact Or.inr h
  have hS : va_S A s.heap s.heap [] := va_S.rf
  have hl := lv_entry ([.ref mo, .int a1]) (n := 7) (Nat.le_of_ble_eq_true rfl)
  rw [lg_entry_eq]
  generalize (lg_sl ([.ref mo, .int a1]) ++ List.replicate (7 - (lg_sl ([.ref mo, .int a1])).length) Slot.unset).toArray = ls at hl ⊢
  have hl : lv_has ls 7 [(0, .ref mo), (1, .int a1)] := hl
  have zm12 : ((-12) : Int32).toInt = -12 := by decide
  have zm11 : ((-11) : Int32).toInt = -11 := by decide
  have zm9 : ((-9) : Int32).toInt = -9 := by decide
  have zm3 : ((-3) : Int32).toInt = -3 := by decide
  have zm1 : ((-1) : Int32).toInt = -1 := by decide
  have z0 : (0 : Int32).toInt = 0 := by decide
  have zl0 : (0 : Int64).toInt = 0 := by decide
  have z1 : (1 : Int32).toInt = 1 := by decide
  have z2 : (2 : Int32).toInt = 2 := by decide
  have z3 : (3 : Int32).toInt = 3 := by decide
  have zl3 : (3 : Int64).toInt = 3 := by decide
  have z4 : (4 : Int32).toInt = 4 := by decide
  have z5 : (5 : Int32).toInt = 5 := by decide
  have z6 : (6 : Int32).toInt = 6 := by decide
  have z30 : (30 : Int32).toInt = 30 := by decide
  refine lv_aload_n hx hb dB_3_3_32.2.1.1.2 rfl (lv_at hl 0 rfl) ?_
  refine lv_iconst (v := 0) hx hb dB_3_3_32.2.1.2.1 (by decide) ?_
  refine va_put (ci := 12) (v := .int 0) (ty := .int) (C := RX12) (T := TX12) (N := 34) hx hb hts (fun _ h => List.mem_cons_of_mem _ (List.mem_append_right _ h)) tyX12 tyX12_ok nmX12 hown hK.1 hP hD hS 0 rfl rfl 0 (by decide) (hts (.fieldLink RX12 85 "CutAtlasModel" "thrown" "I") (List.mem_of_getElem? (i := 1) rfl)) (fun _ h9 => h9) rfl (by decide +kernel) rfl rfl (Nat.le_of_ble_eq_true rfl) dB_3_3_32.2.1.2.2 (fun H locs hP hD hS => ?_)
  refine pd_K [ob12_0_ mo 0 s1 t2 s3 s4 g5 g6 g7 g8 g9 g10 s11 g12 g13 g14 g15 g16 g17 g18 g19 g20 s21 g22 g23 g24 s25 s26 s27 s28 g29 g30 g31 g32 g33, ai_ cy g5 40 f5, ai_ cy g6 40 f6, ai_ cy g7 40 f7, ai_ cy g8 40 f8, ai_ cy g9 40 f9, az_ cy g10 40 f10, ai_ cy g12 30 f12, ai_ cy g13 30 f13, ai_ cy g14 6000 f14, az_ cy g15 4 f15, ai_ cy g17 4 f17, ai_ cy g18 24 f18, aj_ cy g19 120 f19] hP hD (fun hP hD => ?_)
  refine lv_aload_n hx hb dB_3_3_32.2.2.1.1 rfl (lv_at hl 0 rfl) ?_
  refine lv_iconst (v := 0) hx hb dB_3_3_32.2.2.1.2 (by decide) ?_
  refine va_put (ci := 12) (v := .int 0) (ty := .int) (C := RX12) (T := TX12) (N := 34) hx hb hts (fun _ h => List.mem_cons_of_mem _ (List.mem_append_right _ h)) tyX12 tyX12_ok nmX12 hown hK.1 hP hD hS 0 rfl rfl 1 (by decide) (hts (.fieldLink RX12 240 "CutAtlasModel" "status" "I") (List.mem_of_getElem? (i := 2) rfl)) (fun _ h9 => h9) rfl (by decide +kernel) rfl rfl (Nat.le_of_ble_eq_true rfl) dB_3_3_32.2.2.2.1 (fun H locs hP hD hS => ?_)
  refine pd_K [ob12_0_ mo 0 0 t2 s3 s4 g5 g6 g7 g8 g9 g10 s11 g12 g13 g14 g15 g16 g17 g18 g19 g20 s21 g22 g23 g24 s25 s26 s27 s28 g29 g30 g31 g32 g33, ai_ cy g5 40 f5, ai_ cy g6 40 f6, ai_ cy g7 40 f7, ai_ cy g8 40 f8, ai_ cy g9 40 f9, az_ cy g10 40 f10, ai_ cy g12 30 f12, ai_ cy g13 30 f13, ai_ cy g14 6000 f14, az_ cy g15 4 f15, ai_ cy g17 4 f17, ai_ cy g18 24 f18, aj_ cy g19 120 f19] hP hD (fun hP hD => ?_)
  refine lv_iload_n hx hb dB_3_3_32.2.2.2.2 rfl (lv_at hl 1 rfl) ?_
  refine lv_i2l (v := a1.toInt64) hx hb dB_3_3_33.1.1.1.1 rfl ?_
  have q_11 : (a1.toInt64).toInt = a1.toInt := Int32.toInt_toInt64 a1
  refine lv_lconst (v := 0) hx hb dB_3_3_33.1.1.1.2 (by decide) ?_
  refine lv_ldc2 (v := 3) hx hb hown (hts (.constantLong RX12 243 (3)) (List.mem_of_getElem? (i := 3) rfl)) dB_3_3_33.1.1.2.1 ?_
  refine ct_R hP hD [] [] (by decide) rfl (fun hPc hDw => ?_)
  have hFc := va_free (wc := []) hD hS hA [] rfl
  refine va_calli (va_runS (As := [.long a1.toInt64, .long 0, .long 3]) (rest := []) ⟨hx, hb, hml, hown, hts⟩ (c_X12_in l D cy H.size a1.toInt64 (0 : Int64) (3 : Int64)) (va_cwS 3 hts gX12_read_X12_in rfl rfl rfl hd_X12_in ⟨Nat.le_of_ble_eq_true rfl, Nat.le_of_ble_eq_true rfl⟩) ⟨bl_, fun U hU hW => ⟨rfl, by rw [hU], by rw [hU]; exact hPc, kk_mv hW hK, hDw⟩⟩ rfl rfl hl.1 rfl (lv_room (Nat.le_of_ble_eq_true rfl)) dB_3_3_33.1.1.2.2 ⟨Nat.le_of_ble_eq_true rfl, Nat.le_of_ble_eq_true rfl⟩) hS (fun q _ h => hFc q h) hFc (fun r_1 u t H locs ht hvm hw hB hz1 hk1 hS => ?_)
  have hP : va_P D vwCl _ H := ro_keep hP hk1
  rcases hw with ⟨w_2, e_⟩ | ⟨w_2, e_⟩
  · have e_ := e_.symm
    subst e_
    refine lv_if_ne (tgt := 28) hx hb dB_3_3_33.1.2.1.1 (by decide) (fun c_3 => ?_) (fun c_3 => ?_)
    · have _ := c_3
      refine lv_aload_n hx hb dB_3_3_33.2.1.1.2 rfl (lv_at hl 0 rfl) ?_
      refine va_get (ci := 12) (v := .ref g15) (C := RX12) (T := TX12) (N := 34) hx hb hts (fun _ h => List.mem_cons_of_mem _ (List.mem_append_right _ h)) hown hK.1 hP 0 rfl rfl 15 (by decide) (hts (.fieldLink RX12 38 "CutAtlasModel" "hasMap" "[Z") (List.mem_of_getElem? (i := 4) rfl)) (fun _ h9 => h9) rfl dB_3_3_33.2.1.2.1 ?_
      refine lv_iload_n hx hb dB_3_3_33.2.1.2.2 rfl (lv_at hl 1 rfl) ?_
      have h_4 : vp_in a1 4 := in_I (by omega) (by omega)
      refine va_zald hx hb hK.1 hP 10 2 rfl rfl (i := a1) h_4 dB_3_3_33.2.2.1.1 ?_
      refine lv_topi (fun y_5 ey_5 => ?_)
      refine lv_if_ne (tgt := 45) hx hb dB_3_3_33.2.2.1.2 (by decide) (fun c_6 => ?_) (fun c_6 => ?_)
      · have t_6 : ¬ y_5.toInt = (0 : Int32).toInt := fun h => c_6 (Int32.toInt_inj.mp h)
        refine lv_iconst (v := 0) hx hb dB_3_3_34.1.1.2.2 (by decide) ?_
        refine lv_istore_n (lv' := [(2, .int 0), (0, .ref mo), (1, .int a1)]) hx hb dB_3_3_34.1.2.1.1 rfl hl (by decide) rfl (fun ls hl => ?_)
        refine lv_iconst (v := 0) hx hb dB_3_3_34.1.2.1.2 (by decide) ?_
        refine lv_istore_n (lv' := [(3, .int 0), (2, .int 0), (0, .ref mo), (1, .int a1)]) hx hb dB_3_3_34.1.2.2.1 rfl hl (by decide) rfl (fun ls hl => ?_)
        suffices LOOP_7 : ∀ (n_7 : Nat) (x3_7 : Int32) (x2_7 : Int32) (o2_7 : Int64) (o4_7 : Int32) (o11_7 : Int32) (c_g5_7 : Nat → Int32) (c_g6_7 : Nat → Int32) (c_g7_7 : Nat → Int32) (c_g8_7 : Nat → Int32) (c_g9_7 : Nat → Int32) (c_g10_7 : Nat → Int32) (c_g12_7 : Nat → Int32) (c_g13_7 : Nat → Int32) (c_g14_7 : Nat → Int32) (H : Heap) (locs : List Loc) (ls : Array Slot), 6 - x3_7.toInt < (n_7 : Int) → (0 ≤ x3_7.toInt) → (x3_7.toInt ≤ 6) → (x2_7.toInt = x3_7.toInt) → (0 ≤ o4_7.toInt ∧ o4_7.toInt ≤ 40) → (0 ≤ o11_7.toInt ∧ o11_7.toInt ≤ 30) → (netE s3.toInt o4_7.toInt c_g6_7 c_g7_7 c_g10_7) → (pastE o11_7.toInt c_g12_7 c_g13_7 c_g14_7) → (rng c_g6_7 40 (0) (11)) → (rng c_g7_7 40 (0) (11)) → (rng c_g8_7 40 (0) (2000)) → (rng c_g9_7 40 (0) (100)) → (rng c_g12_7 30 (0) (12)) → (rng c_g13_7 30 (0) (40)) → (orng c_g14_7 6000) → pd_2 D vwCl A [ob12_0_ mo 0 0 o2_7 s3 o4_7 g5 g6 g7 g8 g9 g10 o11_7 g12 g13 g14 g15 g16 g17 g18 g19 g20 s21 g22 g23 g24 s25 s26 s27 s28 g29 g30 g31 g32 g33, ai_ cy g5 40 c_g5_7, ai_ cy g6 40 c_g6_7, ai_ cy g7 40 c_g7_7, ai_ cy g8 40 c_g8_7, ai_ cy g9 40 c_g9_7, az_ cy g10 40 c_g10_7, ai_ cy g12 30 c_g12_7, ai_ cy g13 30 c_g13_7, ai_ cy g14 6000 c_g14_7, az_ cy g15 4 f15, ai_ cy g17 4 f17, ai_ cy g18 24 f18, aj_ cy g19 120 f19] H → va_S A s.heap H locs → lv_has ls 7 [(3, .int x3_7), (2, .int x2_7), (0, .ref mo), (1, .int a1)] → W p l e ({ frames := 2, cells := 0, slots := 0, locals := 56 } : Room) s m (([.ref mo, .int a1] : List Value).toArray) below meth c H locs 0 0 Q (F0 m 49 ls []) from LOOP_7 ((6 - (0 : Int32).toInt).toNat + 1) (0 : Int32) (0 : Int32) t2 s4 s11 f5 f6 f7 f8 f9 f10 f12 f13 f14 _ _ _ (by omega) (by first | with_reducible assumption | omega | assumption) (by first | with_reducible assumption | omega | assumption) (by first | with_reducible assumption | omega | assumption) (by first | with_reducible assumption | omega | assumption) (by first | with_reducible assumption | omega | assumption) (by first | exact hne_ | assumption) (by first | exact hpa_ | assumption) (by first | with_reducible assumption | assumption | exact rng_zero (by omega) (by omega) | exact orng_zero) (by first | with_reducible assumption | assumption | exact rng_zero (by omega) (by omega) | exact orng_zero) (by first | with_reducible assumption | assumption | exact rng_zero (by omega) (by omega) | exact orng_zero) (by first | with_reducible assumption | assumption | exact rng_zero (by omega) (by omega) | exact orng_zero) (by first | with_reducible assumption | assumption | exact rng_zero (by omega) (by omega) | exact orng_zero) (by first | with_reducible assumption | assumption | exact rng_zero (by omega) (by omega) | exact orng_zero) (by first | with_reducible assumption | assumption | exact rng_zero (by omega) (by omega) | exact orng_zero) ⟨hP, hD⟩ hS (lv_sub hl [0, 1, 2, 3] rfl)
        intro n_7
        induction n_7 with
        | zero =>
          intro x3_7 x2_7 o2_7 o4_7 o11_7 c_g5_7 c_g6_7 c_g7_7 c_g8_7 c_g9_7 c_g10_7 c_g12_7 c_g13_7 c_g14_7 H locs ls hm v0_7 v1_7 v2_7 v3_7 v4_7 v5_7 v6_7 rc_g6_7 rc_g7_7 rc_g8_7 rc_g9_7 rc_g12_7 rc_g13_7 rc_g14_7 hPD hS hl; obtain ⟨hP, hD⟩ := hPD
          exact absurd hm (by omega)
        | succ n_7 ih_7 =>
          intro x3_7 x2_7 o2_7 o4_7 o11_7 c_g5_7 c_g6_7 c_g7_7 c_g8_7 c_g9_7 c_g10_7 c_g12_7 c_g13_7 c_g14_7 H locs ls hm v0_7 v1_7 v2_7 v3_7 v4_7 v5_7 v6_7 rc_g6_7 rc_g7_7 rc_g8_7 rc_g9_7 rc_g12_7 rc_g13_7 rc_g14_7 hPD hS hl; obtain ⟨hP, hD⟩ := hPD
          refine lv_iload_n hx hb dB_3_3_34.1.2.2.2 rfl (lv_at hl 0 rfl) ?_
          refine lv_aload_n hx hb dB_3_3_34.2.1.1.1 rfl (lv_at hl 2 rfl) ?_
          refine va_get (ci := 12) (v := .ref g17) (C := RX12) (T := TX12) (N := 34) hx hb hts (fun _ h => List.mem_cons_of_mem _ (List.mem_append_right _ h)) hown hK.1 hP 0 rfl rfl 17 (by decide) (hts (.fieldLink RX12 44 "CutAtlasModel" "mapRows" "[I") (List.mem_of_getElem? (i := 5) rfl)) (fun _ h9 => h9) rfl dB_3_3_34.2.1.1.2 ?_
          refine lv_iload_n hx hb dB_3_3_34.2.1.2.1 rfl (lv_at hl 3 rfl) ?_
          have h_8 : vp_in a1 4 := in_I (by omega) (by omega)
          refine va_iald hx hb hK.1 hP 11 0 rfl rfl (i := a1) h_8 dB_3_3_34.2.1.2.2 ?_
          refine lv_topi (fun y_9 ey_9 => ?_)
          have ry_9 : 0 ≤ y_9.toInt ∧ y_9.toInt ≤ 6 := by rw [ey_9]; exact r_f17 _ (in_lt h_8)
          refine lv_icmp_ge (tgt := 236) hx hb dB_3_3_34.2.2.1.1 (by decide) (fun c_10 => ?_) (fun c_10 => ?_)
          · have t_10 : y_9.toInt ≤ x3_7.toInt := Int32.le_iff_toInt_le.mp c_10
            refine lv_iload_n hx hb dB_3_3_41.2.1.1.1 rfl (lv_at hl 1 rfl) ?_
            rw [hQ]
            exact W.iret (v := x2_7) hx hb hr (fun t ht hW => ⟨⟨x2_7, (), rfl, trivial, (0 : Int32), o2_7, o4_7, o11_7, c_g5_7, c_g6_7, c_g7_7, c_g8_7, c_g9_7, c_g10_7, c_g12_7, c_g13_7, c_g14_7, (by first | with_reducible assumption | omega | assumption), (by first | with_reducible assumption | omega | assumption), (by assumption), (by assumption), (by first | with_reducible assumption | assumption | exact rng_zero (by omega) (by omega) | omega), (by first | with_reducible assumption | assumption | exact rng_zero (by omega) (by omega) | omega), (by first | with_reducible assumption | assumption | exact rng_zero (by omega) (by omega) | omega), (by first | with_reducible assumption | assumption | exact rng_zero (by omega) (by omega) | omega), (by first | with_reducible assumption | assumption | exact rng_zero (by omega) (by omega) | omega), (by first | with_reducible assumption | assumption | exact rng_zero (by omega) (by omega) | omega), (by first | with_reducible assumption | assumption | exact rng_zero (by omega) (by omega) | omega), by rw [ht]; exact hP, hD⟩, hS.F ht⟩) hS.2.2 dB_3_3_41.2.1.1.2
          · have t_10 : ¬ y_9.toInt ≤ x3_7.toInt := fun h => c_10 (Int32.le_iff_toInt_le.mpr h)
            refine lv_aload_n hx hb dB_3_3_34.2.2.1.2 rfl (lv_at hl 2 rfl) ?_
            refine va_get (ci := 12) (v := .ref g18) (C := RX12) (T := TX12) (N := 34) hx hb hts (fun _ h => List.mem_cons_of_mem _ (List.mem_append_right _ h)) hown hK.1 hP 0 rfl rfl 18 (by decide) (hts (.fieldLink RX12 47 "CutAtlasModel" "rowSize" "[I") (List.mem_of_getElem? (i := 6) rfl)) (fun _ h9 => h9) rfl dB_3_3_34.2.2.2.1 ?_
            refine lv_bipush (v := 6) hx hb dB_3_3_34.2.2.2.2 (by decide) ?_
            refine lv_iload_n hx hb dB_3_3_35.1.1.1.1 rfl (lv_at hl 3 rfl) ?_
            refine lv_imul hx hb dB_3_3_35.1.1.1.2 ?_
            refine lv_topi (fun y_11 ey_11 => ?_)
            have ty_11 : y_11.toInt = 6 * a1.toInt := by rw [ey_11]; exact mulC (by decide) (by omega) (by omega)
            refine lv_iload_n hx hb dB_3_3_35.1.1.2.1 rfl (lv_at hl 0 rfl) ?_
            refine lv_iadd hx hb dB_3_3_35.1.1.2.2 ?_
            refine lv_topi (fun y_12 ey_12 => ?_)
            have ty_12 : y_12.toInt = y_11.toInt + x3_7.toInt := by rw [ey_12]; exact addI (by omega) (by omega)
            have h_13 : vp_in y_12 24 := in_I (by omega) (by omega)
            refine va_iald hx hb hK.1 hP 12 0 rfl rfl (i := y_12) h_13 dB_3_3_35.1.2.1.1 ?_
            refine lv_topi (fun y_14 ey_14 => ?_)
            have ry_14 : -9 ≤ y_14.toInt ∧ y_14.toInt ≤ 5 := by rw [ey_14]; exact r_f18 _ (in_lt h_13)
            refine lv_istore (lv' := [(4, .int y_14), (3, .int x3_7), (2, .int x2_7), (0, .ref mo), (1, .int a1)]) hx hb dB_3_3_35.1.2.1.2 hl (by decide) rfl (fun ls hl => ?_)
            refine lv_bipush (v := 30) hx hb dB_3_3_35.1.2.2.1 (by decide) ?_
            refine lv_iload_n hx hb dB_3_3_35.1.2.2.2 rfl (lv_at hl 4 rfl) ?_
            refine lv_imul hx hb dB_3_3_35.2.1.1.1 ?_
            refine lv_topi (fun y_15 ey_15 => ?_)
            have ty_15 : y_15.toInt = 30 * a1.toInt := by rw [ey_15]; exact mulC (by decide) (by omega) (by omega)
            refine lv_iconst (v := 5) hx hb dB_3_3_35.2.1.1.2 (by decide) ?_
            refine lv_iload_n hx hb dB_3_3_35.2.1.2.1 rfl (lv_at hl 1 rfl) ?_
            refine lv_imul hx hb dB_3_3_35.2.1.2.2 ?_
            refine lv_topi (fun y_16 ey_16 => ?_)
            have ty_16 : y_16.toInt = 5 * x3_7.toInt := by rw [ey_16]; exact mulC (by decide) (by omega) (by omega)
            refine lv_iadd hx hb dB_3_3_35.2.2.1.1 ?_
            refine lv_topi (fun y_17 ey_17 => ?_)
            have ty_17 : y_17.toInt = y_15.toInt + y_16.toInt := by rw [ey_17]; exact addI (by omega) (by omega)
            refine lv_istore (lv' := [(5, .int y_17), (4, .int y_14), (3, .int x3_7), (2, .int x2_7), (0, .ref mo), (1, .int a1)]) hx hb dB_3_3_35.2.2.1.2 hl (by decide) rfl (fun ls hl => ?_)
            refine lv_iload hx hb dB_3_3_35.2.2.2.1 (lv_at hl 1 rfl) ?_
            refine lv_bipush (v := (-9)) hx hb dB_3_3_35.2.2.2.2 (by decide) ?_
            refine lv_icmp_ne (tgt := 94) hx hb dB_3_3_36.1.1.1.1 (by decide) (fun c_18 => ?_) (fun c_18 => ?_)
            · have t_18 : ¬ y_14.toInt = ((-9) : Int32).toInt := fun h => c_18 (Int32.toInt_inj.mp h)
              refine lv_iload hx hb dB_3_3_36.1.1.2.2 (lv_at hl 1 rfl) ?_
              refine lv_iconst (v := 5) hx hb dB_3_3_36.1.2.1.1 (by decide) ?_
              refine lv_icmp_ge (tgt := 105) hx hb dB_3_3_36.1.2.1.2 (by decide) (fun c_19 => ?_) (fun c_19 => ?_)
              · have t_19 : (5 : Int32).toInt ≤ y_14.toInt := Int32.le_iff_toInt_le.mp c_19
                refine lv_aload_n hx hb dB_3_3_36.2.1.1.1 rfl (lv_at hl 4 rfl) ?_
                refine lv_aload_n hx hb dB_3_3_36.2.1.1.2 rfl (lv_at hl 4 rfl) ?_
                refine va_get (ci := 12) (v := .ref g19) (C := RX12) (T := TX12) (N := 34) hx hb hts (fun _ h => List.mem_cons_of_mem _ (List.mem_append_right _ h)) hown hK.1 hP 0 rfl rfl 19 (by decide) (hts (.fieldLink RX12 50 "CutAtlasModel" "cells" "[J") (List.mem_of_getElem? (i := 7) rfl)) (fun _ h9 => h9) rfl dB_3_3_36.2.1.2.1 ?_
                refine lv_iload hx hb dB_3_3_36.2.1.2.2 (lv_at hl 0 rfl) ?_
                have h_20 : vp_in y_17 120 := in_I (by omega) (by omega)
                refine va_lald hx hb hK.1 hP 13 1 rfl rfl (i := y_17) h_20 dB_3_3_36.2.2.1.1 ?_
                refine lv_topl (fun y_21 ey_21 => ?_)
                refine lv_aload_n hx hb dB_3_3_36.2.2.1.2 rfl (lv_at hl 4 rfl) ?_
                refine va_get (ci := 12) (v := .ref g19) (C := RX12) (T := TX12) (N := 34) hx hb hts (fun _ h => List.mem_cons_of_mem _ (List.mem_append_right _ h)) hown hK.1 hP 0 rfl rfl 19 (by decide) (hts (.fieldLink RX12 50 "CutAtlasModel" "cells" "[J") (List.mem_of_getElem? (i := 7) rfl)) (fun _ h9 => h9) rfl dB_3_3_36.2.2.2.1 ?_
                refine lv_iload hx hb dB_3_3_36.2.2.2.2 (lv_at hl 0 rfl) ?_
                refine lv_iconst (v := 1) hx hb dB_3_3_37.1.1.1.1 (by decide) ?_
                refine lv_iadd hx hb dB_3_3_37.1.1.1.2 ?_
                refine lv_topi (fun y_22 ey_22 => ?_)
                have ty_22 : y_22.toInt = y_17.toInt + (1 : Int32).toInt := by rw [ey_22]; exact addI (by omega) (by omega)
                have h_23 : vp_in y_22 120 := in_I (by omega) (by omega)
                refine va_lald hx hb hK.1 hP 13 1 rfl rfl (i := y_22) h_23 dB_3_3_37.1.1.2.1 ?_
                refine lv_topl (fun y_24 ey_24 => ?_)
                refine lv_aload_n hx hb dB_3_3_37.1.1.2.2 rfl (lv_at hl 4 rfl) ?_
                refine va_get (ci := 12) (v := .ref g19) (C := RX12) (T := TX12) (N := 34) hx hb hts (fun _ h => List.mem_cons_of_mem _ (List.mem_append_right _ h)) hown hK.1 hP 0 rfl rfl 19 (by decide) (hts (.fieldLink RX12 50 "CutAtlasModel" "cells" "[J") (List.mem_of_getElem? (i := 7) rfl)) (fun _ h9 => h9) rfl dB_3_3_37.1.2.1.1 ?_
                refine lv_iload hx hb dB_3_3_37.1.2.1.2 (lv_at hl 0 rfl) ?_
                refine lv_iconst (v := 2) hx hb dB_3_3_37.1.2.2.1 (by decide) ?_
                refine lv_iadd hx hb dB_3_3_37.1.2.2.2 ?_
                refine lv_topi (fun y_25 ey_25 => ?_)
                have ty_25 : y_25.toInt = y_17.toInt + (2 : Int32).toInt := by rw [ey_25]; exact addI (by omega) (by omega)
                have h_26 : vp_in y_25 120 := in_I (by omega) (by omega)
                refine va_lald hx hb hK.1 hP 13 1 rfl rfl (i := y_25) h_26 dB_3_3_37.2.1.1.1 ?_
                refine lv_topl (fun y_27 ey_27 => ?_)
                refine lv_aload_n hx hb dB_3_3_37.2.1.1.2 rfl (lv_at hl 4 rfl) ?_
                refine va_get (ci := 12) (v := .ref g19) (C := RX12) (T := TX12) (N := 34) hx hb hts (fun _ h => List.mem_cons_of_mem _ (List.mem_append_right _ h)) hown hK.1 hP 0 rfl rfl 19 (by decide) (hts (.fieldLink RX12 50 "CutAtlasModel" "cells" "[J") (List.mem_of_getElem? (i := 7) rfl)) (fun _ h9 => h9) rfl dB_3_3_37.2.1.2.1 ?_
                refine lv_iload hx hb dB_3_3_37.2.1.2.2 (lv_at hl 0 rfl) ?_
                refine lv_iconst (v := 3) hx hb dB_3_3_37.2.2.1.1 (by decide) ?_
                refine lv_iadd hx hb dB_3_3_37.2.2.1.2 ?_
                refine lv_topi (fun y_28 ey_28 => ?_)
                have ty_28 : y_28.toInt = y_17.toInt + (3 : Int32).toInt := by rw [ey_28]; exact addI (by omega) (by omega)
                have h_29 : vp_in y_28 120 := in_I (by omega) (by omega)
                refine va_lald hx hb hK.1 hP 13 1 rfl rfl (i := y_28) h_29 dB_3_3_37.2.2.2.1 ?_
                refine lv_topl (fun y_30 ey_30 => ?_)
                refine lv_aload_n hx hb dB_3_3_37.2.2.2.2 rfl (lv_at hl 4 rfl) ?_
                refine va_get (ci := 12) (v := .ref g19) (C := RX12) (T := TX12) (N := 34) hx hb hts (fun _ h => List.mem_cons_of_mem _ (List.mem_append_right _ h)) hown hK.1 hP 0 rfl rfl 19 (by decide) (hts (.fieldLink RX12 50 "CutAtlasModel" "cells" "[J") (List.mem_of_getElem? (i := 7) rfl)) (fun _ h9 => h9) rfl dB_3_3_38.1.1.1.1 ?_
                refine lv_iload hx hb dB_3_3_38.1.1.1.2 (lv_at hl 0 rfl) ?_
                refine lv_iconst (v := 4) hx hb dB_3_3_38.1.1.2.1 (by decide) ?_
                refine lv_iadd hx hb dB_3_3_38.1.1.2.2 ?_
                refine lv_topi (fun y_31 ey_31 => ?_)
                have ty_31 : y_31.toInt = y_17.toInt + (4 : Int32).toInt := by rw [ey_31]; exact addI (by omega) (by omega)
                have h_32 : vp_in y_31 120 := in_I (by omega) (by omega)
                refine va_lald hx hb hK.1 hP 13 1 rfl rfl (i := y_31) h_32 dB_3_3_38.1.2.1.1 ?_
                refine lv_topl (fun y_33 ey_33 => ?_)
                refine ct_R hP hD [ob12_0_ mo 0 0 o2_7 s3 o4_7 g5 g6 g7 g8 g9 g10 o11_7 g12 g13 g14 g15 g16 g17 g18 g19 g20 s21 g22 g23 g24 s25 s26 s27 s28 g29 g30 g31 g32 g33] [0] (by decide) rfl (fun hPc hDw => ?_)
                have hFc := va_free (wc := []) hD hS hA [] rfl
                refine va_calli (va_runV (As := [.long y_21, .long y_24, .long y_27, .long y_30, .long y_33]) (rest := []) ⟨hx, hb, hml, hown, hts⟩ (c_X12_refused l D cy H.size mo g5 g6 g7 g8 g9 g10 g12 g13 g14 g15 g16 g17 g18 g19 g20 g22 g23 g24 g29 g30 g31 g32 g33 (0 : Int32) (0 : Int32) s3 o4_7 o11_7 s21 s25 s26 s27 s28 o2_7 y_21 y_24 y_27 y_30 y_33 (by first | with_reducible assumption | omega | assumption) (by first | with_reducible assumption | omega | assumption)) (cwV 5 hts gX12_read_X12_refused rfl rfl rfl ⟨rfl, hd_X12_refused⟩ ⟨Nat.le_of_ble_eq_true rfl, Nat.le_of_ble_eq_true rfl⟩) ⟨bl_, va_recvX hK.1 hP (ci := 12) (q0 := 0) rfl rfl, fun U hU hW => ⟨rfl, by rw [hU], by rw [hU]; exact hPc, kk_mv hW hK, hDw⟩⟩ rfl rfl hl.1 rfl (lv_room (Nat.le_of_ble_eq_true rfl)) dB_3_3_38.1.2.1.2 ⟨Nat.le_of_ble_eq_true rfl, Nat.le_of_ble_eq_true rfl⟩) hS (fun q _ h => hFc q h) hFc (fun r_34 u t H locs ht hvm hw hB hz1 hk1 hS => ?_)
                have hP : va_P D vwCl _ H := ro_keep hP hk1
                rcases hw with ⟨w_35, e_⟩ | ⟨w_35, e_⟩ | ⟨w_35, e_⟩
                · have e_ := e_.symm
                  subst e_
                  refine lv_istore (lv' := [(6, .int (-1)), (5, .int y_17), (4, .int y_14), (3, .int x3_7), (2, .int x2_7), (0, .ref mo), (1, .int a1)]) hx hb dB_3_3_38.1.2.2.1 hl (by decide) rfl (fun ls hl => ?_)
                  refine lv_iload hx hb dB_3_3_38.1.2.2.2 (lv_at hl 0 rfl) ?_
                  refine lv_if_ge (tgt := 167) hx hb dB_3_3_38.2.1.1.1 (by decide) (fun c_36 => ?_) (fun c_36 => ?_)
                  · exact absurd c_36 (by decide)
                  · have _ := c_36
                    refine lv_aload_n hx hb dB_3_3_38.2.1.1.2 rfl (lv_at hl 5 rfl) ?_
                    refine lv_iload hx hb dB_3_3_38.2.1.2.1 (lv_at hl 0 rfl) ?_
                    refine va_put (ci := 12) (v := .int (-1)) (ty := .int) (C := RX12) (T := TX12) (N := 34) hx hb hts (fun _ h => List.mem_cons_of_mem _ (List.mem_append_right _ h)) tyX12 tyX12_ok nmX12 hown hK.1 hP hD hS 0 rfl rfl 1 (by decide) (hts (.fieldLink RX12 240 "CutAtlasModel" "status" "I") (List.mem_of_getElem? (i := 2) rfl)) (fun _ h9 => h9) rfl (by decide +kernel) rfl rfl (Nat.le_of_ble_eq_true rfl) dB_3_3_38.2.1.2.2 (fun H locs hP hD hS => ?_)
                    refine pd_K [ob12_0_ mo 0 (-1) o2_7 s3 o4_7 g5 g6 g7 g8 g9 g10 o11_7 g12 g13 g14 g15 g16 g17 g18 g19 g20 s21 g22 g23 g24 s25 s26 s27 s28 g29 g30 g31 g32 g33, ai_ cy g5 40 c_g5_7, ai_ cy g6 40 c_g6_7, ai_ cy g7 40 c_g7_7, ai_ cy g8 40 c_g8_7, ai_ cy g9 40 c_g9_7, az_ cy g10 40 c_g10_7, ai_ cy g12 30 c_g12_7, ai_ cy g13 30 c_g13_7, ai_ cy g14 6000 c_g14_7, az_ cy g15 4 f15, ai_ cy g17 4 f17, ai_ cy g18 24 f18, aj_ cy g19 120 f19] hP hD (fun hP hD => ?_)
                    refine lv_iload_n hx hb dB_3_3_38.2.2.1.1 rfl (lv_at hl 4 rfl) ?_
                    rw [hQ]
                    exact W.iret (v := x2_7) hx hb hr (fun t ht hW => ⟨⟨x2_7, (), rfl, trivial, ((-1) : Int32), o2_7, o4_7, o11_7, c_g5_7, c_g6_7, c_g7_7, c_g8_7, c_g9_7, c_g10_7, c_g12_7, c_g13_7, c_g14_7, (by first | with_reducible assumption | omega | assumption), (by first | with_reducible assumption | omega | assumption), (by assumption), (by assumption), (by first | with_reducible assumption | assumption | exact rng_zero (by omega) (by omega) | omega), (by first | with_reducible assumption | assumption | exact rng_zero (by omega) (by omega) | omega), (by first | with_reducible assumption | assumption | exact rng_zero (by omega) (by omega) | omega), (by first | with_reducible assumption | assumption | exact rng_zero (by omega) (by omega) | omega), (by first | with_reducible assumption | assumption | exact rng_zero (by omega) (by omega) | omega), (by first | with_reducible assumption | assumption | exact rng_zero (by omega) (by omega) | omega), (by first | with_reducible assumption | assumption | exact rng_zero (by omega) (by omega) | omega), by rw [ht]; exact hP, hD⟩, hS.F ht⟩) hS.2.2 dB_3_3_38.2.2.1.2
                · have e_ := e_.symm
                  subst e_
                  refine lv_istore (lv' := [(6, .int (-3)), (5, .int y_17), (4, .int y_14), (3, .int x3_7), (2, .int x2_7), (0, .ref mo), (1, .int a1)]) hx hb dB_3_3_38.1.2.2.1 hl (by decide) rfl (fun ls hl => ?_)
                  refine lv_iload hx hb dB_3_3_38.1.2.2.2 (lv_at hl 0 rfl) ?_
                  refine lv_if_ge (tgt := 167) hx hb dB_3_3_38.2.1.1.1 (by decide) (fun c_37 => ?_) (fun c_37 => ?_)
                  · exact absurd c_37 (by decide)
                  · have _ := c_37
                    refine lv_aload_n hx hb dB_3_3_38.2.1.1.2 rfl (lv_at hl 5 rfl) ?_
                    refine lv_iload hx hb dB_3_3_38.2.1.2.1 (lv_at hl 0 rfl) ?_
                    refine va_put (ci := 12) (v := .int (-3)) (ty := .int) (C := RX12) (T := TX12) (N := 34) hx hb hts (fun _ h => List.mem_cons_of_mem _ (List.mem_append_right _ h)) tyX12 tyX12_ok nmX12 hown hK.1 hP hD hS 0 rfl rfl 1 (by decide) (hts (.fieldLink RX12 240 "CutAtlasModel" "status" "I") (List.mem_of_getElem? (i := 2) rfl)) (fun _ h9 => h9) rfl (by decide +kernel) rfl rfl (Nat.le_of_ble_eq_true rfl) dB_3_3_38.2.1.2.2 (fun H locs hP hD hS => ?_)
                    refine pd_K [ob12_0_ mo 0 (-3) o2_7 s3 o4_7 g5 g6 g7 g8 g9 g10 o11_7 g12 g13 g14 g15 g16 g17 g18 g19 g20 s21 g22 g23 g24 s25 s26 s27 s28 g29 g30 g31 g32 g33, ai_ cy g5 40 c_g5_7, ai_ cy g6 40 c_g6_7, ai_ cy g7 40 c_g7_7, ai_ cy g8 40 c_g8_7, ai_ cy g9 40 c_g9_7, az_ cy g10 40 c_g10_7, ai_ cy g12 30 c_g12_7, ai_ cy g13 30 c_g13_7, ai_ cy g14 6000 c_g14_7, az_ cy g15 4 f15, ai_ cy g17 4 f17, ai_ cy g18 24 f18, aj_ cy g19 120 f19] hP hD (fun hP hD => ?_)
                    refine lv_iload_n hx hb dB_3_3_38.2.2.1.1 rfl (lv_at hl 4 rfl) ?_
                    rw [hQ]
                    exact W.iret (v := x2_7) hx hb hr (fun t ht hW => ⟨⟨x2_7, (), rfl, trivial, ((-3) : Int32), o2_7, o4_7, o11_7, c_g5_7, c_g6_7, c_g7_7, c_g8_7, c_g9_7, c_g10_7, c_g12_7, c_g13_7, c_g14_7, (by first | with_reducible assumption | omega | assumption), (by first | with_reducible assumption | omega | assumption), (by assumption), (by assumption), (by first | with_reducible assumption | assumption | exact rng_zero (by omega) (by omega) | omega), (by first | with_reducible assumption | assumption | exact rng_zero (by omega) (by omega) | omega), (by first | with_reducible assumption | assumption | exact rng_zero (by omega) (by omega) | omega), (by first | with_reducible assumption | assumption | exact rng_zero (by omega) (by omega) | omega), (by first | with_reducible assumption | assumption | exact rng_zero (by omega) (by omega) | omega), (by first | with_reducible assumption | assumption | exact rng_zero (by omega) (by omega) | omega), (by first | with_reducible assumption | assumption | exact rng_zero (by omega) (by omega) | omega), by rw [ht]; exact hP, hD⟩, hS.F ht⟩) hS.2.2 dB_3_3_38.2.2.1.2
                · have e_ := e_.symm
                  subst e_
                  refine lv_istore (lv' := [(6, .int 0), (5, .int y_17), (4, .int y_14), (3, .int x3_7), (2, .int x2_7), (0, .ref mo), (1, .int a1)]) hx hb dB_3_3_38.1.2.2.1 hl (by decide) rfl (fun ls hl => ?_)
                  refine lv_iload hx hb dB_3_3_38.1.2.2.2 (lv_at hl 0 rfl) ?_
                  refine lv_if_ge (tgt := 167) hx hb dB_3_3_38.2.1.1.1 (by decide) (fun c_38 => ?_) (fun c_38 => ?_)
                  · have _ := c_38
                    refine lv_iload_n hx hb dB_3_3_38.2.2.2.1 rfl (lv_at hl 4 rfl) ?_
                    refine lv_if_ne (tgt := 175) hx hb dB_3_3_38.2.2.2.2 (by decide) (fun c_39 => ?_) (fun c_39 => ?_)
                    · have t_39 : ¬ x2_7.toInt = (0 : Int32).toInt := fun h => c_39 (Int32.toInt_inj.mp h)
                      have hpa_ : pastE o11_7.toInt c_g12_7 c_g13_7 c_g14_7 := by first | with_reducible assumption | assumption | exact kept_past of_none v5_7 v6_7 (by omega) (by assumption) (by assumption) (by omega)
                      refine lv_aload_n hx hb dB_3_3_39.1.1.2.1 rfl (lv_at hl 5 rfl) ?_
                      refine lv_aload_n hx hb dB_3_3_39.1.1.2.2 rfl (lv_at hl 5 rfl) ?_
                      refine va_get (ci := 12) (v := .ref g19) (C := RX12) (T := TX12) (N := 34) hx hb hts (fun _ h => List.mem_cons_of_mem _ (List.mem_append_right _ h)) hown hK.1 hP 0 rfl rfl 19 (by decide) (hts (.fieldLink RX12 50 "CutAtlasModel" "cells" "[J") (List.mem_of_getElem? (i := 7) rfl)) (fun _ h9 => h9) rfl dB_3_3_39.1.2.1.1 ?_
                      refine lv_iload hx hb dB_3_3_39.1.2.1.2 (lv_at hl 1 rfl) ?_
                      have h_40 : vp_in y_17 120 := in_I (by omega) (by omega)
                      refine va_lald hx hb hK.1 hP 13 1 rfl rfl (i := y_17) h_40 dB_3_3_39.1.2.2.1 ?_
                      refine lv_topl (fun y_41 ey_41 => ?_)
                      have e_ := (ey_41.trans ey_21.symm).symm
                      subst e_
                      skip
                      refine lv_l2i (v := y_21.toInt32) hx hb dB_3_3_39.1.2.2.2 rfl ?_
                      have l_183 : (y_21.toInt32).toInt = y_21.toInt := l2iI (by omega) (by omega)
                      refine lv_aload_n hx hb dB_3_3_39.2.1.1.1 rfl (lv_at hl 5 rfl) ?_
                      refine va_get (ci := 12) (v := .ref g19) (C := RX12) (T := TX12) (N := 34) hx hb hts (fun _ h => List.mem_cons_of_mem _ (List.mem_append_right _ h)) hown hK.1 hP 0 rfl rfl 19 (by decide) (hts (.fieldLink RX12 50 "CutAtlasModel" "cells" "[J") (List.mem_of_getElem? (i := 7) rfl)) (fun _ h9 => h9) rfl dB_3_3_39.2.1.1.2 ?_
                      refine lv_iload hx hb dB_3_3_39.2.1.2.1 (lv_at hl 1 rfl) ?_
                      refine lv_iconst (v := 1) hx hb dB_3_3_39.2.1.2.2 (by decide) ?_
                      refine lv_iadd hx hb dB_3_3_39.2.2.1.1 ?_
                      refine lv_topi (fun y_43 ey_43 => ?_)
                      have e_ := (ey_43.trans ey_22.symm).symm
                      subst e_
                      have h_44 : vp_in y_22 120 := in_I (by omega) (by omega)
                      refine va_lald hx hb hK.1 hP 13 1 rfl rfl (i := y_22) h_44 dB_3_3_39.2.2.1.2 ?_
                      refine lv_topl (fun y_45 ey_45 => ?_)
                      have e_ := (ey_45.trans ey_24.symm).symm
                      subst e_
                      skip
                      refine lv_l2i (v := y_24.toInt32) hx hb dB_3_3_39.2.2.2.1 rfl ?_
                      have l_193 : (y_24.toInt32).toInt = y_24.toInt := l2iI (by omega) (by omega)
                      refine lv_aload_n hx hb dB_3_3_39.2.2.2.2 rfl (lv_at hl 5 rfl) ?_
                      refine va_get (ci := 12) (v := .ref g19) (C := RX12) (T := TX12) (N := 34) hx hb hts (fun _ h => List.mem_cons_of_mem _ (List.mem_append_right _ h)) hown hK.1 hP 0 rfl rfl 19 (by decide) (hts (.fieldLink RX12 50 "CutAtlasModel" "cells" "[J") (List.mem_of_getElem? (i := 7) rfl)) (fun _ h9 => h9) rfl dB_3_3_40.1.1.1.1 ?_
                      refine lv_iload hx hb dB_3_3_40.1.1.1.2 (lv_at hl 1 rfl) ?_
                      refine lv_iconst (v := 2) hx hb dB_3_3_40.1.1.2.1 (by decide) ?_
                      refine lv_iadd hx hb dB_3_3_40.1.1.2.2 ?_
                      refine lv_topi (fun y_47 ey_47 => ?_)
                      have e_ := (ey_47.trans ey_25.symm).symm
                      subst e_
                      have h_48 : vp_in y_25 120 := in_I (by omega) (by omega)
                      refine va_lald hx hb hK.1 hP 13 1 rfl rfl (i := y_25) h_48 dB_3_3_40.1.2.1.1 ?_
                      refine lv_topl (fun y_49 ey_49 => ?_)
                      have e_ := (ey_49.trans ey_27.symm).symm
                      subst e_
                      skip
                      refine lv_l2i (v := y_27.toInt32) hx hb dB_3_3_40.1.2.1.2 rfl ?_
                      have l_203 : (y_27.toInt32).toInt = y_27.toInt := l2iI (by omega) (by omega)
                      refine lv_aload_n hx hb dB_3_3_40.1.2.2.1 rfl (lv_at hl 5 rfl) ?_
                      refine va_get (ci := 12) (v := .ref g19) (C := RX12) (T := TX12) (N := 34) hx hb hts (fun _ h => List.mem_cons_of_mem _ (List.mem_append_right _ h)) hown hK.1 hP 0 rfl rfl 19 (by decide) (hts (.fieldLink RX12 50 "CutAtlasModel" "cells" "[J") (List.mem_of_getElem? (i := 7) rfl)) (fun _ h9 => h9) rfl dB_3_3_40.1.2.2.2 ?_
                      refine lv_iload hx hb dB_3_3_40.2.1.1.1 (lv_at hl 1 rfl) ?_
                      refine lv_iconst (v := 3) hx hb dB_3_3_40.2.1.1.2 (by decide) ?_
                      refine lv_iadd hx hb dB_3_3_40.2.1.2.1 ?_
                      refine lv_topi (fun y_51 ey_51 => ?_)
                      have e_ := (ey_51.trans ey_28.symm).symm
                      subst e_
                      have h_52 : vp_in y_28 120 := in_I (by omega) (by omega)
                      refine va_lald hx hb hK.1 hP 13 1 rfl rfl (i := y_28) h_52 dB_3_3_40.2.1.2.2 ?_
                      refine lv_topl (fun y_53 ey_53 => ?_)
                      have e_ := (ey_53.trans ey_30.symm).symm
                      subst e_
                      skip
                      refine lv_l2i (v := y_30.toInt32) hx hb dB_3_3_40.2.2.1.1 rfl ?_
                      have l_213 : (y_30.toInt32).toInt = y_30.toInt := l2iI (by omega) (by omega)
                      refine lv_aload_n hx hb dB_3_3_40.2.2.1.2 rfl (lv_at hl 5 rfl) ?_
                      refine va_get (ci := 12) (v := .ref g19) (C := RX12) (T := TX12) (N := 34) hx hb hts (fun _ h => List.mem_cons_of_mem _ (List.mem_append_right _ h)) hown hK.1 hP 0 rfl rfl 19 (by decide) (hts (.fieldLink RX12 50 "CutAtlasModel" "cells" "[J") (List.mem_of_getElem? (i := 7) rfl)) (fun _ h9 => h9) rfl dB_3_3_40.2.2.2.1 ?_
                      refine lv_iload hx hb dB_3_3_40.2.2.2.2 (lv_at hl 1 rfl) ?_
                      refine lv_iconst (v := 4) hx hb dB_3_3_41.1.1.1.1 (by decide) ?_
                      refine lv_iadd hx hb dB_3_3_41.1.1.1.2 ?_
                      refine lv_topi (fun y_55 ey_55 => ?_)
                      have e_ := (ey_55.trans ey_31.symm).symm
                      subst e_
                      have h_56 : vp_in y_31 120 := in_I (by omega) (by omega)
                      refine va_lald hx hb hK.1 hP 13 1 rfl rfl (i := y_31) h_56 dB_3_3_41.1.1.2.1 ?_
                      refine lv_topl (fun y_57 ey_57 => ?_)
                      have e_ := (ey_57.trans ey_33.symm).symm
                      subst e_
                      skip
                      refine lv_l2i (v := y_33.toInt32) hx hb dB_3_3_41.1.1.2.2 rfl ?_
                      have l_223 : (y_33.toInt32).toInt = y_33.toInt := l2iI (by omega) (by omega)
                      refine ct_S hP hD hS hA [ob12_0_ mo 0 0 o2_7 s3 o4_7 g5 g6 g7 g8 g9 g10 o11_7 g12 g13 g14 g15 g16 g17 g18 g19 g20 s21 g22 g23 g24 s25 s26 s27 s28 g29 g30 g31 g32 g33, ai_ cy g5 40 c_g5_7, ai_ cy g6 40 c_g6_7, ai_ cy g7 40 c_g7_7, ai_ cy g8 40 c_g8_7, ai_ cy g9 40 c_g9_7, az_ cy g10 40 c_g10_7] [0, 1, 2, 3, 4, 5, 6] (by decide) rfl (fun hPc hDw hFc hC_ => ?_)
                      refine va_callv (va_runV (As := [.int (y_21.toInt32), .int (y_24.toInt32), .int (y_27.toInt32), .int (y_30.toInt32), .int (y_33.toInt32)]) (rest := []) ⟨hx, hb, hml, hown, hts⟩ (c_X12_adds2 l D cy H.size mo g5 g6 g7 g8 g9 g10 g12 g13 g14 g15 g16 g17 g18 g19 g20 g22 g23 g24 g29 g30 g31 g32 g33 (0 : Int32) (0 : Int32) s3 o4_7 o11_7 s21 s25 s26 s27 s28 o2_7 c_g5_7 c_g6_7 c_g7_7 c_g8_7 c_g9_7 c_g10_7 (y_21.toInt32) (y_24.toInt32) (y_27.toInt32) (y_30.toInt32) (y_33.toInt32) (by first | with_reducible assumption | omega | assumption) (by first | with_reducible assumption | omega | assumption) (by first | with_reducible assumption | omega | assumption) (by first | with_reducible assumption | omega | assumption) (by first | with_reducible assumption | omega | assumption) (by first | with_reducible assumption | assumption | omega) (by first | with_reducible assumption | assumption | omega) (by first | with_reducible assumption | assumption | omega) (by first | with_reducible assumption | assumption | omega)) (cwV 5 hts gX12_read_X12_adds rfl rfl rfl ⟨rfl, hd_X12_adds⟩ ⟨Nat.le_of_ble_eq_true rfl, Nat.le_of_ble_eq_true rfl⟩) ⟨bl_, va_recvX hK.1 hP (ci := 12) (q0 := 0) rfl rfl, fun U hU hW => ⟨rfl, by rw [hU], by rw [hU]; exact hPc, kk_mv hW hK, hDw⟩⟩ rfl rfl hl.1 rfl (lv_room (Nat.le_of_ble_eq_true rfl)) dB_3_3_41.1.2.1.1 ⟨Nat.le_of_ble_eq_true rfl, Nat.le_of_ble_eq_true rfl⟩) hS (fun q _ h => hFc q h) hFc (fun u t H locs ht hvm hw hB hz1 hk1 hS => ?_)
                      obtain ⟨n2_60, n4_61, e5_62, e6_63, e7_64, e8_65, e9_66, e10_67, g_68, g_69, g_70, g_71, g_72, g_73, g_74, g_75, g_76, g_77, g_78, g_79, hP1, hD1⟩ := hB
                      rw [ht] at hP1
                      obtain ⟨hP, hD⟩ := va_join (wr := [ai_ cy g12 30 c_g12_7, ai_ cy g13 30 c_g13_7, ai_ cy g14 6000 c_g14_7, az_ cy g15 4 f15, ai_ cy g17 4 f17, ai_ cy g18 24 f18, aj_ cy g19 120 f19]) (w1 := [ob12_0_ mo 0 0 n2_60 s3 n4_61 g5 g6 g7 g8 g9 g10 o11_7 g12 g13 g14 g15 g16 g17 g18 g19 g20 s21 g22 g23 g24 s25 s26 s27 s28 g29 g30 g31 g32 g33, ai_ cy g5 40 e5_62, ai_ cy g6 40 e6_63, ai_ cy g7 40 e7_64, ai_ cy g8 40 e8_65, ai_ cy g9 40 e9_66, az_ cy g10 40 e10_67]) hP hD [0, 1, 2, 3, 4, 5, 6] [7, 8, 9, 10, 11, 12, 13] hC_ rfl (by decide) (by decide) hk1 hFc hP1 hD1
                      refine pd_S hP hD [ob12_0_ mo 0 0 n2_60 s3 n4_61 g5 g6 g7 g8 g9 g10 o11_7 g12 g13 g14 g15 g16 g17 g18 g19 g20 s21 g22 g23 g24 s25 s26 s27 s28 g29 g30 g31 g32 g33, ai_ cy g5 40 e5_62, ai_ cy g6 40 e6_63, ai_ cy g7 40 e7_64, ai_ cy g8 40 e8_65, ai_ cy g9 40 e9_66, az_ cy g10 40 e10_67, ai_ cy g12 30 c_g12_7, ai_ cy g13 30 c_g13_7, ai_ cy g14 6000 c_g14_7, az_ cy g15 4 f15, ai_ cy g17 4 f17, ai_ cy g18 24 f18, aj_ cy g19 120 f19] [7, 8, 9, 10, 11, 12, 13, 0, 1, 2, 3, 4, 5, 6] (by decide +kernel) rfl (fun hP hD => ?_)
                      have hne_ : netE s3.toInt n4_61.toInt e6_63 e7_64 e10_67 := netE_add v5_7 g_70 g_71 g_74 (by omega) g_68 (by omega) (by omega)
                      obtain ⟨y_80, ey_80⟩ : ∃ y : Int32, y = x2_7 + 1 := ⟨_, rfl⟩
                      have ty_80 : y_80.toInt = x2_7.toInt + (1 : Int32).toInt := by rw [ey_80]; exact addI (by omega) (by omega)
                      refine lv_iinc (v := y_80) (lv' := [(2, .int y_80), (6, .int 0), (5, .int y_17), (4, .int y_14), (3, .int x3_7), (0, .ref mo), (1, .int a1)]) hx hb dB_3_3_41.1.2.1.2 hl (k := 4) rfl (by rw [ey_80]; rfl) (by decide) rfl (fun ls hl => ?_)
                      obtain ⟨y_81, ey_81⟩ : ∃ y : Int32, y = x3_7 + 1 := ⟨_, rfl⟩
                      have ty_81 : y_81.toInt = x3_7.toInt + (1 : Int32).toInt := by rw [ey_81]; exact addI (by omega) (by omega)
                      refine lv_iinc (v := y_81) (lv' := [(3, .int y_81), (2, .int y_80), (6, .int 0), (5, .int y_17), (4, .int y_14), (0, .ref mo), (1, .int a1)]) hx hb dB_3_3_41.1.2.2.1 hl (k := 4) rfl (by rw [ey_81]; rfl) (by decide) rfl (fun ls hl => ?_)
                      refine lv_goto (tgt := 49) hx hb dB_3_3_41.1.2.2.2 (by decide) ?_
                      exact ih_7 y_81 y_80 n2_60 n4_61 o11_7 e5_62 e6_63 e7_64 e8_65 e9_66 e10_67 c_g12_7 c_g13_7 c_g14_7 _ _ _ (by omega) (by first | with_reducible assumption | omega | assumption) (by first | with_reducible assumption | omega | assumption) (by first | with_reducible assumption | omega | assumption) (by first | with_reducible assumption | omega | assumption) (by first | with_reducible assumption | omega | assumption) (by first | exact hne_ | assumption) (by first | exact hpa_ | assumption) (by first | with_reducible assumption | assumption | exact rng_zero (by omega) (by omega) | exact orng_zero) (by first | with_reducible assumption | assumption | exact rng_zero (by omega) (by omega) | exact orng_zero) (by first | with_reducible assumption | assumption | exact rng_zero (by omega) (by omega) | exact orng_zero) (by first | with_reducible assumption | assumption | exact rng_zero (by omega) (by omega) | exact orng_zero) (by first | with_reducible assumption | assumption | exact rng_zero (by omega) (by omega) | exact orng_zero) (by first | with_reducible assumption | assumption | exact rng_zero (by omega) (by omega) | exact orng_zero) (by first | with_reducible assumption | assumption | exact rng_zero (by omega) (by omega) | exact orng_zero) ⟨hP, hD⟩ hS (lv_sub hl [0, 1, 5, 6] rfl)
                    · have t_39 : x2_7.toInt = (0 : Int32).toInt := congrArg Int32.toInt c_39
                      refine lv_aload_n hx hb dB_3_3_39.1.1.1.1 rfl (lv_at hl 5 rfl) ?_
                      refine ct_S hP hD hS hA [ob12_0_ mo 0 0 o2_7 s3 o4_7 g5 g6 g7 g8 g9 g10 o11_7 g12 g13 g14 g15 g16 g17 g18 g19 g20 s21 g22 g23 g24 s25 s26 s27 s28 g29 g30 g31 g32 g33, ai_ cy g5 40 c_g5_7, ai_ cy g6 40 c_g6_7, ai_ cy g7 40 c_g7_7, ai_ cy g8 40 c_g8_7, ai_ cy g9 40 c_g9_7, az_ cy g10 40 c_g10_7, ai_ cy g12 30 c_g12_7, ai_ cy g13 30 c_g13_7, ai_ cy g14 6000 c_g14_7] [0, 1, 2, 3, 4, 5, 6, 7, 8, 9] (by decide) rfl (fun hPc hDw hFc hC_ => ?_)
                      refine va_callv (va_runV (As := []) (rest := []) ⟨hx, hb, hml, hown, hts⟩ (c_X12_keeps2 l D cy H.size mo g5 g6 g7 g8 g9 g10 g12 g13 g14 g15 g16 g17 g18 g19 g20 g22 g23 g24 g29 g30 g31 g32 g33 (0 : Int32) (0 : Int32) s3 o4_7 o11_7 s21 s25 s26 s27 s28 o2_7 c_g5_7 c_g6_7 c_g7_7 c_g8_7 c_g9_7 c_g10_7 c_g12_7 c_g13_7 c_g14_7 (by first | with_reducible assumption | omega | assumption) (by first | with_reducible assumption | omega | assumption) (by first | with_reducible assumption | omega | assumption) (by first | with_reducible assumption | assumption | omega) (by first | with_reducible assumption | assumption | omega) (by first | with_reducible assumption | assumption | omega) (by first | with_reducible assumption | assumption | omega) (by first | with_reducible assumption | assumption | omega) (by first | with_reducible assumption | assumption | omega) (by first | with_reducible assumption | assumption | omega)) (cwV 0 hts gX12_read_X12_keeps rfl rfl rfl ⟨rfl, hd_X12_keeps⟩ ⟨Nat.le_of_ble_eq_true rfl, Nat.le_of_ble_eq_true rfl⟩) ⟨bl_, va_recvX hK.1 hP (ci := 12) (q0 := 0) rfl rfl, fun U hU hW => ⟨rfl, by rw [hU], by rw [hU]; exact hPc, kk_mv hW hK, hDw⟩⟩ rfl rfl hl.1 rfl (lv_room (Nat.le_of_ble_eq_true rfl)) dB_3_3_39.1.1.1.2 ⟨Nat.le_of_ble_eq_true rfl, Nat.le_of_ble_eq_true rfl⟩) hS (fun q _ h => hFc q h) hFc (fun u t H locs ht hvm hw hB hz1 hk1 hS => ?_)
                      obtain ⟨n11_83, e12_84, e13_85, e14_86, g_87, g_88, g_89, g_90, g_91, hP1, hD1⟩ := hB
                      rw [ht] at hP1
                      obtain ⟨hP, hD⟩ := va_join (wr := [az_ cy g15 4 f15, ai_ cy g17 4 f17, ai_ cy g18 24 f18, aj_ cy g19 120 f19]) (w1 := [ob12_0_ mo 0 0 o2_7 s3 o4_7 g5 g6 g7 g8 g9 g10 n11_83 g12 g13 g14 g15 g16 g17 g18 g19 g20 s21 g22 g23 g24 s25 s26 s27 s28 g29 g30 g31 g32 g33, ai_ cy g5 40 c_g5_7, ai_ cy g6 40 c_g6_7, ai_ cy g7 40 c_g7_7, ai_ cy g8 40 c_g8_7, ai_ cy g9 40 c_g9_7, az_ cy g10 40 c_g10_7, ai_ cy g12 30 e12_84, ai_ cy g13 30 e13_85, ai_ cy g14 6000 e14_86]) hP hD [0, 1, 2, 3, 4, 5, 6, 7, 8, 9] [10, 11, 12, 13] hC_ rfl (by decide) (by decide) hk1 hFc hP1 hD1
                      refine pd_S hP hD [ob12_0_ mo 0 0 o2_7 s3 o4_7 g5 g6 g7 g8 g9 g10 n11_83 g12 g13 g14 g15 g16 g17 g18 g19 g20 s21 g22 g23 g24 s25 s26 s27 s28 g29 g30 g31 g32 g33, ai_ cy g5 40 c_g5_7, ai_ cy g6 40 c_g6_7, ai_ cy g7 40 c_g7_7, ai_ cy g8 40 c_g8_7, ai_ cy g9 40 c_g9_7, az_ cy g10 40 c_g10_7, ai_ cy g12 30 e12_84, ai_ cy g13 30 e13_85, ai_ cy g14 6000 e14_86, az_ cy g15 4 f15, ai_ cy g17 4 f17, ai_ cy g18 24 f18, aj_ cy g19 120 f19] [4, 5, 6, 7, 8, 9, 10, 11, 12, 13, 0, 1, 2, 3] (by decide +kernel) rfl (fun hP hD => ?_)
                      have hpa_ : pastE n11_83.toInt e12_84 e13_85 e14_86 := by first | with_reducible assumption | assumption | exact kept_past g_88 v5_7 v6_7 (by omega) (by assumption) (by assumption) (by omega)
                      refine lv_aload_n hx hb dB_3_3_39.1.1.2.1 rfl (lv_at hl 5 rfl) ?_
                      refine lv_aload_n hx hb dB_3_3_39.1.1.2.2 rfl (lv_at hl 5 rfl) ?_
                      refine va_get (ci := 12) (v := .ref g19) (C := RX12) (T := TX12) (N := 34) hx hb hts (fun _ h => List.mem_cons_of_mem _ (List.mem_append_right _ h)) hown hK.1 hP 0 rfl rfl 19 (by decide) (hts (.fieldLink RX12 50 "CutAtlasModel" "cells" "[J") (List.mem_of_getElem? (i := 7) rfl)) (fun _ h9 => h9) rfl dB_3_3_39.1.2.1.1 ?_
                      refine lv_iload hx hb dB_3_3_39.1.2.1.2 (lv_at hl 1 rfl) ?_
                      have h_92 : vp_in y_17 120 := in_I (by omega) (by omega)
                      refine va_lald hx hb hK.1 hP 13 1 rfl rfl (i := y_17) h_92 dB_3_3_39.1.2.2.1 ?_
                      refine lv_topl (fun y_93 ey_93 => ?_)
                      have e_ := (ey_93.trans ey_21.symm).symm
                      subst e_
                      skip
                      refine lv_l2i (v := y_21.toInt32) hx hb dB_3_3_39.1.2.2.2 rfl ?_
                      have l_183 : (y_21.toInt32).toInt = y_21.toInt := l2iI (by omega) (by omega)
                      refine lv_aload_n hx hb dB_3_3_39.2.1.1.1 rfl (lv_at hl 5 rfl) ?_
                      refine va_get (ci := 12) (v := .ref g19) (C := RX12) (T := TX12) (N := 34) hx hb hts (fun _ h => List.mem_cons_of_mem _ (List.mem_append_right _ h)) hown hK.1 hP 0 rfl rfl 19 (by decide) (hts (.fieldLink RX12 50 "CutAtlasModel" "cells" "[J") (List.mem_of_getElem? (i := 7) rfl)) (fun _ h9 => h9) rfl dB_3_3_39.2.1.1.2 ?_
                      refine lv_iload hx hb dB_3_3_39.2.1.2.1 (lv_at hl 1 rfl) ?_
                      refine lv_iconst (v := 1) hx hb dB_3_3_39.2.1.2.2 (by decide) ?_
                      refine lv_iadd hx hb dB_3_3_39.2.2.1.1 ?_
                      refine lv_topi (fun y_95 ey_95 => ?_)
                      have e_ := (ey_95.trans ey_22.symm).symm
                      subst e_
                      have h_96 : vp_in y_22 120 := in_I (by omega) (by omega)
                      refine va_lald hx hb hK.1 hP 13 1 rfl rfl (i := y_22) h_96 dB_3_3_39.2.2.1.2 ?_
                      refine lv_topl (fun y_97 ey_97 => ?_)
                      have e_ := (ey_97.trans ey_24.symm).symm
                      subst e_
                      skip
                      refine lv_l2i (v := y_24.toInt32) hx hb dB_3_3_39.2.2.2.1 rfl ?_
                      have l_193 : (y_24.toInt32).toInt = y_24.toInt := l2iI (by omega) (by omega)
                      refine lv_aload_n hx hb dB_3_3_39.2.2.2.2 rfl (lv_at hl 5 rfl) ?_
                      refine va_get (ci := 12) (v := .ref g19) (C := RX12) (T := TX12) (N := 34) hx hb hts (fun _ h => List.mem_cons_of_mem _ (List.mem_append_right _ h)) hown hK.1 hP 0 rfl rfl 19 (by decide) (hts (.fieldLink RX12 50 "CutAtlasModel" "cells" "[J") (List.mem_of_getElem? (i := 7) rfl)) (fun _ h9 => h9) rfl dB_3_3_40.1.1.1.1 ?_
                      refine lv_iload hx hb dB_3_3_40.1.1.1.2 (lv_at hl 1 rfl) ?_
                      refine lv_iconst (v := 2) hx hb dB_3_3_40.1.1.2.1 (by decide) ?_
                      refine lv_iadd hx hb dB_3_3_40.1.1.2.2 ?_
                      refine lv_topi (fun y_99 ey_99 => ?_)
                      have e_ := (ey_99.trans ey_25.symm).symm
                      subst e_
                      have h_100 : vp_in y_25 120 := in_I (by omega) (by omega)
                      refine va_lald hx hb hK.1 hP 13 1 rfl rfl (i := y_25) h_100 dB_3_3_40.1.2.1.1 ?_
                      refine lv_topl (fun y_101 ey_101 => ?_)
                      have e_ := (ey_101.trans ey_27.symm).symm
                      subst e_
                      skip
                      refine lv_l2i (v := y_27.toInt32) hx hb dB_3_3_40.1.2.1.2 rfl ?_
                      have l_203 : (y_27.toInt32).toInt = y_27.toInt := l2iI (by omega) (by omega)
                      refine lv_aload_n hx hb dB_3_3_40.1.2.2.1 rfl (lv_at hl 5 rfl) ?_
                      refine va_get (ci := 12) (v := .ref g19) (C := RX12) (T := TX12) (N := 34) hx hb hts (fun _ h => List.mem_cons_of_mem _ (List.mem_append_right _ h)) hown hK.1 hP 0 rfl rfl 19 (by decide) (hts (.fieldLink RX12 50 "CutAtlasModel" "cells" "[J") (List.mem_of_getElem? (i := 7) rfl)) (fun _ h9 => h9) rfl dB_3_3_40.1.2.2.2 ?_
                      refine lv_iload hx hb dB_3_3_40.2.1.1.1 (lv_at hl 1 rfl) ?_
                      refine lv_iconst (v := 3) hx hb dB_3_3_40.2.1.1.2 (by decide) ?_
                      refine lv_iadd hx hb dB_3_3_40.2.1.2.1 ?_
                      refine lv_topi (fun y_103 ey_103 => ?_)
                      have e_ := (ey_103.trans ey_28.symm).symm
                      subst e_
                      have h_104 : vp_in y_28 120 := in_I (by omega) (by omega)
                      refine va_lald hx hb hK.1 hP 13 1 rfl rfl (i := y_28) h_104 dB_3_3_40.2.1.2.2 ?_
                      refine lv_topl (fun y_105 ey_105 => ?_)
                      have e_ := (ey_105.trans ey_30.symm).symm
                      subst e_
                      skip
                      refine lv_l2i (v := y_30.toInt32) hx hb dB_3_3_40.2.2.1.1 rfl ?_
                      have l_213 : (y_30.toInt32).toInt = y_30.toInt := l2iI (by omega) (by omega)
                      refine lv_aload_n hx hb dB_3_3_40.2.2.1.2 rfl (lv_at hl 5 rfl) ?_
                      refine va_get (ci := 12) (v := .ref g19) (C := RX12) (T := TX12) (N := 34) hx hb hts (fun _ h => List.mem_cons_of_mem _ (List.mem_append_right _ h)) hown hK.1 hP 0 rfl rfl 19 (by decide) (hts (.fieldLink RX12 50 "CutAtlasModel" "cells" "[J") (List.mem_of_getElem? (i := 7) rfl)) (fun _ h9 => h9) rfl dB_3_3_40.2.2.2.1 ?_
                      refine lv_iload hx hb dB_3_3_40.2.2.2.2 (lv_at hl 1 rfl) ?_
                      refine lv_iconst (v := 4) hx hb dB_3_3_41.1.1.1.1 (by decide) ?_
                      refine lv_iadd hx hb dB_3_3_41.1.1.1.2 ?_
                      refine lv_topi (fun y_107 ey_107 => ?_)
                      have e_ := (ey_107.trans ey_31.symm).symm
                      subst e_
                      have h_108 : vp_in y_31 120 := in_I (by omega) (by omega)
                      refine va_lald hx hb hK.1 hP 13 1 rfl rfl (i := y_31) h_108 dB_3_3_41.1.1.2.1 ?_
                      refine lv_topl (fun y_109 ey_109 => ?_)
                      have e_ := (ey_109.trans ey_33.symm).symm
                      subst e_
                      skip
                      refine lv_l2i (v := y_33.toInt32) hx hb dB_3_3_41.1.1.2.2 rfl ?_
                      have l_223 : (y_33.toInt32).toInt = y_33.toInt := l2iI (by omega) (by omega)
                      refine ct_S hP hD hS hA [ob12_0_ mo 0 0 o2_7 s3 o4_7 g5 g6 g7 g8 g9 g10 n11_83 g12 g13 g14 g15 g16 g17 g18 g19 g20 s21 g22 g23 g24 s25 s26 s27 s28 g29 g30 g31 g32 g33, ai_ cy g5 40 c_g5_7, ai_ cy g6 40 c_g6_7, ai_ cy g7 40 c_g7_7, ai_ cy g8 40 c_g8_7, ai_ cy g9 40 c_g9_7, az_ cy g10 40 c_g10_7] [0, 1, 2, 3, 4, 5, 6] (by decide) rfl (fun hPc hDw hFc hC_ => ?_)
                      refine va_callv (va_runV (As := [.int (y_21.toInt32), .int (y_24.toInt32), .int (y_27.toInt32), .int (y_30.toInt32), .int (y_33.toInt32)]) (rest := []) ⟨hx, hb, hml, hown, hts⟩ (c_X12_adds2 l D cy H.size mo g5 g6 g7 g8 g9 g10 g12 g13 g14 g15 g16 g17 g18 g19 g20 g22 g23 g24 g29 g30 g31 g32 g33 (0 : Int32) (0 : Int32) s3 o4_7 n11_83 s21 s25 s26 s27 s28 o2_7 c_g5_7 c_g6_7 c_g7_7 c_g8_7 c_g9_7 c_g10_7 (y_21.toInt32) (y_24.toInt32) (y_27.toInt32) (y_30.toInt32) (y_33.toInt32) (by first | with_reducible assumption | omega | assumption) (by first | with_reducible assumption | omega | assumption) (by first | with_reducible assumption | omega | assumption) (by first | with_reducible assumption | omega | assumption) (by first | with_reducible assumption | omega | assumption) (by first | with_reducible assumption | assumption | omega) (by first | with_reducible assumption | assumption | omega) (by first | with_reducible assumption | assumption | omega) (by first | with_reducible assumption | assumption | omega)) (cwV 5 hts gX12_read_X12_adds rfl rfl rfl ⟨rfl, hd_X12_adds⟩ ⟨Nat.le_of_ble_eq_true rfl, Nat.le_of_ble_eq_true rfl⟩) ⟨bl_, va_recvX hK.1 hP (ci := 12) (q0 := 0) rfl rfl, fun U hU hW => ⟨rfl, by rw [hU], by rw [hU]; exact hPc, kk_mv hW hK, hDw⟩⟩ rfl rfl hl.1 rfl (lv_room (Nat.le_of_ble_eq_true rfl)) dB_3_3_41.1.2.1.1 ⟨Nat.le_of_ble_eq_true rfl, Nat.le_of_ble_eq_true rfl⟩) hS (fun q _ h => hFc q h) hFc (fun u t H locs ht hvm hw hB hz1 hk1 hS => ?_)
                      obtain ⟨n2_112, n4_113, e5_114, e6_115, e7_116, e8_117, e9_118, e10_119, g_120, g_121, g_122, g_123, g_124, g_125, g_126, g_127, g_128, g_129, g_130, g_131, hP1, hD1⟩ := hB
                      rw [ht] at hP1
                      obtain ⟨hP, hD⟩ := va_join (wr := [ai_ cy g12 30 e12_84, ai_ cy g13 30 e13_85, ai_ cy g14 6000 e14_86, az_ cy g15 4 f15, ai_ cy g17 4 f17, ai_ cy g18 24 f18, aj_ cy g19 120 f19]) (w1 := [ob12_0_ mo 0 0 n2_112 s3 n4_113 g5 g6 g7 g8 g9 g10 n11_83 g12 g13 g14 g15 g16 g17 g18 g19 g20 s21 g22 g23 g24 s25 s26 s27 s28 g29 g30 g31 g32 g33, ai_ cy g5 40 e5_114, ai_ cy g6 40 e6_115, ai_ cy g7 40 e7_116, ai_ cy g8 40 e8_117, ai_ cy g9 40 e9_118, az_ cy g10 40 e10_119]) hP hD [0, 1, 2, 3, 4, 5, 6] [7, 8, 9, 10, 11, 12, 13] hC_ rfl (by decide) (by decide) hk1 hFc hP1 hD1
                      refine pd_S hP hD [ob12_0_ mo 0 0 n2_112 s3 n4_113 g5 g6 g7 g8 g9 g10 n11_83 g12 g13 g14 g15 g16 g17 g18 g19 g20 s21 g22 g23 g24 s25 s26 s27 s28 g29 g30 g31 g32 g33, ai_ cy g5 40 e5_114, ai_ cy g6 40 e6_115, ai_ cy g7 40 e7_116, ai_ cy g8 40 e8_117, ai_ cy g9 40 e9_118, az_ cy g10 40 e10_119, ai_ cy g12 30 e12_84, ai_ cy g13 30 e13_85, ai_ cy g14 6000 e14_86, az_ cy g15 4 f15, ai_ cy g17 4 f17, ai_ cy g18 24 f18, aj_ cy g19 120 f19] [7, 8, 9, 10, 11, 12, 13, 0, 1, 2, 3, 4, 5, 6] (by decide +kernel) rfl (fun hP hD => ?_)
                      have hne_ : netE s3.toInt n4_113.toInt e6_115 e7_116 e10_119 := netE_add v5_7 g_122 g_123 g_126 (by omega) g_120 (by omega) (by omega)
                      obtain ⟨y_132, ey_132⟩ : ∃ y : Int32, y = x2_7 + 1 := ⟨_, rfl⟩
                      have ty_132 : y_132.toInt = x2_7.toInt + (1 : Int32).toInt := by rw [ey_132]; exact addI (by omega) (by omega)
                      refine lv_iinc (v := y_132) (lv' := [(2, .int y_132), (6, .int 0), (5, .int y_17), (4, .int y_14), (3, .int x3_7), (0, .ref mo), (1, .int a1)]) hx hb dB_3_3_41.1.2.1.2 hl (k := 4) rfl (by rw [ey_132]; rfl) (by decide) rfl (fun ls hl => ?_)
                      obtain ⟨y_133, ey_133⟩ : ∃ y : Int32, y = x3_7 + 1 := ⟨_, rfl⟩
                      have ty_133 : y_133.toInt = x3_7.toInt + (1 : Int32).toInt := by rw [ey_133]; exact addI (by omega) (by omega)
                      refine lv_iinc (v := y_133) (lv' := [(3, .int y_133), (2, .int y_132), (6, .int 0), (5, .int y_17), (4, .int y_14), (0, .ref mo), (1, .int a1)]) hx hb dB_3_3_41.1.2.2.1 hl (k := 4) rfl (by rw [ey_133]; rfl) (by decide) rfl (fun ls hl => ?_)
                      refine lv_goto (tgt := 49) hx hb dB_3_3_41.1.2.2.2 (by decide) ?_
                      exact ih_7 y_133 y_132 n2_112 n4_113 n11_83 e5_114 e6_115 e7_116 e8_117 e9_118 e10_119 e12_84 e13_85 e14_86 _ _ _ (by omega) (by first | with_reducible assumption | omega | assumption) (by first | with_reducible assumption | omega | assumption) (by first | with_reducible assumption | omega | assumption) (by first | with_reducible assumption | omega | assumption) (by first | with_reducible assumption | omega | assumption) (by first | exact hne_ | assumption) (by first | exact hpa_ | assumption) (by first | with_reducible assumption | assumption | exact rng_zero (by omega) (by omega) | exact orng_zero) (by first | with_reducible assumption | assumption | exact rng_zero (by omega) (by omega) | exact orng_zero) (by first | with_reducible assumption | assumption | exact rng_zero (by omega) (by omega) | exact orng_zero) (by first | with_reducible assumption | assumption | exact rng_zero (by omega) (by omega) | exact orng_zero) (by first | with_reducible assumption | assumption | exact rng_zero (by omega) (by omega) | exact orng_zero) (by first | with_reducible assumption | assumption | exact rng_zero (by omega) (by omega) | exact orng_zero) (by first | with_reducible assumption | assumption | exact rng_zero (by omega) (by omega) | exact orng_zero) ⟨hP, hD⟩ hS (lv_sub hl [0, 1, 5, 6] rfl)
                  · exact absurd c_38 (by decide)
              · have t_19 : ¬ (5 : Int32).toInt ≤ y_14.toInt := fun h => c_19 (Int32.le_iff_toInt_le.mpr h)
                refine lv_bipush (v := (-12)) hx hb dB_3_3_36.1.2.2.1 (by decide) ?_
                refine lv_goto (tgt := 152) hx hb dB_3_3_36.1.2.2.2 (by decide) ?_
                refine lv_istore (lv' := [(6, .int (-12)), (5, .int y_17), (4, .int y_14), (3, .int x3_7), (2, .int x2_7), (0, .ref mo), (1, .int a1)]) hx hb dB_3_3_38.1.2.2.1 hl (by decide) rfl (fun ls hl => ?_)
                refine lv_iload hx hb dB_3_3_38.1.2.2.2 (lv_at hl 0 rfl) ?_
                refine lv_if_ge (tgt := 167) hx hb dB_3_3_38.2.1.1.1 (by decide) (fun c_134 => ?_) (fun c_134 => ?_)
                · exact absurd c_134 (by decide)
                · have _ := c_134
                  refine lv_aload_n hx hb dB_3_3_38.2.1.1.2 rfl (lv_at hl 5 rfl) ?_
                  refine lv_iload hx hb dB_3_3_38.2.1.2.1 (lv_at hl 0 rfl) ?_
                  refine va_put (ci := 12) (v := .int (-12)) (ty := .int) (C := RX12) (T := TX12) (N := 34) hx hb hts (fun _ h => List.mem_cons_of_mem _ (List.mem_append_right _ h)) tyX12 tyX12_ok nmX12 hown hK.1 hP hD hS 0 rfl rfl 1 (by decide) (hts (.fieldLink RX12 240 "CutAtlasModel" "status" "I") (List.mem_of_getElem? (i := 2) rfl)) (fun _ h9 => h9) rfl (by decide +kernel) rfl rfl (Nat.le_of_ble_eq_true rfl) dB_3_3_38.2.1.2.2 (fun H locs hP hD hS => ?_)
                  refine pd_K [ob12_0_ mo 0 (-12) o2_7 s3 o4_7 g5 g6 g7 g8 g9 g10 o11_7 g12 g13 g14 g15 g16 g17 g18 g19 g20 s21 g22 g23 g24 s25 s26 s27 s28 g29 g30 g31 g32 g33, ai_ cy g5 40 c_g5_7, ai_ cy g6 40 c_g6_7, ai_ cy g7 40 c_g7_7, ai_ cy g8 40 c_g8_7, ai_ cy g9 40 c_g9_7, az_ cy g10 40 c_g10_7, ai_ cy g12 30 c_g12_7, ai_ cy g13 30 c_g13_7, ai_ cy g14 6000 c_g14_7, az_ cy g15 4 f15, ai_ cy g17 4 f17, ai_ cy g18 24 f18, aj_ cy g19 120 f19] hP hD (fun hP hD => ?_)
                  refine lv_iload_n hx hb dB_3_3_38.2.2.1.1 rfl (lv_at hl 4 rfl) ?_
                  rw [hQ]
                  exact W.iret (v := x2_7) hx hb hr (fun t ht hW => ⟨⟨x2_7, (), rfl, trivial, ((-12) : Int32), o2_7, o4_7, o11_7, c_g5_7, c_g6_7, c_g7_7, c_g8_7, c_g9_7, c_g10_7, c_g12_7, c_g13_7, c_g14_7, (by first | with_reducible assumption | omega | assumption), (by first | with_reducible assumption | omega | assumption), (by assumption), (by assumption), (by first | with_reducible assumption | assumption | exact rng_zero (by omega) (by omega) | omega), (by first | with_reducible assumption | assumption | exact rng_zero (by omega) (by omega) | omega), (by first | with_reducible assumption | assumption | exact rng_zero (by omega) (by omega) | omega), (by first | with_reducible assumption | assumption | exact rng_zero (by omega) (by omega) | omega), (by first | with_reducible assumption | assumption | exact rng_zero (by omega) (by omega) | omega), (by first | with_reducible assumption | assumption | exact rng_zero (by omega) (by omega) | omega), (by first | with_reducible assumption | assumption | exact rng_zero (by omega) (by omega) | omega), by rw [ht]; exact hP, hD⟩, hS.F ht⟩) hS.2.2 dB_3_3_38.2.2.1.2
            · have t_18 : y_14.toInt = ((-9) : Int32).toInt := congrArg Int32.toInt c_18
              refine lv_bipush (v := (-11)) hx hb dB_3_3_36.1.1.1.2 (by decide) ?_
              refine lv_goto (tgt := 152) hx hb dB_3_3_36.1.1.2.1 (by decide) ?_
              refine lv_istore (lv' := [(6, .int (-11)), (5, .int y_17), (4, .int y_14), (3, .int x3_7), (2, .int x2_7), (0, .ref mo), (1, .int a1)]) hx hb dB_3_3_38.1.2.2.1 hl (by decide) rfl (fun ls hl => ?_)
              refine lv_iload hx hb dB_3_3_38.1.2.2.2 (lv_at hl 0 rfl) ?_
              refine lv_if_ge (tgt := 167) hx hb dB_3_3_38.2.1.1.1 (by decide) (fun c_135 => ?_) (fun c_135 => ?_)
              · exact absurd c_135 (by decide)
              · have _ := c_135
                refine lv_aload_n hx hb dB_3_3_38.2.1.1.2 rfl (lv_at hl 5 rfl) ?_
                refine lv_iload hx hb dB_3_3_38.2.1.2.1 (lv_at hl 0 rfl) ?_
                refine va_put (ci := 12) (v := .int (-11)) (ty := .int) (C := RX12) (T := TX12) (N := 34) hx hb hts (fun _ h => List.mem_cons_of_mem _ (List.mem_append_right _ h)) tyX12 tyX12_ok nmX12 hown hK.1 hP hD hS 0 rfl rfl 1 (by decide) (hts (.fieldLink RX12 240 "CutAtlasModel" "status" "I") (List.mem_of_getElem? (i := 2) rfl)) (fun _ h9 => h9) rfl (by decide +kernel) rfl rfl (Nat.le_of_ble_eq_true rfl) dB_3_3_38.2.1.2.2 (fun H locs hP hD hS => ?_)
                refine pd_K [ob12_0_ mo 0 (-11) o2_7 s3 o4_7 g5 g6 g7 g8 g9 g10 o11_7 g12 g13 g14 g15 g16 g17 g18 g19 g20 s21 g22 g23 g24 s25 s26 s27 s28 g29 g30 g31 g32 g33, ai_ cy g5 40 c_g5_7, ai_ cy g6 40 c_g6_7, ai_ cy g7 40 c_g7_7, ai_ cy g8 40 c_g8_7, ai_ cy g9 40 c_g9_7, az_ cy g10 40 c_g10_7, ai_ cy g12 30 c_g12_7, ai_ cy g13 30 c_g13_7, ai_ cy g14 6000 c_g14_7, az_ cy g15 4 f15, ai_ cy g17 4 f17, ai_ cy g18 24 f18, aj_ cy g19 120 f19] hP hD (fun hP hD => ?_)
                refine lv_iload_n hx hb dB_3_3_38.2.2.1.1 rfl (lv_at hl 4 rfl) ?_
                rw [hQ]
                exact W.iret (v := x2_7) hx hb hr (fun t ht hW => ⟨⟨x2_7, (), rfl, trivial, ((-11) : Int32), o2_7, o4_7, o11_7, c_g5_7, c_g6_7, c_g7_7, c_g8_7, c_g9_7, c_g10_7, c_g12_7, c_g13_7, c_g14_7, (by first | with_reducible assumption | omega | assumption), (by first | with_reducible assumption | omega | assumption), (by assumption), (by assumption), (by first | with_reducible assumption | assumption | exact rng_zero (by omega) (by omega) | omega), (by first | with_reducible assumption | assumption | exact rng_zero (by omega) (by omega) | omega), (by first | with_reducible assumption | assumption | exact rng_zero (by omega) (by omega) | omega), (by first | with_reducible assumption | assumption | exact rng_zero (by omega) (by omega) | omega), (by first | with_reducible assumption | assumption | exact rng_zero (by omega) (by omega) | omega), (by first | with_reducible assumption | assumption | exact rng_zero (by omega) (by omega) | omega), (by first | with_reducible assumption | assumption | exact rng_zero (by omega) (by omega) | omega), by rw [ht]; exact hP, hD⟩, hS.F ht⟩) hS.2.2 dB_3_3_38.2.2.1.2
      · have t_6 : y_5.toInt = (0 : Int32).toInt := congrArg Int32.toInt c_6
        refine lv_aload_n hx hb dB_3_3_33.2.2.2.1 rfl (lv_at hl 0 rfl) ?_
        refine lv_bipush (v := (-11)) hx hb dB_3_3_33.2.2.2.2 (by decide) ?_
        refine va_put (ci := 12) (v := .int (-11)) (ty := .int) (C := RX12) (T := TX12) (N := 34) hx hb hts (fun _ h => List.mem_cons_of_mem _ (List.mem_append_right _ h)) tyX12 tyX12_ok nmX12 hown hK.1 hP hD hS 0 rfl rfl 1 (by decide) (hts (.fieldLink RX12 240 "CutAtlasModel" "status" "I") (List.mem_of_getElem? (i := 2) rfl)) (fun _ h9 => h9) rfl (by decide +kernel) rfl rfl (Nat.le_of_ble_eq_true rfl) dB_3_3_34.1.1.1.1 (fun H locs hP hD hS => ?_)
        refine pd_K [ob12_0_ mo 0 (-11) t2 s3 s4 g5 g6 g7 g8 g9 g10 s11 g12 g13 g14 g15 g16 g17 g18 g19 g20 s21 g22 g23 g24 s25 s26 s27 s28 g29 g30 g31 g32 g33, ai_ cy g5 40 f5, ai_ cy g6 40 f6, ai_ cy g7 40 f7, ai_ cy g8 40 f8, ai_ cy g9 40 f9, az_ cy g10 40 f10, ai_ cy g12 30 f12, ai_ cy g13 30 f13, ai_ cy g14 6000 f14, az_ cy g15 4 f15, ai_ cy g17 4 f17, ai_ cy g18 24 f18, aj_ cy g19 120 f19] hP hD (fun hP hD => ?_)
        refine lv_iconst (v := 0) hx hb dB_3_3_34.1.1.1.2 (by decide) ?_
        rw [hQ]
        exact W.iret (v := 0) hx hb hr (fun t ht hW => ⟨⟨0, (), rfl, trivial, ((-11) : Int32), t2, s4, s11, f5, f6, f7, f8, f9, f10, f12, f13, f14, (by first | with_reducible assumption | omega | assumption), (by first | with_reducible assumption | omega | assumption), (by assumption), (by assumption), (by first | with_reducible assumption | assumption | exact rng_zero (by omega) (by omega) | omega), (by first | with_reducible assumption | assumption | exact rng_zero (by omega) (by omega) | omega), (by first | with_reducible assumption | assumption | exact rng_zero (by omega) (by omega) | omega), (by first | with_reducible assumption | assumption | exact rng_zero (by omega) (by omega) | omega), (by first | with_reducible assumption | assumption | exact rng_zero (by omega) (by omega) | omega), (by first | with_reducible assumption | assumption | exact rng_zero (by omega) (by omega) | omega), (by first | with_reducible assumption | assumption | exact rng_zero (by omega) (by omega) | omega), by rw [ht]; exact hP, hD⟩, hS.F ht⟩) hS.2.2 dB_3_3_34.1.1.2.1
    · exact absurd c_3 (by decide)
  · have e_ := e_.symm
    subst e_
    refine lv_if_ne (tgt := 28) hx hb dB_3_3_33.1.2.1.1 (by decide) (fun c_136 => ?_) (fun c_136 => ?_)
    · exact absurd c_136 (by decide)
    · have _ := c_136
      refine lv_aload_n hx hb dB_3_3_33.1.2.1.2 rfl (lv_at hl 0 rfl) ?_
      refine lv_iconst (v := (-1)) hx hb dB_3_3_33.1.2.2.1 (by decide) ?_
      refine ct_S hP hD hS hA [ob12_0_ mo 0 0 t2 s3 s4 g5 g6 g7 g8 g9 g10 s11 g12 g13 g14 g15 g16 g17 g18 g19 g20 s21 g22 g23 g24 s25 s26 s27 s28 g29 g30 g31 g32 g33] [0] (by decide) rfl (fun hPc hDw hFc hC_ => ?_)
      refine va_calli (va_runV (As := [.int (-1)]) (rest := []) ⟨hx, hb, hml, hown, hts⟩ (c_X12_no l D cy H.size mo g5 g6 g7 g8 g9 g10 g12 g13 g14 g15 g16 g17 g18 g19 g20 g22 g23 g24 g29 g30 g31 g32 g33 (0 : Int32) (0 : Int32) s3 s4 s11 s21 s25 s26 s27 s28 t2 ((-1) : Int32)) (cwV 1 hts gX12_read_X12_no rfl rfl rfl ⟨rfl, hd_X12_no⟩ ⟨Nat.le_of_ble_eq_true rfl, Nat.le_of_ble_eq_true rfl⟩) ⟨bl_, va_recvX hK.1 hP (ci := 12) (q0 := 0) rfl rfl, fun U hU hW => ⟨rfl, by rw [hU], by rw [hU]; exact hPc, kk_mv hW hK, hDw⟩⟩ rfl rfl hl.1 rfl (lv_room (Nat.le_of_ble_eq_true rfl)) dB_3_3_33.1.2.2.2 ⟨Nat.le_of_ble_eq_true rfl, Nat.le_of_ble_eq_true rfl⟩) hS (fun q _ h => hFc q h) hFc (fun r_137 u t H locs ht hvm hw hB hz1 hk1 hS => ?_)
      obtain ⟨n1_138, hP1, hD1⟩ := hB
      rw [ht] at hP1
      obtain ⟨hP, hD⟩ := va_join (wr := [ai_ cy g5 40 f5, ai_ cy g6 40 f6, ai_ cy g7 40 f7, ai_ cy g8 40 f8, ai_ cy g9 40 f9, az_ cy g10 40 f10, ai_ cy g12 30 f12, ai_ cy g13 30 f13, ai_ cy g14 6000 f14, az_ cy g15 4 f15, ai_ cy g17 4 f17, ai_ cy g18 24 f18, aj_ cy g19 120 f19]) (w1 := [ob12_0_ mo 0 n1_138 t2 s3 s4 g5 g6 g7 g8 g9 g10 s11 g12 g13 g14 g15 g16 g17 g18 g19 g20 s21 g22 g23 g24 s25 s26 s27 s28 g29 g30 g31 g32 g33]) hP hD [0] [1, 2, 3, 4, 5, 6, 7, 8, 9, 10, 11, 12, 13] hC_ rfl (by decide +kernel) (by decide +kernel) hk1 hFc hP1 hD1
      refine pd_S hP hD [ob12_0_ mo 0 n1_138 t2 s3 s4 g5 g6 g7 g8 g9 g10 s11 g12 g13 g14 g15 g16 g17 g18 g19 g20 s21 g22 g23 g24 s25 s26 s27 s28 g29 g30 g31 g32 g33, ai_ cy g5 40 f5, ai_ cy g6 40 f6, ai_ cy g7 40 f7, ai_ cy g8 40 f8, ai_ cy g9 40 f9, az_ cy g10 40 f10, ai_ cy g12 30 f12, ai_ cy g13 30 f13, ai_ cy g14 6000 f14, az_ cy g15 4 f15, ai_ cy g17 4 f17, ai_ cy g18 24 f18, aj_ cy g19 120 f19] [13, 0, 1, 2, 3, 4, 5, 6, 7, 8, 9, 10, 11, 12] (by decide +kernel) rfl (fun hP hD => ?_)
      have e_ := hw.symm
      subst e_
      rw [hQ]
      exact W.iret (v := (-1)) hx hb hr (fun t ht hW => ⟨⟨(-1), (), rfl, trivial, n1_138, t2, s4, s11, f5, f6, f7, f8, f9, f10, f12, f13, f14, (by first | with_reducible assumption | omega | assumption), (by first | with_reducible assumption | omega | assumption), (by assumption), (by assumption), (by first | with_reducible assumption | assumption | exact rng_zero (by omega) (by omega) | omega), (by first | with_reducible assumption | assumption | exact rng_zero (by omega) (by omega) | omega), (by first | with_reducible assumption | assumption | exact rng_zero (by omega) (by omega) | omega), (by first | with_reducible assumption | assumption | exact rng_zero (by omega) (by omega) | omega), (by first | with_reducible assumption | assumption | exact rng_zero (by omega) (by omega) | omega), (by first | with_reducible assumption | assumption | exact rng_zero (by omega) (by omega) | omega), (by first | with_reducible assumption | assumption | exact rng_zero (by omega) (by omega) | omega), by rw [ht]; exact hP, hD⟩, hS.F ht⟩) hS.2.2 dB_3_3_33.2.1.1.1
end

section
/-! ===== the nets that are remembered: made one by one, used again ===== -/
/-- the six cells of the k-th -/
noncomputable def pnet (cy : Nat → ClassId) (pa : Nat → Nat → Nat) (pv : Nat → Nat → Int32) (pg : Nat → Nat → Nat → Int32) (k : Nat) : va_W := [(pa k 0, .inr (3, [.int (pv k 0), .int (pv k 1), .ref (pa k 1), .ref (pa k 2), .ref (pa k 3), .ref (pa k 4), .ref (pa k 5)])), (pa k 1, .inl (cy 0, 40, .inl (pg k 1))), (pa k 2, .inl (cy 0, 40, .inl (pg k 2))), (pa k 3, .inl (cy 0, 40, .inl (pg k 3))), (pa k 4, .inl (cy 0, 40, .inl (pg k 4))), (pa k 5, .inl (cy 0, 40, .inl (pg k 5)))]
/-- those from k on, n of them -/
noncomputable def pls (cy : Nat → ClassId) (pa : Nat → Nat → Nat) (pv : Nat → Nat → Int32) (pg : Nat → Nat → Nat → Int32) : Nat → Nat → va_W
  | _, 0 => []
  | k, n + 1 => pnet cy pa pv pg k ++ pls cy pa pv pg (k + 1) n
noncomputable def pool (cy : Nat → ClassId) (pa : Nat → Nat → Nat) (pv : Nat → Nat → Int32) (pg : Nat → Nat → Nat → Int32) (m : Nat) : va_W := pls cy pa pv pg 0 m
/-- all but the k-th -/
noncomputable def prest (cy : Nat → ClassId) (pa : Nat → Nat → Nat) (pv : Nat → Nat → Int32) (pg : Nat → Nat → Nat → Int32) (m k : Nat) : va_W := pls cy pa pv pg (k + 1) (m - k - 1) ++ pls cy pa pv pg 0 k
section POOL
variable {cy : Nat → ClassId} {pa pa2 : Nat → Nat → Nat} {pv pv2 : Nat → Nat → Int32} {pg pg2 : Nat → Nat → Nat → Int32} {X : va_W} {D : va_G} {cl : List vw_C} {H : Heap} {A : Nat → Prop}
theorem pls_app : ∀ (a b k : Nat), pls cy pa pv pg k (a + b) = pls cy pa pv pg k a ++ pls cy pa pv pg (k + a) b
  | 0, b, k => by
    rw [Nat.zero_add]
    rfl
  | a + 1, b, k => by
    rw [show a + 1 + b = (a + b) + 1 by omega]
    show pnet cy pa pv pg k ++ pls cy pa pv pg (k + 1) (a + b) = (pnet cy pa pv pg k ++ pls cy pa pv pg (k + 1) a) ++ pls cy pa pv pg (k + (a + 1)) b
    rw [pls_app a b (k + 1), List.append_assoc, show k + 1 + a = k + (a + 1) by omega]
theorem pls_cg : ∀ (n k : Nat), (∀ i : Nat, k ≤ i → i < k + n → pa2 i = pa i ∧ pv2 i = pv i ∧ pg2 i = pg i) → pls cy pa2 pv2 pg2 k n = pls cy pa pv pg k n
  | 0, _, _ => rfl
  | n + 1, k, h => by
    show pnet cy pa2 pv2 pg2 k ++ pls cy pa2 pv2 pg2 (k + 1) n = pnet cy pa pv pg k ++ pls cy pa pv pg (k + 1) n
    rw [pls_cg n (k + 1) (fun i h1 h2 => h i (by omega) (by omega))]
    have a := h k (by omega) (by omega)
    unfold pnet
    rw [a.1, a.2.1, a.2.2]
theorem pool_split {m k : Nat} (hk : k < m) : pool cy pa pv pg m = pls cy pa pv pg 0 k ++ (pnet cy pa pv pg k ++ pls cy pa pv pg (k + 1) (m - k - 1)) := by
  have e : m = k + (m - k) := by omega
  unfold pool
  rw [e, pls_app k (m - k) 0, Nat.zero_add, ← e]
  have e2 : m - k = (m - k - 1) + 1 := by omega
  rw [e2]
  rfl
theorem foc_P {m k : Nat} (hk : k < m) (h : va_P D cl (X ++ pool cy pa pv pg m) H) : va_P D cl ((X ++ pnet cy pa pv pg k) ++ prest cy pa pv pg m k) H := by
  rw [pool_split hk, ← List.append_assoc] at h
  have h2 := h.swap
  unfold prest
  rw [List.append_assoc, ← List.append_assoc (pnet cy pa pv pg k), ← List.append_assoc]
  exact h2
theorem foc_D {m k : Nat} (hk : k < m) (h : va_D A (X ++ pool cy pa pv pg m)) : va_D A ((X ++ pnet cy pa pv pg k) ++ prest cy pa pv pg m k) := by
  rw [pool_split hk, ← List.append_assoc] at h
  have h2 := h.swap
  unfold prest
  rw [List.append_assoc, ← List.append_assoc (pnet cy pa pv pg k), ← List.append_assoc]
  exact h2
theorem unf_P {m k : Nat} (hk : k < m) (hc : ∀ i : Nat, i ≠ k → pv2 i = pv i ∧ pg2 i = pg i) (h : va_P D cl ((X ++ pnet cy pa pv2 pg2 k) ++ prest cy pa pv pg m k) H) : va_P D cl (X ++ pool cy pa pv2 pg2 m) H := by
  have e : prest cy pa pv pg m k = prest cy pa pv2 pg2 m k := by
    unfold prest
    rw [pls_cg (m - k - 1) (k + 1) (pa2 := pa) (pv2 := pv2) (pg2 := pg2) (fun i h1 h2 => ⟨rfl, hc i (by omega)⟩), pls_cg k 0 (pa2 := pa) (pv2 := pv2) (pg2 := pg2) (fun i h1 h2 => ⟨rfl, hc i (by omega)⟩)]
  rw [e] at h
  unfold prest at h
  rw [List.append_assoc, ← List.append_assoc (pnet cy pa pv2 pg2 k), ← List.append_assoc] at h
  have h2 := h.swap
  rw [pool_split hk, ← List.append_assoc]
  exact h2
theorem unf_D {m k : Nat} (hk : k < m) (hc : ∀ i : Nat, i ≠ k → pv2 i = pv i ∧ pg2 i = pg i) (h : va_D A ((X ++ pnet cy pa pv2 pg2 k) ++ prest cy pa pv pg m k)) : va_D A (X ++ pool cy pa pv2 pg2 m) := by
  have e : prest cy pa pv pg m k = prest cy pa pv2 pg2 m k := by
    unfold prest
    rw [pls_cg (m - k - 1) (k + 1) (pa2 := pa) (pv2 := pv2) (pg2 := pg2) (fun i h1 h2 => ⟨rfl, hc i (by omega)⟩), pls_cg k 0 (pa2 := pa) (pv2 := pv2) (pg2 := pg2) (fun i h1 h2 => ⟨rfl, hc i (by omega)⟩)]
  rw [e] at h
  unfold prest at h
  rw [List.append_assoc, ← List.append_assoc (pnet cy pa pv2 pg2 k), ← List.append_assoc] at h
  have h2 := h.swap
  rw [pool_split hk, ← List.append_assoc]
  exact h2
theorem pool_more {m : Nat} (hc : ∀ i : Nat, i < m → pa2 i = pa i ∧ pv2 i = pv i ∧ pg2 i = pg i) : pool cy pa2 pv2 pg2 (m + 1) = pool cy pa pv pg m ++ pnet cy pa2 pv2 pg2 m := by
  unfold pool
  rw [pls_app m 1 0, pls_cg m 0 (fun i h1 h2 => hc i (by omega)), Nat.zero_add]
  show _ ++ (pnet cy pa2 pv2 pg2 m ++ []) = _
  rw [List.append_nil]
theorem more_P {m : Nat} (hc : ∀ i : Nat, i < m → pa2 i = pa i ∧ pv2 i = pv i ∧ pg2 i = pg i) (h : va_P D cl ((X ++ pnet cy pa2 pv2 pg2 m) ++ pool cy pa pv pg m) H) : va_P D cl (X ++ pool cy pa2 pv2 pg2 (m + 1)) H := by
  rw [pool_more hc, ← List.append_assoc]
  exact h.swap
theorem more_D {m : Nat} (hc : ∀ i : Nat, i < m → pa2 i = pa i ∧ pv2 i = pv i ∧ pg2 i = pg i) (h : va_D A ((X ++ pnet cy pa2 pv2 pg2 m) ++ pool cy pa pv pg m)) : va_D A (X ++ pool cy pa2 pv2 pg2 (m + 1)) := by
  rw [pool_more hc, ← List.append_assoc]
  exact h.swap
end POOL
/-- the row of the nets that are remembered -/
noncomputable def pst (pa : Nat → Nat → Nat) (m : Nat) : Nat → Option Nat := fun k => if k < m then some (pa k 0) else none
theorem pst_some {pa : Nat → Nat → Nat} {m k : Nat} (h : k < m) : va_rf (pst pa m k) = .ref (pa k 0) := by
  unfold pst
  rw [if_pos h]
  rfl
theorem pst_none {pa : Nat → Nat → Nat} {m k : Nat} (h : ¬ k < m) : va_rf (pst pa m k) = .null := by
  unfold pst
  rw [if_neg h]
  rfl
theorem pst_more {pa pa2 : Nat → Nat → Nat} {m k q : Nat} (ek : k = m) (hq : pa2 m 0 = q) (hc : ∀ i : Nat, i < m → pa2 i = pa i) : va_up (pst pa m) k (some q) = pst pa2 (m + 1) := by
  subst ek
  funext i
  unfold pst
  by_cases e : i = k
  · subst e
    rw [va_up_self, if_pos (by omega), hq]
  · rw [va_up_ne _ _ e]
    show (if i < k then some (pa i 0) else none) = if i < k + 1 then some (pa2 i 0) else none
    by_cases h : i < k
    · rw [if_pos h, if_pos (by omega), hc i h]
    · rw [if_neg h, if_neg (by omega)]
/-- a net's numbers are as they may be -/
noncomputable def nok (vp vn : Int32) (fk fs fe fw fp : Nat → Int32) : Prop := (0 ≤ vp.toInt ∧ vp.toInt ≤ 12) ∧ (0 ≤ vn.toInt ∧ vn.toInt ≤ 40) ∧ rng fk 40 0 4 ∧ prng fs fe 40 ∧ rng fw 40 0 2000 ∧ rng fp 40 0 100
noncomputable def pok (pv : Nat → Nat → Int32) (pg : Nat → Nat → Nat → Int32) (m : Nat) : Prop := ∀ k : Nat, k < m → nok (pv k 0) (pv k 1) (pg k 1) (pg k 2) (pg k 3) (pg k 4) (pg k 5)
/-- first and held of the ring, and how many are made -/
noncomputable def rok (pf ph : Int32) (m : Nat) : Prop := (0 ≤ pf.toInt ∧ pf.toInt ≤ 29) ∧ (0 ≤ ph.toInt ∧ ph.toInt ≤ 30) ∧ m ≤ 30 ∧ ph.toInt ≤ m ∧ (pf.toInt = 0 ∨ m = 30)
noncomputable def qn2 (a b : Int32) : Nat → Int32 := fun i => if i = 0 then a else b
noncomputable def qn5 (f1 f2 f3 f4 f5 : Nat → Int32) : Nat → Nat → Int32 := fun i => if i = 1 then f1 else if i = 2 then f2 else if i = 3 then f3 else if i = 4 then f4 else f5
noncomputable def qn6 (a b c d e f : Nat) : Nat → Nat := fun i => if i = 0 then a else if i = 1 then b else if i = 2 then c else if i = 3 then d else if i = 4 then e else f
theorem pok_st {pv : Nat → Nat → Int32} {pg : Nat → Nat → Nat → Int32} {m m2 k : Nat} {vp vn : Int32} {f1 f2 f3 f4 f5 : Nat → Int32} (h : pok pv pg m) (hm : m2 ≤ m ∨ (m2 = m + 1 ∧ k = m)) (hn : nok vp vn f1 f2 f3 f4 f5) : pok (va_up pv k (qn2 vp vn)) (va_up pg k (qn5 f1 f2 f3 f4 f5)) m2 := fun j hj => by
  by_cases e : j = k
  · subst e
    rw [va_up_self, va_up_self]
    exact hn
  · rw [va_up_ne _ _ e, va_up_ne _ _ e]
    exact h j (by omega)
theorem prng_zero {n : Nat} : prng (fun _ => 0) (fun _ => 0) n := fun j _ => by
  have z : (0 : Int32).toInt = 0 := by decide
  show (0 : Int32).toInt = -9 ∨ (0 ≤ (0 : Int32).toInt ∧ (0 : Int32).toInt ≤ 11 ∧ 0 ≤ (0 : Int32).toInt ∧ (0 : Int32).toInt ≤ 11)
  omega
theorem rem30 {x : Int32} (h : 0 ≤ x.toInt) : (x - x / 30 * 30).toInt = x.toInt % 30 := by
  obtain ⟨j, hj, rfl⟩ := nI_of (x := x) (fun h9 => by
    have := Int32.lt_iff_toInt_lt.mp h9
    have z : (0 : Int32).toInt = 0 := by decide
    omega)
  have e : (30 : Int32) = nI 30 := rfl
  rw [e, pk_rem hj (by decide) (by decide), nI_toInt (by omega), nI_toInt hj]
  omega

set_option maxHeartbeats 4000000 in
set_option maxRecDepth 100000 in
theorem c_X3_init (l : Launch) (D : va_G) (cy : Nat → ClassId) (sz : Nat) (h0 : Nat) : Met l yX3_init wsX3_init ({ frames := 1, cells := 5, slots := 200, locals := 12 }) (va_Pc [.ref h0] (fun U => U.heap.size = sz ∧ va_P D vwCl [ob3_1_ h0 0 0] U.heap ∧ kk_ D cy U ∧ va_D (fun _ => True) [ob3_1_ h0 0 0])) (va_Qv (fun (_ : Unit) => True) (fun (_ : Unit) (t : State) => ∃ (n1 : Nat), ∃ (n2 : Nat), ∃ (n3 : Nat), ∃ (n4 : Nat), ∃ (n5 : Nat), va_P D vwCl [ob3_0_ h0 0 0 n1 n2 n3 n4 n5, ai_ cy n1 40 (fun _ => 0), ai_ cy n2 40 (fun _ => 0), ai_ cy n3 40 (fun _ => 0), ai_ cy n4 40 (fun _ => 0), ai_ cy n5 40 (fun _ => 0)] t.heap ∧ va_D (va_A [ob3_1_ h0 0 0] sz) [ob3_0_ h0 0 0 n1 n2 n3 n4 n5, ai_ cy n1 40 (fun _ => 0), ai_ cy n2 40 (fun _ => 0), ai_ cy n3 40 (fun _ => 0), ai_ cy n4 40 (fun _ => 0), ai_ cy n5 40 (fun _ => 0)]) (va_A [ob3_1_ h0 0 0] sz)) 5 200 (va_A [ob3_1_ h0 0 0] sz) := by
  refine ofQ (cc := cX3_init) (maxL := 1) (ret := none) (by decide) rfl ?_
  intro p e s m args below meth c s₁ Q hQ B hml hv
  obtain ⟨rfl, hsz, hP, hK, hD0⟩ := hv
  have hx := B.exec
  have hb := B.bytes
  have hr := B.returns
  have hts := atoms_spec (ws := wsX3_init) B.pre
  have hown : s.vm.findClass RX3 = some m.cls := by have h_ := findClass_of_methodNamed B.named; exact h_
  have hlocks := B.notSynchronized
  have hin : meth.name = "<init>" := (name_of_methodNamed B.named B.method).1
  subst hsz
  have hD := hD0.self (sz := s.heap.size)
  generalize hAe : va_A [ob3_1_ h0 0 0] s.heap.size = A at hD hQ
  have hA : ∀ q : Nat, s.heap.size ≤ q → A q := fun q h => by rw [← hAe]; exact Or.inr h
  have hS : va_S A s.heap s.heap [] := va_S.rf
  have hl := lv_entry ([.ref h0]) (n := 1) (Nat.le_of_ble_eq_true rfl)
  rw [lg_entry_eq]
  generalize (lg_sl ([.ref h0]) ++ List.replicate (1 - (lg_sl ([.ref h0])).length) Slot.unset).toArray = ls at hl ⊢
  have hl : lv_has ls 1 [(0, .ref h0)] := hl
  refine lv_aload_n hx hb dB_36_1_2.2.1.1.2 rfl (lv_at hl 0 rfl) ?_
  refine W.objInit hx hb hown (hts (.methodLink RX3 3 objectInit) (List.mem_of_getElem? (i := 1) rfl)) (hts (.instanceMethod objectInit) (List.mem_of_getElem? (i := 2) rfl)) (hts (.code objectInit ⟨#[0xb1]⟩ 1 none) (List.mem_of_getElem? (i := 3) rfl)) rfl (by rw [hml]; exact hl.1) rfl dB_36_1_2.2.1.2.1 (Nat.le_of_ble_eq_true rfl) (Nat.le_of_ble_eq_true rfl) ?_
  refine W.eq (g2 := F0 m 4 ls []) rfl ?_
  refine lv_aload_n hx hb dB_36_1_2.2.1.2.2 rfl (lv_at hl 0 rfl) ?_
  refine lv_iconst (v := 0) hx hb dB_36_1_2.2.2.1.1 (by decide) ?_
  refine va_put (ci := 3) (v := .int 0) (ty := .int) (C := RX3) (T := TX3) (N := 7) hx hb hts (fun _ h => List.mem_cons_of_mem _ (List.mem_append_right _ h)) tyX3 tyX3_ok nmX3 hown hK.1 hP hD hS 0 rfl rfl 0 (by decide) (hts (.fieldLink RX3 9 "CutAtlas$Net" "places" "I") (List.mem_of_getElem? (i := 4) rfl)) (fun _ h9 => h9) rfl (by decide +kernel) rfl rfl (Nat.le_of_ble_eq_true rfl) dB_36_1_2.2.2.1.2 (fun H locs hP hD hS => ?_)
  refine pd_K [ob3_1_ h0 0 0] hP hD (fun hP hD => ?_)
  refine lv_aload_n hx hb dB_36_1_2.2.2.2.1 rfl (lv_at hl 0 rfl) ?_
  refine lv_iconst (v := 0) hx hb dB_36_1_2.2.2.2.2 (by decide) ?_
  refine va_put (ci := 3) (v := .int 0) (ty := .int) (C := RX3) (T := TX3) (N := 7) hx hb hts (fun _ h => List.mem_cons_of_mem _ (List.mem_append_right _ h)) tyX3 tyX3_ok nmX3 hown hK.1 hP hD hS 0 rfl rfl 1 (by decide) (hts (.fieldLink RX3 15 "CutAtlas$Net" "lines" "I") (List.mem_of_getElem? (i := 5) rfl)) (fun _ h9 => h9) rfl (by decide +kernel) rfl rfl (Nat.le_of_ble_eq_true rfl) dB_36_1_3.1.1.1.1 (fun H locs hP hD hS => ?_)
  refine pd_K [ob3_1_ h0 0 0] hP hD (fun hP hD => ?_)
  refine lv_aload_n hx hb dB_36_1_3.1.1.1.2 rfl (lv_at hl 0 rfl) ?_
  refine lv_bipush (v := 40) hx hb dB_36_1_3.1.1.2.1 (by decide) ?_
  refine nw_a (a0 := (40, .inl (fun _ => 0))) (ty := .int) hx hb (hts (.arrayClass .int) (List.mem_of_getElem? (i := 6) rfl)) rfl hK.1 0 rfl (fun _ h => by cases h) hP hD hS hA (fun _ => rfl) (by decide) (by decide) (by decide) (Nat.le_of_ble_eq_true rfl) (Nat.le_of_ble_eq_true rfl) dB_36_1_3.1.1.2.2 (fun q_1 H hP hD hS => ?_)
  refine pd_K [ob3_1_ h0 0 0, ai_ cy q_1 40 (fun _ => 0)] hP hD (fun hP hD => ?_)
  refine va_putF (ci := 3) (v := .ref q_1) (ty := (tyX3 2)) (C := RX3) (T := TX3) (N := 7) hx hb hts (fun _ h => List.mem_cons_of_mem _ (List.mem_append_right _ h)) tyX3 tyX3_ok nmX3 hown hK.1 hP hD hS 0 rfl rfl 2 (by decide) (hts (.fieldLink RX3 18 "CutAtlas$Net" "kinds" "[I") (List.mem_of_getElem? (i := 7) rfl)) (fun _ h9 => h9) rfl hin rfl (by decide +kernel) rfl rfl (Nat.le_of_ble_eq_true rfl) dB_36_1_3.1.2.1.1 (fun H locs hP hD hS => ?_)
  refine pd_K [ob3_2_ h0 0 0 q_1, ai_ cy q_1 40 (fun _ => 0)] hP hD (fun hP hD => ?_)
  refine lv_aload_n hx hb dB_36_1_3.1.2.1.2 rfl (lv_at hl 0 rfl) ?_
  refine lv_bipush (v := 40) hx hb dB_36_1_3.1.2.2.1 (by decide) ?_
  refine nw_a (a0 := (40, .inl (fun _ => 0))) (ty := .int) hx hb (hts (.arrayClass .int) (List.mem_of_getElem? (i := 6) rfl)) rfl hK.1 0 rfl (fun _ h => by cases h) hP hD hS hA (fun _ => rfl) (by decide) (by decide) (by decide) (Nat.le_of_ble_eq_true rfl) (Nat.le_of_ble_eq_true rfl) dB_36_1_3.1.2.2.2 (fun q_2 H hP hD hS => ?_)
  refine pd_K [ob3_2_ h0 0 0 q_1, ai_ cy q_1 40 (fun _ => 0), ai_ cy q_2 40 (fun _ => 0)] hP hD (fun hP hD => ?_)
  refine va_putF (ci := 3) (v := .ref q_2) (ty := (tyX3 3)) (C := RX3) (T := TX3) (N := 7) hx hb hts (fun _ h => List.mem_cons_of_mem _ (List.mem_append_right _ h)) tyX3 tyX3_ok nmX3 hown hK.1 hP hD hS 0 rfl rfl 3 (by decide) (hts (.fieldLink RX3 22 "CutAtlas$Net" "starts" "[I") (List.mem_of_getElem? (i := 8) rfl)) (fun _ h9 => h9) rfl hin rfl (by decide +kernel) rfl rfl (Nat.le_of_ble_eq_true rfl) dB_36_1_3.2.1.1.1 (fun H locs hP hD hS => ?_)
  refine pd_K [ob3_3_ h0 0 0 q_1 q_2, ai_ cy q_1 40 (fun _ => 0), ai_ cy q_2 40 (fun _ => 0)] hP hD (fun hP hD => ?_)
  refine lv_aload_n hx hb dB_36_1_3.2.1.1.2 rfl (lv_at hl 0 rfl) ?_
  refine lv_bipush (v := 40) hx hb dB_36_1_3.2.1.2.1 (by decide) ?_
  refine nw_a (a0 := (40, .inl (fun _ => 0))) (ty := .int) hx hb (hts (.arrayClass .int) (List.mem_of_getElem? (i := 6) rfl)) rfl hK.1 0 rfl (fun _ h => by cases h) hP hD hS hA (fun _ => rfl) (by decide) (by decide) (by decide) (Nat.le_of_ble_eq_true rfl) (Nat.le_of_ble_eq_true rfl) dB_36_1_3.2.1.2.2 (fun q_3 H hP hD hS => ?_)
  refine pd_K [ob3_3_ h0 0 0 q_1 q_2, ai_ cy q_1 40 (fun _ => 0), ai_ cy q_2 40 (fun _ => 0), ai_ cy q_3 40 (fun _ => 0)] hP hD (fun hP hD => ?_)
  refine va_putF (ci := 3) (v := .ref q_3) (ty := (tyX3 4)) (C := RX3) (T := TX3) (N := 7) hx hb hts (fun _ h => List.mem_cons_of_mem _ (List.mem_append_right _ h)) tyX3 tyX3_ok nmX3 hown hK.1 hP hD hS 0 rfl rfl 4 (by decide) (hts (.fieldLink RX3 25 "CutAtlas$Net" "ends" "[I") (List.mem_of_getElem? (i := 9) rfl)) (fun _ h9 => h9) rfl hin rfl (by decide +kernel) rfl rfl (Nat.le_of_ble_eq_true rfl) dB_36_1_3.2.2.1.1 (fun H locs hP hD hS => ?_)
  refine pd_K [ob3_4_ h0 0 0 q_1 q_2 q_3, ai_ cy q_1 40 (fun _ => 0), ai_ cy q_2 40 (fun _ => 0), ai_ cy q_3 40 (fun _ => 0)] hP hD (fun hP hD => ?_)
  refine lv_aload_n hx hb dB_36_1_3.2.2.1.2 rfl (lv_at hl 0 rfl) ?_
  refine lv_bipush (v := 40) hx hb dB_36_1_3.2.2.2.1 (by decide) ?_
  refine nw_a (a0 := (40, .inl (fun _ => 0))) (ty := .int) hx hb (hts (.arrayClass .int) (List.mem_of_getElem? (i := 6) rfl)) rfl hK.1 0 rfl (fun _ h => by cases h) hP hD hS hA (fun _ => rfl) (by decide) (by decide) (by decide) (Nat.le_of_ble_eq_true rfl) (Nat.le_of_ble_eq_true rfl) dB_36_1_3.2.2.2.2 (fun q_4 H hP hD hS => ?_)
  refine pd_K [ob3_4_ h0 0 0 q_1 q_2 q_3, ai_ cy q_1 40 (fun _ => 0), ai_ cy q_2 40 (fun _ => 0), ai_ cy q_3 40 (fun _ => 0), ai_ cy q_4 40 (fun _ => 0)] hP hD (fun hP hD => ?_)
  refine va_putF (ci := 3) (v := .ref q_4) (ty := (tyX3 5)) (C := RX3) (T := TX3) (N := 7) hx hb hts (fun _ h => List.mem_cons_of_mem _ (List.mem_append_right _ h)) tyX3 tyX3_ok nmX3 hown hK.1 hP hD hS 0 rfl rfl 5 (by decide) (hts (.fieldLink RX3 28 "CutAtlas$Net" "widths" "[I") (List.mem_of_getElem? (i := 10) rfl)) (fun _ h9 => h9) rfl hin rfl (by decide +kernel) rfl rfl (Nat.le_of_ble_eq_true rfl) dB_36_1_4.1.1.1.1 (fun H locs hP hD hS => ?_)
  refine pd_K [ob3_5_ h0 0 0 q_1 q_2 q_3 q_4, ai_ cy q_1 40 (fun _ => 0), ai_ cy q_2 40 (fun _ => 0), ai_ cy q_3 40 (fun _ => 0), ai_ cy q_4 40 (fun _ => 0)] hP hD (fun hP hD => ?_)
  refine lv_aload_n hx hb dB_36_1_4.1.1.1.2 rfl (lv_at hl 0 rfl) ?_
  refine lv_bipush (v := 40) hx hb dB_36_1_4.1.1.2.1 (by decide) ?_
  refine nw_a (a0 := (40, .inl (fun _ => 0))) (ty := .int) hx hb (hts (.arrayClass .int) (List.mem_of_getElem? (i := 6) rfl)) rfl hK.1 0 rfl (fun _ h => by cases h) hP hD hS hA (fun _ => rfl) (by decide) (by decide) (by decide) (Nat.le_of_ble_eq_true rfl) (Nat.le_of_ble_eq_true rfl) dB_36_1_4.1.1.2.2 (fun q_5 H hP hD hS => ?_)
  refine pd_K [ob3_5_ h0 0 0 q_1 q_2 q_3 q_4, ai_ cy q_1 40 (fun _ => 0), ai_ cy q_2 40 (fun _ => 0), ai_ cy q_3 40 (fun _ => 0), ai_ cy q_4 40 (fun _ => 0), ai_ cy q_5 40 (fun _ => 0)] hP hD (fun hP hD => ?_)
  refine va_putF (ci := 3) (v := .ref q_5) (ty := (tyX3 6)) (C := RX3) (T := TX3) (N := 7) hx hb hts (fun _ h => List.mem_cons_of_mem _ (List.mem_append_right _ h)) tyX3 tyX3_ok nmX3 hown hK.1 hP hD hS 0 rfl rfl 6 (by decide) (hts (.fieldLink RX3 31 "CutAtlas$Net" "prices" "[I") (List.mem_of_getElem? (i := 11) rfl)) (fun _ h9 => h9) rfl hin rfl (by decide +kernel) rfl rfl (Nat.le_of_ble_eq_true rfl) dB_36_1_4.1.2.1.1 (fun H locs hP hD hS => ?_)
  refine pd_K [ob3_0_ h0 0 0 q_1 q_2 q_3 q_4 q_5, ai_ cy q_1 40 (fun _ => 0), ai_ cy q_2 40 (fun _ => 0), ai_ cy q_3 40 (fun _ => 0), ai_ cy q_4 40 (fun _ => 0), ai_ cy q_5 40 (fun _ => 0)] hP hD (fun hP hD => ?_)
  rw [hQ]
  exact W.vret hx hb hr (fun t ht hW => ⟨⟨(), rfl, trivial, q_1, q_2, q_3, q_4, q_5, by rw [ht]; exact hP, hD⟩, hS.F ht⟩) hS.2.2 dB_36_1_4.1.2.1.2
end
