section
set_option maxHeartbeats 4000000 in
set_option maxRecDepth 100000 in
theorem c_X12_adds2 (l : Launch) (D : va_G) (cy : Nat → ClassId) (sz : Nat) (mo : Nat) (g5 : Nat) (g6 : Nat) (g7 : Nat) (g8 : Nat) (g9 : Nat) (g10 : Nat) (g12 : Nat) (g13 : Nat) (g14 : Nat) (g15 : Nat) (g16 : Nat) (g17 : Nat) (g18 : Nat) (g19 : Nat) (g20 : Nat) (g22 : Nat) (g23 : Nat) (g24 : Nat) (g29 : Nat) (g30 : Nat) (g31 : Nat) (g32 : Nat) (g33 : Nat) (s0 : Int32) (s1 : Int32) (s3 : Int32) (s4 : Int32) (s11 : Int32) (s21 : Int32) (s25 : Int32) (s26 : Int32) (s27 : Int32) (s28 : Int32) (t2 : Int64) (f5 : Nat → Int32) (f6 : Nat → Int32) (f7 : Nat → Int32) (f8 : Nat → Int32) (f9 : Nat → Int32) (f10 : Nat → Int32) (a1 : Int32) (a2 : Int32) (a3 : Int32) (a4 : Int32) (a5 : Int32) (hN : 0 ≤ s4.toInt ∧ s4.toInt < 40) (q2 : 0 ≤ a2.toInt ∧ a2.toInt ≤ 11) (q3 : 0 ≤ a3.toInt ∧ a3.toInt ≤ 11) (q4 : 0 ≤ a4.toInt ∧ a4.toInt ≤ 1000) (q5 : 0 ≤ a5.toInt ∧ a5.toInt ≤ 100) (r_f6 : rng f6 40 (0) (11)) (r_f7 : rng f7 40 (0) (11)) (r_f8 : rng f8 40 (0) (2000)) (r_f9 : rng f9 40 (0) (100)) : Met l yX12_adds wsX12_adds ({ frames := 0, cells := 0, slots := 0, locals := 0 }) (va_Pc [.ref mo, .int a1, .int a2, .int a3, .int a4, .int a5] (fun U => U.heap.size = sz ∧ va_P D vwCl [ob12_0_ mo s0 s1 t2 s3 s4 g5 g6 g7 g8 g9 g10 s11 g12 g13 g14 g15 g16 g17 g18 g19 g20 s21 g22 g23 g24 s25 s26 s27 s28 g29 g30 g31 g32 g33, ai_ cy g5 40 f5, ai_ cy g6 40 f6, ai_ cy g7 40 f7, ai_ cy g8 40 f8, ai_ cy g9 40 f9, az_ cy g10 40 f10] U.heap ∧ kk_ D cy U ∧ va_D (fun _ => True) [ob12_0_ mo s0 s1 t2 s3 s4 g5 g6 g7 g8 g9 g10 s11 g12 g13 g14 g15 g16 g17 g18 g19 g20 s21 g22 g23 g24 s25 s26 s27 s28 g29 g30 g31 g32 g33, ai_ cy g5 40 f5, ai_ cy g6 40 f6, ai_ cy g7 40 f7, ai_ cy g8 40 f8, ai_ cy g9 40 f9, az_ cy g10 40 f10])) (va_Qv (fun (_ : Unit) => True) (fun (_ : Unit) (t : State) => ∃ (n2 : Int64), ∃ (n4 : Int32), ∃ (e5 : Nat → Int32), ∃ (e6 : Nat → Int32), ∃ (e7 : Nat → Int32), ∃ (e8 : Nat → Int32), ∃ (e9 : Nat → Int32), ∃ (e10 : Nat → Int32), (n4.toInt = s4.toInt + 1) ∧ (e5 = upd f5 s4.toNatClampNeg a1) ∧ (e6 = upd f6 s4.toNatClampNeg a2) ∧ (e7 = upd f7 s4.toNatClampNeg a3) ∧ (a1.toInt = 4 ∧ e8 = upd f8 s4.toNatClampNeg 0 ∨ a1.toInt ≠ 4 ∧ e8 = upd f8 s4.toNatClampNeg a4) ∧ (e9 = upd f9 s4.toNatClampNeg a5) ∧ (e10 = upd f10 s4.toNatClampNeg (vp_nar .boolean 0)) ∧ (a1.toInt = 4 ∧ n2 = t2 + 1000000 ∨ a1.toInt ≠ 4 ∧ n2 = t2 + 0) ∧ (rng e6 40 (0) (11)) ∧ (rng e7 40 (0) (11)) ∧ (rng e8 40 (0) (2000)) ∧ (rng e9 40 (0) (100)) ∧ va_P D vwCl [ob12_0_ mo s0 s1 n2 s3 n4 g5 g6 g7 g8 g9 g10 s11 g12 g13 g14 g15 g16 g17 g18 g19 g20 s21 g22 g23 g24 s25 s26 s27 s28 g29 g30 g31 g32 g33, ai_ cy g5 40 e5, ai_ cy g6 40 e6, ai_ cy g7 40 e7, ai_ cy g8 40 e8, ai_ cy g9 40 e9, az_ cy g10 40 e10] t.heap ∧ va_D (va_A [ob12_0_ mo s0 s1 t2 s3 s4 g5 g6 g7 g8 g9 g10 s11 g12 g13 g14 g15 g16 g17 g18 g19 g20 s21 g22 g23 g24 s25 s26 s27 s28 g29 g30 g31 g32 g33, ai_ cy g5 40 f5, ai_ cy g6 40 f6, ai_ cy g7 40 f7, ai_ cy g8 40 f8, ai_ cy g9 40 f9, az_ cy g10 40 f10] sz) [ob12_0_ mo s0 s1 n2 s3 n4 g5 g6 g7 g8 g9 g10 s11 g12 g13 g14 g15 g16 g17 g18 g19 g20 s21 g22 g23 g24 s25 s26 s27 s28 g29 g30 g31 g32 g33, ai_ cy g5 40 e5, ai_ cy g6 40 e6, ai_ cy g7 40 e7, ai_ cy g8 40 e8, ai_ cy g9 40 e9, az_ cy g10 40 e10]) (va_A [ob12_0_ mo s0 s1 t2 s3 s4 g5 g6 g7 g8 g9 g10 s11 g12 g13 g14 g15 g16 g17 g18 g19 g20 s21 g22 g23 g24 s25 s26 s27 s28 g29 g30 g31 g32 g33, ai_ cy g5 40 f5, ai_ cy g6 40 f6, ai_ cy g7 40 f7, ai_ cy g8 40 f8, ai_ cy g9 40 f9, az_ cy g10 40 f10] sz)) 0 0 (va_A [ob12_0_ mo s0 s1 t2 s3 s4 g5 g6 g7 g8 g9 g10 s11 g12 g13 g14 g15 g16 g17 g18 g19 g20 s21 g22 g23 g24 s25 s26 s27 s28 g29 g30 g31 g32 g33, ai_ cy g5 40 f5, ai_ cy g6 40 f6, ai_ cy g7 40 f7, ai_ cy g8 40 f8, ai_ cy g9 40 f9, az_ cy g10 40 f10] sz) := by
  refine ofQ (cc := cX12_adds) (maxL := 6) (ret := none) (by decide) rfl ?_
  intro p e s m args below meth c s₁ Q hQ B hml hv
  obtain ⟨rfl, hsz, hP, hK, hD0⟩ := hv
  have hx := B.exec
  have hb := B.bytes
  have hr := B.returns
  have hts := atoms_spec (ws := wsX12_adds) B.pre
  have hown : s.vm.findClass RX12 = some m.cls := by have h_ := findClass_of_methodNamed B.named; exact h_
  have hlocks := B.notSynchronized
  subst hsz
  have hD := hD0.self (sz := s.heap.size)
  generalize hAe : va_A [ob12_0_ mo s0 s1 t2 s3 s4 g5 g6 g7 g8 g9 g10 s11 g12 g13 g14 g15 g16 g17 g18 g19 g20 s21 g22 g23 g24 s25 s26 s27 s28 g29 g30 g31 g32 g33, ai_ cy g5 40 f5, ai_ cy g6 40 f6, ai_ cy g7 40 f7, ai_ cy g8 40 f8, ai_ cy g9 40 f9, az_ cy g10 40 f10] s.heap.size = A at hD hQ
  have hA : ∀ q : Nat, s.heap.size ≤ q → A q := fun q h => by rw [← hAe]; exact Or.inr h
  have hS : va_S A s.heap s.heap [] := va_S.rf
  have hl := lv_entry ([.ref mo, .int a1, .int a2, .int a3, .int a4, .int a5]) (n := 6) (Nat.le_of_ble_eq_true rfl)
  rw [lg_entry_eq]
  generalize (lg_sl ([.ref mo, .int a1, .int a2, .int a3, .int a4, .int a5]) ++ List.replicate (6 - (lg_sl ([.ref mo, .int a1, .int a2, .int a3, .int a4, .int a5])).length) Slot.unset).toArray = ls at hl ⊢
  have hl : lv_has ls 6 [(0, .ref mo), (1, .int a1), (2, .int a2), (3, .int a3), (4, .int a4), (5, .int a5)] := hl
  have z0 : (0 : Int32).toInt = 0 := by decide
  have z1 : (1 : Int32).toInt = 1 := by decide
  have z4 : (4 : Int32).toInt = 4 := by decide
  refine lv_aload_n hx hb dB_3_0_23.1.1.1.1 rfl (lv_at hl 0 rfl) ?_
  refine va_get (ci := 12) (v := .ref g5) (C := RX12) (T := TX12) (N := 34) hx hb hts (fun _ h => List.mem_cons_of_mem _ (List.mem_append_right _ h)) hown hK.1 hP 0 rfl rfl 5 (by decide) (hts (.fieldLink RX12 7 "CutAtlasModel" "kind" "[I") (List.mem_of_getElem? (i := 1) rfl)) (fun _ h9 => h9) rfl dB_3_0_23.1.1.1.2 ?_
  refine lv_aload_n hx hb dB_3_0_23.1.1.2.1 rfl (lv_at hl 0 rfl) ?_
  refine va_get (ci := 12) (v := .int s4) (C := RX12) (T := TX12) (N := 34) hx hb hts (fun _ h => List.mem_cons_of_mem _ (List.mem_append_right _ h)) hown hK.1 hP 0 rfl rfl 4 (by decide) (hts (.fieldLink RX12 95 "CutAtlasModel" "lines" "I") (List.mem_of_getElem? (i := 2) rfl)) (fun _ h9 => h9) rfl dB_3_0_23.1.1.2.2 ?_
  refine lv_iload_n hx hb dB_3_0_23.1.2.1.1 rfl (lv_at hl 1 rfl) ?_
  have h_1 : vp_in s4 40 := in_I (by omega) (by omega)
  refine va_iast hx hb hK.1 hP hD hS 1 0 rfl rfl (i := s4) h_1 dB_3_0_23.1.2.1.2 (fun H locs hP hD hS => ?_)
  obtain ⟨f_2, ef_2⟩ : ∃ g : Nat → Int32, g = upd f5 s4.toNatClampNeg a1 := ⟨_, rfl⟩
  refine pd_K (D := D) (cl := vwCl) (H := H) (A := A) [ob12_0_ mo s0 s1 t2 s3 s4 g5 g6 g7 g8 g9 g10 s11 g12 g13 g14 g15 g16 g17 g18 g19 g20 s21 g22 g23 g24 s25 s26 s27 s28 g29 g30 g31 g32 g33, ai_ cy g5 40 f_2, ai_ cy g6 40 f6, ai_ cy g7 40 f7, ai_ cy g8 40 f8, ai_ cy g9 40 f9, az_ cy g10 40 f10] (by rw [ef_2]; exact hP) (by rw [ef_2]; exact hD) (fun hP hD => ?_)
  refine lv_aload_n hx hb dB_3_0_23.1.2.2.1 rfl (lv_at hl 0 rfl) ?_
  refine va_get (ci := 12) (v := .ref g6) (C := RX12) (T := TX12) (N := 34) hx hb hts (fun _ h => List.mem_cons_of_mem _ (List.mem_append_right _ h)) hown hK.1 hP 0 rfl rfl 6 (by decide) (hts (.fieldLink RX12 13 "CutAtlasModel" "from" "[I") (List.mem_of_getElem? (i := 3) rfl)) (fun _ h9 => h9) rfl dB_3_0_23.1.2.2.2 ?_
  refine lv_aload_n hx hb dB_3_0_23.2.1.1.1 rfl (lv_at hl 0 rfl) ?_
  refine va_get (ci := 12) (v := .int s4) (C := RX12) (T := TX12) (N := 34) hx hb hts (fun _ h => List.mem_cons_of_mem _ (List.mem_append_right _ h)) hown hK.1 hP 0 rfl rfl 4 (by decide) (hts (.fieldLink RX12 95 "CutAtlasModel" "lines" "I") (List.mem_of_getElem? (i := 2) rfl)) (fun _ h9 => h9) rfl dB_3_0_23.2.1.1.2 ?_
  refine lv_iload_n hx hb dB_3_0_23.2.1.2.1 rfl (lv_at hl 2 rfl) ?_
  have h_3 : vp_in s4 40 := in_I (by omega) (by omega)
  refine va_iast hx hb hK.1 hP hD hS 2 0 rfl rfl (i := s4) h_3 dB_3_0_23.2.1.2.2 (fun H locs hP hD hS => ?_)
  obtain ⟨f_4, ef_4⟩ : ∃ g : Nat → Int32, g = upd f6 s4.toNatClampNeg a2 := ⟨_, rfl⟩
  refine pd_K (D := D) (cl := vwCl) (H := H) (A := A) [ob12_0_ mo s0 s1 t2 s3 s4 g5 g6 g7 g8 g9 g10 s11 g12 g13 g14 g15 g16 g17 g18 g19 g20 s21 g22 g23 g24 s25 s26 s27 s28 g29 g30 g31 g32 g33, ai_ cy g5 40 f_2, ai_ cy g6 40 f_4, ai_ cy g7 40 f7, ai_ cy g8 40 f8, ai_ cy g9 40 f9, az_ cy g10 40 f10] (by rw [ef_4]; exact hP) (by rw [ef_4]; exact hD) (fun hP hD => ?_)
  have rf_4 : rng f_4 40 (0) (11) := by rw [ef_4]; exact rng_upd r_f6 (by omega) (by omega)
  refine lv_aload_n hx hb dB_3_0_23.2.2.1.1 rfl (lv_at hl 0 rfl) ?_
  refine va_get (ci := 12) (v := .ref g7) (C := RX12) (T := TX12) (N := 34) hx hb hts (fun _ h => List.mem_cons_of_mem _ (List.mem_append_right _ h)) hown hK.1 hP 0 rfl rfl 7 (by decide) (hts (.fieldLink RX12 16 "CutAtlasModel" "to" "[I") (List.mem_of_getElem? (i := 4) rfl)) (fun _ h9 => h9) rfl dB_3_0_23.2.2.1.2 ?_
  refine lv_aload_n hx hb dB_3_0_23.2.2.2.1 rfl (lv_at hl 0 rfl) ?_
  refine va_get (ci := 12) (v := .int s4) (C := RX12) (T := TX12) (N := 34) hx hb hts (fun _ h => List.mem_cons_of_mem _ (List.mem_append_right _ h)) hown hK.1 hP 0 rfl rfl 4 (by decide) (hts (.fieldLink RX12 95 "CutAtlasModel" "lines" "I") (List.mem_of_getElem? (i := 2) rfl)) (fun _ h9 => h9) rfl dB_3_0_23.2.2.2.2 ?_
  refine lv_iload_n hx hb dB_3_0_24.1.1.1.1 rfl (lv_at hl 3 rfl) ?_
  have h_5 : vp_in s4 40 := in_I (by omega) (by omega)
  refine va_iast hx hb hK.1 hP hD hS 3 0 rfl rfl (i := s4) h_5 dB_3_0_24.1.1.1.2 (fun H locs hP hD hS => ?_)
  obtain ⟨f_6, ef_6⟩ : ∃ g : Nat → Int32, g = upd f7 s4.toNatClampNeg a3 := ⟨_, rfl⟩
  refine pd_K (D := D) (cl := vwCl) (H := H) (A := A) [ob12_0_ mo s0 s1 t2 s3 s4 g5 g6 g7 g8 g9 g10 s11 g12 g13 g14 g15 g16 g17 g18 g19 g20 s21 g22 g23 g24 s25 s26 s27 s28 g29 g30 g31 g32 g33, ai_ cy g5 40 f_2, ai_ cy g6 40 f_4, ai_ cy g7 40 f_6, ai_ cy g8 40 f8, ai_ cy g9 40 f9, az_ cy g10 40 f10] (by rw [ef_6]; exact hP) (by rw [ef_6]; exact hD) (fun hP hD => ?_)
  have rf_6 : rng f_6 40 (0) (11) := by rw [ef_6]; exact rng_upd r_f7 (by omega) (by omega)
  refine lv_aload_n hx hb dB_3_0_24.1.1.2.1 rfl (lv_at hl 0 rfl) ?_
  refine va_get (ci := 12) (v := .ref g8) (C := RX12) (T := TX12) (N := 34) hx hb hts (fun _ h => List.mem_cons_of_mem _ (List.mem_append_right _ h)) hown hK.1 hP 0 rfl rfl 8 (by decide) (hts (.fieldLink RX12 19 "CutAtlasModel" "width" "[I") (List.mem_of_getElem? (i := 5) rfl)) (fun _ h9 => h9) rfl dB_3_0_24.1.1.2.2 ?_
  refine lv_aload_n hx hb dB_3_0_24.1.2.1.1 rfl (lv_at hl 0 rfl) ?_
  refine va_get (ci := 12) (v := .int s4) (C := RX12) (T := TX12) (N := 34) hx hb hts (fun _ h => List.mem_cons_of_mem _ (List.mem_append_right _ h)) hown hK.1 hP 0 rfl rfl 4 (by decide) (hts (.fieldLink RX12 95 "CutAtlasModel" "lines" "I") (List.mem_of_getElem? (i := 2) rfl)) (fun _ h9 => h9) rfl dB_3_0_24.1.2.1.2 ?_
  refine lv_iload_n hx hb dB_3_0_24.1.2.2.1 rfl (lv_at hl 1 rfl) ?_
  refine lv_iconst (v := 4) hx hb dB_3_0_24.1.2.2.2 (by decide) ?_
  refine lv_icmp_ne (tgt := 47) hx hb dB_3_0_24.2.1.1.1 (by decide) (fun c_7 => ?_) (fun c_7 => ?_)
  · have t_7 : ¬ a1.toInt = (4 : Int32).toInt := fun h => c_7 (Int32.toInt_inj.mp h)
    refine lv_iload hx hb dB_3_0_24.2.1.2.2 (lv_at hl 4 rfl) ?_
    have h_8 : vp_in s4 40 := in_I (by omega) (by omega)
    refine va_iast hx hb hK.1 hP hD hS 4 0 rfl rfl (i := s4) h_8 dB_3_0_24.2.2.1.1 (fun H locs hP hD hS => ?_)
    obtain ⟨f_9, ef_9⟩ : ∃ g : Nat → Int32, g = upd f8 s4.toNatClampNeg a4 := ⟨_, rfl⟩
    refine pd_K (D := D) (cl := vwCl) (H := H) (A := A) [ob12_0_ mo s0 s1 t2 s3 s4 g5 g6 g7 g8 g9 g10 s11 g12 g13 g14 g15 g16 g17 g18 g19 g20 s21 g22 g23 g24 s25 s26 s27 s28 g29 g30 g31 g32 g33, ai_ cy g5 40 f_2, ai_ cy g6 40 f_4, ai_ cy g7 40 f_6, ai_ cy g8 40 f_9, ai_ cy g9 40 f9, az_ cy g10 40 f10] (by rw [ef_9]; exact hP) (by rw [ef_9]; exact hD) (fun hP hD => ?_)
    have rf_9 : rng f_9 40 (0) (2000) := by rw [ef_9]; exact rng_upd r_f8 (by omega) (by omega)
    refine lv_aload_n hx hb dB_3_0_24.2.2.1.2 rfl (lv_at hl 0 rfl) ?_
    refine va_get (ci := 12) (v := .ref g9) (C := RX12) (T := TX12) (N := 34) hx hb hts (fun _ h => List.mem_cons_of_mem _ (List.mem_append_right _ h)) hown hK.1 hP 0 rfl rfl 9 (by decide) (hts (.fieldLink RX12 22 "CutAtlasModel" "price" "[I") (List.mem_of_getElem? (i := 6) rfl)) (fun _ h9 => h9) rfl dB_3_0_24.2.2.2.1 ?_
    refine lv_aload_n hx hb dB_3_0_24.2.2.2.2 rfl (lv_at hl 0 rfl) ?_
    refine va_get (ci := 12) (v := .int s4) (C := RX12) (T := TX12) (N := 34) hx hb hts (fun _ h => List.mem_cons_of_mem _ (List.mem_append_right _ h)) hown hK.1 hP 0 rfl rfl 4 (by decide) (hts (.fieldLink RX12 95 "CutAtlasModel" "lines" "I") (List.mem_of_getElem? (i := 2) rfl)) (fun _ h9 => h9) rfl dB_3_0_25.1.1.1.1 ?_
    refine lv_iload hx hb dB_3_0_25.1.1.1.2 (lv_at hl 5 rfl) ?_
    have h_10 : vp_in s4 40 := in_I (by omega) (by omega)
    refine va_iast hx hb hK.1 hP hD hS 5 0 rfl rfl (i := s4) h_10 dB_3_0_25.1.1.2.1 (fun H locs hP hD hS => ?_)
    obtain ⟨f_11, ef_11⟩ : ∃ g : Nat → Int32, g = upd f9 s4.toNatClampNeg a5 := ⟨_, rfl⟩
    refine pd_K (D := D) (cl := vwCl) (H := H) (A := A) [ob12_0_ mo s0 s1 t2 s3 s4 g5 g6 g7 g8 g9 g10 s11 g12 g13 g14 g15 g16 g17 g18 g19 g20 s21 g22 g23 g24 s25 s26 s27 s28 g29 g30 g31 g32 g33, ai_ cy g5 40 f_2, ai_ cy g6 40 f_4, ai_ cy g7 40 f_6, ai_ cy g8 40 f_9, ai_ cy g9 40 f_11, az_ cy g10 40 f10] (by rw [ef_11]; exact hP) (by rw [ef_11]; exact hD) (fun hP hD => ?_)
    have rf_11 : rng f_11 40 (0) (100) := by rw [ef_11]; exact rng_upd r_f9 (by omega) (by omega)
    refine lv_aload_n hx hb dB_3_0_25.1.1.2.2 rfl (lv_at hl 0 rfl) ?_
    refine va_get (ci := 12) (v := .ref g10) (C := RX12) (T := TX12) (N := 34) hx hb hts (fun _ h => List.mem_cons_of_mem _ (List.mem_append_right _ h)) hown hK.1 hP 0 rfl rfl 10 (by decide) (hts (.fieldLink RX12 25 "CutAtlasModel" "isMissing" "[Z") (List.mem_of_getElem? (i := 7) rfl)) (fun _ h9 => h9) rfl dB_3_0_25.1.2.1.1 ?_
    refine lv_aload_n hx hb dB_3_0_25.1.2.1.2 rfl (lv_at hl 0 rfl) ?_
    refine va_get (ci := 12) (v := .int s4) (C := RX12) (T := TX12) (N := 34) hx hb hts (fun _ h => List.mem_cons_of_mem _ (List.mem_append_right _ h)) hown hK.1 hP 0 rfl rfl 4 (by decide) (hts (.fieldLink RX12 95 "CutAtlasModel" "lines" "I") (List.mem_of_getElem? (i := 2) rfl)) (fun _ h9 => h9) rfl dB_3_0_25.1.2.2.1 ?_
    refine lv_iconst (v := 0) hx hb dB_3_0_25.1.2.2.2 (by decide) ?_
    have h_12 : vp_in s4 40 := in_I (by omega) (by omega)
    refine va_zast hx hb hK.1 hP hD hS 6 2 rfl rfl (i := s4) h_12 dB_3_0_25.2.1.1.1 (fun H locs hP hD hS => ?_)
    obtain ⟨f_13, ef_13⟩ : ∃ g : Nat → Int32, g = upd f10 s4.toNatClampNeg (vp_nar .boolean (0 : Int32)) := ⟨_, rfl⟩
    refine pd_K (D := D) (cl := vwCl) (H := H) (A := A) [ob12_0_ mo s0 s1 t2 s3 s4 g5 g6 g7 g8 g9 g10 s11 g12 g13 g14 g15 g16 g17 g18 g19 g20 s21 g22 g23 g24 s25 s26 s27 s28 g29 g30 g31 g32 g33, ai_ cy g5 40 f_2, ai_ cy g6 40 f_4, ai_ cy g7 40 f_6, ai_ cy g8 40 f_9, ai_ cy g9 40 f_11, az_ cy g10 40 f_13] (by rw [ef_13]; exact hP) (by rw [ef_13]; exact hD) (fun hP hD => ?_)
    refine lv_aload_n hx hb dB_3_0_25.2.1.1.2 rfl (lv_at hl 0 rfl) ?_
    refine lv_dup hx hb dB_3_0_25.2.1.2.1 rfl ?_
    refine va_get (ci := 12) (v := .long t2) (C := RX12) (T := TX12) (N := 34) hx hb hts (fun _ h => List.mem_cons_of_mem _ (List.mem_append_right _ h)) hown hK.1 hP 0 rfl rfl 2 (by decide) (hts (.fieldLink RX12 114 "CutAtlasModel" "trace" "J") (List.mem_of_getElem? (i := 8) rfl)) (fun _ h9 => h9) rfl dB_3_0_25.2.1.2.2 ?_
    refine lv_iload_n hx hb dB_3_0_25.2.2.1.1 rfl (lv_at hl 1 rfl) ?_
    refine lv_iconst (v := 4) hx hb dB_3_0_25.2.2.1.2 (by decide) ?_
    refine lv_icmp_ne (tgt := 87) hx hb dB_3_0_25.2.2.2.1 (by decide) (fun c_14 => ?_) (fun c_14 => ?_)
    · have t_14 : ¬ a1.toInt = (4 : Int32).toInt := fun h => c_14 (Int32.toInt_inj.mp h)
      refine lv_lconst (v := 0) hx hb dB_3_0_26.1.1.1.2 (by decide) ?_
      refine lv_ladd hx hb dB_3_0_26.1.1.2.1 ?_
      refine lv_topl (fun y_15 ey_15 => ?_)
      refine va_put (ci := 12) (v := .long y_15) (ty := .long) (C := RX12) (T := TX12) (N := 34) hx hb hts (fun _ h => List.mem_cons_of_mem _ (List.mem_append_right _ h)) tyX12 tyX12_ok nmX12 hown hK.1 hP hD hS 0 rfl rfl 2 (by decide) (hts (.fieldLink RX12 114 "CutAtlasModel" "trace" "J") (List.mem_of_getElem? (i := 8) rfl)) (fun _ h9 => h9) rfl (by decide +kernel) rfl rfl (Nat.le_of_ble_eq_true rfl) dB_3_0_26.1.1.2.2 (fun H locs hP hD hS => ?_)
      refine pd_K [ob12_0_ mo s0 s1 y_15 s3 s4 g5 g6 g7 g8 g9 g10 s11 g12 g13 g14 g15 g16 g17 g18 g19 g20 s21 g22 g23 g24 s25 s26 s27 s28 g29 g30 g31 g32 g33, ai_ cy g5 40 f_2, ai_ cy g6 40 f_4, ai_ cy g7 40 f_6, ai_ cy g8 40 f_9, ai_ cy g9 40 f_11, az_ cy g10 40 f_13] hP hD (fun hP hD => ?_)
      refine lv_aload_n hx hb dB_3_0_26.1.2.1.1 rfl (lv_at hl 0 rfl) ?_
      refine lv_dup hx hb dB_3_0_26.1.2.1.2 rfl ?_
      refine va_get (ci := 12) (v := .int s4) (C := RX12) (T := TX12) (N := 34) hx hb hts (fun _ h => List.mem_cons_of_mem _ (List.mem_append_right _ h)) hown hK.1 hP 0 rfl rfl 4 (by decide) (hts (.fieldLink RX12 95 "CutAtlasModel" "lines" "I") (List.mem_of_getElem? (i := 2) rfl)) (fun _ h9 => h9) rfl dB_3_0_26.1.2.2.1 ?_
      refine lv_iconst (v := 1) hx hb dB_3_0_26.1.2.2.2 (by decide) ?_
      refine lv_iadd hx hb dB_3_0_26.2.1.1.1 ?_
      refine lv_topi (fun y_16 ey_16 => ?_)
      have ty_16 : y_16.toInt = s4.toInt + (1 : Int32).toInt := by rw [ey_16]; exact addI (by omega) (by omega)
      refine va_put (ci := 12) (v := .int y_16) (ty := .int) (C := RX12) (T := TX12) (N := 34) hx hb hts (fun _ h => List.mem_cons_of_mem _ (List.mem_append_right _ h)) tyX12 tyX12_ok nmX12 hown hK.1 hP hD hS 0 rfl rfl 4 (by decide) (hts (.fieldLink RX12 95 "CutAtlasModel" "lines" "I") (List.mem_of_getElem? (i := 2) rfl)) (fun _ h9 => h9) rfl (by decide +kernel) rfl rfl (Nat.le_of_ble_eq_true rfl) dB_3_0_26.2.1.1.2 (fun H locs hP hD hS => ?_)
      refine pd_K [ob12_0_ mo s0 s1 y_15 s3 y_16 g5 g6 g7 g8 g9 g10 s11 g12 g13 g14 g15 g16 g17 g18 g19 g20 s21 g22 g23 g24 s25 s26 s27 s28 g29 g30 g31 g32 g33, ai_ cy g5 40 f_2, ai_ cy g6 40 f_4, ai_ cy g7 40 f_6, ai_ cy g8 40 f_9, ai_ cy g9 40 f_11, az_ cy g10 40 f_13] hP hD (fun hP hD => ?_)
      rw [hQ]
      exact W.vret hx hb hr (fun t ht hW => ⟨⟨(), rfl, trivial, y_15, y_16, f_2, f_4, f_6, f_9, f_11, f_13, (by first | with_reducible assumption | omega | assumption), (by first | with_reducible assumption | omega | assumption), (by first | with_reducible assumption | omega | assumption), (by first | with_reducible assumption | omega | assumption), (by first | exact Or.inl ⟨by omega, by assumption⟩ | exact Or.inr ⟨by omega, by assumption⟩), (by first | with_reducible assumption | omega | assumption), (by first | with_reducible assumption | omega | assumption), (by first | exact Or.inl ⟨by omega, by assumption⟩ | exact Or.inr ⟨by omega, by assumption⟩), (by first | with_reducible assumption | assumption | exact rng_zero (by omega) (by omega) | omega), (by first | with_reducible assumption | assumption | exact rng_zero (by omega) (by omega) | omega), (by first | with_reducible assumption | assumption | exact rng_zero (by omega) (by omega) | omega), (by first | with_reducible assumption | assumption | exact rng_zero (by omega) (by omega) | omega), by rw [ht]; exact hP, hD⟩, hS.F ht⟩) hS.2.2 dB_3_0_26.2.1.2.1
    · have t_14 : a1.toInt = (4 : Int32).toInt := congrArg Int32.toInt c_14
      refine lv_ldc2 (v := 1000000) hx hb hown (hts (.constantLong RX12 118 (1000000)) (List.mem_of_getElem? (i := 9) rfl)) dB_3_0_25.2.2.2.2 ?_
      refine lv_goto (tgt := 88) hx hb dB_3_0_26.1.1.1.1 (by decide) ?_
      refine lv_ladd hx hb dB_3_0_26.1.1.2.1 ?_
      refine lv_topl (fun y_17 ey_17 => ?_)
      refine va_put (ci := 12) (v := .long y_17) (ty := .long) (C := RX12) (T := TX12) (N := 34) hx hb hts (fun _ h => List.mem_cons_of_mem _ (List.mem_append_right _ h)) tyX12 tyX12_ok nmX12 hown hK.1 hP hD hS 0 rfl rfl 2 (by decide) (hts (.fieldLink RX12 114 "CutAtlasModel" "trace" "J") (List.mem_of_getElem? (i := 8) rfl)) (fun _ h9 => h9) rfl (by decide +kernel) rfl rfl (Nat.le_of_ble_eq_true rfl) dB_3_0_26.1.1.2.2 (fun H locs hP hD hS => ?_)
      refine pd_K [ob12_0_ mo s0 s1 y_17 s3 s4 g5 g6 g7 g8 g9 g10 s11 g12 g13 g14 g15 g16 g17 g18 g19 g20 s21 g22 g23 g24 s25 s26 s27 s28 g29 g30 g31 g32 g33, ai_ cy g5 40 f_2, ai_ cy g6 40 f_4, ai_ cy g7 40 f_6, ai_ cy g8 40 f_9, ai_ cy g9 40 f_11, az_ cy g10 40 f_13] hP hD (fun hP hD => ?_)
      refine lv_aload_n hx hb dB_3_0_26.1.2.1.1 rfl (lv_at hl 0 rfl) ?_
      refine lv_dup hx hb dB_3_0_26.1.2.1.2 rfl ?_
      refine va_get (ci := 12) (v := .int s4) (C := RX12) (T := TX12) (N := 34) hx hb hts (fun _ h => List.mem_cons_of_mem _ (List.mem_append_right _ h)) hown hK.1 hP 0 rfl rfl 4 (by decide) (hts (.fieldLink RX12 95 "CutAtlasModel" "lines" "I") (List.mem_of_getElem? (i := 2) rfl)) (fun _ h9 => h9) rfl dB_3_0_26.1.2.2.1 ?_
      refine lv_iconst (v := 1) hx hb dB_3_0_26.1.2.2.2 (by decide) ?_
      refine lv_iadd hx hb dB_3_0_26.2.1.1.1 ?_
      refine lv_topi (fun y_18 ey_18 => ?_)
      have ty_18 : y_18.toInt = s4.toInt + (1 : Int32).toInt := by rw [ey_18]; exact addI (by omega) (by omega)
      refine va_put (ci := 12) (v := .int y_18) (ty := .int) (C := RX12) (T := TX12) (N := 34) hx hb hts (fun _ h => List.mem_cons_of_mem _ (List.mem_append_right _ h)) tyX12 tyX12_ok nmX12 hown hK.1 hP hD hS 0 rfl rfl 4 (by decide) (hts (.fieldLink RX12 95 "CutAtlasModel" "lines" "I") (List.mem_of_getElem? (i := 2) rfl)) (fun _ h9 => h9) rfl (by decide +kernel) rfl rfl (Nat.le_of_ble_eq_true rfl) dB_3_0_26.2.1.1.2 (fun H locs hP hD hS => ?_)
      refine pd_K [ob12_0_ mo s0 s1 y_17 s3 y_18 g5 g6 g7 g8 g9 g10 s11 g12 g13 g14 g15 g16 g17 g18 g19 g20 s21 g22 g23 g24 s25 s26 s27 s28 g29 g30 g31 g32 g33, ai_ cy g5 40 f_2, ai_ cy g6 40 f_4, ai_ cy g7 40 f_6, ai_ cy g8 40 f_9, ai_ cy g9 40 f_11, az_ cy g10 40 f_13] hP hD (fun hP hD => ?_)
      rw [hQ]
      exact W.vret hx hb hr (fun t ht hW => ⟨⟨(), rfl, trivial, y_17, y_18, f_2, f_4, f_6, f_9, f_11, f_13, (by first | with_reducible assumption | omega | assumption), (by first | with_reducible assumption | omega | assumption), (by first | with_reducible assumption | omega | assumption), (by first | with_reducible assumption | omega | assumption), (by first | exact Or.inl ⟨by omega, by assumption⟩ | exact Or.inr ⟨by omega, by assumption⟩), (by first | with_reducible assumption | omega | assumption), (by first | with_reducible assumption | omega | assumption), (by first | exact Or.inl ⟨by omega, by assumption⟩ | exact Or.inr ⟨by omega, by assumption⟩), (by first | with_reducible assumption | assumption | exact rng_zero (by omega) (by omega) | omega), (by first | with_reducible assumption | assumption | exact rng_zero (by omega) (by omega) | omega), (by first | with_reducible assumption | assumption | exact rng_zero (by omega) (by omega) | omega), (by first | with_reducible assumption | assumption | exact rng_zero (by omega) (by omega) | omega), by rw [ht]; exact hP, hD⟩, hS.F ht⟩) hS.2.2 dB_3_0_26.2.1.2.1
  · have t_7 : a1.toInt = (4 : Int32).toInt := congrArg Int32.toInt c_7
    refine lv_iconst (v := 0) hx hb dB_3_0_24.2.1.1.2 (by decide) ?_
    refine lv_goto (tgt := 49) hx hb dB_3_0_24.2.1.2.1 (by decide) ?_
    have h_19 : vp_in s4 40 := in_I (by omega) (by omega)
    refine va_iast hx hb hK.1 hP hD hS 4 0 rfl rfl (i := s4) h_19 dB_3_0_24.2.2.1.1 (fun H locs hP hD hS => ?_)
    obtain ⟨f_20, ef_20⟩ : ∃ g : Nat → Int32, g = upd f8 s4.toNatClampNeg (0 : Int32) := ⟨_, rfl⟩
    refine pd_K (D := D) (cl := vwCl) (H := H) (A := A) [ob12_0_ mo s0 s1 t2 s3 s4 g5 g6 g7 g8 g9 g10 s11 g12 g13 g14 g15 g16 g17 g18 g19 g20 s21 g22 g23 g24 s25 s26 s27 s28 g29 g30 g31 g32 g33, ai_ cy g5 40 f_2, ai_ cy g6 40 f_4, ai_ cy g7 40 f_6, ai_ cy g8 40 f_20, ai_ cy g9 40 f9, az_ cy g10 40 f10] (by rw [ef_20]; exact hP) (by rw [ef_20]; exact hD) (fun hP hD => ?_)
    have rf_20 : rng f_20 40 (0) (2000) := by rw [ef_20]; exact rng_upd r_f8 (by omega) (by omega)
    refine lv_aload_n hx hb dB_3_0_24.2.2.1.2 rfl (lv_at hl 0 rfl) ?_
    refine va_get (ci := 12) (v := .ref g9) (C := RX12) (T := TX12) (N := 34) hx hb hts (fun _ h => List.mem_cons_of_mem _ (List.mem_append_right _ h)) hown hK.1 hP 0 rfl rfl 9 (by decide) (hts (.fieldLink RX12 22 "CutAtlasModel" "price" "[I") (List.mem_of_getElem? (i := 6) rfl)) (fun _ h9 => h9) rfl dB_3_0_24.2.2.2.1 ?_
    refine lv_aload_n hx hb dB_3_0_24.2.2.2.2 rfl (lv_at hl 0 rfl) ?_
    refine va_get (ci := 12) (v := .int s4) (C := RX12) (T := TX12) (N := 34) hx hb hts (fun _ h => List.mem_cons_of_mem _ (List.mem_append_right _ h)) hown hK.1 hP 0 rfl rfl 4 (by decide) (hts (.fieldLink RX12 95 "CutAtlasModel" "lines" "I") (List.mem_of_getElem? (i := 2) rfl)) (fun _ h9 => h9) rfl dB_3_0_25.1.1.1.1 ?_
    refine lv_iload hx hb dB_3_0_25.1.1.1.2 (lv_at hl 5 rfl) ?_
    have h_21 : vp_in s4 40 := in_I (by omega) (by omega)
    refine va_iast hx hb hK.1 hP hD hS 5 0 rfl rfl (i := s4) h_21 dB_3_0_25.1.1.2.1 (fun H locs hP hD hS => ?_)
    obtain ⟨f_22, ef_22⟩ : ∃ g : Nat → Int32, g = upd f9 s4.toNatClampNeg a5 := ⟨_, rfl⟩
    refine pd_K (D := D) (cl := vwCl) (H := H) (A := A) [ob12_0_ mo s0 s1 t2 s3 s4 g5 g6 g7 g8 g9 g10 s11 g12 g13 g14 g15 g16 g17 g18 g19 g20 s21 g22 g23 g24 s25 s26 s27 s28 g29 g30 g31 g32 g33, ai_ cy g5 40 f_2, ai_ cy g6 40 f_4, ai_ cy g7 40 f_6, ai_ cy g8 40 f_20, ai_ cy g9 40 f_22, az_ cy g10 40 f10] (by rw [ef_22]; exact hP) (by rw [ef_22]; exact hD) (fun hP hD => ?_)
    have rf_22 : rng f_22 40 (0) (100) := by rw [ef_22]; exact rng_upd r_f9 (by omega) (by omega)
    refine lv_aload_n hx hb dB_3_0_25.1.1.2.2 rfl (lv_at hl 0 rfl) ?_
    refine va_get (ci := 12) (v := .ref g10) (C := RX12) (T := TX12) (N := 34) hx hb hts (fun _ h => List.mem_cons_of_mem _ (List.mem_append_right _ h)) hown hK.1 hP 0 rfl rfl 10 (by decide) (hts (.fieldLink RX12 25 "CutAtlasModel" "isMissing" "[Z") (List.mem_of_getElem? (i := 7) rfl)) (fun _ h9 => h9) rfl dB_3_0_25.1.2.1.1 ?_
    refine lv_aload_n hx hb dB_3_0_25.1.2.1.2 rfl (lv_at hl 0 rfl) ?_
    refine va_get (ci := 12) (v := .int s4) (C := RX12) (T := TX12) (N := 34) hx hb hts (fun _ h => List.mem_cons_of_mem _ (List.mem_append_right _ h)) hown hK.1 hP 0 rfl rfl 4 (by decide) (hts (.fieldLink RX12 95 "CutAtlasModel" "lines" "I") (List.mem_of_getElem? (i := 2) rfl)) (fun _ h9 => h9) rfl dB_3_0_25.1.2.2.1 ?_
    refine lv_iconst (v := 0) hx hb dB_3_0_25.1.2.2.2 (by decide) ?_
    have h_23 : vp_in s4 40 := in_I (by omega) (by omega)
    refine va_zast hx hb hK.1 hP hD hS 6 2 rfl rfl (i := s4) h_23 dB_3_0_25.2.1.1.1 (fun H locs hP hD hS => ?_)
    obtain ⟨f_24, ef_24⟩ : ∃ g : Nat → Int32, g = upd f10 s4.toNatClampNeg (vp_nar .boolean (0 : Int32)) := ⟨_, rfl⟩
    refine pd_K (D := D) (cl := vwCl) (H := H) (A := A) [ob12_0_ mo s0 s1 t2 s3 s4 g5 g6 g7 g8 g9 g10 s11 g12 g13 g14 g15 g16 g17 g18 g19 g20 s21 g22 g23 g24 s25 s26 s27 s28 g29 g30 g31 g32 g33, ai_ cy g5 40 f_2, ai_ cy g6 40 f_4, ai_ cy g7 40 f_6, ai_ cy g8 40 f_20, ai_ cy g9 40 f_22, az_ cy g10 40 f_24] (by rw [ef_24]; exact hP) (by rw [ef_24]; exact hD) (fun hP hD => ?_)
    refine lv_aload_n hx hb dB_3_0_25.2.1.1.2 rfl (lv_at hl 0 rfl) ?_
    refine lv_dup hx hb dB_3_0_25.2.1.2.1 rfl ?_
    refine va_get (ci := 12) (v := .long t2) (C := RX12) (T := TX12) (N := 34) hx hb hts (fun _ h => List.mem_cons_of_mem _ (List.mem_append_right _ h)) hown hK.1 hP 0 rfl rfl 2 (by decide) (hts (.fieldLink RX12 114 "CutAtlasModel" "trace" "J") (List.mem_of_getElem? (i := 8) rfl)) (fun _ h9 => h9) rfl dB_3_0_25.2.1.2.2 ?_
    refine lv_iload_n hx hb dB_3_0_25.2.2.1.1 rfl (lv_at hl 1 rfl) ?_
    refine lv_iconst (v := 4) hx hb dB_3_0_25.2.2.1.2 (by decide) ?_
    refine lv_icmp_ne (tgt := 87) hx hb dB_3_0_25.2.2.2.1 (by decide) (fun c_25 => ?_) (fun c_25 => ?_)
    · have t_25 : ¬ a1.toInt = (4 : Int32).toInt := fun h => c_25 (Int32.toInt_inj.mp h)
      exfalso; omega
    · have t_25 : a1.toInt = (4 : Int32).toInt := congrArg Int32.toInt c_25
      refine lv_ldc2 (v := 1000000) hx hb hown (hts (.constantLong RX12 118 (1000000)) (List.mem_of_getElem? (i := 9) rfl)) dB_3_0_25.2.2.2.2 ?_
      refine lv_goto (tgt := 88) hx hb dB_3_0_26.1.1.1.1 (by decide) ?_
      refine lv_ladd hx hb dB_3_0_26.1.1.2.1 ?_
      refine lv_topl (fun y_26 ey_26 => ?_)
      refine va_put (ci := 12) (v := .long y_26) (ty := .long) (C := RX12) (T := TX12) (N := 34) hx hb hts (fun _ h => List.mem_cons_of_mem _ (List.mem_append_right _ h)) tyX12 tyX12_ok nmX12 hown hK.1 hP hD hS 0 rfl rfl 2 (by decide) (hts (.fieldLink RX12 114 "CutAtlasModel" "trace" "J") (List.mem_of_getElem? (i := 8) rfl)) (fun _ h9 => h9) rfl (by decide +kernel) rfl rfl (Nat.le_of_ble_eq_true rfl) dB_3_0_26.1.1.2.2 (fun H locs hP hD hS => ?_)
      refine pd_K [ob12_0_ mo s0 s1 y_26 s3 s4 g5 g6 g7 g8 g9 g10 s11 g12 g13 g14 g15 g16 g17 g18 g19 g20 s21 g22 g23 g24 s25 s26 s27 s28 g29 g30 g31 g32 g33, ai_ cy g5 40 f_2, ai_ cy g6 40 f_4, ai_ cy g7 40 f_6, ai_ cy g8 40 f_20, ai_ cy g9 40 f_22, az_ cy g10 40 f_24] hP hD (fun hP hD => ?_)
      refine lv_aload_n hx hb dB_3_0_26.1.2.1.1 rfl (lv_at hl 0 rfl) ?_
      refine lv_dup hx hb dB_3_0_26.1.2.1.2 rfl ?_
      refine va_get (ci := 12) (v := .int s4) (C := RX12) (T := TX12) (N := 34) hx hb hts (fun _ h => List.mem_cons_of_mem _ (List.mem_append_right _ h)) hown hK.1 hP 0 rfl rfl 4 (by decide) (hts (.fieldLink RX12 95 "CutAtlasModel" "lines" "I") (List.mem_of_getElem? (i := 2) rfl)) (fun _ h9 => h9) rfl dB_3_0_26.1.2.2.1 ?_
      refine lv_iconst (v := 1) hx hb dB_3_0_26.1.2.2.2 (by decide) ?_
      refine lv_iadd hx hb dB_3_0_26.2.1.1.1 ?_
      refine lv_topi (fun y_27 ey_27 => ?_)
      have ty_27 : y_27.toInt = s4.toInt + (1 : Int32).toInt := by rw [ey_27]; exact addI (by omega) (by omega)
      refine va_put (ci := 12) (v := .int y_27) (ty := .int) (C := RX12) (T := TX12) (N := 34) hx hb hts (fun _ h => List.mem_cons_of_mem _ (List.mem_append_right _ h)) tyX12 tyX12_ok nmX12 hown hK.1 hP hD hS 0 rfl rfl 4 (by decide) (hts (.fieldLink RX12 95 "CutAtlasModel" "lines" "I") (List.mem_of_getElem? (i := 2) rfl)) (fun _ h9 => h9) rfl (by decide +kernel) rfl rfl (Nat.le_of_ble_eq_true rfl) dB_3_0_26.2.1.1.2 (fun H locs hP hD hS => ?_)
      refine pd_K [ob12_0_ mo s0 s1 y_26 s3 y_27 g5 g6 g7 g8 g9 g10 s11 g12 g13 g14 g15 g16 g17 g18 g19 g20 s21 g22 g23 g24 s25 s26 s27 s28 g29 g30 g31 g32 g33, ai_ cy g5 40 f_2, ai_ cy g6 40 f_4, ai_ cy g7 40 f_6, ai_ cy g8 40 f_20, ai_ cy g9 40 f_22, az_ cy g10 40 f_24] hP hD (fun hP hD => ?_)
      rw [hQ]
      exact W.vret hx hb hr (fun t ht hW => ⟨⟨(), rfl, trivial, y_26, y_27, f_2, f_4, f_6, f_20, f_22, f_24, (by first | with_reducible assumption | omega | assumption), (by first | with_reducible assumption | omega | assumption), (by first | with_reducible assumption | omega | assumption), (by first | with_reducible assumption | omega | assumption), (by first | exact Or.inl ⟨by omega, by assumption⟩ | exact Or.inr ⟨by omega, by assumption⟩), (by first | with_reducible assumption | omega | assumption), (by first | with_reducible assumption | omega | assumption), (by first | exact Or.inl ⟨by omega, by assumption⟩ | exact Or.inr ⟨by omega, by assumption⟩), (by first | with_reducible assumption | assumption | exact rng_zero (by omega) (by omega) | omega), (by first | with_reducible assumption | assumption | exact rng_zero (by omega) (by omega) | omega), (by first | with_reducible assumption | assumption | exact rng_zero (by omega) (by omega) | omega), (by first | with_reducible assumption | assumption | exact rng_zero (by omega) (by omega) | omega), by rw [ht]; exact hP, hD⟩, hS.F ht⟩) hS.2.2 dB_3_0_26.2.1.2.1

set_option maxHeartbeats 4000000 in
set_option maxRecDepth 100000 in
theorem c_X12_place2 (l : Launch) (D : va_G) (cy : Nat → ClassId) (sz : Nat) (mo : Nat) (g5 : Nat) (g6 : Nat) (g7 : Nat) (g8 : Nat) (g9 : Nat) (g10 : Nat) (g12 : Nat) (g13 : Nat) (g14 : Nat) (g15 : Nat) (g16 : Nat) (g17 : Nat) (g18 : Nat) (g19 : Nat) (g20 : Nat) (g22 : Nat) (g23 : Nat) (g24 : Nat) (g29 : Nat) (g30 : Nat) (g31 : Nat) (g32 : Nat) (g33 : Nat) (s0 : Int32) (s1 : Int32) (s3 : Int32) (s4 : Int32) (s11 : Int32) (s21 : Int32) (s25 : Int32) (s26 : Int32) (s27 : Int32) (s28 : Int32) (t2 : Int64) (f5 : Nat → Int32) (f6 : Nat → Int32) (f7 : Nat → Int32) (f8 : Nat → Int32) (f9 : Nat → Int32) (f10 : Nat → Int32) (f12 : Nat → Int32) (f13 : Nat → Int32) (f14 : Nat → Int32) (hN : 0 ≤ s4.toInt ∧ s4.toInt ≤ 40) (hPl : 0 ≤ s3.toInt ∧ s3.toInt ≤ 12) (hU : 0 ≤ s11.toInt ∧ s11.toInt ≤ 30) (hnet : netE s3.toInt s4.toInt f6 f7 f10) (hpast : pastE s11.toInt f12 f13 f14) (r_f6 : rng f6 40 (0) (11)) (r_f7 : rng f7 40 (0) (11)) (r_f8 : rng f8 40 (0) (2000)) (r_f9 : rng f9 40 (0) (100)) (r_f12 : rng f12 30 (0) (12)) (r_f13 : rng f13 30 (0) (40)) (r_f14 : orng f14 6000) : Met l yX12_place wsX12_place ({ frames := 1, cells := 0, slots := 0, locals := 22 }) (va_Pc [.ref mo] (fun U => U.heap.size = sz ∧ va_P D vwCl [ob12_0_ mo s0 s1 t2 s3 s4 g5 g6 g7 g8 g9 g10 s11 g12 g13 g14 g15 g16 g17 g18 g19 g20 s21 g22 g23 g24 s25 s26 s27 s28 g29 g30 g31 g32 g33, ai_ cy g5 40 f5, ai_ cy g6 40 f6, ai_ cy g7 40 f7, ai_ cy g8 40 f8, ai_ cy g9 40 f9, az_ cy g10 40 f10, ai_ cy g12 30 f12, ai_ cy g13 30 f13, ai_ cy g14 6000 f14] U.heap ∧ kk_ D cy U ∧ va_D (fun _ => True) [ob12_0_ mo s0 s1 t2 s3 s4 g5 g6 g7 g8 g9 g10 s11 g12 g13 g14 g15 g16 g17 g18 g19 g20 s21 g22 g23 g24 s25 s26 s27 s28 g29 g30 g31 g32 g33, ai_ cy g5 40 f5, ai_ cy g6 40 f6, ai_ cy g7 40 f7, ai_ cy g8 40 f8, ai_ cy g9 40 f9, az_ cy g10 40 f10, ai_ cy g12 30 f12, ai_ cy g13 30 f13, ai_ cy g14 6000 f14])) (va_Qi (fun (r : Int32) (_ : Unit) => True) (fun (_ : Unit) (t : State) => ∃ (n3 : Int32), ∃ (n11 : Int32), ∃ (e12 : Nat → Int32), ∃ (e13 : Nat → Int32), ∃ (e14 : Nat → Int32), (0 ≤ n3.toInt ∧ n3.toInt ≤ 12) ∧ (0 ≤ n11.toInt ∧ n11.toInt ≤ 30) ∧ (netE n3.toInt s4.toInt f6 f7 f10) ∧ (pastE n11.toInt e12 e13 e14) ∧ (rng e12 30 (0) (12)) ∧ (rng e13 30 (0) (40)) ∧ (orng e14 6000) ∧ va_P D vwCl [ob12_0_ mo 0 s1 t2 n3 s4 g5 g6 g7 g8 g9 g10 n11 g12 g13 g14 g15 g16 g17 g18 g19 g20 s21 g22 g23 g24 s25 s26 s27 s28 g29 g30 g31 g32 g33, ai_ cy g5 40 f5, ai_ cy g6 40 f6, ai_ cy g7 40 f7, ai_ cy g8 40 f8, ai_ cy g9 40 f9, az_ cy g10 40 f10, ai_ cy g12 30 e12, ai_ cy g13 30 e13, ai_ cy g14 6000 e14] t.heap ∧ va_D (va_A [ob12_0_ mo s0 s1 t2 s3 s4 g5 g6 g7 g8 g9 g10 s11 g12 g13 g14 g15 g16 g17 g18 g19 g20 s21 g22 g23 g24 s25 s26 s27 s28 g29 g30 g31 g32 g33, ai_ cy g5 40 f5, ai_ cy g6 40 f6, ai_ cy g7 40 f7, ai_ cy g8 40 f8, ai_ cy g9 40 f9, az_ cy g10 40 f10, ai_ cy g12 30 f12, ai_ cy g13 30 f13, ai_ cy g14 6000 f14] sz) [ob12_0_ mo 0 s1 t2 n3 s4 g5 g6 g7 g8 g9 g10 n11 g12 g13 g14 g15 g16 g17 g18 g19 g20 s21 g22 g23 g24 s25 s26 s27 s28 g29 g30 g31 g32 g33, ai_ cy g5 40 f5, ai_ cy g6 40 f6, ai_ cy g7 40 f7, ai_ cy g8 40 f8, ai_ cy g9 40 f9, az_ cy g10 40 f10, ai_ cy g12 30 e12, ai_ cy g13 30 e13, ai_ cy g14 6000 e14]) (va_A [ob12_0_ mo s0 s1 t2 s3 s4 g5 g6 g7 g8 g9 g10 s11 g12 g13 g14 g15 g16 g17 g18 g19 g20 s21 g22 g23 g24 s25 s26 s27 s28 g29 g30 g31 g32 g33, ai_ cy g5 40 f5, ai_ cy g6 40 f6, ai_ cy g7 40 f7, ai_ cy g8 40 f8, ai_ cy g9 40 f9, az_ cy g10 40 f10, ai_ cy g12 30 f12, ai_ cy g13 30 f13, ai_ cy g14 6000 f14] sz)) 0 0 (va_A [ob12_0_ mo s0 s1 t2 s3 s4 g5 g6 g7 g8 g9 g10 s11 g12 g13 g14 g15 g16 g17 g18 g19 g20 s21 g22 g23 g24 s25 s26 s27 s28 g29 g30 g31 g32 g33, ai_ cy g5 40 f5, ai_ cy g6 40 f6, ai_ cy g7 40 f7, ai_ cy g8 40 f8, ai_ cy g9 40 f9, az_ cy g10 40 f10, ai_ cy g12 30 f12, ai_ cy g13 30 f13, ai_ cy g14 6000 f14] sz) := by
  refine ofQ (cc := cX12_place) (maxL := 1) (ret := (some .int)) (by decide) rfl ?_
  intro p e s m args below meth c s₁ Q hQ B hml hv
  obtain ⟨rfl, hsz, hP, hK, hD0⟩ := hv
  have hx := B.exec
  have hb := B.bytes
  have hr := B.returns
  have hts := atoms_spec (ws := wsX12_place) B.pre
  have hown : s.vm.findClass RX12 = some m.cls := by have h_ := findClass_of_methodNamed B.named; exact h_
  have hlocks := B.notSynchronized
  subst hsz
  have hD := hD0.self (sz := s.heap.size)
  generalize hAe : va_A [ob12_0_ mo s0 s1 t2 s3 s4 g5 g6 g7 g8 g9 g10 s11 g12 g13 g14 g15 g16 g17 g18 g19 g20 s21 g22 g23 g24 s25 s26 s27 s28 g29 g30 g31 g32 g33, ai_ cy g5 40 f5, ai_ cy g6 40 f6, ai_ cy g7 40 f7, ai_ cy g8 40 f8, ai_ cy g9 40 f9, az_ cy g10 40 f10, ai_ cy g12 30 f12, ai_ cy g13 30 f13, ai_ cy g14 6000 f14] s.heap.size = A at hD hQ
  have hA : ∀ q : Nat, s.heap.size ≤ q → A q := fun q h => by rw [← hAe]; exact Or.inr h
  have hS : va_S A s.heap s.heap [] := va_S.rf
  have hl := lv_entry ([.ref mo]) (n := 1) (Nat.le_of_ble_eq_true rfl)
  rw [lg_entry_eq]
  generalize (lg_sl ([.ref mo]) ++ List.replicate (1 - (lg_sl ([.ref mo])).length) Slot.unset).toArray = ls at hl ⊢
  have hl : lv_has ls 1 [(0, .ref mo)] := hl
  have zm3 : ((-3) : Int32).toInt = -3 := by decide
  have z0 : (0 : Int32).toInt = 0 := by decide
  have z1 : (1 : Int32).toInt = 1 := by decide
  have z12 : (12 : Int32).toInt = 12 := by decide
  refine lv_aload_n hx hb dB_3_0_18.1.2.1.2 rfl (lv_at hl 0 rfl) ?_
  refine lv_iconst (v := 0) hx hb dB_3_0_18.1.2.2.1 (by decide) ?_
  refine va_put (ci := 12) (v := .int 0) (ty := .int) (C := RX12) (T := TX12) (N := 34) hx hb hts (fun _ h => List.mem_cons_of_mem _ (List.mem_append_right _ h)) tyX12 tyX12_ok nmX12 hown hK.1 hP hD hS 0 rfl rfl 0 (by decide) (hts (.fieldLink RX12 85 "CutAtlasModel" "thrown" "I") (List.mem_of_getElem? (i := 1) rfl)) (fun _ h9 => h9) rfl (by decide +kernel) rfl rfl (Nat.le_of_ble_eq_true rfl) dB_3_0_18.1.2.2.2 (fun H locs hP hD hS => ?_)
  refine pd_K [ob12_0_ mo 0 s1 t2 s3 s4 g5 g6 g7 g8 g9 g10 s11 g12 g13 g14 g15 g16 g17 g18 g19 g20 s21 g22 g23 g24 s25 s26 s27 s28 g29 g30 g31 g32 g33, ai_ cy g5 40 f5, ai_ cy g6 40 f6, ai_ cy g7 40 f7, ai_ cy g8 40 f8, ai_ cy g9 40 f9, az_ cy g10 40 f10, ai_ cy g12 30 f12, ai_ cy g13 30 f13, ai_ cy g14 6000 f14] hP hD (fun hP hD => ?_)
  refine lv_aload_n hx hb dB_3_0_18.2.1.1.1 rfl (lv_at hl 0 rfl) ?_
  refine va_get (ci := 12) (v := .int s3) (C := RX12) (T := TX12) (N := 34) hx hb hts (fun _ h => List.mem_cons_of_mem _ (List.mem_append_right _ h)) hown hK.1 hP 0 rfl rfl 3 (by decide) (hts (.fieldLink RX12 88 "CutAtlasModel" "places" "I") (List.mem_of_getElem? (i := 2) rfl)) (fun _ h9 => h9) rfl dB_3_0_18.2.1.1.2 ?_
  refine lv_bipush (v := 12) hx hb dB_3_0_18.2.1.2.1 (by decide) ?_
  refine lv_icmp_ne (tgt := 17) hx hb dB_3_0_18.2.1.2.2 (by decide) (fun c_1 => ?_) (fun c_1 => ?_)
  · have t_1 : ¬ s3.toInt = (12 : Int32).toInt := fun h => c_1 (Int32.toInt_inj.mp h)
    refine lv_aload_n hx hb dB_3_0_18.2.2.2.1 rfl (lv_at hl 0 rfl) ?_
    refine ct_S hP hD hS hA [ob12_0_ mo 0 s1 t2 s3 s4 g5 g6 g7 g8 g9 g10 s11 g12 g13 g14 g15 g16 g17 g18 g19 g20 s21 g22 g23 g24 s25 s26 s27 s28 g29 g30 g31 g32 g33, ai_ cy g5 40 f5, ai_ cy g6 40 f6, ai_ cy g7 40 f7, ai_ cy g8 40 f8, ai_ cy g9 40 f9, az_ cy g10 40 f10, ai_ cy g12 30 f12, ai_ cy g13 30 f13, ai_ cy g14 6000 f14] [0, 1, 2, 3, 4, 5, 6, 7, 8, 9] (by decide) rfl (fun hPc hDw hFc hC_ => ?_)
    refine va_callv (va_runV (As := []) (rest := []) ⟨hx, hb, hml, hown, hts⟩ (c_X12_keeps2 l D cy H.size mo g5 g6 g7 g8 g9 g10 g12 g13 g14 g15 g16 g17 g18 g19 g20 g22 g23 g24 g29 g30 g31 g32 g33 (0 : Int32) s1 s3 s4 s11 s21 s25 s26 s27 s28 t2 f5 f6 f7 f8 f9 f10 f12 f13 f14 (by first | with_reducible assumption | omega | assumption) (by first | with_reducible assumption | omega | assumption) (by first | with_reducible assumption | omega | assumption) (by first | with_reducible assumption | assumption | omega) (by first | with_reducible assumption | assumption | omega) (by first | with_reducible assumption | assumption | omega) (by first | with_reducible assumption | assumption | omega) (by first | with_reducible assumption | assumption | omega) (by first | with_reducible assumption | assumption | omega) (by first | with_reducible assumption | assumption | omega)) (cwV 0 hts gX12_place_X12_keeps rfl rfl rfl ⟨rfl, hd_X12_keeps⟩ ⟨Nat.le_of_ble_eq_true rfl, Nat.le_of_ble_eq_true rfl⟩) ⟨bl_, va_recvX hK.1 hP (ci := 12) (q0 := 0) rfl rfl, fun U hU hW => ⟨rfl, by rw [hU], by rw [hU]; exact hPc, kk_mv hW hK, hDw⟩⟩ rfl rfl hl.1 rfl (lv_room (Nat.le_of_ble_eq_true rfl)) dB_3_0_18.2.2.2.2 ⟨Nat.le_of_ble_eq_true rfl, Nat.le_of_ble_eq_true rfl⟩) hS (fun q _ h => hFc q h) hFc (fun u t H locs ht hvm hw hB hz1 hk1 hS => ?_)
    obtain ⟨n11_3, e12_4, e13_5, e14_6, g_7, g_8, g_9, g_10, g_11, hP1, hD1⟩ := hB
    rw [ht] at hP1
    obtain ⟨hP, hD⟩ := va_join (wr := []) (w1 := [ob12_0_ mo 0 s1 t2 s3 s4 g5 g6 g7 g8 g9 g10 n11_3 g12 g13 g14 g15 g16 g17 g18 g19 g20 s21 g22 g23 g24 s25 s26 s27 s28 g29 g30 g31 g32 g33, ai_ cy g5 40 f5, ai_ cy g6 40 f6, ai_ cy g7 40 f7, ai_ cy g8 40 f8, ai_ cy g9 40 f9, az_ cy g10 40 f10, ai_ cy g12 30 e12_4, ai_ cy g13 30 e13_5, ai_ cy g14 6000 e14_6]) hP hD [0, 1, 2, 3, 4, 5, 6, 7, 8, 9] [] hC_ rfl (by decide) (by decide) hk1 hFc hP1 hD1
    refine pd_K [ob12_0_ mo 0 s1 t2 s3 s4 g5 g6 g7 g8 g9 g10 n11_3 g12 g13 g14 g15 g16 g17 g18 g19 g20 s21 g22 g23 g24 s25 s26 s27 s28 g29 g30 g31 g32 g33, ai_ cy g5 40 f5, ai_ cy g6 40 f6, ai_ cy g7 40 f7, ai_ cy g8 40 f8, ai_ cy g9 40 f9, az_ cy g10 40 f10, ai_ cy g12 30 e12_4, ai_ cy g13 30 e13_5, ai_ cy g14 6000 e14_6] hP hD (fun hP hD => ?_)
    have hpa_ : pastE n11_3.toInt e12_4 e13_5 e14_6 := kept_past g_8 hnet hpast (by omega) (by assumption) (by assumption) (by omega)
    refine lv_aload_n hx hb dB_3_0_19.1.1.1.1 rfl (lv_at hl 0 rfl) ?_
    refine lv_dup hx hb dB_3_0_19.1.1.1.2 rfl ?_
    refine va_get (ci := 12) (v := .int s3) (C := RX12) (T := TX12) (N := 34) hx hb hts (fun _ h => List.mem_cons_of_mem _ (List.mem_append_right _ h)) hown hK.1 hP 0 rfl rfl 3 (by decide) (hts (.fieldLink RX12 88 "CutAtlasModel" "places" "I") (List.mem_of_getElem? (i := 2) rfl)) (fun _ h9 => h9) rfl dB_3_0_19.1.1.2.1 ?_
    refine lv_iconst (v := 1) hx hb dB_3_0_19.1.1.2.2 (by decide) ?_
    refine lv_iadd hx hb dB_3_0_19.1.2.1.1 ?_
    refine lv_topi (fun y_12 ey_12 => ?_)
    have ty_12 : y_12.toInt = s3.toInt + (1 : Int32).toInt := by rw [ey_12]; exact addI (by omega) (by omega)
    refine va_put (ci := 12) (v := .int y_12) (ty := .int) (C := RX12) (T := TX12) (N := 34) hx hb hts (fun _ h => List.mem_cons_of_mem _ (List.mem_append_right _ h)) tyX12 tyX12_ok nmX12 hown hK.1 hP hD hS 0 rfl rfl 3 (by decide) (hts (.fieldLink RX12 88 "CutAtlasModel" "places" "I") (List.mem_of_getElem? (i := 2) rfl)) (fun _ h9 => h9) rfl (by decide +kernel) rfl rfl (Nat.le_of_ble_eq_true rfl) dB_3_0_19.1.2.1.2 (fun H locs hP hD hS => ?_)
    refine pd_K [ob12_0_ mo 0 s1 t2 y_12 s4 g5 g6 g7 g8 g9 g10 n11_3 g12 g13 g14 g15 g16 g17 g18 g19 g20 s21 g22 g23 g24 s25 s26 s27 s28 g29 g30 g31 g32 g33, ai_ cy g5 40 f5, ai_ cy g6 40 f6, ai_ cy g7 40 f7, ai_ cy g8 40 f8, ai_ cy g9 40 f9, az_ cy g10 40 f10, ai_ cy g12 30 e12_4, ai_ cy g13 30 e13_5, ai_ cy g14 6000 e14_6] hP hD (fun hP hD => ?_)
    refine lv_aload_n hx hb dB_3_0_19.1.2.2.1 rfl (lv_at hl 0 rfl) ?_
    refine va_get (ci := 12) (v := .int y_12) (C := RX12) (T := TX12) (N := 34) hx hb hts (fun _ h => List.mem_cons_of_mem _ (List.mem_append_right _ h)) hown hK.1 hP 0 rfl rfl 3 (by decide) (hts (.fieldLink RX12 88 "CutAtlasModel" "places" "I") (List.mem_of_getElem? (i := 2) rfl)) (fun _ h9 => h9) rfl dB_3_0_19.1.2.2.2 ?_
    refine lv_iconst (v := 1) hx hb dB_3_0_19.2.1.1.1 (by decide) ?_
    refine lv_isub hx hb dB_3_0_19.2.1.1.2 ?_
    refine lv_topi (fun y_13 ey_13 => ?_)
    have ty_13 : y_13.toInt = y_12.toInt - (1 : Int32).toInt := by rw [ey_13]; exact subI (by omega) (by omega)
    rw [hQ]
    exact W.iret (v := y_13) hx hb hr (fun t ht hW => ⟨⟨y_13, (), rfl, trivial, y_12, n11_3, e12_4, e13_5, e14_6, (by first | with_reducible assumption | omega | assumption), (by first | with_reducible assumption | omega | assumption), (by first | exact hnet | exact netE_up hnet (by omega)), (by first | exact hpa_ | assumption), (by first | with_reducible assumption | assumption | exact rng_zero (by omega) (by omega) | omega), (by first | with_reducible assumption | assumption | exact rng_zero (by omega) (by omega) | omega), (by first | with_reducible assumption | assumption | exact rng_zero (by omega) (by omega) | omega), by rw [ht]; exact hP, hD⟩, hS.F ht⟩) hS.2.2 dB_3_0_19.2.1.2.1
  · have t_1 : s3.toInt = (12 : Int32).toInt := congrArg Int32.toInt c_1
    refine lv_bipush (v := (-3)) hx hb dB_3_0_18.2.2.1.1 (by decide) ?_
    rw [hQ]
    exact W.iret (v := (-3)) hx hb hr (fun t ht hW => ⟨⟨(-3), (), rfl, trivial, s3, s11, f12, f13, f14, (by first | with_reducible assumption | omega | assumption), (by first | with_reducible assumption | omega | assumption), (by first | exact hnet | exact netE_up hnet (by omega)), (by first | exact hpa_ | assumption), (by first | with_reducible assumption | assumption | exact rng_zero (by omega) (by omega) | omega), (by first | with_reducible assumption | assumption | exact rng_zero (by omega) (by omega) | omega), (by first | with_reducible assumption | assumption | exact rng_zero (by omega) (by omega) | omega), by rw [ht]; exact hP, hD⟩, hS.F ht⟩) hS.2.2 dB_3_0_18.2.2.1.2

set_option maxHeartbeats 4000000 in
set_option maxRecDepth 100000 in
theorem c_X12_line2 (l : Launch) (D : va_G) (cy : Nat → ClassId) (sz : Nat) (mo : Nat) (g5 : Nat) (g6 : Nat) (g7 : Nat) (g8 : Nat) (g9 : Nat) (g10 : Nat) (g12 : Nat) (g13 : Nat) (g14 : Nat) (g15 : Nat) (g16 : Nat) (g17 : Nat) (g18 : Nat) (g19 : Nat) (g20 : Nat) (g22 : Nat) (g23 : Nat) (g24 : Nat) (g29 : Nat) (g30 : Nat) (g31 : Nat) (g32 : Nat) (g33 : Nat) (s0 : Int32) (s1 : Int32) (s3 : Int32) (s4 : Int32) (s11 : Int32) (s21 : Int32) (s25 : Int32) (s26 : Int32) (s27 : Int32) (s28 : Int32) (t2 : Int64) (f5 : Nat → Int32) (f6 : Nat → Int32) (f7 : Nat → Int32) (f8 : Nat → Int32) (f9 : Nat → Int32) (f10 : Nat → Int32) (f12 : Nat → Int32) (f13 : Nat → Int32) (f14 : Nat → Int32) (a1 : Int32) (a2 : Int32) (a3 : Int32) (a4 : Int32) (a5 : Int32) (hN : 0 ≤ s4.toInt ∧ s4.toInt ≤ 40) (hPl : 0 ≤ s3.toInt ∧ s3.toInt ≤ 12) (hU : 0 ≤ s11.toInt ∧ s11.toInt ≤ 30) (hnet : netE s3.toInt s4.toInt f6 f7 f10) (hpast : pastE s11.toInt f12 f13 f14) (r_f6 : rng f6 40 (0) (11)) (r_f7 : rng f7 40 (0) (11)) (r_f8 : rng f8 40 (0) (2000)) (r_f9 : rng f9 40 (0) (100)) (r_f12 : rng f12 30 (0) (12)) (r_f13 : rng f13 30 (0) (40)) (r_f14 : orng f14 6000) : Met l yX12_line wsX12_line ({ frames := 2, cells := 0, slots := 0, locals := 56 }) (va_Pc [.ref mo, .int a1, .int a2, .int a3, .int a4, .int a5] (fun U => U.heap.size = sz ∧ va_P D vwCl [ob12_0_ mo s0 s1 t2 s3 s4 g5 g6 g7 g8 g9 g10 s11 g12 g13 g14 g15 g16 g17 g18 g19 g20 s21 g22 g23 g24 s25 s26 s27 s28 g29 g30 g31 g32 g33, ai_ cy g5 40 f5, ai_ cy g6 40 f6, ai_ cy g7 40 f7, ai_ cy g8 40 f8, ai_ cy g9 40 f9, az_ cy g10 40 f10, ai_ cy g12 30 f12, ai_ cy g13 30 f13, ai_ cy g14 6000 f14] U.heap ∧ kk_ D cy U ∧ va_D (fun _ => True) [ob12_0_ mo s0 s1 t2 s3 s4 g5 g6 g7 g8 g9 g10 s11 g12 g13 g14 g15 g16 g17 g18 g19 g20 s21 g22 g23 g24 s25 s26 s27 s28 g29 g30 g31 g32 g33, ai_ cy g5 40 f5, ai_ cy g6 40 f6, ai_ cy g7 40 f7, ai_ cy g8 40 f8, ai_ cy g9 40 f9, az_ cy g10 40 f10, ai_ cy g12 30 f12, ai_ cy g13 30 f13, ai_ cy g14 6000 f14])) (va_Qi (fun (r : Int32) (_ : Unit) => True) (fun (_ : Unit) (t : State) => ∃ (n2 : Int64), ∃ (n4 : Int32), ∃ (n11 : Int32), ∃ (e5 : Nat → Int32), ∃ (e6 : Nat → Int32), ∃ (e7 : Nat → Int32), ∃ (e8 : Nat → Int32), ∃ (e9 : Nat → Int32), ∃ (e10 : Nat → Int32), ∃ (e12 : Nat → Int32), ∃ (e13 : Nat → Int32), ∃ (e14 : Nat → Int32), (0 ≤ n4.toInt ∧ n4.toInt ≤ 40) ∧ (0 ≤ n11.toInt ∧ n11.toInt ≤ 30) ∧ (netE s3.toInt n4.toInt e6 e7 e10) ∧ (pastE n11.toInt e12 e13 e14) ∧ (rng e6 40 (0) (11)) ∧ (rng e7 40 (0) (11)) ∧ (rng e8 40 (0) (2000)) ∧ (rng e9 40 (0) (100)) ∧ (rng e12 30 (0) (12)) ∧ (rng e13 30 (0) (40)) ∧ (orng e14 6000) ∧ va_P D vwCl [ob12_0_ mo 0 s1 n2 s3 n4 g5 g6 g7 g8 g9 g10 n11 g12 g13 g14 g15 g16 g17 g18 g19 g20 s21 g22 g23 g24 s25 s26 s27 s28 g29 g30 g31 g32 g33, ai_ cy g5 40 e5, ai_ cy g6 40 e6, ai_ cy g7 40 e7, ai_ cy g8 40 e8, ai_ cy g9 40 e9, az_ cy g10 40 e10, ai_ cy g12 30 e12, ai_ cy g13 30 e13, ai_ cy g14 6000 e14] t.heap ∧ va_D (va_A [ob12_0_ mo s0 s1 t2 s3 s4 g5 g6 g7 g8 g9 g10 s11 g12 g13 g14 g15 g16 g17 g18 g19 g20 s21 g22 g23 g24 s25 s26 s27 s28 g29 g30 g31 g32 g33, ai_ cy g5 40 f5, ai_ cy g6 40 f6, ai_ cy g7 40 f7, ai_ cy g8 40 f8, ai_ cy g9 40 f9, az_ cy g10 40 f10, ai_ cy g12 30 f12, ai_ cy g13 30 f13, ai_ cy g14 6000 f14] sz) [ob12_0_ mo 0 s1 n2 s3 n4 g5 g6 g7 g8 g9 g10 n11 g12 g13 g14 g15 g16 g17 g18 g19 g20 s21 g22 g23 g24 s25 s26 s27 s28 g29 g30 g31 g32 g33, ai_ cy g5 40 e5, ai_ cy g6 40 e6, ai_ cy g7 40 e7, ai_ cy g8 40 e8, ai_ cy g9 40 e9, az_ cy g10 40 e10, ai_ cy g12 30 e12, ai_ cy g13 30 e13, ai_ cy g14 6000 e14]) (va_A [ob12_0_ mo s0 s1 t2 s3 s4 g5 g6 g7 g8 g9 g10 s11 g12 g13 g14 g15 g16 g17 g18 g19 g20 s21 g22 g23 g24 s25 s26 s27 s28 g29 g30 g31 g32 g33, ai_ cy g5 40 f5, ai_ cy g6 40 f6, ai_ cy g7 40 f7, ai_ cy g8 40 f8, ai_ cy g9 40 f9, az_ cy g10 40 f10, ai_ cy g12 30 f12, ai_ cy g13 30 f13, ai_ cy g14 6000 f14] sz)) 0 0 (va_A [ob12_0_ mo s0 s1 t2 s3 s4 g5 g6 g7 g8 g9 g10 s11 g12 g13 g14 g15 g16 g17 g18 g19 g20 s21 g22 g23 g24 s25 s26 s27 s28 g29 g30 g31 g32 g33, ai_ cy g5 40 f5, ai_ cy g6 40 f6, ai_ cy g7 40 f7, ai_ cy g8 40 f8, ai_ cy g9 40 f9, az_ cy g10 40 f10, ai_ cy g12 30 f12, ai_ cy g13 30 f13, ai_ cy g14 6000 f14] sz) := by
  refine ofQ (cc := cX12_line) (maxL := 7) (ret := (some .int)) (by decide) rfl ?_
  intro p e s m args below meth c s₁ Q hQ B hml hv
  obtain ⟨rfl, hsz, hP, hK, hD0⟩ := hv
  have hx := B.exec
  have hb := B.bytes
  have hr := B.returns
  have hts := atoms_spec (ws := wsX12_line) B.pre
  have hown : s.vm.findClass RX12 = some m.cls := by have h_ := findClass_of_methodNamed B.named; exact h_
  have hlocks := B.notSynchronized
  subst hsz
  have hD := hD0.self (sz := s.heap.size)
  generalize hAe : va_A [ob12_0_ mo s0 s1 t2 s3 s4 g5 g6 g7 g8 g9 g10 s11 g12 g13 g14 g15 g16 g17 g18 g19 g20 s21 g22 g23 g24 s25 s26 s27 s28 g29 g30 g31 g32 g33, ai_ cy g5 40 f5, ai_ cy g6 40 f6, ai_ cy g7 40 f7, ai_ cy g8 40 f8, ai_ cy g9 40 f9, az_ cy g10 40 f10, ai_ cy g12 30 f12, ai_ cy g13 30 f13, ai_ cy g14 6000 f14] s.heap.size = A at hD hQ
  have hA : ∀ q : Nat, s.heap.size ≤ q → A q := fun q h => by rw [← hAe]; exact Or.inr h
  have hS : va_S A s.heap s.heap [] := va_S.rf
  have hl := lv_entry ([.ref mo, .int a1, .int a2, .int a3, .int a4, .int a5]) (n := 7) (Nat.le_of_ble_eq_true rfl)
  rw [lg_entry_eq]
  generalize (lg_sl ([.ref mo, .int a1, .int a2, .int a3, .int a4, .int a5]) ++ List.replicate (7 - (lg_sl ([.ref mo, .int a1, .int a2, .int a3, .int a4, .int a5])).length) Slot.unset).toArray = ls at hl ⊢
  have hl : lv_has ls 7 [(0, .ref mo), (1, .int a1), (2, .int a2), (3, .int a3), (4, .int a4), (5, .int a5)] := hl
  have zm3 : ((-3) : Int32).toInt = -3 := by decide
  have zm1 : ((-1) : Int32).toInt = -1 := by decide
  have z0 : (0 : Int32).toInt = 0 := by decide
  have z1 : (1 : Int32).toInt = 1 := by decide
  refine lv_aload_n hx hb dB_3_0_26.2.1.2.2 rfl (lv_at hl 0 rfl) ?_
  refine lv_iconst (v := 0) hx hb dB_3_0_26.2.2.1.1 (by decide) ?_
  refine va_put (ci := 12) (v := .int 0) (ty := .int) (C := RX12) (T := TX12) (N := 34) hx hb hts (fun _ h => List.mem_cons_of_mem _ (List.mem_append_right _ h)) tyX12 tyX12_ok nmX12 hown hK.1 hP hD hS 0 rfl rfl 0 (by decide) (hts (.fieldLink RX12 85 "CutAtlasModel" "thrown" "I") (List.mem_of_getElem? (i := 1) rfl)) (fun _ h9 => h9) rfl (by decide +kernel) rfl rfl (Nat.le_of_ble_eq_true rfl) dB_3_0_26.2.2.1.2 (fun H locs hP hD hS => ?_)
  refine pd_K [ob12_0_ mo 0 s1 t2 s3 s4 g5 g6 g7 g8 g9 g10 s11 g12 g13 g14 g15 g16 g17 g18 g19 g20 s21 g22 g23 g24 s25 s26 s27 s28 g29 g30 g31 g32 g33, ai_ cy g5 40 f5, ai_ cy g6 40 f6, ai_ cy g7 40 f7, ai_ cy g8 40 f8, ai_ cy g9 40 f9, az_ cy g10 40 f10, ai_ cy g12 30 f12, ai_ cy g13 30 f13, ai_ cy g14 6000 f14] hP hD (fun hP hD => ?_)
  refine lv_aload_n hx hb dB_3_0_26.2.2.2.1 rfl (lv_at hl 0 rfl) ?_
  refine lv_iload_n hx hb dB_3_0_26.2.2.2.2 rfl (lv_at hl 1 rfl) ?_
  refine lv_i2l (v := a1.toInt64) hx hb dB_3_0_27.1.1.1.1 rfl ?_
  have q_7 : (a1.toInt64).toInt = a1.toInt := Int32.toInt_toInt64 a1
  refine lv_iload_n hx hb dB_3_0_27.1.1.1.2 rfl (lv_at hl 2 rfl) ?_
  refine lv_i2l (v := a2.toInt64) hx hb dB_3_0_27.1.1.2.1 rfl ?_
  have q_9 : (a2.toInt64).toInt = a2.toInt := Int32.toInt_toInt64 a2
  refine lv_iload_n hx hb dB_3_0_27.1.1.2.2 rfl (lv_at hl 3 rfl) ?_
  refine lv_i2l (v := a3.toInt64) hx hb dB_3_0_27.1.2.1.1 rfl ?_
  have q_11 : (a3.toInt64).toInt = a3.toInt := Int32.toInt_toInt64 a3
  refine lv_iload hx hb dB_3_0_27.1.2.1.2 (lv_at hl 4 rfl) ?_
  refine lv_i2l (v := a4.toInt64) hx hb dB_3_0_27.1.2.2.1 rfl ?_
  have q_14 : (a4.toInt64).toInt = a4.toInt := Int32.toInt_toInt64 a4
  refine lv_iload hx hb dB_3_0_27.1.2.2.2 (lv_at hl 5 rfl) ?_
  refine lv_i2l (v := a5.toInt64) hx hb dB_3_0_27.2.1.1.1 rfl ?_
  have q_17 : (a5.toInt64).toInt = a5.toInt := Int32.toInt_toInt64 a5
  refine ct_R hP hD [ob12_0_ mo 0 s1 t2 s3 s4 g5 g6 g7 g8 g9 g10 s11 g12 g13 g14 g15 g16 g17 g18 g19 g20 s21 g22 g23 g24 s25 s26 s27 s28 g29 g30 g31 g32 g33] [0] (by decide) rfl (fun hPc hDw => ?_)
  have hFc := va_free (wc := []) hD hS hA [] rfl
  refine va_calli (va_runV (As := [.long a1.toInt64, .long a2.toInt64, .long a3.toInt64, .long a4.toInt64, .long a5.toInt64]) (rest := []) ⟨hx, hb, hml, hown, hts⟩ (c_X12_refused l D cy H.size mo g5 g6 g7 g8 g9 g10 g12 g13 g14 g15 g16 g17 g18 g19 g20 g22 g23 g24 g29 g30 g31 g32 g33 (0 : Int32) s1 s3 s4 s11 s21 s25 s26 s27 s28 t2 a1.toInt64 a2.toInt64 a3.toInt64 a4.toInt64 a5.toInt64 (by first | with_reducible assumption | omega | assumption) (by first | with_reducible assumption | omega | assumption)) (cwV 5 hts gX12_line_X12_refused rfl rfl rfl ⟨rfl, hd_X12_refused⟩ ⟨Nat.le_of_ble_eq_true rfl, Nat.le_of_ble_eq_true rfl⟩) ⟨bl_, va_recvX hK.1 hP (ci := 12) (q0 := 0) rfl rfl, fun U hU hW => ⟨rfl, by rw [hU], by rw [hU]; exact hPc, kk_mv hW hK, hDw⟩⟩ rfl rfl hl.1 rfl (lv_room (Nat.le_of_ble_eq_true rfl)) dB_3_0_27.2.1.1.2 ⟨Nat.le_of_ble_eq_true rfl, Nat.le_of_ble_eq_true rfl⟩) hS (fun q _ h => hFc q h) hFc (fun r_1 u t H locs ht hvm hw hB hz1 hk1 hS => ?_)
  have hP : va_P D vwCl _ H := ro_keep hP hk1
  rcases hw with ⟨w_2, e_⟩ | ⟨w_2, e_⟩ | ⟨w_2, e_⟩
  · have e_ := e_.symm
    subst e_
    refine lv_istore (lv' := [(6, .int (-1)), (0, .ref mo), (1, .int a1), (2, .int a2), (3, .int a3), (4, .int a4), (5, .int a5)]) hx hb dB_3_0_27.2.1.2.1 hl (by decide) rfl (fun ls hl => ?_)
    refine lv_iload hx hb dB_3_0_27.2.1.2.2 (lv_at hl 0 rfl) ?_
    refine lv_if_ge (tgt := 31) hx hb dB_3_0_27.2.2.1.1 (by decide) (fun c_3 => ?_) (fun c_3 => ?_)
    · exact absurd c_3 (by decide)
    · have _ := c_3
      refine lv_iload hx hb dB_3_0_27.2.2.1.2 (lv_at hl 0 rfl) ?_
      rw [hQ]
      exact W.iret (v := (-1)) hx hb hr (fun t ht hW => ⟨⟨(-1), (), rfl, trivial, t2, s4, s11, f5, f6, f7, f8, f9, f10, f12, f13, f14, (by first | with_reducible assumption | omega | assumption), (by first | with_reducible assumption | omega | assumption), (by first | exact hne_ | assumption), (by first | exact hpa_ | assumption), (by first | with_reducible assumption | assumption | exact rng_zero (by omega) (by omega) | omega), (by first | with_reducible assumption | assumption | exact rng_zero (by omega) (by omega) | omega), (by first | with_reducible assumption | assumption | exact rng_zero (by omega) (by omega) | omega), (by first | with_reducible assumption | assumption | exact rng_zero (by omega) (by omega) | omega), (by first | with_reducible assumption | assumption | exact rng_zero (by omega) (by omega) | omega), (by first | with_reducible assumption | assumption | exact rng_zero (by omega) (by omega) | omega), (by first | with_reducible assumption | assumption | exact rng_zero (by omega) (by omega) | omega), by rw [ht]; exact hP, hD⟩, hS.F ht⟩) hS.2.2 dB_3_0_27.2.2.2.1
  · have e_ := e_.symm
    subst e_
    refine lv_istore (lv' := [(6, .int (-3)), (0, .ref mo), (1, .int a1), (2, .int a2), (3, .int a3), (4, .int a4), (5, .int a5)]) hx hb dB_3_0_27.2.1.2.1 hl (by decide) rfl (fun ls hl => ?_)
    refine lv_iload hx hb dB_3_0_27.2.1.2.2 (lv_at hl 0 rfl) ?_
    refine lv_if_ge (tgt := 31) hx hb dB_3_0_27.2.2.1.1 (by decide) (fun c_4 => ?_) (fun c_4 => ?_)
    · exact absurd c_4 (by decide)
    · have _ := c_4
      refine lv_iload hx hb dB_3_0_27.2.2.1.2 (lv_at hl 0 rfl) ?_
      rw [hQ]
      exact W.iret (v := (-3)) hx hb hr (fun t ht hW => ⟨⟨(-3), (), rfl, trivial, t2, s4, s11, f5, f6, f7, f8, f9, f10, f12, f13, f14, (by first | with_reducible assumption | omega | assumption), (by first | with_reducible assumption | omega | assumption), (by first | exact hne_ | assumption), (by first | exact hpa_ | assumption), (by first | with_reducible assumption | assumption | exact rng_zero (by omega) (by omega) | omega), (by first | with_reducible assumption | assumption | exact rng_zero (by omega) (by omega) | omega), (by first | with_reducible assumption | assumption | exact rng_zero (by omega) (by omega) | omega), (by first | with_reducible assumption | assumption | exact rng_zero (by omega) (by omega) | omega), (by first | with_reducible assumption | assumption | exact rng_zero (by omega) (by omega) | omega), (by first | with_reducible assumption | assumption | exact rng_zero (by omega) (by omega) | omega), (by first | with_reducible assumption | assumption | exact rng_zero (by omega) (by omega) | omega), by rw [ht]; exact hP, hD⟩, hS.F ht⟩) hS.2.2 dB_3_0_27.2.2.2.1
  · have e_ := e_.symm
    subst e_
    refine lv_istore (lv' := [(6, .int 0), (0, .ref mo), (1, .int a1), (2, .int a2), (3, .int a3), (4, .int a4), (5, .int a5)]) hx hb dB_3_0_27.2.1.2.1 hl (by decide) rfl (fun ls hl => ?_)
    refine lv_iload hx hb dB_3_0_27.2.1.2.2 (lv_at hl 0 rfl) ?_
    refine lv_if_ge (tgt := 31) hx hb dB_3_0_27.2.2.1.1 (by decide) (fun c_5 => ?_) (fun c_5 => ?_)
    · have _ := c_5
      refine lv_aload_n hx hb dB_3_0_27.2.2.2.2 rfl (lv_at hl 1 rfl) ?_
      refine ct_S hP hD hS hA [ob12_0_ mo 0 s1 t2 s3 s4 g5 g6 g7 g8 g9 g10 s11 g12 g13 g14 g15 g16 g17 g18 g19 g20 s21 g22 g23 g24 s25 s26 s27 s28 g29 g30 g31 g32 g33, ai_ cy g5 40 f5, ai_ cy g6 40 f6, ai_ cy g7 40 f7, ai_ cy g8 40 f8, ai_ cy g9 40 f9, az_ cy g10 40 f10, ai_ cy g12 30 f12, ai_ cy g13 30 f13, ai_ cy g14 6000 f14] [0, 1, 2, 3, 4, 5, 6, 7, 8, 9] (by decide) rfl (fun hPc hDw hFc hC_ => ?_)
      refine va_callv (va_runV (As := []) (rest := []) ⟨hx, hb, hml, hown, hts⟩ (c_X12_keeps2 l D cy H.size mo g5 g6 g7 g8 g9 g10 g12 g13 g14 g15 g16 g17 g18 g19 g20 g22 g23 g24 g29 g30 g31 g32 g33 (0 : Int32) s1 s3 s4 s11 s21 s25 s26 s27 s28 t2 f5 f6 f7 f8 f9 f10 f12 f13 f14 (by first | with_reducible assumption | omega | assumption) (by first | with_reducible assumption | omega | assumption) (by first | with_reducible assumption | omega | assumption) (by first | with_reducible assumption | assumption | omega) (by first | with_reducible assumption | assumption | omega) (by first | with_reducible assumption | assumption | omega) (by first | with_reducible assumption | assumption | omega) (by first | with_reducible assumption | assumption | omega) (by first | with_reducible assumption | assumption | omega) (by first | with_reducible assumption | assumption | omega)) (cwV 0 hts gX12_line_X12_keeps rfl rfl rfl ⟨rfl, hd_X12_keeps⟩ ⟨Nat.le_of_ble_eq_true rfl, Nat.le_of_ble_eq_true rfl⟩) ⟨bl_, va_recvX hK.1 hP (ci := 12) (q0 := 0) rfl rfl, fun U hU hW => ⟨rfl, by rw [hU], by rw [hU]; exact hPc, kk_mv hW hK, hDw⟩⟩ rfl rfl hl.1 rfl (lv_room (Nat.le_of_ble_eq_true rfl)) dB_3_0_28.1.1.1.1 ⟨Nat.le_of_ble_eq_true rfl, Nat.le_of_ble_eq_true rfl⟩) hS (fun q _ h => hFc q h) hFc (fun u t H locs ht hvm hw hB hz1 hk1 hS => ?_)
      obtain ⟨n11_7, e12_8, e13_9, e14_10, g_11, g_12, g_13, g_14, g_15, hP1, hD1⟩ := hB
      rw [ht] at hP1
      obtain ⟨hP, hD⟩ := va_join (wr := []) (w1 := [ob12_0_ mo 0 s1 t2 s3 s4 g5 g6 g7 g8 g9 g10 n11_7 g12 g13 g14 g15 g16 g17 g18 g19 g20 s21 g22 g23 g24 s25 s26 s27 s28 g29 g30 g31 g32 g33, ai_ cy g5 40 f5, ai_ cy g6 40 f6, ai_ cy g7 40 f7, ai_ cy g8 40 f8, ai_ cy g9 40 f9, az_ cy g10 40 f10, ai_ cy g12 30 e12_8, ai_ cy g13 30 e13_9, ai_ cy g14 6000 e14_10]) hP hD [0, 1, 2, 3, 4, 5, 6, 7, 8, 9] [] hC_ rfl (by decide) (by decide) hk1 hFc hP1 hD1
      refine pd_K [ob12_0_ mo 0 s1 t2 s3 s4 g5 g6 g7 g8 g9 g10 n11_7 g12 g13 g14 g15 g16 g17 g18 g19 g20 s21 g22 g23 g24 s25 s26 s27 s28 g29 g30 g31 g32 g33, ai_ cy g5 40 f5, ai_ cy g6 40 f6, ai_ cy g7 40 f7, ai_ cy g8 40 f8, ai_ cy g9 40 f9, az_ cy g10 40 f10, ai_ cy g12 30 e12_8, ai_ cy g13 30 e13_9, ai_ cy g14 6000 e14_10] hP hD (fun hP hD => ?_)
      have hpa_ : pastE n11_7.toInt e12_8 e13_9 e14_10 := kept_past g_12 hnet hpast (by omega) (by assumption) (by assumption) (by omega)
      refine lv_aload_n hx hb dB_3_0_28.1.1.1.2 rfl (lv_at hl 1 rfl) ?_
      refine lv_iload_n hx hb dB_3_0_28.1.1.2.1 rfl (lv_at hl 2 rfl) ?_
      refine lv_iload_n hx hb dB_3_0_28.1.1.2.2 rfl (lv_at hl 3 rfl) ?_
      refine lv_iload_n hx hb dB_3_0_28.1.2.1.1 rfl (lv_at hl 4 rfl) ?_
      refine lv_iload hx hb dB_3_0_28.1.2.1.2 (lv_at hl 5 rfl) ?_
      refine lv_iload hx hb dB_3_0_28.1.2.2.1 (lv_at hl 6 rfl) ?_
      refine ct_S hP hD hS hA [ob12_0_ mo 0 s1 t2 s3 s4 g5 g6 g7 g8 g9 g10 n11_7 g12 g13 g14 g15 g16 g17 g18 g19 g20 s21 g22 g23 g24 s25 s26 s27 s28 g29 g30 g31 g32 g33, ai_ cy g5 40 f5, ai_ cy g6 40 f6, ai_ cy g7 40 f7, ai_ cy g8 40 f8, ai_ cy g9 40 f9, az_ cy g10 40 f10] [0, 1, 2, 3, 4, 5, 6] (by decide) rfl (fun hPc hDw hFc hC_ => ?_)
      refine va_callv (va_runV (As := [.int a1, .int a2, .int a3, .int a4, .int a5]) (rest := []) ⟨hx, hb, hml, hown, hts⟩ (c_X12_adds2 l D cy H.size mo g5 g6 g7 g8 g9 g10 g12 g13 g14 g15 g16 g17 g18 g19 g20 g22 g23 g24 g29 g30 g31 g32 g33 (0 : Int32) s1 s3 s4 n11_7 s21 s25 s26 s27 s28 t2 f5 f6 f7 f8 f9 f10 a1 a2 a3 a4 a5 (by first | with_reducible assumption | omega | assumption) (by first | with_reducible assumption | omega | assumption) (by first | with_reducible assumption | omega | assumption) (by first | with_reducible assumption | omega | assumption) (by first | with_reducible assumption | omega | assumption) (by first | with_reducible assumption | assumption | omega) (by first | with_reducible assumption | assumption | omega) (by first | with_reducible assumption | assumption | omega) (by first | with_reducible assumption | assumption | omega)) (cwV 5 hts gX12_line_X12_adds rfl rfl rfl ⟨rfl, hd_X12_adds⟩ ⟨Nat.le_of_ble_eq_true rfl, Nat.le_of_ble_eq_true rfl⟩) ⟨bl_, va_recvX hK.1 hP (ci := 12) (q0 := 0) rfl rfl, fun U hU hW => ⟨rfl, by rw [hU], by rw [hU]; exact hPc, kk_mv hW hK, hDw⟩⟩ rfl rfl hl.1 rfl (lv_room (Nat.le_of_ble_eq_true rfl)) dB_3_0_28.1.2.2.2 ⟨Nat.le_of_ble_eq_true rfl, Nat.le_of_ble_eq_true rfl⟩) hS (fun q _ h => hFc q h) hFc (fun u t H locs ht hvm hw hB hz1 hk1 hS => ?_)
      obtain ⟨n2_17, n4_18, e5_19, e6_20, e7_21, e8_22, e9_23, e10_24, g_25, g_26, g_27, g_28, g_29, g_30, g_31, g_32, g_33, g_34, g_35, g_36, hP1, hD1⟩ := hB
      rw [ht] at hP1
      obtain ⟨hP, hD⟩ := va_join (wr := [ai_ cy g12 30 e12_8, ai_ cy g13 30 e13_9, ai_ cy g14 6000 e14_10]) (w1 := [ob12_0_ mo 0 s1 n2_17 s3 n4_18 g5 g6 g7 g8 g9 g10 n11_7 g12 g13 g14 g15 g16 g17 g18 g19 g20 s21 g22 g23 g24 s25 s26 s27 s28 g29 g30 g31 g32 g33, ai_ cy g5 40 e5_19, ai_ cy g6 40 e6_20, ai_ cy g7 40 e7_21, ai_ cy g8 40 e8_22, ai_ cy g9 40 e9_23, az_ cy g10 40 e10_24]) hP hD [0, 1, 2, 3, 4, 5, 6] [7, 8, 9] hC_ rfl (by decide) (by decide) hk1 hFc hP1 hD1
      refine pd_S hP hD [ob12_0_ mo 0 s1 n2_17 s3 n4_18 g5 g6 g7 g8 g9 g10 n11_7 g12 g13 g14 g15 g16 g17 g18 g19 g20 s21 g22 g23 g24 s25 s26 s27 s28 g29 g30 g31 g32 g33, ai_ cy g5 40 e5_19, ai_ cy g6 40 e6_20, ai_ cy g7 40 e7_21, ai_ cy g8 40 e8_22, ai_ cy g9 40 e9_23, az_ cy g10 40 e10_24, ai_ cy g12 30 e12_8, ai_ cy g13 30 e13_9, ai_ cy g14 6000 e14_10] [3, 4, 5, 6, 7, 8, 9, 0, 1, 2] (by decide) rfl (fun hP hD => ?_)
      have hne_ : netE s3.toInt n4_18.toInt e6_20 e7_21 e10_24 := netE_add hnet g_27 g_28 g_31 (by omega) g_25 (by omega) (by omega)
      refine lv_aload_n hx hb dB_3_0_28.2.1.1.1 rfl (lv_at hl 1 rfl) ?_
      refine va_get (ci := 12) (v := .int n4_18) (C := RX12) (T := TX12) (N := 34) hx hb hts (fun _ h => List.mem_cons_of_mem _ (List.mem_append_right _ h)) hown hK.1 hP 0 rfl rfl 4 (by decide) (hts (.fieldLink RX12 95 "CutAtlasModel" "lines" "I") (List.mem_of_getElem? (i := 2) rfl)) (fun _ h9 => h9) rfl dB_3_0_28.2.1.1.2 ?_
      refine lv_iconst (v := 1) hx hb dB_3_0_28.2.1.2.1 (by decide) ?_
      refine lv_isub hx hb dB_3_0_28.2.1.2.2 ?_
      refine lv_topi (fun y_37 ey_37 => ?_)
      have ty_37 : y_37.toInt = n4_18.toInt - (1 : Int32).toInt := by rw [ey_37]; exact subI (by omega) (by omega)
      rw [hQ]
      exact W.iret (v := y_37) hx hb hr (fun t ht hW => ⟨⟨y_37, (), rfl, trivial, n2_17, n4_18, n11_7, e5_19, e6_20, e7_21, e8_22, e9_23, e10_24, e12_8, e13_9, e14_10, (by first | with_reducible assumption | omega | assumption), (by first | with_reducible assumption | omega | assumption), (by first | exact hne_ | assumption), (by first | exact hpa_ | assumption), (by first | with_reducible assumption | assumption | exact rng_zero (by omega) (by omega) | omega), (by first | with_reducible assumption | assumption | exact rng_zero (by omega) (by omega) | omega), (by first | with_reducible assumption | assumption | exact rng_zero (by omega) (by omega) | omega), (by first | with_reducible assumption | assumption | exact rng_zero (by omega) (by omega) | omega), (by first | with_reducible assumption | assumption | exact rng_zero (by omega) (by omega) | omega), (by first | with_reducible assumption | assumption | exact rng_zero (by omega) (by omega) | omega), (by first | with_reducible assumption | assumption | exact rng_zero (by omega) (by omega) | omega), by rw [ht]; exact hP, hD⟩, hS.F ht⟩) hS.2.2 dB_3_0_28.2.2.1.1
    · exact absurd c_5 (by decide)

set_option maxHeartbeats 4000000 in
set_option maxRecDepth 100000 in
theorem c_X12_widen2 (l : Launch) (D : va_G) (cy : Nat → ClassId) (sz : Nat) (mo : Nat) (g5 : Nat) (g6 : Nat) (g7 : Nat) (g8 : Nat) (g9 : Nat) (g10 : Nat) (g12 : Nat) (g13 : Nat) (g14 : Nat) (g15 : Nat) (g16 : Nat) (g17 : Nat) (g18 : Nat) (g19 : Nat) (g20 : Nat) (g22 : Nat) (g23 : Nat) (g24 : Nat) (g29 : Nat) (g30 : Nat) (g31 : Nat) (g32 : Nat) (g33 : Nat) (s0 : Int32) (s1 : Int32) (s3 : Int32) (s4 : Int32) (s11 : Int32) (s21 : Int32) (s25 : Int32) (s26 : Int32) (s27 : Int32) (s28 : Int32) (t2 : Int64) (f5 : Nat → Int32) (f6 : Nat → Int32) (f7 : Nat → Int32) (f8 : Nat → Int32) (f9 : Nat → Int32) (f10 : Nat → Int32) (f12 : Nat → Int32) (f13 : Nat → Int32) (f14 : Nat → Int32) (a1 : Int32) (a2 : Int32) (hN : 0 ≤ s4.toInt ∧ s4.toInt ≤ 40) (hPl : 0 ≤ s3.toInt ∧ s3.toInt ≤ 12) (hU : 0 ≤ s11.toInt ∧ s11.toInt ≤ 30) (hnet : netE s3.toInt s4.toInt f6 f7 f10) (hpast : pastE s11.toInt f12 f13 f14) (r_f6 : rng f6 40 (0) (11)) (r_f7 : rng f7 40 (0) (11)) (r_f8 : rng f8 40 (0) (2000)) (r_f9 : rng f9 40 (0) (100)) (r_f12 : rng f12 30 (0) (12)) (r_f13 : rng f13 30 (0) (40)) (r_f14 : orng f14 6000) : Met l yX12_widen wsX12_widen ({ frames := 2, cells := 0, slots := 0, locals := 46 }) (va_Pc [.ref mo, .int a1, .int a2] (fun U => U.heap.size = sz ∧ va_P D vwCl [ob12_0_ mo s0 s1 t2 s3 s4 g5 g6 g7 g8 g9 g10 s11 g12 g13 g14 g15 g16 g17 g18 g19 g20 s21 g22 g23 g24 s25 s26 s27 s28 g29 g30 g31 g32 g33, ai_ cy g5 40 f5, ai_ cy g6 40 f6, ai_ cy g7 40 f7, ai_ cy g8 40 f8, ai_ cy g9 40 f9, az_ cy g10 40 f10, ai_ cy g12 30 f12, ai_ cy g13 30 f13, ai_ cy g14 6000 f14] U.heap ∧ kk_ D cy U ∧ va_D (fun _ => True) [ob12_0_ mo s0 s1 t2 s3 s4 g5 g6 g7 g8 g9 g10 s11 g12 g13 g14 g15 g16 g17 g18 g19 g20 s21 g22 g23 g24 s25 s26 s27 s28 g29 g30 g31 g32 g33, ai_ cy g5 40 f5, ai_ cy g6 40 f6, ai_ cy g7 40 f7, ai_ cy g8 40 f8, ai_ cy g9 40 f9, az_ cy g10 40 f10, ai_ cy g12 30 f12, ai_ cy g13 30 f13, ai_ cy g14 6000 f14])) (va_Qi (fun (r : Int32) (_ : Unit) => True) (fun (_ : Unit) (t : State) => ∃ (n2 : Int64), ∃ (n11 : Int32), ∃ (e8 : Nat → Int32), ∃ (e12 : Nat → Int32), ∃ (e13 : Nat → Int32), ∃ (e14 : Nat → Int32), (0 ≤ n11.toInt ∧ n11.toInt ≤ 30) ∧ (pastE n11.toInt e12 e13 e14) ∧ (rng e8 40 (0) (2000)) ∧ (rng e12 30 (0) (12)) ∧ (rng e13 30 (0) (40)) ∧ (orng e14 6000) ∧ va_P D vwCl [ob12_0_ mo 0 s1 n2 s3 s4 g5 g6 g7 g8 g9 g10 n11 g12 g13 g14 g15 g16 g17 g18 g19 g20 s21 g22 g23 g24 s25 s26 s27 s28 g29 g30 g31 g32 g33, ai_ cy g5 40 f5, ai_ cy g6 40 f6, ai_ cy g7 40 f7, ai_ cy g8 40 e8, ai_ cy g9 40 f9, az_ cy g10 40 f10, ai_ cy g12 30 e12, ai_ cy g13 30 e13, ai_ cy g14 6000 e14] t.heap ∧ va_D (va_A [ob12_0_ mo s0 s1 t2 s3 s4 g5 g6 g7 g8 g9 g10 s11 g12 g13 g14 g15 g16 g17 g18 g19 g20 s21 g22 g23 g24 s25 s26 s27 s28 g29 g30 g31 g32 g33, ai_ cy g5 40 f5, ai_ cy g6 40 f6, ai_ cy g7 40 f7, ai_ cy g8 40 f8, ai_ cy g9 40 f9, az_ cy g10 40 f10, ai_ cy g12 30 f12, ai_ cy g13 30 f13, ai_ cy g14 6000 f14] sz) [ob12_0_ mo 0 s1 n2 s3 s4 g5 g6 g7 g8 g9 g10 n11 g12 g13 g14 g15 g16 g17 g18 g19 g20 s21 g22 g23 g24 s25 s26 s27 s28 g29 g30 g31 g32 g33, ai_ cy g5 40 f5, ai_ cy g6 40 f6, ai_ cy g7 40 f7, ai_ cy g8 40 e8, ai_ cy g9 40 f9, az_ cy g10 40 f10, ai_ cy g12 30 e12, ai_ cy g13 30 e13, ai_ cy g14 6000 e14]) (va_A [ob12_0_ mo s0 s1 t2 s3 s4 g5 g6 g7 g8 g9 g10 s11 g12 g13 g14 g15 g16 g17 g18 g19 g20 s21 g22 g23 g24 s25 s26 s27 s28 g29 g30 g31 g32 g33, ai_ cy g5 40 f5, ai_ cy g6 40 f6, ai_ cy g7 40 f7, ai_ cy g8 40 f8, ai_ cy g9 40 f9, az_ cy g10 40 f10, ai_ cy g12 30 f12, ai_ cy g13 30 f13, ai_ cy g14 6000 f14] sz)) 0 0 (va_A [ob12_0_ mo s0 s1 t2 s3 s4 g5 g6 g7 g8 g9 g10 s11 g12 g13 g14 g15 g16 g17 g18 g19 g20 s21 g22 g23 g24 s25 s26 s27 s28 g29 g30 g31 g32 g33, ai_ cy g5 40 f5, ai_ cy g6 40 f6, ai_ cy g7 40 f7, ai_ cy g8 40 f8, ai_ cy g9 40 f9, az_ cy g10 40 f10, ai_ cy g12 30 f12, ai_ cy g13 30 f13, ai_ cy g14 6000 f14] sz) := by
  refine ofQ (cc := cX12_widen) (maxL := 3) (ret := (some .int)) (by decide) rfl ?_
  intro p e s m args below meth c s₁ Q hQ B hml hv
  obtain ⟨rfl, hsz, hP, hK, hD0⟩ := hv
  have hx := B.exec
  have hb := B.bytes
  have hr := B.returns
  have hts := atoms_spec (ws := wsX12_widen) B.pre
  have hown : s.vm.findClass RX12 = some m.cls := by have h_ := findClass_of_methodNamed B.named; exact h_
  have hlocks := B.notSynchronized
  subst hsz
  have hD := hD0.self (sz := s.heap.size)
  generalize hAe : va_A [ob12_0_ mo s0 s1 t2 s3 s4 g5 g6 g7 g8 g9 g10 s11 g12 g13 g14 g15 g16 g17 g18 g19 g20 s21 g22 g23 g24 s25 s26 s27 s28 g29 g30 g31 g32 g33, ai_ cy g5 40 f5, ai_ cy g6 40 f6, ai_ cy g7 40 f7, ai_ cy g8 40 f8, ai_ cy g9 40 f9, az_ cy g10 40 f10, ai_ cy g12 30 f12, ai_ cy g13 30 f13, ai_ cy g14 6000 f14] s.heap.size = A at hD hQ
  have hA : ∀ q : Nat, s.heap.size ≤ q → A q := fun q h => by rw [← hAe]; exact Or.inr h
  have hS : va_S A s.heap s.heap [] := va_S.rf
  have hl := lv_entry ([.ref mo, .int a1, .int a2]) (n := 3) (Nat.le_of_ble_eq_true rfl)
  rw [lg_entry_eq]
  generalize (lg_sl ([.ref mo, .int a1, .int a2]) ++ List.replicate (3 - (lg_sl ([.ref mo, .int a1, .int a2])).length) Slot.unset).toArray = ls at hl ⊢
  have hl : lv_has ls 3 [(0, .ref mo), (1, .int a1), (2, .int a2)] := hl
  have zm9 : ((-9) : Int32).toInt = -9 := by decide
  have zm2 : ((-2) : Int32).toInt = -2 := by decide
  have zm1 : ((-1) : Int32).toInt = -1 := by decide
  have z0 : (0 : Int32).toInt = 0 := by decide
  have zl0 : (0 : Int64).toInt = 0 := by decide
  have zl1000 : (1000 : Int64).toInt = 1000 := by decide
  have z2000 : (2000 : Int32).toInt = 2000 := by decide
  refine lv_aload_n hx hb dB_3_0_31.2.1.1.2 rfl (lv_at hl 0 rfl) ?_
  refine lv_iconst (v := 0) hx hb dB_3_0_31.2.1.2.1 (by decide) ?_
  refine va_put (ci := 12) (v := .int 0) (ty := .int) (C := RX12) (T := TX12) (N := 34) hx hb hts (fun _ h => List.mem_cons_of_mem _ (List.mem_append_right _ h)) tyX12 tyX12_ok nmX12 hown hK.1 hP hD hS 0 rfl rfl 0 (by decide) (hts (.fieldLink RX12 85 "CutAtlasModel" "thrown" "I") (List.mem_of_getElem? (i := 1) rfl)) (fun _ h9 => h9) rfl (by decide +kernel) rfl rfl (Nat.le_of_ble_eq_true rfl) dB_3_0_31.2.1.2.2 (fun H locs hP hD hS => ?_)
  refine pd_K [ob12_0_ mo 0 s1 t2 s3 s4 g5 g6 g7 g8 g9 g10 s11 g12 g13 g14 g15 g16 g17 g18 g19 g20 s21 g22 g23 g24 s25 s26 s27 s28 g29 g30 g31 g32 g33, ai_ cy g5 40 f5, ai_ cy g6 40 f6, ai_ cy g7 40 f7, ai_ cy g8 40 f8, ai_ cy g9 40 f9, az_ cy g10 40 f10, ai_ cy g12 30 f12, ai_ cy g13 30 f13, ai_ cy g14 6000 f14] hP hD (fun hP hD => ?_)
  refine lv_aload_n hx hb dB_3_0_31.2.2.1.1 rfl (lv_at hl 0 rfl) ?_
  refine lv_iload_n hx hb dB_3_0_31.2.2.1.2 rfl (lv_at hl 1 rfl) ?_
  refine ct_R hP hD [ob12_0_ mo 0 s1 t2 s3 s4 g5 g6 g7 g8 g9 g10 s11 g12 g13 g14 g15 g16 g17 g18 g19 g20 s21 g22 g23 g24 s25 s26 s27 s28 g29 g30 g31 g32 g33] [0] (by decide) rfl (fun hPc hDw => ?_)
  have hFc := va_free (wc := []) hD hS hA [] rfl
  refine va_calli (va_runV (As := [.int a1]) (rest := []) ⟨hx, hb, hml, hown, hts⟩ (c_X12_isLine l D cy H.size mo g5 g6 g7 g8 g9 g10 g12 g13 g14 g15 g16 g17 g18 g19 g20 g22 g23 g24 g29 g30 g31 g32 g33 (0 : Int32) s1 s3 s4 s11 s21 s25 s26 s27 s28 t2 a1 (by first | with_reducible assumption | omega | assumption)) (cwV 1 hts gX12_widen_X12_isLine rfl rfl rfl ⟨rfl, hd_X12_isLine⟩ ⟨Nat.le_of_ble_eq_true rfl, Nat.le_of_ble_eq_true rfl⟩) ⟨bl_, va_recvX hK.1 hP (ci := 12) (q0 := 0) rfl rfl, fun U hU hW => ⟨rfl, by rw [hU], by rw [hU]; exact hPc, kk_mv hW hK, hDw⟩⟩ rfl rfl hl.1 rfl (lv_room (Nat.le_of_ble_eq_true rfl)) dB_3_0_31.2.2.2.1 ⟨Nat.le_of_ble_eq_true rfl, Nat.le_of_ble_eq_true rfl⟩) hS (fun q _ h => hFc q h) hFc (fun r_1 u t H locs ht hvm hw hB hz1 hk1 hS => ?_)
  have hP : va_P D vwCl _ H := ro_keep hP hk1
  rcases hw with ⟨w_2, e_⟩ | ⟨w_2, e_⟩
  · have e_ := e_.symm
    subst e_
    refine lv_if_eq (tgt := 25) hx hb dB_3_0_31.2.2.2.2 (by decide) (fun c_3 => ?_) (fun c_3 => ?_)
    · exact absurd c_3 (by decide)
    · have _ := c_3
      refine lv_iload_n hx hb dB_3_0_32.1.1.1.1 rfl (lv_at hl 2 rfl) ?_
      refine lv_i2l (v := a2.toInt64) hx hb dB_3_0_32.1.1.1.2 rfl ?_
      have q_14 : (a2.toInt64).toInt = a2.toInt := Int32.toInt_toInt64 a2
      refine lv_lconst (v := 0) hx hb dB_3_0_32.1.1.2.1 (by decide) ?_
      refine lv_ldc2 (v := 1000) hx hb hown (hts (.constantLong RX12 110 (1000)) (List.mem_of_getElem? (i := 2) rfl)) dB_3_0_32.1.1.2.2 ?_
      refine ct_R hP hD [] [] (by decide) rfl (fun hPc hDw => ?_)
      have hFc := va_free (wc := []) hD hS hA [] rfl
      refine va_calli (va_runS (As := [.long a2.toInt64, .long 0, .long 1000]) (rest := []) ⟨hx, hb, hml, hown, hts⟩ (c_X12_in l D cy H.size a2.toInt64 (0 : Int64) (1000 : Int64)) (va_cwS 3 hts gX12_widen_X12_in rfl rfl rfl hd_X12_in ⟨Nat.le_of_ble_eq_true rfl, Nat.le_of_ble_eq_true rfl⟩) ⟨bl_, fun U hU hW => ⟨rfl, by rw [hU], by rw [hU]; exact hPc, kk_mv hW hK, hDw⟩⟩ rfl rfl hl.1 rfl (lv_room (Nat.le_of_ble_eq_true rfl)) dB_3_0_32.1.2.1.1 ⟨Nat.le_of_ble_eq_true rfl, Nat.le_of_ble_eq_true rfl⟩) hS (fun q _ h => hFc q h) hFc (fun r_4 u t H locs ht hvm hw hB hz1 hk1 hS => ?_)
      have hP : va_P D vwCl _ H := ro_keep hP hk1
      rcases hw with ⟨w_5, e_⟩ | ⟨w_5, e_⟩
      · have e_ := e_.symm
        subst e_
        refine lv_if_ne (tgt := 27) hx hb dB_3_0_32.1.2.1.2 (by decide) (fun c_6 => ?_) (fun c_6 => ?_)
        · have _ := c_6
          refine lv_aload_n hx hb dB_3_0_32.2.1.1.1 rfl (lv_at hl 0 rfl) ?_
          refine lv_iload_n hx hb dB_3_0_32.2.1.1.2 rfl (lv_at hl 1 rfl) ?_
          refine ct_R hP hD [ob12_0_ mo 0 s1 t2 s3 s4 g5 g6 g7 g8 g9 g10 s11 g12 g13 g14 g15 g16 g17 g18 g19 g20 s21 g22 g23 g24 s25 s26 s27 s28 g29 g30 g31 g32 g33, ai_ cy g5 40 f5, ai_ cy g9 40 f9] [0, 1, 5] (by decide) rfl (fun hPc hDw => ?_)
          have hFc := va_free (wc := []) hD hS hA [] rfl
          refine va_calli (va_runV (As := [.int a1]) (rest := []) ⟨hx, hb, hml, hown, hts⟩ (c_X12_costs2 l D cy H.size mo g5 g6 g7 g8 g9 g10 g12 g13 g14 g15 g16 g17 g18 g19 g20 g22 g23 g24 g29 g30 g31 g32 g33 (0 : Int32) s1 s3 s4 s11 s21 s25 s26 s27 s28 t2 f5 f9 a1 (by first | with_reducible assumption | omega | assumption) (by first | with_reducible assumption | assumption | omega)) (cwV 1 hts gX12_widen_X12_costs rfl rfl rfl ⟨rfl, hd_X12_costs⟩ ⟨Nat.le_of_ble_eq_true rfl, Nat.le_of_ble_eq_true rfl⟩) ⟨bl_, va_recvX hK.1 hP (ci := 12) (q0 := 0) rfl rfl, fun U hU hW => ⟨rfl, by rw [hU], by rw [hU]; exact hPc, kk_mv hW hK, hDw⟩⟩ rfl rfl hl.1 rfl (lv_room (Nat.le_of_ble_eq_true rfl)) dB_3_0_32.2.1.2.1 ⟨Nat.le_of_ble_eq_true rfl, Nat.le_of_ble_eq_true rfl⟩) hS (fun q _ h => hFc q h) hFc (fun r_7 u t H locs ht hvm hw hB hz1 hk1 hS => ?_)
          have hP : va_P D vwCl _ H := ro_keep hP hk1
          have f0_r_7 := hw
          refine lv_bipush (v := (-9)) hx hb dB_3_0_32.2.1.2.2 (by decide) ?_
          refine lv_icmp_eq (tgt := 60) hx hb dB_3_0_32.2.2.1.1 (by decide) (fun c_8 => ?_) (fun c_8 => ?_)
          · have t_8 : r_7.toInt = ((-9) : Int32).toInt := congrArg Int32.toInt c_8
            refine lv_bipush (v := (-2)) hx hb dB_3_0_33.2.1.2.1 (by decide) ?_
            rw [hQ]
            exact W.iret (v := (-2)) hx hb hr (fun t ht hW => ⟨⟨(-2), (), rfl, trivial, t2, s11, f8, f12, f13, f14, (by first | with_reducible assumption | omega | assumption), (by first | exact hpa_ | assumption), (by first | with_reducible assumption | assumption | exact rng_zero (by omega) (by omega) | omega), (by first | with_reducible assumption | assumption | exact rng_zero (by omega) (by omega) | omega), (by first | with_reducible assumption | assumption | exact rng_zero (by omega) (by omega) | omega), (by first | with_reducible assumption | assumption | exact rng_zero (by omega) (by omega) | omega), by rw [ht]; exact hP, hD⟩, hS.F ht⟩) hS.2.2 dB_3_0_33.2.1.2.2
          · have t_8 : ¬ r_7.toInt = ((-9) : Int32).toInt := fun h => c_8 (Int32.toInt_inj.mp h)
            refine lv_aload_n hx hb dB_3_0_32.2.2.1.2 rfl (lv_at hl 0 rfl) ?_
            refine va_get (ci := 12) (v := .ref g10) (C := RX12) (T := TX12) (N := 34) hx hb hts (fun _ h => List.mem_cons_of_mem _ (List.mem_append_right _ h)) hown hK.1 hP 0 rfl rfl 10 (by decide) (hts (.fieldLink RX12 25 "CutAtlasModel" "isMissing" "[Z") (List.mem_of_getElem? (i := 3) rfl)) (fun _ h9 => h9) rfl dB_3_0_32.2.2.2.1 ?_
            refine lv_iload_n hx hb dB_3_0_32.2.2.2.2 rfl (lv_at hl 1 rfl) ?_
            have h_9 : vp_in a1 40 := in_I (by omega) (by omega)
            refine va_zald hx hb hK.1 hP 6 2 rfl rfl (i := a1) h_9 dB_3_0_33.1.1.1.1 ?_
            refine lv_topi (fun y_10 ey_10 => ?_)
            refine lv_if_ne (tgt := 60) hx hb dB_3_0_33.1.1.1.2 (by decide) (fun c_11 => ?_) (fun c_11 => ?_)
            · have t_11 : ¬ y_10.toInt = (0 : Int32).toInt := fun h => c_11 (Int32.toInt_inj.mp h)
              refine lv_bipush (v := (-2)) hx hb dB_3_0_33.2.1.2.1 (by decide) ?_
              rw [hQ]
              exact W.iret (v := (-2)) hx hb hr (fun t ht hW => ⟨⟨(-2), (), rfl, trivial, t2, s11, f8, f12, f13, f14, (by first | with_reducible assumption | omega | assumption), (by first | exact hpa_ | assumption), (by first | with_reducible assumption | assumption | exact rng_zero (by omega) (by omega) | omega), (by first | with_reducible assumption | assumption | exact rng_zero (by omega) (by omega) | omega), (by first | with_reducible assumption | assumption | exact rng_zero (by omega) (by omega) | omega), (by first | with_reducible assumption | assumption | exact rng_zero (by omega) (by omega) | omega), by rw [ht]; exact hP, hD⟩, hS.F ht⟩) hS.2.2 dB_3_0_33.2.1.2.2
            · have t_11 : y_10.toInt = (0 : Int32).toInt := congrArg Int32.toInt c_11
              refine lv_aload_n hx hb dB_3_0_33.1.1.2.1 rfl (lv_at hl 0 rfl) ?_
              refine va_get (ci := 12) (v := .ref g8) (C := RX12) (T := TX12) (N := 34) hx hb hts (fun _ h => List.mem_cons_of_mem _ (List.mem_append_right _ h)) hown hK.1 hP 0 rfl rfl 8 (by decide) (hts (.fieldLink RX12 19 "CutAtlasModel" "width" "[I") (List.mem_of_getElem? (i := 4) rfl)) (fun _ h9 => h9) rfl dB_3_0_33.1.1.2.2 ?_
              refine lv_iload_n hx hb dB_3_0_33.1.2.1.1 rfl (lv_at hl 1 rfl) ?_
              have h_12 : vp_in a1 40 := in_I (by omega) (by omega)
              refine va_iald hx hb hK.1 hP 4 0 rfl rfl (i := a1) h_12 dB_3_0_33.1.2.1.2 ?_
              refine lv_topi (fun y_13 ey_13 => ?_)
              have ry_13 : 0 ≤ y_13.toInt ∧ y_13.toInt ≤ 2000 := by rw [ey_13]; exact r_f8 _ (in_lt h_12)
              refine lv_iload_n hx hb dB_3_0_33.1.2.2.1 rfl (lv_at hl 2 rfl) ?_
              refine lv_iadd hx hb dB_3_0_33.1.2.2.2 ?_
              refine lv_topi (fun y_14 ey_14 => ?_)
              have ty_14 : y_14.toInt = y_13.toInt + a2.toInt := by rw [ey_14]; exact addI (by omega) (by omega)
              refine lv_sipush (v := 2000) hx hb dB_3_0_33.2.1.1.1 (by decide) ?_
              refine lv_icmp_le (tgt := 63) hx hb dB_3_0_33.2.1.1.2 (by decide) (fun c_15 => ?_) (fun c_15 => ?_)
              · have t_15 : y_14.toInt ≤ (2000 : Int32).toInt := Int32.le_iff_toInt_le.mp c_15
                refine lv_aload_n hx hb dB_3_0_33.2.2.1.1 rfl (lv_at hl 0 rfl) ?_
                refine ct_S hP hD hS hA [ob12_0_ mo 0 s1 t2 s3 s4 g5 g6 g7 g8 g9 g10 s11 g12 g13 g14 g15 g16 g17 g18 g19 g20 s21 g22 g23 g24 s25 s26 s27 s28 g29 g30 g31 g32 g33, ai_ cy g5 40 f5, ai_ cy g6 40 f6, ai_ cy g7 40 f7, ai_ cy g8 40 f8, ai_ cy g9 40 f9, az_ cy g10 40 f10, ai_ cy g12 30 f12, ai_ cy g13 30 f13, ai_ cy g14 6000 f14] [0, 1, 2, 3, 4, 5, 6, 7, 8, 9] (by decide) rfl (fun hPc hDw hFc hC_ => ?_)
                refine va_callv (va_runV (As := []) (rest := []) ⟨hx, hb, hml, hown, hts⟩ (c_X12_keeps2 l D cy H.size mo g5 g6 g7 g8 g9 g10 g12 g13 g14 g15 g16 g17 g18 g19 g20 g22 g23 g24 g29 g30 g31 g32 g33 (0 : Int32) s1 s3 s4 s11 s21 s25 s26 s27 s28 t2 f5 f6 f7 f8 f9 f10 f12 f13 f14 (by first | with_reducible assumption | omega | assumption) (by first | with_reducible assumption | omega | assumption) (by first | with_reducible assumption | omega | assumption) (by first | with_reducible assumption | assumption | omega) (by first | with_reducible assumption | assumption | omega) (by first | with_reducible assumption | assumption | omega) (by first | with_reducible assumption | assumption | omega) (by first | with_reducible assumption | assumption | omega) (by first | with_reducible assumption | assumption | omega) (by first | with_reducible assumption | assumption | omega)) (cwV 0 hts gX12_widen_X12_keeps rfl rfl rfl ⟨rfl, hd_X12_keeps⟩ ⟨Nat.le_of_ble_eq_true rfl, Nat.le_of_ble_eq_true rfl⟩) ⟨bl_, va_recvX hK.1 hP (ci := 12) (q0 := 0) rfl rfl, fun U hU hW => ⟨rfl, by rw [hU], by rw [hU]; exact hPc, kk_mv hW hK, hDw⟩⟩ rfl rfl hl.1 rfl (lv_room (Nat.le_of_ble_eq_true rfl)) dB_3_0_33.2.2.1.2 ⟨Nat.le_of_ble_eq_true rfl, Nat.le_of_ble_eq_true rfl⟩) hS (fun q _ h => hFc q h) hFc (fun u t H locs ht hvm hw hB hz1 hk1 hS => ?_)
                obtain ⟨n11_17, e12_18, e13_19, e14_20, g_21, g_22, g_23, g_24, g_25, hP1, hD1⟩ := hB
                rw [ht] at hP1
                obtain ⟨hP, hD⟩ := va_join (wr := []) (w1 := [ob12_0_ mo 0 s1 t2 s3 s4 g5 g6 g7 g8 g9 g10 n11_17 g12 g13 g14 g15 g16 g17 g18 g19 g20 s21 g22 g23 g24 s25 s26 s27 s28 g29 g30 g31 g32 g33, ai_ cy g5 40 f5, ai_ cy g6 40 f6, ai_ cy g7 40 f7, ai_ cy g8 40 f8, ai_ cy g9 40 f9, az_ cy g10 40 f10, ai_ cy g12 30 e12_18, ai_ cy g13 30 e13_19, ai_ cy g14 6000 e14_20]) hP hD [0, 1, 2, 3, 4, 5, 6, 7, 8, 9] [] hC_ rfl (by decide) (by decide) hk1 hFc hP1 hD1
                refine pd_K [ob12_0_ mo 0 s1 t2 s3 s4 g5 g6 g7 g8 g9 g10 n11_17 g12 g13 g14 g15 g16 g17 g18 g19 g20 s21 g22 g23 g24 s25 s26 s27 s28 g29 g30 g31 g32 g33, ai_ cy g5 40 f5, ai_ cy g6 40 f6, ai_ cy g7 40 f7, ai_ cy g8 40 f8, ai_ cy g9 40 f9, az_ cy g10 40 f10, ai_ cy g12 30 e12_18, ai_ cy g13 30 e13_19, ai_ cy g14 6000 e14_20] hP hD (fun hP hD => ?_)
                have hpa_ : pastE n11_17.toInt e12_18 e13_19 e14_20 := kept_past g_22 hnet hpast (by omega) (by assumption) (by assumption) (by omega)
                refine lv_aload_n hx hb dB_3_0_33.2.2.2.1 rfl (lv_at hl 0 rfl) ?_
                refine lv_dup hx hb dB_3_0_33.2.2.2.2 rfl ?_
                refine va_get (ci := 12) (v := .long t2) (C := RX12) (T := TX12) (N := 34) hx hb hts (fun _ h => List.mem_cons_of_mem _ (List.mem_append_right _ h)) hown hK.1 hP 0 rfl rfl 2 (by decide) (hts (.fieldLink RX12 114 "CutAtlasModel" "trace" "J") (List.mem_of_getElem? (i := 5) rfl)) (fun _ h9 => h9) rfl dB_3_0_34.1.1.1.1 ?_
                refine lv_aload_n hx hb dB_3_0_34.1.1.1.2 rfl (lv_at hl 0 rfl) ?_
                refine lv_iload_n hx hb dB_3_0_34.1.1.2.1 rfl (lv_at hl 1 rfl) ?_
                refine ct_R hP hD [ob12_0_ mo 0 s1 t2 s3 s4 g5 g6 g7 g8 g9 g10 n11_17 g12 g13 g14 g15 g16 g17 g18 g19 g20 s21 g22 g23 g24 s25 s26 s27 s28 g29 g30 g31 g32 g33, ai_ cy g5 40 f5] [0, 1] (by decide) rfl (fun hPc hDw => ?_)
                have hFc := va_free (wc := []) hD hS hA [] rfl
                refine va_calll (va_runV (As := [.int a1]) (rest := [.long t2, .ref mo]) ⟨hx, hb, hml, hown, hts⟩ (c_X12_costsTrace l D cy H.size mo g5 g6 g7 g8 g9 g10 g12 g13 g14 g15 g16 g17 g18 g19 g20 g22 g23 g24 g29 g30 g31 g32 g33 (0 : Int32) s1 s3 s4 n11_17 s21 s25 s26 s27 s28 t2 f5 a1 (by first | with_reducible assumption | omega | assumption)) (cwV 1 hts gX12_widen_X12_costsTrace rfl rfl rfl ⟨rfl, hd_X12_costsTrace⟩ ⟨Nat.le_of_ble_eq_true rfl, Nat.le_of_ble_eq_true rfl⟩) ⟨bl_, va_recvX hK.1 hP (ci := 12) (q0 := 0) rfl rfl, fun U hU hW => ⟨rfl, by rw [hU], by rw [hU]; exact hPc, kk_mv hW hK, hDw⟩⟩ rfl rfl hl.1 rfl (lv_room (Nat.le_of_ble_eq_true rfl)) dB_3_0_34.1.1.2.2 ⟨Nat.le_of_ble_eq_true rfl, Nat.le_of_ble_eq_true rfl⟩) hS (fun q _ h => hFc q h) hFc (fun r_26 u t H locs ht hvm hw hB hz1 hk1 hS => ?_)
                have hP : va_P D vwCl _ H := ro_keep hP hk1
                refine lv_ladd hx hb dB_3_0_34.1.2.1.1 ?_
                refine lv_topl (fun y_27 ey_27 => ?_)
                refine va_put (ci := 12) (v := .long y_27) (ty := .long) (C := RX12) (T := TX12) (N := 34) hx hb hts (fun _ h => List.mem_cons_of_mem _ (List.mem_append_right _ h)) tyX12 tyX12_ok nmX12 hown hK.1 hP hD hS 0 rfl rfl 2 (by decide) (hts (.fieldLink RX12 114 "CutAtlasModel" "trace" "J") (List.mem_of_getElem? (i := 5) rfl)) (fun _ h9 => h9) rfl (by decide +kernel) rfl rfl (Nat.le_of_ble_eq_true rfl) dB_3_0_34.1.2.1.2 (fun H locs hP hD hS => ?_)
                refine pd_K [ob12_0_ mo 0 s1 y_27 s3 s4 g5 g6 g7 g8 g9 g10 n11_17 g12 g13 g14 g15 g16 g17 g18 g19 g20 s21 g22 g23 g24 s25 s26 s27 s28 g29 g30 g31 g32 g33, ai_ cy g5 40 f5, ai_ cy g6 40 f6, ai_ cy g7 40 f7, ai_ cy g8 40 f8, ai_ cy g9 40 f9, az_ cy g10 40 f10, ai_ cy g12 30 e12_18, ai_ cy g13 30 e13_19, ai_ cy g14 6000 e14_20] hP hD (fun hP hD => ?_)
                refine lv_aload_n hx hb dB_3_0_34.1.2.2.1 rfl (lv_at hl 0 rfl) ?_
                refine va_get (ci := 12) (v := .ref g8) (C := RX12) (T := TX12) (N := 34) hx hb hts (fun _ h => List.mem_cons_of_mem _ (List.mem_append_right _ h)) hown hK.1 hP 0 rfl rfl 8 (by decide) (hts (.fieldLink RX12 19 "CutAtlasModel" "width" "[I") (List.mem_of_getElem? (i := 4) rfl)) (fun _ h9 => h9) rfl dB_3_0_34.1.2.2.2 ?_
                refine lv_iload_n hx hb dB_3_0_34.2.1.1.1 rfl (lv_at hl 1 rfl) ?_
                refine lv_dup2_11 hx hb dB_3_0_34.2.1.1.2 rfl rfl ?_
                have h_28 : vp_in a1 40 := in_I (by omega) (by omega)
                refine va_iald hx hb hK.1 hP 4 0 rfl rfl (i := a1) h_28 dB_3_0_34.2.1.2.1 ?_
                refine lv_topi (fun y_29 ey_29 => ?_)
                have e_ := (ey_29.trans ey_13.symm).symm
                subst e_
                skip
                refine lv_iload_n hx hb dB_3_0_34.2.1.2.2 rfl (lv_at hl 2 rfl) ?_
                refine lv_iadd hx hb dB_3_0_34.2.2.1.1 ?_
                refine lv_topi (fun y_30 ey_30 => ?_)
                have e_ := (ey_30.trans ey_14.symm).symm
                subst e_
                have h_31 : vp_in a1 40 := in_I (by omega) (by omega)
                refine va_iast hx hb hK.1 hP hD hS 4 0 rfl rfl (i := a1) h_31 dB_3_0_34.2.2.1.2 (fun H locs hP hD hS => ?_)
                obtain ⟨f_32, ef_32⟩ : ∃ g : Nat → Int32, g = upd f8 a1.toNatClampNeg y_14 := ⟨_, rfl⟩
                refine pd_K (D := D) (cl := vwCl) (H := H) (A := A) [ob12_0_ mo 0 s1 y_27 s3 s4 g5 g6 g7 g8 g9 g10 n11_17 g12 g13 g14 g15 g16 g17 g18 g19 g20 s21 g22 g23 g24 s25 s26 s27 s28 g29 g30 g31 g32 g33, ai_ cy g5 40 f5, ai_ cy g6 40 f6, ai_ cy g7 40 f7, ai_ cy g8 40 f_32, ai_ cy g9 40 f9, az_ cy g10 40 f10, ai_ cy g12 30 e12_18, ai_ cy g13 30 e13_19, ai_ cy g14 6000 e14_20] (by rw [ef_32]; exact hP) (by rw [ef_32]; exact hD) (fun hP hD => ?_)
                have rf_32 : rng f_32 40 (0) (2000) := by rw [ef_32]; exact rng_upd r_f8 (by omega) (by omega)
                refine lv_iload_n hx hb dB_3_0_34.2.2.2.1 rfl (lv_at hl 2 rfl) ?_
                refine lv_aload_n hx hb dB_3_0_34.2.2.2.2 rfl (lv_at hl 0 rfl) ?_
                refine lv_iload_n hx hb dB_3_0_35.1.1.1.1 rfl (lv_at hl 1 rfl) ?_
                refine ct_R hP hD [ob12_0_ mo 0 s1 y_27 s3 s4 g5 g6 g7 g8 g9 g10 n11_17 g12 g13 g14 g15 g16 g17 g18 g19 g20 s21 g22 g23 g24 s25 s26 s27 s28 g29 g30 g31 g32 g33, ai_ cy g5 40 f5, ai_ cy g9 40 f9] [0, 1, 5] (by decide) rfl (fun hPc hDw => ?_)
                have hFc := va_free (wc := []) hD hS hA [] rfl
                refine va_calli (va_runV (As := [.int a1]) (rest := [.int a2]) ⟨hx, hb, hml, hown, hts⟩ (c_X12_costs2 l D cy H.size mo g5 g6 g7 g8 g9 g10 g12 g13 g14 g15 g16 g17 g18 g19 g20 g22 g23 g24 g29 g30 g31 g32 g33 (0 : Int32) s1 s3 s4 n11_17 s21 s25 s26 s27 s28 y_27 f5 f9 a1 (by first | with_reducible assumption | omega | assumption) (by first | with_reducible assumption | assumption | omega)) (cwV 1 hts gX12_widen_X12_costs rfl rfl rfl ⟨rfl, hd_X12_costs⟩ ⟨Nat.le_of_ble_eq_true rfl, Nat.le_of_ble_eq_true rfl⟩) ⟨bl_, va_recvX hK.1 hP (ci := 12) (q0 := 0) rfl rfl, fun U hU hW => ⟨rfl, by rw [hU], by rw [hU]; exact hPc, kk_mv hW hK, hDw⟩⟩ rfl rfl hl.1 rfl (lv_room (Nat.le_of_ble_eq_true rfl)) dB_3_0_35.1.1.1.2 ⟨Nat.le_of_ble_eq_true rfl, Nat.le_of_ble_eq_true rfl⟩) hS (fun q _ h => hFc q h) hFc (fun r_33 u t H locs ht hvm hw hB hz1 hk1 hS => ?_)
                have hP : va_P D vwCl _ H := ro_keep hP hk1
                have f0_r_33 := hw
                refine lv_imul hx hb dB_3_0_35.1.1.2.1 ?_
                refine lv_topi (fun y_34 ey_34 => ?_)
                rw [hQ]
                exact W.iret (v := y_34) hx hb hr (fun t ht hW => ⟨⟨y_34, (), rfl, trivial, y_27, n11_17, f_32, e12_18, e13_19, e14_20, (by first | with_reducible assumption | omega | assumption), (by first | exact hpa_ | assumption), (by first | with_reducible assumption | assumption | exact rng_zero (by omega) (by omega) | omega), (by first | with_reducible assumption | assumption | exact rng_zero (by omega) (by omega) | omega), (by first | with_reducible assumption | assumption | exact rng_zero (by omega) (by omega) | omega), (by first | with_reducible assumption | assumption | exact rng_zero (by omega) (by omega) | omega), by rw [ht]; exact hP, hD⟩, hS.F ht⟩) hS.2.2 dB_3_0_35.1.1.2.2
              · have t_15 : ¬ y_14.toInt ≤ (2000 : Int32).toInt := fun h => c_15 (Int32.le_iff_toInt_le.mpr h)
                refine lv_bipush (v := (-2)) hx hb dB_3_0_33.2.1.2.1 (by decide) ?_
                rw [hQ]
                exact W.iret (v := (-2)) hx hb hr (fun t ht hW => ⟨⟨(-2), (), rfl, trivial, t2, s11, f8, f12, f13, f14, (by first | with_reducible assumption | omega | assumption), (by first | exact hpa_ | assumption), (by first | with_reducible assumption | assumption | exact rng_zero (by omega) (by omega) | omega), (by first | with_reducible assumption | assumption | exact rng_zero (by omega) (by omega) | omega), (by first | with_reducible assumption | assumption | exact rng_zero (by omega) (by omega) | omega), (by first | with_reducible assumption | assumption | exact rng_zero (by omega) (by omega) | omega), by rw [ht]; exact hP, hD⟩, hS.F ht⟩) hS.2.2 dB_3_0_33.2.1.2.2
        · exact absurd c_6 (by decide)
      · have e_ := e_.symm
        subst e_
        refine lv_if_ne (tgt := 27) hx hb dB_3_0_32.1.2.1.2 (by decide) (fun c_35 => ?_) (fun c_35 => ?_)
        · exact absurd c_35 (by decide)
        · have _ := c_35
          refine lv_iconst (v := (-1)) hx hb dB_3_0_32.1.2.2.1 (by decide) ?_
          rw [hQ]
          exact W.iret (v := (-1)) hx hb hr (fun t ht hW => ⟨⟨(-1), (), rfl, trivial, t2, s11, f8, f12, f13, f14, (by first | with_reducible assumption | omega | assumption), (by first | exact hpa_ | assumption), (by first | with_reducible assumption | assumption | exact rng_zero (by omega) (by omega) | omega), (by first | with_reducible assumption | assumption | exact rng_zero (by omega) (by omega) | omega), (by first | with_reducible assumption | assumption | exact rng_zero (by omega) (by omega) | omega), (by first | with_reducible assumption | assumption | exact rng_zero (by omega) (by omega) | omega), by rw [ht]; exact hP, hD⟩, hS.F ht⟩) hS.2.2 dB_3_0_32.1.2.2.2
  · have e_ := e_.symm
    subst e_
    refine lv_if_eq (tgt := 25) hx hb dB_3_0_31.2.2.2.2 (by decide) (fun c_36 => ?_) (fun c_36 => ?_)
    · have _ := c_36
      refine lv_iconst (v := (-1)) hx hb dB_3_0_32.1.2.2.1 (by decide) ?_
      rw [hQ]
      exact W.iret (v := (-1)) hx hb hr (fun t ht hW => ⟨⟨(-1), (), rfl, trivial, t2, s11, f8, f12, f13, f14, (by first | with_reducible assumption | omega | assumption), (by first | exact hpa_ | assumption), (by first | with_reducible assumption | assumption | exact rng_zero (by omega) (by omega) | omega), (by first | with_reducible assumption | assumption | exact rng_zero (by omega) (by omega) | omega), (by first | with_reducible assumption | assumption | exact rng_zero (by omega) (by omega) | omega), (by first | with_reducible assumption | assumption | exact rng_zero (by omega) (by omega) | omega), by rw [ht]; exact hP, hD⟩, hS.F ht⟩) hS.2.2 dB_3_0_32.1.2.2.2
    · exact absurd c_36 (by decide)

set_option maxHeartbeats 4000000 in
set_option maxRecDepth 100000 in
theorem c_X12_width2 (l : Launch) (D : va_G) (cy : Nat → ClassId) (sz : Nat) (mo : Nat) (g5 : Nat) (g6 : Nat) (g7 : Nat) (g8 : Nat) (g9 : Nat) (g10 : Nat) (g12 : Nat) (g13 : Nat) (g14 : Nat) (g15 : Nat) (g16 : Nat) (g17 : Nat) (g18 : Nat) (g19 : Nat) (g20 : Nat) (g22 : Nat) (g23 : Nat) (g24 : Nat) (g29 : Nat) (g30 : Nat) (g31 : Nat) (g32 : Nat) (g33 : Nat) (s0 : Int32) (s1 : Int32) (s3 : Int32) (s4 : Int32) (s11 : Int32) (s21 : Int32) (s25 : Int32) (s26 : Int32) (s27 : Int32) (s28 : Int32) (t2 : Int64) (f5 : Nat → Int32) (f6 : Nat → Int32) (f7 : Nat → Int32) (f8 : Nat → Int32) (f9 : Nat → Int32) (f10 : Nat → Int32) (f12 : Nat → Int32) (f13 : Nat → Int32) (f14 : Nat → Int32) (a1 : Int32) (a2 : Int32) (hN : 0 ≤ s4.toInt ∧ s4.toInt ≤ 40) (hPl : 0 ≤ s3.toInt ∧ s3.toInt ≤ 12) (hU : 0 ≤ s11.toInt ∧ s11.toInt ≤ 30) (hnet : netE s3.toInt s4.toInt f6 f7 f10) (hpast : pastE s11.toInt f12 f13 f14) (r_f6 : rng f6 40 (0) (11)) (r_f7 : rng f7 40 (0) (11)) (r_f8 : rng f8 40 (0) (2000)) (r_f9 : rng f9 40 (0) (100)) (r_f12 : rng f12 30 (0) (12)) (r_f13 : rng f13 30 (0) (40)) (r_f14 : orng f14 6000) : Met l yX12_width wsX12_width ({ frames := 2, cells := 0, slots := 0, locals := 46 }) (va_Pc [.ref mo, .int a1, .int a2] (fun U => U.heap.size = sz ∧ va_P D vwCl [ob12_0_ mo s0 s1 t2 s3 s4 g5 g6 g7 g8 g9 g10 s11 g12 g13 g14 g15 g16 g17 g18 g19 g20 s21 g22 g23 g24 s25 s26 s27 s28 g29 g30 g31 g32 g33, ai_ cy g5 40 f5, ai_ cy g6 40 f6, ai_ cy g7 40 f7, ai_ cy g8 40 f8, ai_ cy g9 40 f9, az_ cy g10 40 f10, ai_ cy g12 30 f12, ai_ cy g13 30 f13, ai_ cy g14 6000 f14] U.heap ∧ kk_ D cy U ∧ va_D (fun _ => True) [ob12_0_ mo s0 s1 t2 s3 s4 g5 g6 g7 g8 g9 g10 s11 g12 g13 g14 g15 g16 g17 g18 g19 g20 s21 g22 g23 g24 s25 s26 s27 s28 g29 g30 g31 g32 g33, ai_ cy g5 40 f5, ai_ cy g6 40 f6, ai_ cy g7 40 f7, ai_ cy g8 40 f8, ai_ cy g9 40 f9, az_ cy g10 40 f10, ai_ cy g12 30 f12, ai_ cy g13 30 f13, ai_ cy g14 6000 f14])) (va_Qi (fun (r : Int32) (_ : Unit) => True) (fun (_ : Unit) (t : State) => ∃ (n11 : Int32), ∃ (e8 : Nat → Int32), ∃ (e12 : Nat → Int32), ∃ (e13 : Nat → Int32), ∃ (e14 : Nat → Int32), (0 ≤ n11.toInt ∧ n11.toInt ≤ 30) ∧ (pastE n11.toInt e12 e13 e14) ∧ (rng e8 40 (0) (2000)) ∧ (rng e12 30 (0) (12)) ∧ (rng e13 30 (0) (40)) ∧ (orng e14 6000) ∧ va_P D vwCl [ob12_0_ mo 0 s1 t2 s3 s4 g5 g6 g7 g8 g9 g10 n11 g12 g13 g14 g15 g16 g17 g18 g19 g20 s21 g22 g23 g24 s25 s26 s27 s28 g29 g30 g31 g32 g33, ai_ cy g5 40 f5, ai_ cy g6 40 f6, ai_ cy g7 40 f7, ai_ cy g8 40 e8, ai_ cy g9 40 f9, az_ cy g10 40 f10, ai_ cy g12 30 e12, ai_ cy g13 30 e13, ai_ cy g14 6000 e14] t.heap ∧ va_D (va_A [ob12_0_ mo s0 s1 t2 s3 s4 g5 g6 g7 g8 g9 g10 s11 g12 g13 g14 g15 g16 g17 g18 g19 g20 s21 g22 g23 g24 s25 s26 s27 s28 g29 g30 g31 g32 g33, ai_ cy g5 40 f5, ai_ cy g6 40 f6, ai_ cy g7 40 f7, ai_ cy g8 40 f8, ai_ cy g9 40 f9, az_ cy g10 40 f10, ai_ cy g12 30 f12, ai_ cy g13 30 f13, ai_ cy g14 6000 f14] sz) [ob12_0_ mo 0 s1 t2 s3 s4 g5 g6 g7 g8 g9 g10 n11 g12 g13 g14 g15 g16 g17 g18 g19 g20 s21 g22 g23 g24 s25 s26 s27 s28 g29 g30 g31 g32 g33, ai_ cy g5 40 f5, ai_ cy g6 40 f6, ai_ cy g7 40 f7, ai_ cy g8 40 e8, ai_ cy g9 40 f9, az_ cy g10 40 f10, ai_ cy g12 30 e12, ai_ cy g13 30 e13, ai_ cy g14 6000 e14]) (va_A [ob12_0_ mo s0 s1 t2 s3 s4 g5 g6 g7 g8 g9 g10 s11 g12 g13 g14 g15 g16 g17 g18 g19 g20 s21 g22 g23 g24 s25 s26 s27 s28 g29 g30 g31 g32 g33, ai_ cy g5 40 f5, ai_ cy g6 40 f6, ai_ cy g7 40 f7, ai_ cy g8 40 f8, ai_ cy g9 40 f9, az_ cy g10 40 f10, ai_ cy g12 30 f12, ai_ cy g13 30 f13, ai_ cy g14 6000 f14] sz)) 0 0 (va_A [ob12_0_ mo s0 s1 t2 s3 s4 g5 g6 g7 g8 g9 g10 s11 g12 g13 g14 g15 g16 g17 g18 g19 g20 s21 g22 g23 g24 s25 s26 s27 s28 g29 g30 g31 g32 g33, ai_ cy g5 40 f5, ai_ cy g6 40 f6, ai_ cy g7 40 f7, ai_ cy g8 40 f8, ai_ cy g9 40 f9, az_ cy g10 40 f10, ai_ cy g12 30 f12, ai_ cy g13 30 f13, ai_ cy g14 6000 f14] sz) := by
  refine ofQ (cc := cX12_width) (maxL := 4) (ret := (some .int)) (by decide) rfl ?_
  intro p e s m args below meth c s₁ Q hQ B hml hv
  obtain ⟨rfl, hsz, hP, hK, hD0⟩ := hv
  have hx := B.exec
  have hb := B.bytes
  have hr := B.returns
  have hts := atoms_spec (ws := wsX12_width) B.pre
  have hown : s.vm.findClass RX12 = some m.cls := by have h_ := findClass_of_methodNamed B.named; exact h_
  have hlocks := B.notSynchronized
  subst hsz
  have hD := hD0.self (sz := s.heap.size)
  generalize hAe : va_A [ob12_0_ mo s0 s1 t2 s3 s4 g5 g6 g7 g8 g9 g10 s11 g12 g13 g14 g15 g16 g17 g18 g19 g20 s21 g22 g23 g24 s25 s26 s27 s28 g29 g30 g31 g32 g33, ai_ cy g5 40 f5, ai_ cy g6 40 f6, ai_ cy g7 40 f7, ai_ cy g8 40 f8, ai_ cy g9 40 f9, az_ cy g10 40 f10, ai_ cy g12 30 f12, ai_ cy g13 30 f13, ai_ cy g14 6000 f14] s.heap.size = A at hD hQ
  have hA : ∀ q : Nat, s.heap.size ≤ q → A q := fun q h => by rw [← hAe]; exact Or.inr h
  have hS : va_S A s.heap s.heap [] := va_S.rf
  have hl := lv_entry ([.ref mo, .int a1, .int a2]) (n := 4) (Nat.le_of_ble_eq_true rfl)
  rw [lg_entry_eq]
  generalize (lg_sl ([.ref mo, .int a1, .int a2]) ++ List.replicate (4 - (lg_sl ([.ref mo, .int a1, .int a2])).length) Slot.unset).toArray = ls at hl ⊢
  have hl : lv_has ls 4 [(0, .ref mo), (1, .int a1), (2, .int a2)] := hl
  have zm2 : ((-2) : Int32).toInt = -2 := by decide
  have zm1 : ((-1) : Int32).toInt = -1 := by decide
  have z0 : (0 : Int32).toInt = 0 := by decide
  have zl0 : (0 : Int64).toInt = 0 := by decide
  have zl1000 : (1000 : Int64).toInt = 1000 := by decide
  refine lv_aload_n hx hb dB_3_0_35.1.2.1.1 rfl (lv_at hl 0 rfl) ?_
  refine lv_iconst (v := 0) hx hb dB_3_0_35.1.2.1.2 (by decide) ?_
  refine va_put (ci := 12) (v := .int 0) (ty := .int) (C := RX12) (T := TX12) (N := 34) hx hb hts (fun _ h => List.mem_cons_of_mem _ (List.mem_append_right _ h)) tyX12 tyX12_ok nmX12 hown hK.1 hP hD hS 0 rfl rfl 0 (by decide) (hts (.fieldLink RX12 85 "CutAtlasModel" "thrown" "I") (List.mem_of_getElem? (i := 1) rfl)) (fun _ h9 => h9) rfl (by decide +kernel) rfl rfl (Nat.le_of_ble_eq_true rfl) dB_3_0_35.1.2.2.1 (fun H locs hP hD hS => ?_)
  refine pd_K [ob12_0_ mo 0 s1 t2 s3 s4 g5 g6 g7 g8 g9 g10 s11 g12 g13 g14 g15 g16 g17 g18 g19 g20 s21 g22 g23 g24 s25 s26 s27 s28 g29 g30 g31 g32 g33, ai_ cy g5 40 f5, ai_ cy g6 40 f6, ai_ cy g7 40 f7, ai_ cy g8 40 f8, ai_ cy g9 40 f9, az_ cy g10 40 f10, ai_ cy g12 30 f12, ai_ cy g13 30 f13, ai_ cy g14 6000 f14] hP hD (fun hP hD => ?_)
  refine lv_aload_n hx hb dB_3_0_35.1.2.2.2 rfl (lv_at hl 0 rfl) ?_
  refine lv_iload_n hx hb dB_3_0_35.2.1.1.1 rfl (lv_at hl 1 rfl) ?_
  refine ct_R hP hD [ob12_0_ mo 0 s1 t2 s3 s4 g5 g6 g7 g8 g9 g10 s11 g12 g13 g14 g15 g16 g17 g18 g19 g20 s21 g22 g23 g24 s25 s26 s27 s28 g29 g30 g31 g32 g33] [0] (by decide) rfl (fun hPc hDw => ?_)
  have hFc := va_free (wc := []) hD hS hA [] rfl
  refine va_calli (va_runV (As := [.int a1]) (rest := []) ⟨hx, hb, hml, hown, hts⟩ (c_X12_isLine l D cy H.size mo g5 g6 g7 g8 g9 g10 g12 g13 g14 g15 g16 g17 g18 g19 g20 g22 g23 g24 g29 g30 g31 g32 g33 (0 : Int32) s1 s3 s4 s11 s21 s25 s26 s27 s28 t2 a1 (by first | with_reducible assumption | omega | assumption)) (cwV 1 hts gX12_width_X12_isLine rfl rfl rfl ⟨rfl, hd_X12_isLine⟩ ⟨Nat.le_of_ble_eq_true rfl, Nat.le_of_ble_eq_true rfl⟩) ⟨bl_, va_recvX hK.1 hP (ci := 12) (q0 := 0) rfl rfl, fun U hU hW => ⟨rfl, by rw [hU], by rw [hU]; exact hPc, kk_mv hW hK, hDw⟩⟩ rfl rfl hl.1 rfl (lv_room (Nat.le_of_ble_eq_true rfl)) dB_3_0_35.2.1.1.2 ⟨Nat.le_of_ble_eq_true rfl, Nat.le_of_ble_eq_true rfl⟩) hS (fun q _ h => hFc q h) hFc (fun r_1 u t H locs ht hvm hw hB hz1 hk1 hS => ?_)
  have hP : va_P D vwCl _ H := ro_keep hP hk1
  rcases hw with ⟨w_2, e_⟩ | ⟨w_2, e_⟩
  · have e_ := e_.symm
    subst e_
    refine lv_if_eq (tgt := 25) hx hb dB_3_0_35.2.1.2.1 (by decide) (fun c_3 => ?_) (fun c_3 => ?_)
    · exact absurd c_3 (by decide)
    · have _ := c_3
      refine lv_iload_n hx hb dB_3_0_35.2.1.2.2 rfl (lv_at hl 2 rfl) ?_
      refine lv_i2l (v := a2.toInt64) hx hb dB_3_0_35.2.2.1.1 rfl ?_
      have q_14 : (a2.toInt64).toInt = a2.toInt := Int32.toInt_toInt64 a2
      refine lv_lconst (v := 0) hx hb dB_3_0_35.2.2.1.2 (by decide) ?_
      refine lv_ldc2 (v := 1000) hx hb hown (hts (.constantLong RX12 110 (1000)) (List.mem_of_getElem? (i := 2) rfl)) dB_3_0_35.2.2.2.1 ?_
      refine ct_R hP hD [] [] (by decide) rfl (fun hPc hDw => ?_)
      have hFc := va_free (wc := []) hD hS hA [] rfl
      refine va_calli (va_runS (As := [.long a2.toInt64, .long 0, .long 1000]) (rest := []) ⟨hx, hb, hml, hown, hts⟩ (c_X12_in l D cy H.size a2.toInt64 (0 : Int64) (1000 : Int64)) (va_cwS 3 hts gX12_width_X12_in rfl rfl rfl hd_X12_in ⟨Nat.le_of_ble_eq_true rfl, Nat.le_of_ble_eq_true rfl⟩) ⟨bl_, fun U hU hW => ⟨rfl, by rw [hU], by rw [hU]; exact hPc, kk_mv hW hK, hDw⟩⟩ rfl rfl hl.1 rfl (lv_room (Nat.le_of_ble_eq_true rfl)) dB_3_0_35.2.2.2.2 ⟨Nat.le_of_ble_eq_true rfl, Nat.le_of_ble_eq_true rfl⟩) hS (fun q _ h => hFc q h) hFc (fun r_4 u t H locs ht hvm hw hB hz1 hk1 hS => ?_)
      have hP : va_P D vwCl _ H := ro_keep hP hk1
      rcases hw with ⟨w_5, e_⟩ | ⟨w_5, e_⟩
      · have e_ := e_.symm
        subst e_
        refine lv_if_ne (tgt := 27) hx hb dB_3_0_36.1.1.1.1 (by decide) (fun c_6 => ?_) (fun c_6 => ?_)
        · have _ := c_6
          refine lv_aload_n hx hb dB_3_0_36.1.1.2.2 rfl (lv_at hl 0 rfl) ?_
          refine va_get (ci := 12) (v := .ref g10) (C := RX12) (T := TX12) (N := 34) hx hb hts (fun _ h => List.mem_cons_of_mem _ (List.mem_append_right _ h)) hown hK.1 hP 0 rfl rfl 10 (by decide) (hts (.fieldLink RX12 25 "CutAtlasModel" "isMissing" "[Z") (List.mem_of_getElem? (i := 3) rfl)) (fun _ h9 => h9) rfl dB_3_0_36.1.2.1.1 ?_
          refine lv_iload_n hx hb dB_3_0_36.1.2.1.2 rfl (lv_at hl 1 rfl) ?_
          have h_7 : vp_in a1 40 := in_I (by omega) (by omega)
          refine va_zald hx hb hK.1 hP 6 2 rfl rfl (i := a1) h_7 dB_3_0_36.1.2.2.1 ?_
          refine lv_topi (fun y_8 ey_8 => ?_)
          refine lv_if_eq (tgt := 39) hx hb dB_3_0_36.1.2.2.2 (by decide) (fun c_9 => ?_) (fun c_9 => ?_)
          · have t_9 : y_8.toInt = (0 : Int32).toInt := congrArg Int32.toInt c_9
            refine lv_aload_n hx hb dB_3_0_36.2.1.2.1 rfl (lv_at hl 0 rfl) ?_
            refine ct_S hP hD hS hA [ob12_0_ mo 0 s1 t2 s3 s4 g5 g6 g7 g8 g9 g10 s11 g12 g13 g14 g15 g16 g17 g18 g19 g20 s21 g22 g23 g24 s25 s26 s27 s28 g29 g30 g31 g32 g33, ai_ cy g5 40 f5, ai_ cy g6 40 f6, ai_ cy g7 40 f7, ai_ cy g8 40 f8, ai_ cy g9 40 f9, az_ cy g10 40 f10, ai_ cy g12 30 f12, ai_ cy g13 30 f13, ai_ cy g14 6000 f14] [0, 1, 2, 3, 4, 5, 6, 7, 8, 9] (by decide) rfl (fun hPc hDw hFc hC_ => ?_)
            refine va_callv (va_runV (As := []) (rest := []) ⟨hx, hb, hml, hown, hts⟩ (c_X12_keeps2 l D cy H.size mo g5 g6 g7 g8 g9 g10 g12 g13 g14 g15 g16 g17 g18 g19 g20 g22 g23 g24 g29 g30 g31 g32 g33 (0 : Int32) s1 s3 s4 s11 s21 s25 s26 s27 s28 t2 f5 f6 f7 f8 f9 f10 f12 f13 f14 (by first | with_reducible assumption | omega | assumption) (by first | with_reducible assumption | omega | assumption) (by first | with_reducible assumption | omega | assumption) (by first | with_reducible assumption | assumption | omega) (by first | with_reducible assumption | assumption | omega) (by first | with_reducible assumption | assumption | omega) (by first | with_reducible assumption | assumption | omega) (by first | with_reducible assumption | assumption | omega) (by first | with_reducible assumption | assumption | omega) (by first | with_reducible assumption | assumption | omega)) (cwV 0 hts gX12_width_X12_keeps rfl rfl rfl ⟨rfl, hd_X12_keeps⟩ ⟨Nat.le_of_ble_eq_true rfl, Nat.le_of_ble_eq_true rfl⟩) ⟨bl_, va_recvX hK.1 hP (ci := 12) (q0 := 0) rfl rfl, fun U hU hW => ⟨rfl, by rw [hU], by rw [hU]; exact hPc, kk_mv hW hK, hDw⟩⟩ rfl rfl hl.1 rfl (lv_room (Nat.le_of_ble_eq_true rfl)) dB_3_0_36.2.1.2.2 ⟨Nat.le_of_ble_eq_true rfl, Nat.le_of_ble_eq_true rfl⟩) hS (fun q _ h => hFc q h) hFc (fun u t H locs ht hvm hw hB hz1 hk1 hS => ?_)
            obtain ⟨n11_11, e12_12, e13_13, e14_14, g_15, g_16, g_17, g_18, g_19, hP1, hD1⟩ := hB
            rw [ht] at hP1
            obtain ⟨hP, hD⟩ := va_join (wr := []) (w1 := [ob12_0_ mo 0 s1 t2 s3 s4 g5 g6 g7 g8 g9 g10 n11_11 g12 g13 g14 g15 g16 g17 g18 g19 g20 s21 g22 g23 g24 s25 s26 s27 s28 g29 g30 g31 g32 g33, ai_ cy g5 40 f5, ai_ cy g6 40 f6, ai_ cy g7 40 f7, ai_ cy g8 40 f8, ai_ cy g9 40 f9, az_ cy g10 40 f10, ai_ cy g12 30 e12_12, ai_ cy g13 30 e13_13, ai_ cy g14 6000 e14_14]) hP hD [0, 1, 2, 3, 4, 5, 6, 7, 8, 9] [] hC_ rfl (by decide) (by decide) hk1 hFc hP1 hD1
            refine pd_K [ob12_0_ mo 0 s1 t2 s3 s4 g5 g6 g7 g8 g9 g10 n11_11 g12 g13 g14 g15 g16 g17 g18 g19 g20 s21 g22 g23 g24 s25 s26 s27 s28 g29 g30 g31 g32 g33, ai_ cy g5 40 f5, ai_ cy g6 40 f6, ai_ cy g7 40 f7, ai_ cy g8 40 f8, ai_ cy g9 40 f9, az_ cy g10 40 f10, ai_ cy g12 30 e12_12, ai_ cy g13 30 e13_13, ai_ cy g14 6000 e14_14] hP hD (fun hP hD => ?_)
            have hpa_ : pastE n11_11.toInt e12_12 e13_13 e14_14 := kept_past g_16 hnet hpast (by omega) (by assumption) (by assumption) (by omega)
            refine lv_aload_n hx hb dB_3_0_36.2.2.1.1 rfl (lv_at hl 0 rfl) ?_
            refine va_get (ci := 12) (v := .ref g8) (C := RX12) (T := TX12) (N := 34) hx hb hts (fun _ h => List.mem_cons_of_mem _ (List.mem_append_right _ h)) hown hK.1 hP 0 rfl rfl 8 (by decide) (hts (.fieldLink RX12 19 "CutAtlasModel" "width" "[I") (List.mem_of_getElem? (i := 4) rfl)) (fun _ h9 => h9) rfl dB_3_0_36.2.2.1.2 ?_
            refine lv_iload_n hx hb dB_3_0_36.2.2.2.1 rfl (lv_at hl 1 rfl) ?_
            have h_20 : vp_in a1 40 := in_I (by omega) (by omega)
            refine va_iald hx hb hK.1 hP 4 0 rfl rfl (i := a1) h_20 dB_3_0_36.2.2.2.2 ?_
            refine lv_topi (fun y_21 ey_21 => ?_)
            have ry_21 : 0 ≤ y_21.toInt ∧ y_21.toInt ≤ 2000 := by rw [ey_21]; exact r_f8 _ (in_lt h_20)
            refine lv_istore_n (lv' := [(3, .int y_21), (0, .ref mo), (1, .int a1), (2, .int a2)]) hx hb dB_3_0_37.1.1.1.1 rfl hl (by decide) rfl (fun ls hl => ?_)
            refine lv_aload_n hx hb dB_3_0_37.1.1.1.2 rfl (lv_at hl 1 rfl) ?_
            refine va_get (ci := 12) (v := .ref g8) (C := RX12) (T := TX12) (N := 34) hx hb hts (fun _ h => List.mem_cons_of_mem _ (List.mem_append_right _ h)) hown hK.1 hP 0 rfl rfl 8 (by decide) (hts (.fieldLink RX12 19 "CutAtlasModel" "width" "[I") (List.mem_of_getElem? (i := 4) rfl)) (fun _ h9 => h9) rfl dB_3_0_37.1.1.2.1 ?_
            refine lv_iload_n hx hb dB_3_0_37.1.1.2.2 rfl (lv_at hl 2 rfl) ?_
            refine lv_iload_n hx hb dB_3_0_37.1.2.1.1 rfl (lv_at hl 3 rfl) ?_
            have h_22 : vp_in a1 40 := in_I (by omega) (by omega)
            refine va_iast hx hb hK.1 hP hD hS 4 0 rfl rfl (i := a1) h_22 dB_3_0_37.1.2.1.2 (fun H locs hP hD hS => ?_)
            obtain ⟨f_23, ef_23⟩ : ∃ g : Nat → Int32, g = upd f8 a1.toNatClampNeg a2 := ⟨_, rfl⟩
            refine pd_K (D := D) (cl := vwCl) (H := H) (A := A) [ob12_0_ mo 0 s1 t2 s3 s4 g5 g6 g7 g8 g9 g10 n11_11 g12 g13 g14 g15 g16 g17 g18 g19 g20 s21 g22 g23 g24 s25 s26 s27 s28 g29 g30 g31 g32 g33, ai_ cy g5 40 f5, ai_ cy g6 40 f6, ai_ cy g7 40 f7, ai_ cy g8 40 f_23, ai_ cy g9 40 f9, az_ cy g10 40 f10, ai_ cy g12 30 e12_12, ai_ cy g13 30 e13_13, ai_ cy g14 6000 e14_14] (by rw [ef_23]; exact hP) (by rw [ef_23]; exact hD) (fun hP hD => ?_)
            have rf_23 : rng f_23 40 (0) (2000) := by rw [ef_23]; exact rng_upd r_f8 (by omega) (by omega)
            refine lv_iload_n hx hb dB_3_0_37.1.2.2.1 rfl (lv_at hl 0 rfl) ?_
            rw [hQ]
            exact W.iret (v := y_21) hx hb hr (fun t ht hW => ⟨⟨y_21, (), rfl, trivial, n11_11, f_23, e12_12, e13_13, e14_14, (by first | with_reducible assumption | omega | assumption), (by first | exact hpa_ | assumption), (by first | with_reducible assumption | assumption | exact rng_zero (by omega) (by omega) | omega), (by first | with_reducible assumption | assumption | exact rng_zero (by omega) (by omega) | omega), (by first | with_reducible assumption | assumption | exact rng_zero (by omega) (by omega) | omega), (by first | with_reducible assumption | assumption | exact rng_zero (by omega) (by omega) | omega), by rw [ht]; exact hP, hD⟩, hS.F ht⟩) hS.2.2 dB_3_0_37.1.2.2.2
          · have t_9 : ¬ y_8.toInt = (0 : Int32).toInt := fun h => c_9 (Int32.toInt_inj.mp h)
            refine lv_bipush (v := (-2)) hx hb dB_3_0_36.2.1.1.1 (by decide) ?_
            rw [hQ]
            exact W.iret (v := (-2)) hx hb hr (fun t ht hW => ⟨⟨(-2), (), rfl, trivial, s11, f8, f12, f13, f14, (by first | with_reducible assumption | omega | assumption), (by first | exact hpa_ | assumption), (by first | with_reducible assumption | assumption | exact rng_zero (by omega) (by omega) | omega), (by first | with_reducible assumption | assumption | exact rng_zero (by omega) (by omega) | omega), (by first | with_reducible assumption | assumption | exact rng_zero (by omega) (by omega) | omega), (by first | with_reducible assumption | assumption | exact rng_zero (by omega) (by omega) | omega), by rw [ht]; exact hP, hD⟩, hS.F ht⟩) hS.2.2 dB_3_0_36.2.1.1.2
        · exact absurd c_6 (by decide)
      · have e_ := e_.symm
        subst e_
        refine lv_if_ne (tgt := 27) hx hb dB_3_0_36.1.1.1.1 (by decide) (fun c_24 => ?_) (fun c_24 => ?_)
        · exact absurd c_24 (by decide)
        · have _ := c_24
          refine lv_iconst (v := (-1)) hx hb dB_3_0_36.1.1.1.2 (by decide) ?_
          rw [hQ]
          exact W.iret (v := (-1)) hx hb hr (fun t ht hW => ⟨⟨(-1), (), rfl, trivial, s11, f8, f12, f13, f14, (by first | with_reducible assumption | omega | assumption), (by first | exact hpa_ | assumption), (by first | with_reducible assumption | assumption | exact rng_zero (by omega) (by omega) | omega), (by first | with_reducible assumption | assumption | exact rng_zero (by omega) (by omega) | omega), (by first | with_reducible assumption | assumption | exact rng_zero (by omega) (by omega) | omega), (by first | with_reducible assumption | assumption | exact rng_zero (by omega) (by omega) | omega), by rw [ht]; exact hP, hD⟩, hS.F ht⟩) hS.2.2 dB_3_0_36.1.1.2.1
  · have e_ := e_.symm
    subst e_
    refine lv_if_eq (tgt := 25) hx hb dB_3_0_35.2.1.2.1 (by decide) (fun c_25 => ?_) (fun c_25 => ?_)
    · have _ := c_25
      refine lv_iconst (v := (-1)) hx hb dB_3_0_36.1.1.1.2 (by decide) ?_
      rw [hQ]
      exact W.iret (v := (-1)) hx hb hr (fun t ht hW => ⟨⟨(-1), (), rfl, trivial, s11, f8, f12, f13, f14, (by first | with_reducible assumption | omega | assumption), (by first | exact hpa_ | assumption), (by first | with_reducible assumption | assumption | exact rng_zero (by omega) (by omega) | omega), (by first | with_reducible assumption | assumption | exact rng_zero (by omega) (by omega) | omega), (by first | with_reducible assumption | assumption | exact rng_zero (by omega) (by omega) | omega), (by first | with_reducible assumption | assumption | exact rng_zero (by omega) (by omega) | omega), by rw [ht]; exact hP, hD⟩, hS.F ht⟩) hS.2.2 dB_3_0_36.1.1.2.1
    · exact absurd c_25 (by decide)
end

section
set_option maxHeartbeats 4000000 in
set_option maxRecDepth 100000 in
theorem c_X12_merge2 (l : Launch) (D : va_G) (cy : Nat → ClassId) (sz : Nat) (mo : Nat) (g5 : Nat) (g6 : Nat) (g7 : Nat) (g8 : Nat) (g9 : Nat) (g10 : Nat) (g12 : Nat) (g13 : Nat) (g14 : Nat) (g15 : Nat) (g16 : Nat) (g17 : Nat) (g18 : Nat) (g19 : Nat) (g20 : Nat) (g22 : Nat) (g23 : Nat) (g24 : Nat) (g29 : Nat) (g30 : Nat) (g31 : Nat) (g32 : Nat) (g33 : Nat) (s0 : Int32) (s1 : Int32) (s3 : Int32) (s4 : Int32) (s11 : Int32) (s21 : Int32) (s25 : Int32) (s26 : Int32) (s27 : Int32) (s28 : Int32) (t2 : Int64) (f5 : Nat → Int32) (f6 : Nat → Int32) (f7 : Nat → Int32) (f8 : Nat → Int32) (f9 : Nat → Int32) (f10 : Nat → Int32) (f12 : Nat → Int32) (f13 : Nat → Int32) (f14 : Nat → Int32) (a1 : Int32) (a2 : Int32) (hN : 0 ≤ s4.toInt ∧ s4.toInt ≤ 40) (hPl : 0 ≤ s3.toInt ∧ s3.toInt ≤ 12) (hU : 0 ≤ s11.toInt ∧ s11.toInt ≤ 30) (hnet : netE s3.toInt s4.toInt f6 f7 f10) (hpast : pastE s11.toInt f12 f13 f14) (r_f6 : rng f6 40 (0) (11)) (r_f7 : rng f7 40 (0) (11)) (r_f8 : rng f8 40 (0) (2000)) (r_f9 : rng f9 40 (0) (100)) (r_f12 : rng f12 30 (0) (12)) (r_f13 : rng f13 30 (0) (40)) (r_f14 : orng f14 6000) : Met l yX12_merge wsX12_merge ({ frames := 3, cells := 0, slots := 0, locals := 68 }) (va_Pc [.ref mo, .int a1, .int a2] (fun U => U.heap.size = sz ∧ va_P D vwCl [ob12_0_ mo s0 s1 t2 s3 s4 g5 g6 g7 g8 g9 g10 s11 g12 g13 g14 g15 g16 g17 g18 g19 g20 s21 g22 g23 g24 s25 s26 s27 s28 g29 g30 g31 g32 g33, ai_ cy g5 40 f5, ai_ cy g6 40 f6, ai_ cy g7 40 f7, ai_ cy g8 40 f8, ai_ cy g9 40 f9, az_ cy g10 40 f10, ai_ cy g12 30 f12, ai_ cy g13 30 f13, ai_ cy g14 6000 f14] U.heap ∧ kk_ D cy U ∧ va_D (fun _ => True) [ob12_0_ mo s0 s1 t2 s3 s4 g5 g6 g7 g8 g9 g10 s11 g12 g13 g14 g15 g16 g17 g18 g19 g20 s21 g22 g23 g24 s25 s26 s27 s28 g29 g30 g31 g32 g33, ai_ cy g5 40 f5, ai_ cy g6 40 f6, ai_ cy g7 40 f7, ai_ cy g8 40 f8, ai_ cy g9 40 f9, az_ cy g10 40 f10, ai_ cy g12 30 f12, ai_ cy g13 30 f13, ai_ cy g14 6000 f14])) (va_Qi (fun (r : Int32) (_ : Unit) => True) (fun (_ : Unit) (t : State) => ∃ (n3 : Int32), ∃ (n11 : Int32), ∃ (e6 : Nat → Int32), ∃ (e7 : Nat → Int32), ∃ (e10 : Nat → Int32), ∃ (e12 : Nat → Int32), ∃ (e13 : Nat → Int32), ∃ (e14 : Nat → Int32), (0 ≤ n3.toInt ∧ n3.toInt ≤ 12) ∧ (0 ≤ n11.toInt ∧ n11.toInt ≤ 30) ∧ (netE n3.toInt s4.toInt e6 e7 e10) ∧ (pastE n11.toInt e12 e13 e14) ∧ (rng e6 40 (0) (11)) ∧ (rng e7 40 (0) (11)) ∧ (rng e12 30 (0) (12)) ∧ (rng e13 30 (0) (40)) ∧ (orng e14 6000) ∧ va_P D vwCl [ob12_0_ mo 0 s1 t2 n3 s4 g5 g6 g7 g8 g9 g10 n11 g12 g13 g14 g15 g16 g17 g18 g19 g20 s21 g22 g23 g24 s25 s26 s27 s28 g29 g30 g31 g32 g33, ai_ cy g5 40 f5, ai_ cy g6 40 e6, ai_ cy g7 40 e7, ai_ cy g8 40 f8, ai_ cy g9 40 f9, az_ cy g10 40 e10, ai_ cy g12 30 e12, ai_ cy g13 30 e13, ai_ cy g14 6000 e14] t.heap ∧ va_D (va_A [ob12_0_ mo s0 s1 t2 s3 s4 g5 g6 g7 g8 g9 g10 s11 g12 g13 g14 g15 g16 g17 g18 g19 g20 s21 g22 g23 g24 s25 s26 s27 s28 g29 g30 g31 g32 g33, ai_ cy g5 40 f5, ai_ cy g6 40 f6, ai_ cy g7 40 f7, ai_ cy g8 40 f8, ai_ cy g9 40 f9, az_ cy g10 40 f10, ai_ cy g12 30 f12, ai_ cy g13 30 f13, ai_ cy g14 6000 f14] sz) [ob12_0_ mo 0 s1 t2 n3 s4 g5 g6 g7 g8 g9 g10 n11 g12 g13 g14 g15 g16 g17 g18 g19 g20 s21 g22 g23 g24 s25 s26 s27 s28 g29 g30 g31 g32 g33, ai_ cy g5 40 f5, ai_ cy g6 40 e6, ai_ cy g7 40 e7, ai_ cy g8 40 f8, ai_ cy g9 40 f9, az_ cy g10 40 e10, ai_ cy g12 30 e12, ai_ cy g13 30 e13, ai_ cy g14 6000 e14]) (va_A [ob12_0_ mo s0 s1 t2 s3 s4 g5 g6 g7 g8 g9 g10 s11 g12 g13 g14 g15 g16 g17 g18 g19 g20 s21 g22 g23 g24 s25 s26 s27 s28 g29 g30 g31 g32 g33, ai_ cy g5 40 f5, ai_ cy g6 40 f6, ai_ cy g7 40 f7, ai_ cy g8 40 f8, ai_ cy g9 40 f9, az_ cy g10 40 f10, ai_ cy g12 30 f12, ai_ cy g13 30 f13, ai_ cy g14 6000 f14] sz)) 0 0 (va_A [ob12_0_ mo s0 s1 t2 s3 s4 g5 g6 g7 g8 g9 g10 s11 g12 g13 g14 g15 g16 g17 g18 g19 g20 s21 g22 g23 g24 s25 s26 s27 s28 g29 g30 g31 g32 g33, ai_ cy g5 40 f5, ai_ cy g6 40 f6, ai_ cy g7 40 f7, ai_ cy g8 40 f8, ai_ cy g9 40 f9, az_ cy g10 40 f10, ai_ cy g12 30 f12, ai_ cy g13 30 f13, ai_ cy g14 6000 f14] sz) := by
  refine ofQ (cc := cX12_merge) (maxL := 7) (ret := (some .int)) (by decide) rfl ?_
  intro p e s m args below meth c s₁ Q hQ B hml hv
  obtain ⟨rfl, hsz, hP, hK, hD0⟩ := hv
  have hx := B.exec
  have hb := B.bytes
  have hr := B.returns
  have hts := atoms_spec (ws := wsX12_merge) B.pre
  have hown : s.vm.findClass RX12 = some m.cls := by have h_ := findClass_of_methodNamed B.named; exact h_
  have hlocks := B.notSynchronized
  subst hsz
  have hD := hD0.self (sz := s.heap.size)
  generalize hAe : va_A [ob12_0_ mo s0 s1 t2 s3 s4 g5 g6 g7 g8 g9 g10 s11 g12 g13 g14 g15 g16 g17 g18 g19 g20 s21 g22 g23 g24 s25 s26 s27 s28 g29 g30 g31 g32 g33, ai_ cy g5 40 f5, ai_ cy g6 40 f6, ai_ cy g7 40 f7, ai_ cy g8 40 f8, ai_ cy g9 40 f9, az_ cy g10 40 f10, ai_ cy g12 30 f12, ai_ cy g13 30 f13, ai_ cy g14 6000 f14] s.heap.size = A at hD hQ
  have hA : ∀ q : Nat, s.heap.size ≤ q → A q := fun q h => by rw [← hAe]; exact Or.inr h
  have hS : va_S A s.heap s.heap [] := va_S.rf
  have hl := lv_entry ([.ref mo, .int a1, .int a2]) (n := 7) (Nat.le_of_ble_eq_true rfl)
  rw [lg_entry_eq]
  generalize (lg_sl ([.ref mo, .int a1, .int a2]) ++ List.replicate (7 - (lg_sl ([.ref mo, .int a1, .int a2])).length) Slot.unset).toArray = ls at hl ⊢
  have hl : lv_has ls 7 [(0, .ref mo), (1, .int a1), (2, .int a2)] := hl
  have zm1 : ((-1) : Int32).toInt = -1 := by decide
  have z0 : (0 : Int32).toInt = 0 := by decide
  have z1 : (1 : Int32).toInt = 1 := by decide
  refine lv_aload_n hx hb dB_3_0_37.2.1.1.1 rfl (lv_at hl 0 rfl) ?_
  refine lv_iconst (v := 0) hx hb dB_3_0_37.2.1.1.2 (by decide) ?_
  refine va_put (ci := 12) (v := .int 0) (ty := .int) (C := RX12) (T := TX12) (N := 34) hx hb hts (fun _ h => List.mem_cons_of_mem _ (List.mem_append_right _ h)) tyX12 tyX12_ok nmX12 hown hK.1 hP hD hS 0 rfl rfl 0 (by decide) (hts (.fieldLink RX12 85 "CutAtlasModel" "thrown" "I") (List.mem_of_getElem? (i := 1) rfl)) (fun _ h9 => h9) rfl (by decide +kernel) rfl rfl (Nat.le_of_ble_eq_true rfl) dB_3_0_37.2.1.2.1 (fun H locs hP hD hS => ?_)
  refine pd_K [ob12_0_ mo 0 s1 t2 s3 s4 g5 g6 g7 g8 g9 g10 s11 g12 g13 g14 g15 g16 g17 g18 g19 g20 s21 g22 g23 g24 s25 s26 s27 s28 g29 g30 g31 g32 g33, ai_ cy g5 40 f5, ai_ cy g6 40 f6, ai_ cy g7 40 f7, ai_ cy g8 40 f8, ai_ cy g9 40 f9, az_ cy g10 40 f10, ai_ cy g12 30 f12, ai_ cy g13 30 f13, ai_ cy g14 6000 f14] hP hD (fun hP hD => ?_)
  refine lv_aload_n hx hb dB_3_0_37.2.1.2.2 rfl (lv_at hl 0 rfl) ?_
  refine lv_iload_n hx hb dB_3_0_37.2.2.1.1 rfl (lv_at hl 1 rfl) ?_
  refine lv_iload_n hx hb dB_3_0_37.2.2.1.2 rfl (lv_at hl 2 rfl) ?_
  refine ct_R hP hD [ob12_0_ mo 0 s1 t2 s3 s4 g5 g6 g7 g8 g9 g10 s11 g12 g13 g14 g15 g16 g17 g18 g19 g20 s21 g22 g23 g24 s25 s26 s27 s28 g29 g30 g31 g32 g33] [0] (by decide) rfl (fun hPc hDw => ?_)
  have hFc := va_free (wc := []) hD hS hA [] rfl
  refine va_calli (va_runV (As := [.int a1, .int a2]) (rest := []) ⟨hx, hb, hml, hown, hts⟩ (c_X12_arePlaces l D cy H.size mo g5 g6 g7 g8 g9 g10 g12 g13 g14 g15 g16 g17 g18 g19 g20 g22 g23 g24 g29 g30 g31 g32 g33 (0 : Int32) s1 s3 s4 s11 s21 s25 s26 s27 s28 t2 a1 a2 (by first | with_reducible assumption | omega | assumption)) (cwV 2 hts gX12_merge_X12_arePlaces rfl rfl rfl ⟨rfl, hd_X12_arePlaces⟩ ⟨Nat.le_of_ble_eq_true rfl, Nat.le_of_ble_eq_true rfl⟩) ⟨bl_, va_recvX hK.1 hP (ci := 12) (q0 := 0) rfl rfl, fun U hU hW => ⟨rfl, by rw [hU], by rw [hU]; exact hPc, kk_mv hW hK, hDw⟩⟩ rfl rfl hl.1 rfl (lv_room (Nat.le_of_ble_eq_true rfl)) dB_3_0_37.2.2.2.1 ⟨Nat.le_of_ble_eq_true rfl, Nat.le_of_ble_eq_true rfl⟩) hS (fun q _ h => hFc q h) hFc (fun r_1 u t H locs ht hvm hw hB hz1 hk1 hS => ?_)
  have hP : va_P D vwCl _ H := ro_keep hP hk1
  rcases hw with ⟨w_2, e_⟩ | ⟨w_2, e_⟩
  · have e_ := e_.symm
    subst e_
    refine lv_if_ne (tgt := 16) hx hb dB_3_0_37.2.2.2.2 (by decide) (fun c_3 => ?_) (fun c_3 => ?_)
    · have _ := c_3
      refine lv_aload_n hx hb dB_3_0_38.1.1.2.1 rfl (lv_at hl 0 rfl) ?_
      refine ct_S hP hD hS hA [ob12_0_ mo 0 s1 t2 s3 s4 g5 g6 g7 g8 g9 g10 s11 g12 g13 g14 g15 g16 g17 g18 g19 g20 s21 g22 g23 g24 s25 s26 s27 s28 g29 g30 g31 g32 g33, ai_ cy g5 40 f5, ai_ cy g6 40 f6, ai_ cy g7 40 f7, ai_ cy g8 40 f8, ai_ cy g9 40 f9, az_ cy g10 40 f10, ai_ cy g12 30 f12, ai_ cy g13 30 f13, ai_ cy g14 6000 f14] [0, 1, 2, 3, 4, 5, 6, 7, 8, 9] (by decide) rfl (fun hPc hDw hFc hC_ => ?_)
      refine va_callv (va_runV (As := []) (rest := []) ⟨hx, hb, hml, hown, hts⟩ (c_X12_keeps2 l D cy H.size mo g5 g6 g7 g8 g9 g10 g12 g13 g14 g15 g16 g17 g18 g19 g20 g22 g23 g24 g29 g30 g31 g32 g33 (0 : Int32) s1 s3 s4 s11 s21 s25 s26 s27 s28 t2 f5 f6 f7 f8 f9 f10 f12 f13 f14 (by first | with_reducible assumption | omega | assumption) (by first | with_reducible assumption | omega | assumption) (by first | with_reducible assumption | omega | assumption) (by first | with_reducible assumption | assumption | omega) (by first | with_reducible assumption | assumption | omega) (by first | with_reducible assumption | assumption | omega) (by first | with_reducible assumption | assumption | omega) (by first | with_reducible assumption | assumption | omega) (by first | with_reducible assumption | assumption | omega) (by first | with_reducible assumption | assumption | omega)) (cwV 0 hts gX12_merge_X12_keeps rfl rfl rfl ⟨rfl, hd_X12_keeps⟩ ⟨Nat.le_of_ble_eq_true rfl, Nat.le_of_ble_eq_true rfl⟩) ⟨bl_, va_recvX hK.1 hP (ci := 12) (q0 := 0) rfl rfl, fun U hU hW => ⟨rfl, by rw [hU], by rw [hU]; exact hPc, kk_mv hW hK, hDw⟩⟩ rfl rfl hl.1 rfl (lv_room (Nat.le_of_ble_eq_true rfl)) dB_3_0_38.1.1.2.2 ⟨Nat.le_of_ble_eq_true rfl, Nat.le_of_ble_eq_true rfl⟩) hS (fun q _ h => hFc q h) hFc (fun u t H locs ht hvm hw hB hz1 hk1 hS => ?_)
      obtain ⟨n11_5, e12_6, e13_7, e14_8, g_9, g_10, g_11, g_12, g_13, hP1, hD1⟩ := hB
      rw [ht] at hP1
      obtain ⟨hP, hD⟩ := va_join (wr := []) (w1 := [ob12_0_ mo 0 s1 t2 s3 s4 g5 g6 g7 g8 g9 g10 n11_5 g12 g13 g14 g15 g16 g17 g18 g19 g20 s21 g22 g23 g24 s25 s26 s27 s28 g29 g30 g31 g32 g33, ai_ cy g5 40 f5, ai_ cy g6 40 f6, ai_ cy g7 40 f7, ai_ cy g8 40 f8, ai_ cy g9 40 f9, az_ cy g10 40 f10, ai_ cy g12 30 e12_6, ai_ cy g13 30 e13_7, ai_ cy g14 6000 e14_8]) hP hD [0, 1, 2, 3, 4, 5, 6, 7, 8, 9] [] hC_ rfl (by decide) (by decide) hk1 hFc hP1 hD1
      refine pd_K [ob12_0_ mo 0 s1 t2 s3 s4 g5 g6 g7 g8 g9 g10 n11_5 g12 g13 g14 g15 g16 g17 g18 g19 g20 s21 g22 g23 g24 s25 s26 s27 s28 g29 g30 g31 g32 g33, ai_ cy g5 40 f5, ai_ cy g6 40 f6, ai_ cy g7 40 f7, ai_ cy g8 40 f8, ai_ cy g9 40 f9, az_ cy g10 40 f10, ai_ cy g12 30 e12_6, ai_ cy g13 30 e13_7, ai_ cy g14 6000 e14_8] hP hD (fun hP hD => ?_)
      have hpa_ : pastE n11_5.toInt e12_6 e13_7 e14_8 := kept_past g_10 hnet hpast (by omega) (by assumption) (by assumption) (by omega)
      have JOIN_14 : ∀ (u0_14 : Int32) (H : Heap) (locs : List Loc) (ls : Array Slot), ((u0_14.toInt = a1.toInt ∧ a1.toInt < a2.toInt) ∨ (u0_14.toInt = a2.toInt ∧ a2.toInt < a1.toInt)) → pd_2 D vwCl A [ob12_0_ mo 0 s1 t2 s3 s4 g5 g6 g7 g8 g9 g10 n11_5 g12 g13 g14 g15 g16 g17 g18 g19 g20 s21 g22 g23 g24 s25 s26 s27 s28 g29 g30 g31 g32 g33, ai_ cy g5 40 f5, ai_ cy g6 40 f6, ai_ cy g7 40 f7, ai_ cy g8 40 f8, ai_ cy g9 40 f9, az_ cy g10 40 f10, ai_ cy g12 30 e12_6, ai_ cy g13 30 e13_7, ai_ cy g14 6000 e14_8] H → va_S A s.heap H locs → lv_has ls 7 [(0, .ref mo), (1, .int a1), (2, .int a2)] → W p l e ({ frames := 3, cells := 0, slots := 0, locals := 68 } : Room) s m (([.ref mo, .int a1, .int a2] : List Value).toArray) below meth c H locs 0 0 Q (F0 m 30 ls [.int u0_14]) := by
        intro u0_14 H locs ls v0_14 hPD hS hl; obtain ⟨hP, hD⟩ := hPD
        refine lv_istore_n (lv' := [(3, .int u0_14), (0, .ref mo), (1, .int a1), (2, .int a2)]) hx hb dB_3_0_38.2.1.2.1 rfl hl (by decide) rfl (fun ls hl => ?_)
        have JOIN_15 : ∀ (u0_15 : Int32) (H : Heap) (locs : List Loc) (ls : Array Slot), ((u0_15.toInt = a2.toInt ∧ u0_14.toInt = a1.toInt) ∨ (u0_15.toInt = a1.toInt ∧ u0_14.toInt = a2.toInt)) → (u0_14.toInt < u0_15.toInt ∧ 0 ≤ u0_14.toInt ∧ u0_15.toInt < s3.toInt) → pd_2 D vwCl A [ob12_0_ mo 0 s1 t2 s3 s4 g5 g6 g7 g8 g9 g10 n11_5 g12 g13 g14 g15 g16 g17 g18 g19 g20 s21 g22 g23 g24 s25 s26 s27 s28 g29 g30 g31 g32 g33, ai_ cy g5 40 f5, ai_ cy g6 40 f6, ai_ cy g7 40 f7, ai_ cy g8 40 f8, ai_ cy g9 40 f9, az_ cy g10 40 f10, ai_ cy g12 30 e12_6, ai_ cy g13 30 e13_7, ai_ cy g14 6000 e14_8] H → va_S A s.heap H locs → lv_has ls 7 [(3, .int u0_14), (0, .ref mo), (1, .int a1), (2, .int a2)] → W p l e ({ frames := 3, cells := 0, slots := 0, locals := 68 } : Room) s m (([.ref mo, .int a1, .int a2] : List Value).toArray) below meth c H locs 0 0 Q (F0 m 41 ls [.int u0_15]) := by
          intro u0_15 H locs ls v0_15 v1_15 hPD hS hl; obtain ⟨hP, hD⟩ := hPD
          refine lv_istore (lv' := [(4, .int u0_15), (3, .int u0_14), (0, .ref mo), (1, .int a1), (2, .int a2)]) hx hb dB_3_0_39.1.1.1.2 hl (by decide) rfl (fun ls hl => ?_)
          refine lv_iconst (v := 0) hx hb dB_3_0_39.1.1.2.1 (by decide) ?_
          refine lv_istore (lv' := [(5, .int 0), (4, .int u0_15), (3, .int u0_14), (0, .ref mo), (1, .int a1), (2, .int a2)]) hx hb dB_3_0_39.1.1.2.2 hl (by decide) rfl (fun ls hl => ?_)
          refine lv_iconst (v := 0) hx hb dB_3_0_39.1.2.1.1 (by decide) ?_
          refine lv_istore (lv' := [(6, .int 0), (5, .int 0), (4, .int u0_15), (3, .int u0_14), (0, .ref mo), (1, .int a1), (2, .int a2)]) hx hb dB_3_0_39.1.2.1.2 hl (by decide) rfl (fun ls hl => ?_)
          suffices LOOP_16 : ∀ (n_16 : Nat) (x6_16 : Int32) (x5_16 : Int32) (c_g6_16 : Nat → Int32) (c_g7_16 : Nat → Int32) (c_g10_16 : Nat → Int32) (H : Heap) (locs : List Loc) (ls : Array Slot), s4.toInt - x6_16.toInt < (n_16 : Int) → (0 ≤ x6_16.toInt) → (x6_16.toInt ≤ s4.toInt) → (mrgd u0_14.toInt u0_15.toInt f6 f7 f10 c_g6_16 c_g7_16 c_g10_16 x6_16.toInt) → (rng c_g6_16 40 (0) (11)) → (rng c_g7_16 40 (0) (11)) → pd_2 D vwCl A [ob12_0_ mo 0 s1 t2 s3 s4 g5 g6 g7 g8 g9 g10 n11_5 g12 g13 g14 g15 g16 g17 g18 g19 g20 s21 g22 g23 g24 s25 s26 s27 s28 g29 g30 g31 g32 g33, ai_ cy g5 40 f5, ai_ cy g6 40 c_g6_16, ai_ cy g7 40 c_g7_16, ai_ cy g8 40 f8, ai_ cy g9 40 f9, az_ cy g10 40 c_g10_16, ai_ cy g12 30 e12_6, ai_ cy g13 30 e13_7, ai_ cy g14 6000 e14_8] H → va_S A s.heap H locs → lv_has ls 7 [(6, .int x6_16), (5, .int x5_16), (4, .int u0_15), (3, .int u0_14), (0, .ref mo), (1, .int a1), (2, .int a2)] → W p l e ({ frames := 3, cells := 0, slots := 0, locals := 68 } : Room) s m (([.ref mo, .int a1, .int a2] : List Value).toArray) below meth c H locs 0 0 Q (F0 m 49 ls []) from LOOP_16 ((s4.toInt - (0 : Int32).toInt).toNat + 1) (0 : Int32) (0 : Int32) f6 f7 f10 _ _ _ (by omega) (by first | with_reducible assumption | omega | assumption) (by first | with_reducible assumption | omega | assumption) (by first | exact mrgd_0 | exact hms_ (0 : Int32) (by omega) | exact mrgd_skip v_none (by omega) (by omega) (by omega)) (by first | with_reducible assumption | assumption | exact rng_zero (by omega) (by omega) | exact orng_zero) (by first | with_reducible assumption | assumption | exact rng_zero (by omega) (by omega) | exact orng_zero) ⟨hP, hD⟩ hS (lv_sub hl [0, 1, 2, 3, 4, 5, 6] rfl)
          intro n_16
          induction n_16 with
          | zero =>
            intro x6_16 x5_16 c_g6_16 c_g7_16 c_g10_16 H locs ls hm v0_16 v1_16 v2_16 rc_g6_16 rc_g7_16 hPD hS hl; obtain ⟨hP, hD⟩ := hPD
            exact absurd hm (by omega)
          | succ n_16 ih_16 =>
            intro x6_16 x5_16 c_g6_16 c_g7_16 c_g10_16 H locs ls hm v0_16 v1_16 v2_16 rc_g6_16 rc_g7_16 hPD hS hl; obtain ⟨hP, hD⟩ := hPD
            refine lv_iload hx hb dB_3_0_39.1.2.2.1 (lv_at hl 0 rfl) ?_
            refine lv_aload_n hx hb dB_3_0_39.1.2.2.2 rfl (lv_at hl 4 rfl) ?_
            refine va_get (ci := 12) (v := .int s4) (C := RX12) (T := TX12) (N := 34) hx hb hts (fun _ h => List.mem_cons_of_mem _ (List.mem_append_right _ h)) hown hK.1 hP 0 rfl rfl 4 (by decide) (hts (.fieldLink RX12 95 "CutAtlasModel" "lines" "I") (List.mem_of_getElem? (i := 2) rfl)) (fun _ h9 => h9) rfl dB_3_0_39.2.1.1.1 ?_
            refine lv_icmp_ge (tgt := 231) hx hb dB_3_0_39.2.1.1.2 (by decide) (fun c_17 => ?_) (fun c_17 => ?_)
            · have t_17 : s4.toInt ≤ x6_16.toInt := Int32.le_iff_toInt_le.mp c_17
              have hne_ : ∀ q : Int, q = s3.toInt - 1 → netE q s4.toInt c_g6_16 c_g7_16 c_g10_16 := fun q eq => mrgd_net v2_16 (by omega) hnet (by omega) (by omega) eq
              refine lv_aload_n hx hb dB_3_0_45.1.2.2.1 rfl (lv_at hl 4 rfl) ?_
              refine lv_dup hx hb dB_3_0_45.1.2.2.2 rfl ?_
              refine va_get (ci := 12) (v := .int s3) (C := RX12) (T := TX12) (N := 34) hx hb hts (fun _ h => List.mem_cons_of_mem _ (List.mem_append_right _ h)) hown hK.1 hP 0 rfl rfl 3 (by decide) (hts (.fieldLink RX12 88 "CutAtlasModel" "places" "I") (List.mem_of_getElem? (i := 6) rfl)) (fun _ h9 => h9) rfl dB_3_0_45.2.1.1.1 ?_
              refine lv_iconst (v := 1) hx hb dB_3_0_45.2.1.1.2 (by decide) ?_
              refine lv_isub hx hb dB_3_0_45.2.1.2.1 ?_
              refine lv_topi (fun y_18 ey_18 => ?_)
              have ty_18 : y_18.toInt = s3.toInt - (1 : Int32).toInt := by rw [ey_18]; exact subI (by omega) (by omega)
              refine va_put (ci := 12) (v := .int y_18) (ty := .int) (C := RX12) (T := TX12) (N := 34) hx hb hts (fun _ h => List.mem_cons_of_mem _ (List.mem_append_right _ h)) tyX12 tyX12_ok nmX12 hown hK.1 hP hD hS 0 rfl rfl 3 (by decide) (hts (.fieldLink RX12 88 "CutAtlasModel" "places" "I") (List.mem_of_getElem? (i := 6) rfl)) (fun _ h9 => h9) rfl (by decide +kernel) rfl rfl (Nat.le_of_ble_eq_true rfl) dB_3_0_45.2.1.2.2 (fun H locs hP hD hS => ?_)
              refine pd_K [ob12_0_ mo 0 s1 t2 y_18 s4 g5 g6 g7 g8 g9 g10 n11_5 g12 g13 g14 g15 g16 g17 g18 g19 g20 s21 g22 g23 g24 s25 s26 s27 s28 g29 g30 g31 g32 g33, ai_ cy g5 40 f5, ai_ cy g6 40 c_g6_16, ai_ cy g7 40 c_g7_16, ai_ cy g8 40 f8, ai_ cy g9 40 f9, az_ cy g10 40 c_g10_16, ai_ cy g12 30 e12_6, ai_ cy g13 30 e13_7, ai_ cy g14 6000 e14_8] hP hD (fun hP hD => ?_)
              refine lv_iload hx hb dB_3_0_45.2.2.1.1 (lv_at hl 1 rfl) ?_
              rw [hQ]
              exact W.iret (v := x5_16) hx hb hr (fun t ht hW => ⟨⟨x5_16, (), rfl, trivial, y_18, n11_5, c_g6_16, c_g7_16, c_g10_16, e12_6, e13_7, e14_8, (by first | with_reducible assumption | omega | assumption), (by first | with_reducible assumption | omega | assumption), (by first | exact hne_ _ (by omega) | assumption), (by first | exact hpa_ | assumption), (by first | with_reducible assumption | assumption | exact rng_zero (by omega) (by omega) | omega), (by first | with_reducible assumption | assumption | exact rng_zero (by omega) (by omega) | omega), (by first | with_reducible assumption | assumption | exact rng_zero (by omega) (by omega) | omega), (by first | with_reducible assumption | assumption | exact rng_zero (by omega) (by omega) | omega), (by first | with_reducible assumption | assumption | exact rng_zero (by omega) (by omega) | omega), by rw [ht]; exact hP, hD⟩, hS.F ht⟩) hS.2.2 dB_3_0_45.2.2.1.2
            · have t_17 : ¬ s4.toInt ≤ x6_16.toInt := fun h => c_17 (Int32.le_iff_toInt_le.mpr h)
              refine lv_aload_n hx hb dB_3_0_39.2.1.2.1 rfl (lv_at hl 4 rfl) ?_
              refine va_get (ci := 12) (v := .ref g10) (C := RX12) (T := TX12) (N := 34) hx hb hts (fun _ h => List.mem_cons_of_mem _ (List.mem_append_right _ h)) hown hK.1 hP 0 rfl rfl 10 (by decide) (hts (.fieldLink RX12 25 "CutAtlasModel" "isMissing" "[Z") (List.mem_of_getElem? (i := 3) rfl)) (fun _ h9 => h9) rfl dB_3_0_39.2.1.2.2 ?_
              refine lv_iload hx hb dB_3_0_39.2.2.1.1 (lv_at hl 0 rfl) ?_
              have h_19 : vp_in x6_16 40 := in_I (by omega) (by omega)
              refine va_zald hx hb hK.1 hP 6 2 rfl rfl (i := x6_16) h_19 dB_3_0_39.2.2.1.2 ?_
              refine lv_topi (fun y_20 ey_20 => ?_)
              have ky_20 : y_20.toInt = (c_g10_16 x6_16.toNatClampNeg).toInt := by rw [ey_20]
              refine lv_if_ne (tgt := 225) hx hb dB_3_0_39.2.2.2.1 (by decide) (fun c_21 => ?_) (fun c_21 => ?_)
              · have t_21 : ¬ y_20.toInt = (0 : Int32).toInt := fun h => c_21 (Int32.toInt_inj.mp h)
                obtain ⟨y_22, ey_22⟩ : ∃ y : Int32, y = x6_16 + 1 := ⟨_, rfl⟩
                have ty_22 : y_22.toInt = x6_16.toInt + (1 : Int32).toInt := by rw [ey_22]; exact addI (by omega) (by omega)
                refine lv_iinc (v := y_22) (lv' := [(6, .int y_22), (5, .int x5_16), (4, .int u0_15), (3, .int u0_14), (0, .ref mo), (1, .int a1), (2, .int a2)]) hx hb dB_3_0_45.1.2.1.1 hl (k := 0) rfl (by rw [ey_22]; rfl) (by decide) rfl (fun ls hl => ?_)
                refine lv_goto (tgt := 49) hx hb dB_3_0_45.1.2.1.2 (by decide) ?_
                exact ih_16 y_22 x5_16 c_g6_16 c_g7_16 c_g10_16 _ _ _ (by omega) (by first | with_reducible assumption | omega | assumption) (by first | with_reducible assumption | omega | assumption) (by first | exact mrgd_0 | exact hms_ y_22 (by omega) | exact mrgd_skip v2_16 (by omega) (by omega) (by omega)) (by first | with_reducible assumption | assumption | exact rng_zero (by omega) (by omega) | exact orng_zero) (by first | with_reducible assumption | assumption | exact rng_zero (by omega) (by omega) | exact orng_zero) ⟨hP, hD⟩ hS (lv_sub hl [0, 1, 2, 3, 4, 5, 6] rfl)
              · have t_21 : y_20.toInt = (0 : Int32).toInt := congrArg Int32.toInt c_21
                have hnl_ := v2_16.2 x6_16.toNatClampNeg (by have c_ := clI (i := x6_16) (by omega); omega)
                have hms0_ : (c_g10_16 x6_16.toNatClampNeg).toInt = 0 := by omega
                refine lv_aload_n hx hb dB_3_0_39.2.2.2.2 rfl (lv_at hl 4 rfl) ?_
                refine va_get (ci := 12) (v := .ref g6) (C := RX12) (T := TX12) (N := 34) hx hb hts (fun _ h => List.mem_cons_of_mem _ (List.mem_append_right _ h)) hown hK.1 hP 0 rfl rfl 6 (by decide) (hts (.fieldLink RX12 13 "CutAtlasModel" "from" "[I") (List.mem_of_getElem? (i := 4) rfl)) (fun _ h9 => h9) rfl dB_3_0_40.1.1.1.1 ?_
                refine lv_iload hx hb dB_3_0_40.1.1.1.2 (lv_at hl 0 rfl) ?_
                have JOIN_23 : ∀ (u0_23 : Int32) (H : Heap) (locs : List Loc) (ls : Array Slot), (u0_23.toInt = renI (c_g6_16 x6_16.toNatClampNeg).toInt u0_14.toInt u0_15.toInt ∧ 0 ≤ u0_23.toInt ∧ u0_23.toInt ≤ 11) → pd_2 D vwCl A [ob12_0_ mo 0 s1 t2 s3 s4 g5 g6 g7 g8 g9 g10 n11_5 g12 g13 g14 g15 g16 g17 g18 g19 g20 s21 g22 g23 g24 s25 s26 s27 s28 g29 g30 g31 g32 g33, ai_ cy g5 40 f5, ai_ cy g6 40 c_g6_16, ai_ cy g7 40 c_g7_16, ai_ cy g8 40 f8, ai_ cy g9 40 f9, az_ cy g10 40 c_g10_16, ai_ cy g12 30 e12_6, ai_ cy g13 30 e13_7, ai_ cy g14 6000 e14_8] H → va_S A s.heap H locs → lv_has ls 7 [(6, .int x6_16), (5, .int x5_16), (4, .int u0_15), (3, .int u0_14), (0, .ref mo), (1, .int a1), (2, .int a2)] → W p l e ({ frames := 3, cells := 0, slots := 0, locals := 68 } : Room) s m (([.ref mo, .int a1, .int a2] : List Value).toArray) below meth c H locs 0 0 Q (F0 m 121 ls [.int u0_23, .int x6_16, .ref g6]) := by
                  intro u0_23 H locs ls v0_23 hPD hS hl; obtain ⟨hP, hD⟩ := hPD
                  have h_24 : vp_in x6_16 40 := in_I (by omega) (by omega)
                  refine va_iast hx hb hK.1 hP hD hS 2 0 rfl rfl (i := x6_16) h_24 dB_3_0_41.2.1.2.2 (fun H locs hP hD hS => ?_)
                  obtain ⟨f_25, ef_25⟩ : ∃ g : Nat → Int32, g = upd c_g6_16 x6_16.toNatClampNeg u0_23 := ⟨_, rfl⟩
                  refine pd_K (D := D) (cl := vwCl) (H := H) (A := A) [ob12_0_ mo 0 s1 t2 s3 s4 g5 g6 g7 g8 g9 g10 n11_5 g12 g13 g14 g15 g16 g17 g18 g19 g20 s21 g22 g23 g24 s25 s26 s27 s28 g29 g30 g31 g32 g33, ai_ cy g5 40 f5, ai_ cy g6 40 f_25, ai_ cy g7 40 c_g7_16, ai_ cy g8 40 f8, ai_ cy g9 40 f9, az_ cy g10 40 c_g10_16, ai_ cy g12 30 e12_6, ai_ cy g13 30 e13_7, ai_ cy g14 6000 e14_8] (by rw [ef_25]; exact hP) (by rw [ef_25]; exact hD) (fun hP hD => ?_)
                  have rf_25 : rng f_25 40 (0) (11) := by rw [ef_25]; exact rng_upd rc_g6_16 (by omega) (by omega)
                  refine lv_aload_n hx hb dB_3_0_41.2.2.1.1 rfl (lv_at hl 4 rfl) ?_
                  refine va_get (ci := 12) (v := .ref g7) (C := RX12) (T := TX12) (N := 34) hx hb hts (fun _ h => List.mem_cons_of_mem _ (List.mem_append_right _ h)) hown hK.1 hP 0 rfl rfl 7 (by decide) (hts (.fieldLink RX12 16 "CutAtlasModel" "to" "[I") (List.mem_of_getElem? (i := 5) rfl)) (fun _ h9 => h9) rfl dB_3_0_41.2.2.1.2 ?_
                  refine lv_iload hx hb dB_3_0_41.2.2.2.1 (lv_at hl 0 rfl) ?_
                  have JOIN_26 : ∀ (u0_26 : Int32) (H : Heap) (locs : List Loc) (ls : Array Slot), (u0_26.toInt = renI (c_g7_16 x6_16.toNatClampNeg).toInt u0_14.toInt u0_15.toInt ∧ 0 ≤ u0_26.toInt ∧ u0_26.toInt ≤ 11) → pd_2 D vwCl A [ob12_0_ mo 0 s1 t2 s3 s4 g5 g6 g7 g8 g9 g10 n11_5 g12 g13 g14 g15 g16 g17 g18 g19 g20 s21 g22 g23 g24 s25 s26 s27 s28 g29 g30 g31 g32 g33, ai_ cy g5 40 f5, ai_ cy g6 40 f_25, ai_ cy g7 40 c_g7_16, ai_ cy g8 40 f8, ai_ cy g9 40 f9, az_ cy g10 40 c_g10_16, ai_ cy g12 30 e12_6, ai_ cy g13 30 e13_7, ai_ cy g14 6000 e14_8] H → va_S A s.heap H locs → lv_has ls 7 [(6, .int x6_16), (5, .int x5_16), (4, .int u0_15), (3, .int u0_14), (0, .ref mo), (1, .int a1), (2, .int a2)] → W p l e ({ frames := 3, cells := 0, slots := 0, locals := 68 } : Room) s m (([.ref mo, .int a1, .int a2] : List Value).toArray) below meth c H locs 0 0 Q (F0 m 175 ls [.int u0_26, .int x6_16, .ref g7]) := by
                    intro u0_26 H locs ls v0_26 hPD hS hl; obtain ⟨hP, hD⟩ := hPD
                    have h_27 : vp_in x6_16 40 := in_I (by omega) (by omega)
                    refine va_iast hx hb hK.1 hP hD hS 3 0 rfl rfl (i := x6_16) h_27 dB_3_0_43.2.1.1.1 (fun H locs hP hD hS => ?_)
                    obtain ⟨f_28, ef_28⟩ : ∃ g : Nat → Int32, g = upd c_g7_16 x6_16.toNatClampNeg u0_26 := ⟨_, rfl⟩
                    refine pd_K (D := D) (cl := vwCl) (H := H) (A := A) [ob12_0_ mo 0 s1 t2 s3 s4 g5 g6 g7 g8 g9 g10 n11_5 g12 g13 g14 g15 g16 g17 g18 g19 g20 s21 g22 g23 g24 s25 s26 s27 s28 g29 g30 g31 g32 g33, ai_ cy g5 40 f5, ai_ cy g6 40 f_25, ai_ cy g7 40 f_28, ai_ cy g8 40 f8, ai_ cy g9 40 f9, az_ cy g10 40 c_g10_16, ai_ cy g12 30 e12_6, ai_ cy g13 30 e13_7, ai_ cy g14 6000 e14_8] (by rw [ef_28]; exact hP) (by rw [ef_28]; exact hD) (fun hP hD => ?_)
                    have rf_28 : rng f_28 40 (0) (11) := by rw [ef_28]; exact rng_upd rc_g7_16 (by omega) (by omega)
                    refine lv_aload_n hx hb dB_3_0_43.2.1.1.2 rfl (lv_at hl 4 rfl) ?_
                    refine va_get (ci := 12) (v := .ref g10) (C := RX12) (T := TX12) (N := 34) hx hb hts (fun _ h => List.mem_cons_of_mem _ (List.mem_append_right _ h)) hown hK.1 hP 0 rfl rfl 10 (by decide) (hts (.fieldLink RX12 25 "CutAtlasModel" "isMissing" "[Z") (List.mem_of_getElem? (i := 3) rfl)) (fun _ h9 => h9) rfl dB_3_0_43.2.1.2.1 ?_
                    refine lv_iload hx hb dB_3_0_43.2.1.2.2 (lv_at hl 0 rfl) ?_
                    have k6_ : (f_25 x6_16.toNatClampNeg).toInt = u0_23.toInt := by rw [ef_25, pk_us]
                    have k7_ : (f_28 x6_16.toNatClampNeg).toInt = u0_26.toInt := by rw [ef_28, pk_us]
                    have JOIN_29 : ∀ (u0_29 : Int32) (H : Heap) (locs : List Loc) (ls : Array Slot), (u0_29.toInt = if u0_23.toInt = u0_26.toInt then 1 else 0) → pd_2 D vwCl A [ob12_0_ mo 0 s1 t2 s3 s4 g5 g6 g7 g8 g9 g10 n11_5 g12 g13 g14 g15 g16 g17 g18 g19 g20 s21 g22 g23 g24 s25 s26 s27 s28 g29 g30 g31 g32 g33, ai_ cy g5 40 f5, ai_ cy g6 40 f_25, ai_ cy g7 40 f_28, ai_ cy g8 40 f8, ai_ cy g9 40 f9, az_ cy g10 40 c_g10_16, ai_ cy g12 30 e12_6, ai_ cy g13 30 e13_7, ai_ cy g14 6000 e14_8] H → va_S A s.heap H locs → lv_has ls 7 [(6, .int x6_16), (5, .int x5_16), (4, .int u0_15), (3, .int u0_14), (0, .ref mo), (1, .int a1), (2, .int a2)] → W p l e ({ frames := 3, cells := 0, slots := 0, locals := 68 } : Room) s m (([.ref mo, .int a1, .int a2] : List Value).toArray) below meth c H locs 0 0 Q (F0 m 204 ls [.int u0_29, .int x6_16, .ref g10]) := by
                      intro u0_29 H locs ls v0_29 hPD hS hl; obtain ⟨hP, hD⟩ := hPD
                      have h_30 : vp_in x6_16 40 := in_I (by omega) (by omega)
                      refine va_zast hx hb hK.1 hP hD hS 6 2 rfl rfl (i := x6_16) h_30 dB_3_0_44.2.1.1.1 (fun H locs hP hD hS => ?_)
                      obtain ⟨f_31, ef_31⟩ : ∃ g : Nat → Int32, g = upd c_g10_16 x6_16.toNatClampNeg (vp_nar .boolean u0_29) := ⟨_, rfl⟩
                      refine pd_K (D := D) (cl := vwCl) (H := H) (A := A) [ob12_0_ mo 0 s1 t2 s3 s4 g5 g6 g7 g8 g9 g10 n11_5 g12 g13 g14 g15 g16 g17 g18 g19 g20 s21 g22 g23 g24 s25 s26 s27 s28 g29 g30 g31 g32 g33, ai_ cy g5 40 f5, ai_ cy g6 40 f_25, ai_ cy g7 40 f_28, ai_ cy g8 40 f8, ai_ cy g9 40 f9, az_ cy g10 40 f_31, ai_ cy g12 30 e12_6, ai_ cy g13 30 e13_7, ai_ cy g14 6000 e14_8] (by rw [ef_31]; exact hP) (by rw [ef_31]; exact hD) (fun hP hD => ?_)
                      have hms_ : ∀ n2 : Int32, n2.toInt = x6_16.toInt + 1 → mrgd u0_14.toInt u0_15.toInt f6 f7 f10 f_25 f_28 f_31 n2.toInt := fun n2 e2 => mrgd_st v2_16 (by omega) e2 hms0_ ef_25 ef_28 ef_31 v0_23.1 v0_26.1 (nar_if v0_29)
                      refine lv_iload hx hb dB_3_0_44.2.1.1.2 (lv_at hl 1 rfl) ?_
                      have JOIN_32 : ∀ (u0_32 : Int32) (H : Heap) (locs : List Loc) (ls : Array Slot), pd_2 D vwCl A [ob12_0_ mo 0 s1 t2 s3 s4 g5 g6 g7 g8 g9 g10 n11_5 g12 g13 g14 g15 g16 g17 g18 g19 g20 s21 g22 g23 g24 s25 s26 s27 s28 g29 g30 g31 g32 g33, ai_ cy g5 40 f5, ai_ cy g6 40 f_25, ai_ cy g7 40 f_28, ai_ cy g8 40 f8, ai_ cy g9 40 f9, az_ cy g10 40 f_31, ai_ cy g12 30 e12_6, ai_ cy g13 30 e13_7, ai_ cy g14 6000 e14_8] H → va_S A s.heap H locs → lv_has ls 7 [(6, .int x6_16), (5, .int x5_16), (4, .int u0_15), (3, .int u0_14), (0, .ref mo), (1, .int a1), (2, .int a2)] → W p l e ({ frames := 3, cells := 0, slots := 0, locals := 68 } : Room) s m (([.ref mo, .int a1, .int a2] : List Value).toArray) below meth c H locs 0 0 Q (F0 m 222 ls [.int u0_32, .int x5_16]) := by
                        intro u0_32 H locs ls hPD hS hl; obtain ⟨hP, hD⟩ := hPD
                        refine lv_iadd hx hb dB_3_0_45.1.1.2.1 ?_
                        refine lv_topi (fun y_33 ey_33 => ?_)
                        refine lv_istore (lv' := [(5, .int y_33), (6, .int x6_16), (4, .int u0_15), (3, .int u0_14), (0, .ref mo), (1, .int a1), (2, .int a2)]) hx hb dB_3_0_45.1.1.2.2 hl (by decide) rfl (fun ls hl => ?_)
                        obtain ⟨y_34, ey_34⟩ : ∃ y : Int32, y = x6_16 + 1 := ⟨_, rfl⟩
                        have ty_34 : y_34.toInt = x6_16.toInt + (1 : Int32).toInt := by rw [ey_34]; exact addI (by omega) (by omega)
                        refine lv_iinc (v := y_34) (lv' := [(6, .int y_34), (5, .int y_33), (4, .int u0_15), (3, .int u0_14), (0, .ref mo), (1, .int a1), (2, .int a2)]) hx hb dB_3_0_45.1.2.1.1 hl (k := 1) rfl (by rw [ey_34]; rfl) (by decide) rfl (fun ls hl => ?_)
                        refine lv_goto (tgt := 49) hx hb dB_3_0_45.1.2.1.2 (by decide) ?_
                        exact ih_16 y_34 y_33 f_25 f_28 f_31 _ _ _ (by omega) (by first | with_reducible assumption | omega | assumption) (by first | with_reducible assumption | omega | assumption) (by first | exact mrgd_0 | exact hms_ y_34 (by omega) | exact mrgd_skip v2_16 (by omega) (by omega) (by omega)) (by first | with_reducible assumption | assumption | exact rng_zero (by omega) (by omega) | exact orng_zero) (by first | with_reducible assumption | assumption | exact rng_zero (by omega) (by omega) | exact orng_zero) ⟨hP, hD⟩ hS (lv_sub hl [0, 1, 2, 3, 4, 5, 6] rfl)
                      refine lv_aload_n hx hb dB_3_0_44.2.1.2.1 rfl (lv_at hl 4 rfl) ?_
                      refine va_get (ci := 12) (v := .ref g10) (C := RX12) (T := TX12) (N := 34) hx hb hts (fun _ h => List.mem_cons_of_mem _ (List.mem_append_right _ h)) hown hK.1 hP 0 rfl rfl 10 (by decide) (hts (.fieldLink RX12 25 "CutAtlasModel" "isMissing" "[Z") (List.mem_of_getElem? (i := 3) rfl)) (fun _ h9 => h9) rfl dB_3_0_44.2.1.2.2 ?_
                      refine lv_iload hx hb dB_3_0_44.2.2.1.1 (lv_at hl 0 rfl) ?_
                      have h_35 : vp_in x6_16 40 := in_I (by omega) (by omega)
                      refine va_zald hx hb hK.1 hP 6 2 rfl rfl (i := x6_16) h_35 dB_3_0_44.2.2.1.2 ?_
                      refine lv_topi (fun y_36 ey_36 => ?_)
                      have ky_36 : y_36.toInt = (f_31 x6_16.toNatClampNeg).toInt := by rw [ey_36]
                      refine lv_if_eq (tgt := 221) hx hb dB_3_0_44.2.2.2.1 (by decide) (fun c_37 => ?_) (fun c_37 => ?_)
                      · have t_37 : y_36.toInt = (0 : Int32).toInt := congrArg Int32.toInt c_37
                        refine lv_iconst (v := 0) hx hb dB_3_0_45.1.1.1.2 (by decide) ?_
                        exact JOIN_32 (0 : Int32) _ _ _ ⟨hP, hD⟩ hS (lv_sub hl [0, 1, 2, 3, 4, 5, 6] rfl)
                      · have t_37 : ¬ y_36.toInt = (0 : Int32).toInt := fun h => c_37 (Int32.toInt_inj.mp h)
                        refine lv_iconst (v := 1) hx hb dB_3_0_44.2.2.2.2 (by decide) ?_
                        refine lv_goto (tgt := 222) hx hb dB_3_0_45.1.1.1.1 (by decide) ?_
                        exact JOIN_32 (1 : Int32) _ _ _ ⟨hP, hD⟩ hS (lv_sub hl [0, 1, 2, 3, 4, 5, 6] rfl)
                    refine lv_aload_n hx hb dB_3_0_43.2.2.1.1 rfl (lv_at hl 4 rfl) ?_
                    refine va_get (ci := 12) (v := .ref g6) (C := RX12) (T := TX12) (N := 34) hx hb hts (fun _ h => List.mem_cons_of_mem _ (List.mem_append_right _ h)) hown hK.1 hP 0 rfl rfl 6 (by decide) (hts (.fieldLink RX12 13 "CutAtlasModel" "from" "[I") (List.mem_of_getElem? (i := 4) rfl)) (fun _ h9 => h9) rfl dB_3_0_43.2.2.1.2 ?_
                    refine lv_iload hx hb dB_3_0_43.2.2.2.1 (lv_at hl 0 rfl) ?_
                    have h_38 : vp_in x6_16 40 := in_I (by omega) (by omega)
                    refine va_iald hx hb hK.1 hP 2 0 rfl rfl (i := x6_16) h_38 dB_3_0_43.2.2.2.2 ?_
                    refine lv_topi (fun y_39 ey_39 => ?_)
                    have ky_39 : y_39.toInt = (f_25 x6_16.toNatClampNeg).toInt := by rw [ey_39]
                    have ry_39 : 0 ≤ y_39.toInt ∧ y_39.toInt ≤ 11 := by rw [ey_39]; exact rf_25 _ (in_lt h_38)
                    refine lv_aload_n hx hb dB_3_0_44.1.1.1.1 rfl (lv_at hl 4 rfl) ?_
                    refine va_get (ci := 12) (v := .ref g7) (C := RX12) (T := TX12) (N := 34) hx hb hts (fun _ h => List.mem_cons_of_mem _ (List.mem_append_right _ h)) hown hK.1 hP 0 rfl rfl 7 (by decide) (hts (.fieldLink RX12 16 "CutAtlasModel" "to" "[I") (List.mem_of_getElem? (i := 5) rfl)) (fun _ h9 => h9) rfl dB_3_0_44.1.1.1.2 ?_
                    refine lv_iload hx hb dB_3_0_44.1.1.2.1 (lv_at hl 0 rfl) ?_
                    have h_40 : vp_in x6_16 40 := in_I (by omega) (by omega)
                    refine va_iald hx hb hK.1 hP 3 0 rfl rfl (i := x6_16) h_40 dB_3_0_44.1.1.2.2 ?_
                    refine lv_topi (fun y_41 ey_41 => ?_)
                    have ky_41 : y_41.toInt = (f_28 x6_16.toNatClampNeg).toInt := by rw [ey_41]
                    have ry_41 : 0 ≤ y_41.toInt ∧ y_41.toInt ≤ 11 := by rw [ey_41]; exact rf_28 _ (in_lt h_40)
                    refine lv_icmp_ne (tgt := 203) hx hb dB_3_0_44.1.2.1.1 (by decide) (fun c_42 => ?_) (fun c_42 => ?_)
                    · have t_42 : ¬ y_39.toInt = y_41.toInt := fun h => c_42 (Int32.toInt_inj.mp h)
                      refine lv_iconst (v := 0) hx hb dB_3_0_44.1.2.2.2 (by decide) ?_
                      exact JOIN_29 (0 : Int32) _ _ _ (by first | (rw [if_pos (by omega)]; decide) | (rw [if_neg (by omega)]; decide)) ⟨hP, hD⟩ hS (lv_sub hl [0, 1, 2, 3, 4, 5, 6] rfl)
                    · have t_42 : y_39.toInt = y_41.toInt := congrArg Int32.toInt c_42
                      refine lv_iconst (v := 1) hx hb dB_3_0_44.1.2.1.2 (by decide) ?_
                      refine lv_goto (tgt := 204) hx hb dB_3_0_44.1.2.2.1 (by decide) ?_
                      exact JOIN_29 (1 : Int32) _ _ _ (by first | (rw [if_pos (by omega)]; decide) | (rw [if_neg (by omega)]; decide)) ⟨hP, hD⟩ hS (lv_sub hl [0, 1, 2, 3, 4, 5, 6] rfl)
                  refine lv_aload_n hx hb dB_3_0_41.2.2.2.2 rfl (lv_at hl 4 rfl) ?_
                  refine va_get (ci := 12) (v := .ref g7) (C := RX12) (T := TX12) (N := 34) hx hb hts (fun _ h => List.mem_cons_of_mem _ (List.mem_append_right _ h)) hown hK.1 hP 0 rfl rfl 7 (by decide) (hts (.fieldLink RX12 16 "CutAtlasModel" "to" "[I") (List.mem_of_getElem? (i := 5) rfl)) (fun _ h9 => h9) rfl dB_3_0_42.1.1.1.1 ?_
                  refine lv_iload hx hb dB_3_0_42.1.1.1.2 (lv_at hl 0 rfl) ?_
                  have h_43 : vp_in x6_16 40 := in_I (by omega) (by omega)
                  refine va_iald hx hb hK.1 hP 3 0 rfl rfl (i := x6_16) h_43 dB_3_0_42.1.1.2.1 ?_
                  refine lv_topi (fun y_44 ey_44 => ?_)
                  have ky_44 : y_44.toInt = (c_g7_16 x6_16.toNatClampNeg).toInt := by rw [ey_44]
                  have ry_44 : 0 ≤ y_44.toInt ∧ y_44.toInt ≤ 11 := by rw [ey_44]; exact rc_g7_16 _ (in_lt h_43)
                  refine lv_iload hx hb dB_3_0_42.1.1.2.2 (lv_at hl 2 rfl) ?_
                  refine lv_icmp_ne (tgt := 144) hx hb dB_3_0_42.1.2.1.1 (by decide) (fun c_45 => ?_) (fun c_45 => ?_)
                  · have t_45 : ¬ y_44.toInt = u0_15.toInt := fun h => c_45 (Int32.toInt_inj.mp h)
                    refine lv_aload_n hx hb dB_3_0_42.1.2.2.2 rfl (lv_at hl 4 rfl) ?_
                    refine va_get (ci := 12) (v := .ref g7) (C := RX12) (T := TX12) (N := 34) hx hb hts (fun _ h => List.mem_cons_of_mem _ (List.mem_append_right _ h)) hown hK.1 hP 0 rfl rfl 7 (by decide) (hts (.fieldLink RX12 16 "CutAtlasModel" "to" "[I") (List.mem_of_getElem? (i := 5) rfl)) (fun _ h9 => h9) rfl dB_3_0_42.2.1.1.1 ?_
                    refine lv_iload hx hb dB_3_0_42.2.1.1.2 (lv_at hl 0 rfl) ?_
                    have h_46 : vp_in x6_16 40 := in_I (by omega) (by omega)
                    refine va_iald hx hb hK.1 hP 3 0 rfl rfl (i := x6_16) h_46 dB_3_0_42.2.1.2.1 ?_
                    refine lv_topi (fun y_47 ey_47 => ?_)
                    have e_ := (ey_47.trans ey_44.symm).symm
                    subst e_
                    skip
                    refine lv_iload hx hb dB_3_0_42.2.1.2.2 (lv_at hl 2 rfl) ?_
                    refine lv_icmp_le (tgt := 168) hx hb dB_3_0_42.2.2.1.1 (by decide) (fun c_48 => ?_) (fun c_48 => ?_)
                    · have t_48 : y_44.toInt ≤ u0_15.toInt := Int32.le_iff_toInt_le.mp c_48
                      refine lv_aload_n hx hb dB_3_0_43.1.2.1.1 rfl (lv_at hl 4 rfl) ?_
                      refine va_get (ci := 12) (v := .ref g7) (C := RX12) (T := TX12) (N := 34) hx hb hts (fun _ h => List.mem_cons_of_mem _ (List.mem_append_right _ h)) hown hK.1 hP 0 rfl rfl 7 (by decide) (hts (.fieldLink RX12 16 "CutAtlasModel" "to" "[I") (List.mem_of_getElem? (i := 5) rfl)) (fun _ h9 => h9) rfl dB_3_0_43.1.2.1.2 ?_
                      refine lv_iload hx hb dB_3_0_43.1.2.2.1 (lv_at hl 0 rfl) ?_
                      have h_49 : vp_in x6_16 40 := in_I (by omega) (by omega)
                      refine va_iald hx hb hK.1 hP 3 0 rfl rfl (i := x6_16) h_49 dB_3_0_43.1.2.2.2 ?_
                      refine lv_topi (fun y_50 ey_50 => ?_)
                      have e_ := (ey_50.trans ey_44.symm).symm
                      subst e_
                      skip
                      exact JOIN_26 y_44 _ _ _ (by unfold renI; (repeat' split) <;> omega) ⟨hP, hD⟩ hS (lv_sub hl [0, 1, 2, 3, 4, 5, 6] rfl)
                    · have t_48 : ¬ y_44.toInt ≤ u0_15.toInt := fun h => c_48 (Int32.le_iff_toInt_le.mpr h)
                      refine lv_aload_n hx hb dB_3_0_42.2.2.1.2 rfl (lv_at hl 4 rfl) ?_
                      refine va_get (ci := 12) (v := .ref g7) (C := RX12) (T := TX12) (N := 34) hx hb hts (fun _ h => List.mem_cons_of_mem _ (List.mem_append_right _ h)) hown hK.1 hP 0 rfl rfl 7 (by decide) (hts (.fieldLink RX12 16 "CutAtlasModel" "to" "[I") (List.mem_of_getElem? (i := 5) rfl)) (fun _ h9 => h9) rfl dB_3_0_42.2.2.2.1 ?_
                      refine lv_iload hx hb dB_3_0_42.2.2.2.2 (lv_at hl 0 rfl) ?_
                      have h_51 : vp_in x6_16 40 := in_I (by omega) (by omega)
                      refine va_iald hx hb hK.1 hP 3 0 rfl rfl (i := x6_16) h_51 dB_3_0_43.1.1.1.1 ?_
                      refine lv_topi (fun y_52 ey_52 => ?_)
                      have e_ := (ey_52.trans ey_44.symm).symm
                      subst e_
                      skip
                      refine lv_iconst (v := 1) hx hb dB_3_0_43.1.1.1.2 (by decide) ?_
                      refine lv_isub hx hb dB_3_0_43.1.1.2.1 ?_
                      refine lv_topi (fun y_53 ey_53 => ?_)
                      have ty_53 : y_53.toInt = y_44.toInt - (1 : Int32).toInt := by rw [ey_53]; exact subI (by omega) (by omega)
                      refine lv_goto (tgt := 175) hx hb dB_3_0_43.1.1.2.2 (by decide) ?_
                      exact JOIN_26 y_53 _ _ _ (by unfold renI; (repeat' split) <;> omega) ⟨hP, hD⟩ hS (lv_sub hl [0, 1, 2, 3, 4, 5, 6] rfl)
                  · have t_45 : y_44.toInt = u0_15.toInt := congrArg Int32.toInt c_45
                    refine lv_iload_n hx hb dB_3_0_42.1.2.1.2 rfl (lv_at hl 3 rfl) ?_
                    refine lv_goto (tgt := 175) hx hb dB_3_0_42.1.2.2.1 (by decide) ?_
                    exact JOIN_26 u0_14 _ _ _ (by unfold renI; (repeat' split) <;> omega) ⟨hP, hD⟩ hS (lv_sub hl [0, 1, 2, 3, 4, 5, 6] rfl)
                refine lv_aload_n hx hb dB_3_0_40.1.1.2.1 rfl (lv_at hl 4 rfl) ?_
                refine va_get (ci := 12) (v := .ref g6) (C := RX12) (T := TX12) (N := 34) hx hb hts (fun _ h => List.mem_cons_of_mem _ (List.mem_append_right _ h)) hown hK.1 hP 0 rfl rfl 6 (by decide) (hts (.fieldLink RX12 13 "CutAtlasModel" "from" "[I") (List.mem_of_getElem? (i := 4) rfl)) (fun _ h9 => h9) rfl dB_3_0_40.1.1.2.2 ?_
                refine lv_iload hx hb dB_3_0_40.1.2.1.1 (lv_at hl 0 rfl) ?_
                have h_54 : vp_in x6_16 40 := in_I (by omega) (by omega)
                refine va_iald hx hb hK.1 hP 2 0 rfl rfl (i := x6_16) h_54 dB_3_0_40.1.2.1.2 ?_
                refine lv_topi (fun y_55 ey_55 => ?_)
                have ky_55 : y_55.toInt = (c_g6_16 x6_16.toNatClampNeg).toInt := by rw [ey_55]
                have ry_55 : 0 ≤ y_55.toInt ∧ y_55.toInt ≤ 11 := by rw [ey_55]; exact rc_g6_16 _ (in_lt h_54)
                refine lv_iload hx hb dB_3_0_40.1.2.2.1 (lv_at hl 2 rfl) ?_
                refine lv_icmp_ne (tgt := 90) hx hb dB_3_0_40.1.2.2.2 (by decide) (fun c_56 => ?_) (fun c_56 => ?_)
                · have t_56 : ¬ y_55.toInt = u0_15.toInt := fun h => c_56 (Int32.toInt_inj.mp h)
                  refine lv_aload_n hx hb dB_3_0_40.2.1.2.1 rfl (lv_at hl 4 rfl) ?_
                  refine va_get (ci := 12) (v := .ref g6) (C := RX12) (T := TX12) (N := 34) hx hb hts (fun _ h => List.mem_cons_of_mem _ (List.mem_append_right _ h)) hown hK.1 hP 0 rfl rfl 6 (by decide) (hts (.fieldLink RX12 13 "CutAtlasModel" "from" "[I") (List.mem_of_getElem? (i := 4) rfl)) (fun _ h9 => h9) rfl dB_3_0_40.2.1.2.2 ?_
                  refine lv_iload hx hb dB_3_0_40.2.2.1.1 (lv_at hl 0 rfl) ?_
                  have h_57 : vp_in x6_16 40 := in_I (by omega) (by omega)
                  refine va_iald hx hb hK.1 hP 2 0 rfl rfl (i := x6_16) h_57 dB_3_0_40.2.2.1.2 ?_
                  refine lv_topi (fun y_58 ey_58 => ?_)
                  have e_ := (ey_58.trans ey_55.symm).symm
                  subst e_
                  skip
                  refine lv_iload hx hb dB_3_0_40.2.2.2.1 (lv_at hl 2 rfl) ?_
                  refine lv_icmp_le (tgt := 114) hx hb dB_3_0_40.2.2.2.2 (by decide) (fun c_59 => ?_) (fun c_59 => ?_)
                  · have t_59 : y_55.toInt ≤ u0_15.toInt := Int32.le_iff_toInt_le.mp c_59
                    refine lv_aload_n hx hb dB_3_0_41.1.2.2.2 rfl (lv_at hl 4 rfl) ?_
                    refine va_get (ci := 12) (v := .ref g6) (C := RX12) (T := TX12) (N := 34) hx hb hts (fun _ h => List.mem_cons_of_mem _ (List.mem_append_right _ h)) hown hK.1 hP 0 rfl rfl 6 (by decide) (hts (.fieldLink RX12 13 "CutAtlasModel" "from" "[I") (List.mem_of_getElem? (i := 4) rfl)) (fun _ h9 => h9) rfl dB_3_0_41.2.1.1.1 ?_
                    refine lv_iload hx hb dB_3_0_41.2.1.1.2 (lv_at hl 0 rfl) ?_
                    have h_60 : vp_in x6_16 40 := in_I (by omega) (by omega)
                    refine va_iald hx hb hK.1 hP 2 0 rfl rfl (i := x6_16) h_60 dB_3_0_41.2.1.2.1 ?_
                    refine lv_topi (fun y_61 ey_61 => ?_)
                    have e_ := (ey_61.trans ey_55.symm).symm
                    subst e_
                    skip
                    exact JOIN_23 y_55 _ _ _ (by unfold renI; (repeat' split) <;> omega) ⟨hP, hD⟩ hS (lv_sub hl [0, 1, 2, 3, 4, 5, 6] rfl)
                  · have t_59 : ¬ y_55.toInt ≤ u0_15.toInt := fun h => c_59 (Int32.le_iff_toInt_le.mpr h)
                    refine lv_aload_n hx hb dB_3_0_41.1.1.1.1 rfl (lv_at hl 4 rfl) ?_
                    refine va_get (ci := 12) (v := .ref g6) (C := RX12) (T := TX12) (N := 34) hx hb hts (fun _ h => List.mem_cons_of_mem _ (List.mem_append_right _ h)) hown hK.1 hP 0 rfl rfl 6 (by decide) (hts (.fieldLink RX12 13 "CutAtlasModel" "from" "[I") (List.mem_of_getElem? (i := 4) rfl)) (fun _ h9 => h9) rfl dB_3_0_41.1.1.1.2 ?_
                    refine lv_iload hx hb dB_3_0_41.1.1.2.1 (lv_at hl 0 rfl) ?_
                    have h_62 : vp_in x6_16 40 := in_I (by omega) (by omega)
                    refine va_iald hx hb hK.1 hP 2 0 rfl rfl (i := x6_16) h_62 dB_3_0_41.1.1.2.2 ?_
                    refine lv_topi (fun y_63 ey_63 => ?_)
                    have e_ := (ey_63.trans ey_55.symm).symm
                    subst e_
                    skip
                    refine lv_iconst (v := 1) hx hb dB_3_0_41.1.2.1.1 (by decide) ?_
                    refine lv_isub hx hb dB_3_0_41.1.2.1.2 ?_
                    refine lv_topi (fun y_64 ey_64 => ?_)
                    have ty_64 : y_64.toInt = y_55.toInt - (1 : Int32).toInt := by rw [ey_64]; exact subI (by omega) (by omega)
                    refine lv_goto (tgt := 121) hx hb dB_3_0_41.1.2.2.1 (by decide) ?_
                    exact JOIN_23 y_64 _ _ _ (by unfold renI; (repeat' split) <;> omega) ⟨hP, hD⟩ hS (lv_sub hl [0, 1, 2, 3, 4, 5, 6] rfl)
                · have t_56 : y_55.toInt = u0_15.toInt := congrArg Int32.toInt c_56
                  refine lv_iload_n hx hb dB_3_0_40.2.1.1.1 rfl (lv_at hl 3 rfl) ?_
                  refine lv_goto (tgt := 121) hx hb dB_3_0_40.2.1.1.2 (by decide) ?_
                  exact JOIN_23 u0_14 _ _ _ (by unfold renI; (repeat' split) <;> omega) ⟨hP, hD⟩ hS (lv_sub hl [0, 1, 2, 3, 4, 5, 6] rfl)
        refine lv_iload_n hx hb dB_3_0_38.2.1.2.2 rfl (lv_at hl 2 rfl) ?_
        refine lv_iload_n hx hb dB_3_0_38.2.2.1.1 rfl (lv_at hl 3 rfl) ?_
        refine lv_icmp_ge (tgt := 40) hx hb dB_3_0_38.2.2.1.2 (by decide) (fun c_65 => ?_) (fun c_65 => ?_)
        · have t_65 : a2.toInt ≤ a1.toInt := Int32.le_iff_toInt_le.mp c_65
          refine lv_iload_n hx hb dB_3_0_39.1.1.1.1 rfl (lv_at hl 2 rfl) ?_
          exact JOIN_15 a1 _ _ _ (by first | with_reducible assumption | assumption | omega) (by first | with_reducible assumption | omega | assumption) ⟨hP, hD⟩ hS (lv_sub hl [0, 1, 2, 3] rfl)
        · have t_65 : ¬ a2.toInt ≤ a1.toInt := fun h => c_65 (Int32.le_iff_toInt_le.mpr h)
          refine lv_iload_n hx hb dB_3_0_38.2.2.2.1 rfl (lv_at hl 3 rfl) ?_
          refine lv_goto (tgt := 41) hx hb dB_3_0_38.2.2.2.2 (by decide) ?_
          exact JOIN_15 a2 _ _ _ (by first | with_reducible assumption | assumption | omega) (by first | with_reducible assumption | omega | assumption) ⟨hP, hD⟩ hS (lv_sub hl [0, 1, 2, 3] rfl)
      refine lv_iload_n hx hb dB_3_0_38.1.2.1.1 rfl (lv_at hl 1 rfl) ?_
      refine lv_iload_n hx hb dB_3_0_38.1.2.1.2 rfl (lv_at hl 2 rfl) ?_
      refine lv_icmp_ge (tgt := 29) hx hb dB_3_0_38.1.2.2.1 (by decide) (fun c_66 => ?_) (fun c_66 => ?_)
      · have t_66 : a2.toInt ≤ a1.toInt := Int32.le_iff_toInt_le.mp c_66
        refine lv_iload_n hx hb dB_3_0_38.2.1.1.2 rfl (lv_at hl 2 rfl) ?_
        exact JOIN_14 a2 _ _ _ (by first | with_reducible assumption | assumption | omega) ⟨hP, hD⟩ hS (lv_sub hl [0, 1, 2] rfl)
      · have t_66 : ¬ a2.toInt ≤ a1.toInt := fun h => c_66 (Int32.le_iff_toInt_le.mpr h)
        refine lv_iload_n hx hb dB_3_0_38.1.2.2.2 rfl (lv_at hl 1 rfl) ?_
        refine lv_goto (tgt := 30) hx hb dB_3_0_38.2.1.1.1 (by decide) ?_
        exact JOIN_14 a1 _ _ _ (by first | with_reducible assumption | assumption | omega) ⟨hP, hD⟩ hS (lv_sub hl [0, 1, 2] rfl)
    · exact absurd c_3 (by decide)
  · have e_ := e_.symm
    subst e_
    refine lv_if_ne (tgt := 16) hx hb dB_3_0_37.2.2.2.2 (by decide) (fun c_67 => ?_) (fun c_67 => ?_)
    · exact absurd c_67 (by decide)
    · have _ := c_67
      refine lv_iconst (v := (-1)) hx hb dB_3_0_38.1.1.1.1 (by decide) ?_
      rw [hQ]
      exact W.iret (v := (-1)) hx hb hr (fun t ht hW => ⟨⟨(-1), (), rfl, trivial, s3, s11, f6, f7, f10, f12, f13, f14, (by first | with_reducible assumption | omega | assumption), (by first | with_reducible assumption | omega | assumption), (by first | exact hne_ _ (by omega) | assumption), (by first | exact hpa_ | assumption), (by first | with_reducible assumption | assumption | exact rng_zero (by omega) (by omega) | omega), (by first | with_reducible assumption | assumption | exact rng_zero (by omega) (by omega) | omega), (by first | with_reducible assumption | assumption | exact rng_zero (by omega) (by omega) | omega), (by first | with_reducible assumption | assumption | exact rng_zero (by omega) (by omega) | omega), (by first | with_reducible assumption | assumption | exact rng_zero (by omega) (by omega) | omega), by rw [ht]; exact hP, hD⟩, hS.F ht⟩) hS.2.2 dB_3_0_38.1.1.1.2
end
