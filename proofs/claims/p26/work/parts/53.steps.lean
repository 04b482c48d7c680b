set_option maxHeartbeats 4000000 in
set_option maxRecDepth 100000 in
theorem c_X12_step (l : Launch) (D : va_G) (cy : Nat → ClassId) (sz : Nat) (mo : Nat) (g5 : Nat) (g6 : Nat) (g7 : Nat) (g8 : Nat) (g9 : Nat) (g10 : Nat) (g12 : Nat) (g13 : Nat) (g14 : Nat) (g15 : Nat) (g16 : Nat) (g17 : Nat) (g18 : Nat) (g19 : Nat) (g20 : Nat) (g22 : Nat) (g23 : Nat) (g24 : Nat) (g29 : Nat) (g30 : Nat) (g31 : Nat) (g32 : Nat) (g33 : Nat) (s0 : Int32) (s1 : Int32) (s3 : Int32) (s4 : Int32) (s11 : Int32) (s21 : Int32) (s25 : Int32) (s26 : Int32) (s27 : Int32) (s28 : Int32) (t2 : Int64) (f5 : Nat → Int32) (f8 : Nat → Int32) (f9 : Nat → Int32) (f22 : Nat → Int32) (a1 : Int32) (a2 : Int32) (q1 : 0 ≤ a1.toInt ∧ a1.toInt < 40) (h21 : s21.toInt = -9) (r_f8 : rng f8 40 (0) (2000)) (r_f9 : rng f9 40 (0) (100)) : Met l yX12_step wsX12_step ({ frames := 2, cells := 0, slots := 0, locals := 46 }) (va_Pc [.ref mo, .int a1, .int a2] (fun U => U.heap.size = sz ∧ va_P D vwCl [(mo, .inr (12, [.int s0, .int s1, .long t2, .int s3, .int s4, .ref g5, .ref g6, .ref g7, .ref g8, .ref g9, .ref g10, .int s11, .ref g12, .ref g13, .ref g14, .ref g15, .ref g16, .ref g17, .ref g18, .ref g19, .ref g20, .int s21, .ref g22, .ref g23, .ref g24, .int s25, .int s26, .int s27, .int s28, .ref g29, .ref g30, .ref g31, .ref g32, .ref g33])), (g5, .inl (cy 0, 40, .inl f5)), (g8, .inl (cy 0, 40, .inl f8)), (g9, .inl (cy 0, 40, .inl f9)), (g22, .inl (cy 0, 40, .inl f22))] U.heap ∧ kk_ D cy U ∧ va_D (fun _ => True) [(mo, .inr (12, [.int s0, .int s1, .long t2, .int s3, .int s4, .ref g5, .ref g6, .ref g7, .ref g8, .ref g9, .ref g10, .int s11, .ref g12, .ref g13, .ref g14, .ref g15, .ref g16, .ref g17, .ref g18, .ref g19, .ref g20, .int s21, .ref g22, .ref g23, .ref g24, .int s25, .int s26, .int s27, .int s28, .ref g29, .ref g30, .ref g31, .ref g32, .ref g33])), (g5, .inl (cy 0, 40, .inl f5)), (g8, .inl (cy 0, 40, .inl f8)), (g9, .inl (cy 0, 40, .inl f9)), (g22, .inl (cy 0, 40, .inl f22))])) (va_Ql (fun (r : Int64) (_ : Unit) => True) (fun (_ : Unit) (_ : State) => True) (va_A [] sz)) 0 0 (va_A [] sz) := by
  refine ofQ (cc := cX12_step) (maxL := 7) (ret := (some .long)) (by decide) rfl ?_
  intro p e s m args below meth c s₁ Q hQ B hml hv
  obtain ⟨rfl, hsz, hP, hK, hD0⟩ := hv
  have hx := B.exec
  have hb := B.bytes
  have hr := B.returns
  have hts := atoms_spec (ws := wsX12_step) B.pre
  have hown : s.vm.findClass RX12 = some m.cls := findClass_of_methodNamed B.named
  have hlocks := B.notSynchronized
  subst hsz
  have hD : va_D (va_A [] s.heap.size) [] := dd_nil
  generalize hAe : va_A [] s.heap.size = A at hD hQ
  have hA : ∀ q : Nat, s.heap.size ≤ q → A q := fun q h => by rw [← hAe]; exact Or.inr h
  have hS : va_S A s.heap s.heap [] := va_S.rf
  have hl := lv_entry ([.ref mo, .int a1, .int a2]) (n := 7) (Nat.le_of_ble_eq_true rfl)
  rw [lg_entry_eq]
  generalize (lg_sl ([.ref mo, .int a1, .int a2]) ++ List.replicate (7 - (lg_sl ([.ref mo, .int a1, .int a2])).length) Slot.unset).toArray = ls at hl ⊢
  have hl : lv_has ls 7 [(0, .ref mo), (1, .int a1), (2, .int a2)] := hl
  have zm9 : ((-9) : Int32).toInt = -9 := by decide
  have z0 : (0 : Int32).toInt = 0 := by decide
  have zl0 : (0 : Int64).toInt = 0 := by decide
  have z1 : (1 : Int32).toInt = 1 := by decide
  have zl1000000 : (1000000 : Int64).toInt = 1000000 := by decide
  refine lv_iload_n hx hb dX12_step_0 rfl (lv_at hl 2 rfl) ?_
  refine lv_if_eq (tgt := 13) hx hb dX12_step_1 (by decide) (fun c_1 => ?_) (fun c_1 => ?_)
  · have t_1 : a2.toInt = (0 : Int32).toInt := congrArg Int32.toInt c_1
    refine lv_aload_n hx hb dX12_step_13 rfl (lv_at hl 0 rfl) ?_
    refine va_get (ci := 12) (v := .ref g22) (C := RX12) (T := TX12) (N := 34) hx hb hts (fun _ h => List.mem_cons_of_mem _ (List.mem_append_right _ h)) hown hK.1 hP 0 rfl rfl 22 (by decide) (hts (.fieldLink RX12 61 "CutAtlasModel" "flows" "[I") (by decide +kernel)) (fun _ h9 => h9) rfl dX12_step_14 ?_
    refine lv_iload_n hx hb dX12_step_17 rfl (lv_at hl 1 rfl) ?_
    have h_2 : vp_in a1 40 := in_I (by omega) (by omega)
    refine va_iald hx hb hK.1 hP 4 0 rfl rfl (i := a1) h_2 dX12_step_18 ?_
    refine lv_topi (fun y_3 ey_3 => ?_)
    refine lv_ineg hx hb dX12_step_19 ?_
    refine lv_topi (fun y_4 ey_4 => ?_)
    refine lv_istore_n (lv' := [(3, .int y_4), (0, .ref mo), (1, .int a1), (2, .int a2)]) hx hb dX12_step_20 rfl hl (by decide) rfl (fun ls hl => ?_)
    refine lv_aload_n hx hb dX12_step_21 rfl (lv_at hl 1 rfl) ?_
    refine lv_iload_n hx hb dX12_step_22 rfl (lv_at hl 2 rfl) ?_
    refine lv_iload_n hx hb dX12_step_23 rfl (lv_at hl 3 rfl) ?_
    have hPc := hP.sub (ws' := [(mo, .inr (12, [.int s0, .int s1, .long t2, .int s3, .int s4, .ref g5, .ref g6, .ref g7, .ref g8, .ref g9, .ref g10, .int s11, .ref g12, .ref g13, .ref g14, .ref g15, .ref g16, .ref g17, .ref g18, .ref g19, .ref g20, .int s21, .ref g22, .ref g23, .ref g24, .int s25, .int s26, .int s27, .int s28, .ref g29, .ref g30, .ref g31, .ref g32, .ref g33])), (g5, .inl (cy 0, 40, .inl f5)), (g8, .inl (cy 0, 40, .inl f8))]) [0, 1, 2] rfl
    have hDw : va_D (fun _ => True) [(mo, .inr (12, [.int s0, .int s1, .long t2, .int s3, .int s4, .ref g5, .ref g6, .ref g7, .ref g8, .ref g9, .ref g10, .int s11, .ref g12, .ref g13, .ref g14, .ref g15, .ref g16, .ref g17, .ref g18, .ref g19, .ref g20, .int s21, .ref g22, .ref g23, .ref g24, .int s25, .int s26, .int s27, .int s28, .ref g29, .ref g30, .ref g31, .ref g32, .ref g33])), (g5, .inl (cy 0, 40, .inl f5)), (g8, .inl (cy 0, 40, .inl f8))] := hD0.sub [0, 1, 2] (by decide) rfl
    have hFc := va_free (wc := []) hD hS hA [] rfl
    refine va_calli (va_runV (As := [.int a1, .int a2]) (rest := []) ⟨hx, hb, hml, hown, hts⟩ (c_X12_room l D cy s.heap.size mo g5 g6 g7 g8 g9 g10 g12 g13 g14 g15 g16 g17 g18 g19 g20 g22 g23 g24 g29 g30 g31 g32 g33 s0 s1 s3 s4 s11 s21 s25 s26 s27 s28 t2 f5 f8 a1 a2 (by first | assumption | omega)) (cwV 2 hts gX12_step_X12_room rfl rfl rfl (by decide +kernel) ⟨Nat.le_of_ble_eq_true rfl, Nat.le_of_ble_eq_true rfl⟩) ⟨bl_, va_recv hK.1 hP (ci := 12) (q0 := 0) rfl rfl, fun U hU hW => ⟨rfl, by rw [hU], by rw [hU]; exact hPc, kk_mv hW hK, hDw⟩⟩ rfl rfl hl.1 rfl (lv_room (Nat.le_of_ble_eq_true rfl)) dX12_step_24 ⟨Nat.le_of_ble_eq_true rfl, Nat.le_of_ble_eq_true rfl⟩) hS (fun q _ h => hFc q h) hFc (fun r_5 u t H locs ht hvm hw hB hz1 hk1 hS => ?_)
    have hP := ro_keep hP hk1
    have hP : va_P D vwCl [(mo, .inr (12, [.int s0, .int s1, .long t2, .int s3, .int s4, .ref g5, .ref g6, .ref g7, .ref g8, .ref g9, .ref g10, .int s11, .ref g12, .ref g13, .ref g14, .ref g15, .ref g16, .ref g17, .ref g18, .ref g19, .ref g20, .int s21, .ref g22, .ref g23, .ref g24, .int s25, .int s26, .int s27, .int s28, .ref g29, .ref g30, .ref g31, .ref g32, .ref g33])), (g5, .inl (cy 0, 40, .inl f5)), (g8, .inl (cy 0, 40, .inl f8)), (g9, .inl (cy 0, 40, .inl f9)), (g22, .inl (cy 0, 40, .inl f22))] H := hP
    have f0_r_5 := hw
    refine lv_istore (lv' := [(4, .int r_5), (3, .int y_4), (0, .ref mo), (1, .int a1), (2, .int a2)]) hx hb dX12_step_27 hl (by decide) rfl (fun ls hl => ?_)
    refine lv_aload_n hx hb dX12_step_29 rfl (lv_at hl 2 rfl) ?_
    refine lv_iload_n hx hb dX12_step_30 rfl (lv_at hl 3 rfl) ?_
    refine lv_iload_n hx hb dX12_step_31 rfl (lv_at hl 4 rfl) ?_
    refine lv_if_ne (tgt := 39) hx hb dX12_step_32 (by decide) (fun c_6 => ?_) (fun c_6 => ?_)
    · have t_6 : ¬ a2.toInt = (0 : Int32).toInt := fun h => c_6 (Int32.toInt_inj.mp h)
      exfalso; omega
    · have t_6 : a2.toInt = (0 : Int32).toInt := congrArg Int32.toInt c_6
      refine lv_iconst (v := 1) hx hb dX12_step_35 (by decide) ?_
      refine lv_goto (tgt := 40) hx hb dX12_step_36 (by decide) ?_
      have hPc := hP.sub (ws' := [(mo, .inr (12, [.int s0, .int s1, .long t2, .int s3, .int s4, .ref g5, .ref g6, .ref g7, .ref g8, .ref g9, .ref g10, .int s11, .ref g12, .ref g13, .ref g14, .ref g15, .ref g16, .ref g17, .ref g18, .ref g19, .ref g20, .int s21, .ref g22, .ref g23, .ref g24, .int s25, .int s26, .int s27, .int s28, .ref g29, .ref g30, .ref g31, .ref g32, .ref g33])), (g5, .inl (cy 0, 40, .inl f5)), (g8, .inl (cy 0, 40, .inl f8))]) [0, 1, 2] rfl
      have hDw : va_D (fun _ => True) [(mo, .inr (12, [.int s0, .int s1, .long t2, .int s3, .int s4, .ref g5, .ref g6, .ref g7, .ref g8, .ref g9, .ref g10, .int s11, .ref g12, .ref g13, .ref g14, .ref g15, .ref g16, .ref g17, .ref g18, .ref g19, .ref g20, .int s21, .ref g22, .ref g23, .ref g24, .int s25, .int s26, .int s27, .int s28, .ref g29, .ref g30, .ref g31, .ref g32, .ref g33])), (g5, .inl (cy 0, 40, .inl f5)), (g8, .inl (cy 0, 40, .inl f8))] := hD0.sub [0, 1, 2] (by decide) rfl
      have hFc := va_free (wc := []) hD hS hA [] rfl
      refine va_calli (va_runV (As := [.int a1, .int 1]) (rest := []) ⟨hx, hb, hml, hown, hts⟩ (c_X12_room l D cy H.size mo g5 g6 g7 g8 g9 g10 g12 g13 g14 g15 g16 g17 g18 g19 g20 g22 g23 g24 g29 g30 g31 g32 g33 s0 s1 s3 s4 s11 s21 s25 s26 s27 s28 t2 f5 f8 a1 (1 : Int32) (by first | assumption | omega)) (cwV 2 hts gX12_step_X12_room rfl rfl rfl (by decide +kernel) ⟨Nat.le_of_ble_eq_true rfl, Nat.le_of_ble_eq_true rfl⟩) ⟨bl_, va_recv hK.1 hP (ci := 12) (q0 := 0) rfl rfl, fun U hU hW => ⟨rfl, by rw [hU], by rw [hU]; exact hPc, kk_mv hW hK, hDw⟩⟩ rfl rfl hl.1 rfl (lv_room (Nat.le_of_ble_eq_true rfl)) dX12_step_40 ⟨Nat.le_of_ble_eq_true rfl, Nat.le_of_ble_eq_true rfl⟩) hS (fun q _ h => hFc q h) hFc (fun r_7 u t H locs ht hvm hw hB hz1 hk1 hS => ?_)
      have hP := ro_keep hP hk1
      have hP : va_P D vwCl [(mo, .inr (12, [.int s0, .int s1, .long t2, .int s3, .int s4, .ref g5, .ref g6, .ref g7, .ref g8, .ref g9, .ref g10, .int s11, .ref g12, .ref g13, .ref g14, .ref g15, .ref g16, .ref g17, .ref g18, .ref g19, .ref g20, .int s21, .ref g22, .ref g23, .ref g24, .int s25, .int s26, .int s27, .int s28, .ref g29, .ref g30, .ref g31, .ref g32, .ref g33])), (g5, .inl (cy 0, 40, .inl f5)), (g8, .inl (cy 0, 40, .inl f8)), (g9, .inl (cy 0, 40, .inl f9)), (g22, .inl (cy 0, 40, .inl f22))] H := hP
      have f0_r_7 := hw
      refine lv_istore (lv' := [(5, .int r_7), (4, .int r_5), (3, .int y_4), (0, .ref mo), (1, .int a1), (2, .int a2)]) hx hb dX12_step_43 hl (by decide) rfl (fun ls hl => ?_)
      refine lv_aload_n hx hb dX12_step_45 rfl (lv_at hl 3 rfl) ?_
      refine lv_iload_n hx hb dX12_step_46 rfl (lv_at hl 4 rfl) ?_
      have hPc := hP.sub (ws' := [(mo, .inr (12, [.int s0, .int s1, .long t2, .int s3, .int s4, .ref g5, .ref g6, .ref g7, .ref g8, .ref g9, .ref g10, .int s11, .ref g12, .ref g13, .ref g14, .ref g15, .ref g16, .ref g17, .ref g18, .ref g19, .ref g20, .int s21, .ref g22, .ref g23, .ref g24, .int s25, .int s26, .int s27, .int s28, .ref g29, .ref g30, .ref g31, .ref g32, .ref g33])), (g5, .inl (cy 0, 40, .inl f5)), (g9, .inl (cy 0, 40, .inl f9))]) [0, 1, 3] rfl
      have hDw : va_D (fun _ => True) [(mo, .inr (12, [.int s0, .int s1, .long t2, .int s3, .int s4, .ref g5, .ref g6, .ref g7, .ref g8, .ref g9, .ref g10, .int s11, .ref g12, .ref g13, .ref g14, .ref g15, .ref g16, .ref g17, .ref g18, .ref g19, .ref g20, .int s21, .ref g22, .ref g23, .ref g24, .int s25, .int s26, .int s27, .int s28, .ref g29, .ref g30, .ref g31, .ref g32, .ref g33])), (g5, .inl (cy 0, 40, .inl f5)), (g9, .inl (cy 0, 40, .inl f9))] := hD0.sub [0, 1, 3] (by decide) rfl
      have hFc := va_free (wc := []) hD hS hA [] rfl
      refine va_calli (va_runV (As := [.int a1]) (rest := []) ⟨hx, hb, hml, hown, hts⟩ (c_X12_costs l D cy H.size mo g5 g6 g7 g8 g9 g10 g12 g13 g14 g15 g16 g17 g18 g19 g20 g22 g23 g24 g29 g30 g31 g32 g33 s0 s1 s3 s4 s11 s21 s25 s26 s27 s28 t2 f5 f9 a1 (by first | assumption | omega)) (cwV 1 hts gX12_step_X12_costs rfl rfl rfl (by decide +kernel) ⟨Nat.le_of_ble_eq_true rfl, Nat.le_of_ble_eq_true rfl⟩) ⟨bl_, va_recv hK.1 hP (ci := 12) (q0 := 0) rfl rfl, fun U hU hW => ⟨rfl, by rw [hU], by rw [hU]; exact hPc, kk_mv hW hK, hDw⟩⟩ rfl rfl hl.1 rfl (lv_room (Nat.le_of_ble_eq_true rfl)) dX12_step_47 ⟨Nat.le_of_ble_eq_true rfl, Nat.le_of_ble_eq_true rfl⟩) hS (fun q _ h => hFc q h) hFc (fun r_8 u t H locs ht hvm hw hB hz1 hk1 hS => ?_)
      have hP := ro_keep hP hk1
      have hP : va_P D vwCl [(mo, .inr (12, [.int s0, .int s1, .long t2, .int s3, .int s4, .ref g5, .ref g6, .ref g7, .ref g8, .ref g9, .ref g10, .int s11, .ref g12, .ref g13, .ref g14, .ref g15, .ref g16, .ref g17, .ref g18, .ref g19, .ref g20, .int s21, .ref g22, .ref g23, .ref g24, .int s25, .int s26, .int s27, .int s28, .ref g29, .ref g30, .ref g31, .ref g32, .ref g33])), (g5, .inl (cy 0, 40, .inl f5)), (g8, .inl (cy 0, 40, .inl f8)), (g9, .inl (cy 0, 40, .inl f9)), (g22, .inl (cy 0, 40, .inl f22))] H := hP
      refine lv_istore (lv' := [(6, .int r_8), (5, .int r_7), (4, .int r_5), (3, .int y_4), (0, .ref mo), (1, .int a1), (2, .int a2)]) hx hb dX12_step_50 hl (by decide) rfl (fun ls hl => ?_)
      refine lv_iload_n hx hb dX12_step_52 rfl (lv_at hl 3 rfl) ?_
      refine lv_if_ge (tgt := 68) hx hb dX12_step_53 (by decide) (fun c_9 => ?_) (fun c_9 => ?_)
      · have t_9 : (0 : Int32).toInt ≤ y_4.toInt := Int32.le_iff_toInt_le.mp c_9
        refine lv_iload_n hx hb dX12_step_68 rfl (lv_at hl 3 rfl) ?_
        refine lv_iload hx hb dX12_step_69 (lv_at hl 2 rfl) ?_
        refine lv_icmp_ge (tgt := 78) hx hb dX12_step_71 (by decide) (fun c_10 => ?_) (fun c_10 => ?_)
        · have t_10 : r_5.toInt ≤ y_4.toInt := Int32.le_iff_toInt_le.mp c_10
          refine lv_iload hx hb dX12_step_78 (lv_at hl 0 rfl) ?_
          refine lv_bipush (v := (-9)) hx hb dX12_step_80 (by decide) ?_
          refine lv_icmp_ne (tgt := 91) hx hb dX12_step_82 (by decide) (fun c_11 => ?_) (fun c_11 => ?_)
          · have t_11 : ¬ r_8.toInt = ((-9) : Int32).toInt := fun h => c_11 (Int32.toInt_inj.mp h)
            refine lv_iload hx hb dX12_step_91 (lv_at hl 0 rfl) ?_
            refine lv_i2l (v := r_8.toInt64) hx hb dX12_step_93 rfl ?_
            have q_93 : (r_8.toInt64).toInt = r_8.toInt := Int32.toInt_toInt64 r_8
            subst hQ
            exact W.lret (v := r_8.toInt64) hx hb hr (fun t ht hW => ⟨⟨r_8.toInt64, (), rfl, trivial, trivial⟩, hS.F ht⟩) hS.2.2 dX12_step_94
          · have t_11 : r_8.toInt = ((-9) : Int32).toInt := congrArg Int32.toInt c_11
            refine lv_ldc2 (v := 1000000) hx hb hown (hts (.constantLong RX12 118 (1000000)) (by decide +kernel)) dX12_step_85 ?_
            refine lv_goto (tgt := 94) hx hb dX12_step_88 (by decide) ?_
            subst hQ
            exact W.lret (v := 1000000) hx hb hr (fun t ht hW => ⟨⟨1000000, (), rfl, trivial, trivial⟩, hS.F ht⟩) hS.2.2 dX12_step_94
        · have t_10 : ¬ r_5.toInt ≤ y_4.toInt := fun h => c_10 (Int32.le_iff_toInt_le.mpr h)
          refine lv_lconst (v := 0) hx hb dX12_step_74 (by decide) ?_
          refine lv_goto (tgt := 94) hx hb dX12_step_75 (by decide) ?_
          subst hQ
          exact W.lret (v := 0) hx hb hr (fun t ht hW => ⟨⟨0, (), rfl, trivial, trivial⟩, hS.F ht⟩) hS.2.2 dX12_step_94
      · have t_9 : ¬ (0 : Int32).toInt ≤ y_4.toInt := fun h => c_9 (Int32.le_iff_toInt_le.mpr h)
        refine lv_iload_n hx hb dX12_step_56 rfl (lv_at hl 3 rfl) ?_
        refine lv_ineg hx hb dX12_step_57 ?_
        refine lv_topi (fun y_12 ey_12 => ?_)
        refine lv_iload hx hb dX12_step_58 (lv_at hl 1 rfl) ?_
        refine lv_icmp_le (tgt := 68) hx hb dX12_step_60 (by decide) (fun c_13 => ?_) (fun c_13 => ?_)
        · have t_13 : y_12.toInt ≤ r_7.toInt := Int32.le_iff_toInt_le.mp c_13
          refine lv_iload_n hx hb dX12_step_68 rfl (lv_at hl 3 rfl) ?_
          refine lv_iload hx hb dX12_step_69 (lv_at hl 2 rfl) ?_
          refine lv_icmp_ge (tgt := 78) hx hb dX12_step_71 (by decide) (fun c_14 => ?_) (fun c_14 => ?_)
          · have t_14 : r_5.toInt ≤ y_4.toInt := Int32.le_iff_toInt_le.mp c_14
            refine lv_iload hx hb dX12_step_78 (lv_at hl 0 rfl) ?_
            refine lv_bipush (v := (-9)) hx hb dX12_step_80 (by decide) ?_
            refine lv_icmp_ne (tgt := 91) hx hb dX12_step_82 (by decide) (fun c_15 => ?_) (fun c_15 => ?_)
            · have t_15 : ¬ r_8.toInt = ((-9) : Int32).toInt := fun h => c_15 (Int32.toInt_inj.mp h)
              refine lv_iload hx hb dX12_step_91 (lv_at hl 0 rfl) ?_
              refine lv_i2l (v := r_8.toInt64) hx hb dX12_step_93 rfl ?_
              have q_93 : (r_8.toInt64).toInt = r_8.toInt := Int32.toInt_toInt64 r_8
              subst hQ
              exact W.lret (v := r_8.toInt64) hx hb hr (fun t ht hW => ⟨⟨r_8.toInt64, (), rfl, trivial, trivial⟩, hS.F ht⟩) hS.2.2 dX12_step_94
            · have t_15 : r_8.toInt = ((-9) : Int32).toInt := congrArg Int32.toInt c_15
              refine lv_ldc2 (v := 1000000) hx hb hown (hts (.constantLong RX12 118 (1000000)) (by decide +kernel)) dX12_step_85 ?_
              refine lv_goto (tgt := 94) hx hb dX12_step_88 (by decide) ?_
              subst hQ
              exact W.lret (v := 1000000) hx hb hr (fun t ht hW => ⟨⟨1000000, (), rfl, trivial, trivial⟩, hS.F ht⟩) hS.2.2 dX12_step_94
          · have t_14 : ¬ r_5.toInt ≤ y_4.toInt := fun h => c_14 (Int32.le_iff_toInt_le.mpr h)
            refine lv_lconst (v := 0) hx hb dX12_step_74 (by decide) ?_
            refine lv_goto (tgt := 94) hx hb dX12_step_75 (by decide) ?_
            subst hQ
            exact W.lret (v := 0) hx hb hr (fun t ht hW => ⟨⟨0, (), rfl, trivial, trivial⟩, hS.F ht⟩) hS.2.2 dX12_step_94
        · have t_13 : ¬ y_12.toInt ≤ r_7.toInt := fun h => c_13 (Int32.le_iff_toInt_le.mpr h)
          refine lv_iload hx hb dX12_step_63 (lv_at hl 0 rfl) ?_
          refine lv_ineg hx hb dX12_step_65 ?_
          refine lv_topi (fun y_16 ey_16 => ?_)
          refine lv_i2l (v := y_16.toInt64) hx hb dX12_step_66 rfl ?_
          have q_66 : (y_16.toInt64).toInt = y_16.toInt := Int32.toInt_toInt64 y_16
          subst hQ
          exact W.lret (v := y_16.toInt64) hx hb hr (fun t ht hW => ⟨⟨y_16.toInt64, (), rfl, trivial, trivial⟩, hS.F ht⟩) hS.2.2 dX12_step_67
  · have t_1 : ¬ a2.toInt = (0 : Int32).toInt := fun h => c_1 (Int32.toInt_inj.mp h)
    refine lv_aload_n hx hb dX12_step_4 rfl (lv_at hl 0 rfl) ?_
    refine va_get (ci := 12) (v := .ref g22) (C := RX12) (T := TX12) (N := 34) hx hb hts (fun _ h => List.mem_cons_of_mem _ (List.mem_append_right _ h)) hown hK.1 hP 0 rfl rfl 22 (by decide) (hts (.fieldLink RX12 61 "CutAtlasModel" "flows" "[I") (by decide +kernel)) (fun _ h9 => h9) rfl dX12_step_5 ?_
    refine lv_iload_n hx hb dX12_step_8 rfl (lv_at hl 1 rfl) ?_
    have h_17 : vp_in a1 40 := in_I (by omega) (by omega)
    refine va_iald hx hb hK.1 hP 4 0 rfl rfl (i := a1) h_17 dX12_step_9 ?_
    refine lv_topi (fun y_18 ey_18 => ?_)
    refine lv_goto (tgt := 20) hx hb dX12_step_10 (by decide) ?_
    refine lv_istore_n (lv' := [(3, .int y_18), (0, .ref mo), (1, .int a1), (2, .int a2)]) hx hb dX12_step_20 rfl hl (by decide) rfl (fun ls hl => ?_)
    refine lv_aload_n hx hb dX12_step_21 rfl (lv_at hl 1 rfl) ?_
    refine lv_iload_n hx hb dX12_step_22 rfl (lv_at hl 2 rfl) ?_
    refine lv_iload_n hx hb dX12_step_23 rfl (lv_at hl 3 rfl) ?_
    have hPc := hP.sub (ws' := [(mo, .inr (12, [.int s0, .int s1, .long t2, .int s3, .int s4, .ref g5, .ref g6, .ref g7, .ref g8, .ref g9, .ref g10, .int s11, .ref g12, .ref g13, .ref g14, .ref g15, .ref g16, .ref g17, .ref g18, .ref g19, .ref g20, .int s21, .ref g22, .ref g23, .ref g24, .int s25, .int s26, .int s27, .int s28, .ref g29, .ref g30, .ref g31, .ref g32, .ref g33])), (g5, .inl (cy 0, 40, .inl f5)), (g8, .inl (cy 0, 40, .inl f8))]) [0, 1, 2] rfl
    have hDw : va_D (fun _ => True) [(mo, .inr (12, [.int s0, .int s1, .long t2, .int s3, .int s4, .ref g5, .ref g6, .ref g7, .ref g8, .ref g9, .ref g10, .int s11, .ref g12, .ref g13, .ref g14, .ref g15, .ref g16, .ref g17, .ref g18, .ref g19, .ref g20, .int s21, .ref g22, .ref g23, .ref g24, .int s25, .int s26, .int s27, .int s28, .ref g29, .ref g30, .ref g31, .ref g32, .ref g33])), (g5, .inl (cy 0, 40, .inl f5)), (g8, .inl (cy 0, 40, .inl f8))] := hD0.sub [0, 1, 2] (by decide) rfl
    have hFc := va_free (wc := []) hD hS hA [] rfl
    refine va_calli (va_runV (As := [.int a1, .int a2]) (rest := []) ⟨hx, hb, hml, hown, hts⟩ (c_X12_room l D cy s.heap.size mo g5 g6 g7 g8 g9 g10 g12 g13 g14 g15 g16 g17 g18 g19 g20 g22 g23 g24 g29 g30 g31 g32 g33 s0 s1 s3 s4 s11 s21 s25 s26 s27 s28 t2 f5 f8 a1 a2 (by first | assumption | omega)) (cwV 2 hts gX12_step_X12_room rfl rfl rfl (by decide +kernel) ⟨Nat.le_of_ble_eq_true rfl, Nat.le_of_ble_eq_true rfl⟩) ⟨bl_, va_recv hK.1 hP (ci := 12) (q0 := 0) rfl rfl, fun U hU hW => ⟨rfl, by rw [hU], by rw [hU]; exact hPc, kk_mv hW hK, hDw⟩⟩ rfl rfl hl.1 rfl (lv_room (Nat.le_of_ble_eq_true rfl)) dX12_step_24 ⟨Nat.le_of_ble_eq_true rfl, Nat.le_of_ble_eq_true rfl⟩) hS (fun q _ h => hFc q h) hFc (fun r_19 u t H locs ht hvm hw hB hz1 hk1 hS => ?_)
    have hP := ro_keep hP hk1
    have hP : va_P D vwCl [(mo, .inr (12, [.int s0, .int s1, .long t2, .int s3, .int s4, .ref g5, .ref g6, .ref g7, .ref g8, .ref g9, .ref g10, .int s11, .ref g12, .ref g13, .ref g14, .ref g15, .ref g16, .ref g17, .ref g18, .ref g19, .ref g20, .int s21, .ref g22, .ref g23, .ref g24, .int s25, .int s26, .int s27, .int s28, .ref g29, .ref g30, .ref g31, .ref g32, .ref g33])), (g5, .inl (cy 0, 40, .inl f5)), (g8, .inl (cy 0, 40, .inl f8)), (g9, .inl (cy 0, 40, .inl f9)), (g22, .inl (cy 0, 40, .inl f22))] H := hP
    have f0_r_19 := hw
    refine lv_istore (lv' := [(4, .int r_19), (3, .int y_18), (0, .ref mo), (1, .int a1), (2, .int a2)]) hx hb dX12_step_27 hl (by decide) rfl (fun ls hl => ?_)
    refine lv_aload_n hx hb dX12_step_29 rfl (lv_at hl 2 rfl) ?_
    refine lv_iload_n hx hb dX12_step_30 rfl (lv_at hl 3 rfl) ?_
    refine lv_iload_n hx hb dX12_step_31 rfl (lv_at hl 4 rfl) ?_
    refine lv_if_ne (tgt := 39) hx hb dX12_step_32 (by decide) (fun c_20 => ?_) (fun c_20 => ?_)
    · have t_20 : ¬ a2.toInt = (0 : Int32).toInt := fun h => c_20 (Int32.toInt_inj.mp h)
      refine lv_iconst (v := 0) hx hb dX12_step_39 (by decide) ?_
      have hPc := hP.sub (ws' := [(mo, .inr (12, [.int s0, .int s1, .long t2, .int s3, .int s4, .ref g5, .ref g6, .ref g7, .ref g8, .ref g9, .ref g10, .int s11, .ref g12, .ref g13, .ref g14, .ref g15, .ref g16, .ref g17, .ref g18, .ref g19, .ref g20, .int s21, .ref g22, .ref g23, .ref g24, .int s25, .int s26, .int s27, .int s28, .ref g29, .ref g30, .ref g31, .ref g32, .ref g33])), (g5, .inl (cy 0, 40, .inl f5)), (g8, .inl (cy 0, 40, .inl f8))]) [0, 1, 2] rfl
      have hDw : va_D (fun _ => True) [(mo, .inr (12, [.int s0, .int s1, .long t2, .int s3, .int s4, .ref g5, .ref g6, .ref g7, .ref g8, .ref g9, .ref g10, .int s11, .ref g12, .ref g13, .ref g14, .ref g15, .ref g16, .ref g17, .ref g18, .ref g19, .ref g20, .int s21, .ref g22, .ref g23, .ref g24, .int s25, .int s26, .int s27, .int s28, .ref g29, .ref g30, .ref g31, .ref g32, .ref g33])), (g5, .inl (cy 0, 40, .inl f5)), (g8, .inl (cy 0, 40, .inl f8))] := hD0.sub [0, 1, 2] (by decide) rfl
      have hFc := va_free (wc := []) hD hS hA [] rfl
      refine va_calli (va_runV (As := [.int a1, .int 0]) (rest := []) ⟨hx, hb, hml, hown, hts⟩ (c_X12_room l D cy H.size mo g5 g6 g7 g8 g9 g10 g12 g13 g14 g15 g16 g17 g18 g19 g20 g22 g23 g24 g29 g30 g31 g32 g33 s0 s1 s3 s4 s11 s21 s25 s26 s27 s28 t2 f5 f8 a1 (0 : Int32) (by first | assumption | omega)) (cwV 2 hts gX12_step_X12_room rfl rfl rfl (by decide +kernel) ⟨Nat.le_of_ble_eq_true rfl, Nat.le_of_ble_eq_true rfl⟩) ⟨bl_, va_recv hK.1 hP (ci := 12) (q0 := 0) rfl rfl, fun U hU hW => ⟨rfl, by rw [hU], by rw [hU]; exact hPc, kk_mv hW hK, hDw⟩⟩ rfl rfl hl.1 rfl (lv_room (Nat.le_of_ble_eq_true rfl)) dX12_step_40 ⟨Nat.le_of_ble_eq_true rfl, Nat.le_of_ble_eq_true rfl⟩) hS (fun q _ h => hFc q h) hFc (fun r_21 u t H locs ht hvm hw hB hz1 hk1 hS => ?_)
      have hP := ro_keep hP hk1
      have hP : va_P D vwCl [(mo, .inr (12, [.int s0, .int s1, .long t2, .int s3, .int s4, .ref g5, .ref g6, .ref g7, .ref g8, .ref g9, .ref g10, .int s11, .ref g12, .ref g13, .ref g14, .ref g15, .ref g16, .ref g17, .ref g18, .ref g19, .ref g20, .int s21, .ref g22, .ref g23, .ref g24, .int s25, .int s26, .int s27, .int s28, .ref g29, .ref g30, .ref g31, .ref g32, .ref g33])), (g5, .inl (cy 0, 40, .inl f5)), (g8, .inl (cy 0, 40, .inl f8)), (g9, .inl (cy 0, 40, .inl f9)), (g22, .inl (cy 0, 40, .inl f22))] H := hP
      have f0_r_21 := hw
      refine lv_istore (lv' := [(5, .int r_21), (4, .int r_19), (3, .int y_18), (0, .ref mo), (1, .int a1), (2, .int a2)]) hx hb dX12_step_43 hl (by decide) rfl (fun ls hl => ?_)
      refine lv_aload_n hx hb dX12_step_45 rfl (lv_at hl 3 rfl) ?_
      refine lv_iload_n hx hb dX12_step_46 rfl (lv_at hl 4 rfl) ?_
      have hPc := hP.sub (ws' := [(mo, .inr (12, [.int s0, .int s1, .long t2, .int s3, .int s4, .ref g5, .ref g6, .ref g7, .ref g8, .ref g9, .ref g10, .int s11, .ref g12, .ref g13, .ref g14, .ref g15, .ref g16, .ref g17, .ref g18, .ref g19, .ref g20, .int s21, .ref g22, .ref g23, .ref g24, .int s25, .int s26, .int s27, .int s28, .ref g29, .ref g30, .ref g31, .ref g32, .ref g33])), (g5, .inl (cy 0, 40, .inl f5)), (g9, .inl (cy 0, 40, .inl f9))]) [0, 1, 3] rfl
      have hDw : va_D (fun _ => True) [(mo, .inr (12, [.int s0, .int s1, .long t2, .int s3, .int s4, .ref g5, .ref g6, .ref g7, .ref g8, .ref g9, .ref g10, .int s11, .ref g12, .ref g13, .ref g14, .ref g15, .ref g16, .ref g17, .ref g18, .ref g19, .ref g20, .int s21, .ref g22, .ref g23, .ref g24, .int s25, .int s26, .int s27, .int s28, .ref g29, .ref g30, .ref g31, .ref g32, .ref g33])), (g5, .inl (cy 0, 40, .inl f5)), (g9, .inl (cy 0, 40, .inl f9))] := hD0.sub [0, 1, 3] (by decide) rfl
      have hFc := va_free (wc := []) hD hS hA [] rfl
      refine va_calli (va_runV (As := [.int a1]) (rest := []) ⟨hx, hb, hml, hown, hts⟩ (c_X12_costs l D cy H.size mo g5 g6 g7 g8 g9 g10 g12 g13 g14 g15 g16 g17 g18 g19 g20 g22 g23 g24 g29 g30 g31 g32 g33 s0 s1 s3 s4 s11 s21 s25 s26 s27 s28 t2 f5 f9 a1 (by first | assumption | omega)) (cwV 1 hts gX12_step_X12_costs rfl rfl rfl (by decide +kernel) ⟨Nat.le_of_ble_eq_true rfl, Nat.le_of_ble_eq_true rfl⟩) ⟨bl_, va_recv hK.1 hP (ci := 12) (q0 := 0) rfl rfl, fun U hU hW => ⟨rfl, by rw [hU], by rw [hU]; exact hPc, kk_mv hW hK, hDw⟩⟩ rfl rfl hl.1 rfl (lv_room (Nat.le_of_ble_eq_true rfl)) dX12_step_47 ⟨Nat.le_of_ble_eq_true rfl, Nat.le_of_ble_eq_true rfl⟩) hS (fun q _ h => hFc q h) hFc (fun r_22 u t H locs ht hvm hw hB hz1 hk1 hS => ?_)
      have hP := ro_keep hP hk1
      have hP : va_P D vwCl [(mo, .inr (12, [.int s0, .int s1, .long t2, .int s3, .int s4, .ref g5, .ref g6, .ref g7, .ref g8, .ref g9, .ref g10, .int s11, .ref g12, .ref g13, .ref g14, .ref g15, .ref g16, .ref g17, .ref g18, .ref g19, .ref g20, .int s21, .ref g22, .ref g23, .ref g24, .int s25, .int s26, .int s27, .int s28, .ref g29, .ref g30, .ref g31, .ref g32, .ref g33])), (g5, .inl (cy 0, 40, .inl f5)), (g8, .inl (cy 0, 40, .inl f8)), (g9, .inl (cy 0, 40, .inl f9)), (g22, .inl (cy 0, 40, .inl f22))] H := hP
      refine lv_istore (lv' := [(6, .int r_22), (5, .int r_21), (4, .int r_19), (3, .int y_18), (0, .ref mo), (1, .int a1), (2, .int a2)]) hx hb dX12_step_50 hl (by decide) rfl (fun ls hl => ?_)
      refine lv_iload_n hx hb dX12_step_52 rfl (lv_at hl 3 rfl) ?_
      refine lv_if_ge (tgt := 68) hx hb dX12_step_53 (by decide) (fun c_23 => ?_) (fun c_23 => ?_)
      · have t_23 : (0 : Int32).toInt ≤ y_18.toInt := Int32.le_iff_toInt_le.mp c_23
        refine lv_iload_n hx hb dX12_step_68 rfl (lv_at hl 3 rfl) ?_
        refine lv_iload hx hb dX12_step_69 (lv_at hl 2 rfl) ?_
        refine lv_icmp_ge (tgt := 78) hx hb dX12_step_71 (by decide) (fun c_24 => ?_) (fun c_24 => ?_)
        · have t_24 : r_19.toInt ≤ y_18.toInt := Int32.le_iff_toInt_le.mp c_24
          refine lv_iload hx hb dX12_step_78 (lv_at hl 0 rfl) ?_
          refine lv_bipush (v := (-9)) hx hb dX12_step_80 (by decide) ?_
          refine lv_icmp_ne (tgt := 91) hx hb dX12_step_82 (by decide) (fun c_25 => ?_) (fun c_25 => ?_)
          · have t_25 : ¬ r_22.toInt = ((-9) : Int32).toInt := fun h => c_25 (Int32.toInt_inj.mp h)
            refine lv_iload hx hb dX12_step_91 (lv_at hl 0 rfl) ?_
            refine lv_i2l (v := r_22.toInt64) hx hb dX12_step_93 rfl ?_
            have q_93 : (r_22.toInt64).toInt = r_22.toInt := Int32.toInt_toInt64 r_22
            subst hQ
            exact W.lret (v := r_22.toInt64) hx hb hr (fun t ht hW => ⟨⟨r_22.toInt64, (), rfl, trivial, trivial⟩, hS.F ht⟩) hS.2.2 dX12_step_94
          · have t_25 : r_22.toInt = ((-9) : Int32).toInt := congrArg Int32.toInt c_25
            refine lv_ldc2 (v := 1000000) hx hb hown (hts (.constantLong RX12 118 (1000000)) (by decide +kernel)) dX12_step_85 ?_
            refine lv_goto (tgt := 94) hx hb dX12_step_88 (by decide) ?_
            subst hQ
            exact W.lret (v := 1000000) hx hb hr (fun t ht hW => ⟨⟨1000000, (), rfl, trivial, trivial⟩, hS.F ht⟩) hS.2.2 dX12_step_94
        · have t_24 : ¬ r_19.toInt ≤ y_18.toInt := fun h => c_24 (Int32.le_iff_toInt_le.mpr h)
          refine lv_lconst (v := 0) hx hb dX12_step_74 (by decide) ?_
          refine lv_goto (tgt := 94) hx hb dX12_step_75 (by decide) ?_
          subst hQ
          exact W.lret (v := 0) hx hb hr (fun t ht hW => ⟨⟨0, (), rfl, trivial, trivial⟩, hS.F ht⟩) hS.2.2 dX12_step_94
      · have t_23 : ¬ (0 : Int32).toInt ≤ y_18.toInt := fun h => c_23 (Int32.le_iff_toInt_le.mpr h)
        refine lv_iload_n hx hb dX12_step_56 rfl (lv_at hl 3 rfl) ?_
        refine lv_ineg hx hb dX12_step_57 ?_
        refine lv_topi (fun y_26 ey_26 => ?_)
        refine lv_iload hx hb dX12_step_58 (lv_at hl 1 rfl) ?_
        refine lv_icmp_le (tgt := 68) hx hb dX12_step_60 (by decide) (fun c_27 => ?_) (fun c_27 => ?_)
        · have t_27 : y_26.toInt ≤ r_21.toInt := Int32.le_iff_toInt_le.mp c_27
          refine lv_iload_n hx hb dX12_step_68 rfl (lv_at hl 3 rfl) ?_
          refine lv_iload hx hb dX12_step_69 (lv_at hl 2 rfl) ?_
          refine lv_icmp_ge (tgt := 78) hx hb dX12_step_71 (by decide) (fun c_28 => ?_) (fun c_28 => ?_)
          · have t_28 : r_19.toInt ≤ y_18.toInt := Int32.le_iff_toInt_le.mp c_28
            refine lv_iload hx hb dX12_step_78 (lv_at hl 0 rfl) ?_
            refine lv_bipush (v := (-9)) hx hb dX12_step_80 (by decide) ?_
            refine lv_icmp_ne (tgt := 91) hx hb dX12_step_82 (by decide) (fun c_29 => ?_) (fun c_29 => ?_)
            · have t_29 : ¬ r_22.toInt = ((-9) : Int32).toInt := fun h => c_29 (Int32.toInt_inj.mp h)
              refine lv_iload hx hb dX12_step_91 (lv_at hl 0 rfl) ?_
              refine lv_i2l (v := r_22.toInt64) hx hb dX12_step_93 rfl ?_
              have q_93 : (r_22.toInt64).toInt = r_22.toInt := Int32.toInt_toInt64 r_22
              subst hQ
              exact W.lret (v := r_22.toInt64) hx hb hr (fun t ht hW => ⟨⟨r_22.toInt64, (), rfl, trivial, trivial⟩, hS.F ht⟩) hS.2.2 dX12_step_94
            · have t_29 : r_22.toInt = ((-9) : Int32).toInt := congrArg Int32.toInt c_29
              refine lv_ldc2 (v := 1000000) hx hb hown (hts (.constantLong RX12 118 (1000000)) (by decide +kernel)) dX12_step_85 ?_
              refine lv_goto (tgt := 94) hx hb dX12_step_88 (by decide) ?_
              subst hQ
              exact W.lret (v := 1000000) hx hb hr (fun t ht hW => ⟨⟨1000000, (), rfl, trivial, trivial⟩, hS.F ht⟩) hS.2.2 dX12_step_94
          · have t_28 : ¬ r_19.toInt ≤ y_18.toInt := fun h => c_28 (Int32.le_iff_toInt_le.mpr h)
            refine lv_lconst (v := 0) hx hb dX12_step_74 (by decide) ?_
            refine lv_goto (tgt := 94) hx hb dX12_step_75 (by decide) ?_
            subst hQ
            exact W.lret (v := 0) hx hb hr (fun t ht hW => ⟨⟨0, (), rfl, trivial, trivial⟩, hS.F ht⟩) hS.2.2 dX12_step_94
        · have t_27 : ¬ y_26.toInt ≤ r_21.toInt := fun h => c_27 (Int32.le_iff_toInt_le.mpr h)
          refine lv_iload hx hb dX12_step_63 (lv_at hl 0 rfl) ?_
          refine lv_ineg hx hb dX12_step_65 ?_
          refine lv_topi (fun y_30 ey_30 => ?_)
          refine lv_i2l (v := y_30.toInt64) hx hb dX12_step_66 rfl ?_
          have q_66 : (y_30.toInt64).toInt = y_30.toInt := Int32.toInt_toInt64 y_30
          subst hQ
          exact W.lret (v := y_30.toInt64) hx hb hr (fun t ht hW => ⟨⟨y_30.toInt64, (), rfl, trivial, trivial⟩, hS.F ht⟩) hS.2.2 dX12_step_67
    · have t_20 : a2.toInt = (0 : Int32).toInt := congrArg Int32.toInt c_20
      refine lv_iconst (v := 1) hx hb dX12_step_35 (by decide) ?_
      refine lv_goto (tgt := 40) hx hb dX12_step_36 (by decide) ?_
      have hPc := hP.sub (ws' := [(mo, .inr (12, [.int s0, .int s1, .long t2, .int s3, .int s4, .ref g5, .ref g6, .ref g7, .ref g8, .ref g9, .ref g10, .int s11, .ref g12, .ref g13, .ref g14, .ref g15, .ref g16, .ref g17, .ref g18, .ref g19, .ref g20, .int s21, .ref g22, .ref g23, .ref g24, .int s25, .int s26, .int s27, .int s28, .ref g29, .ref g30, .ref g31, .ref g32, .ref g33])), (g5, .inl (cy 0, 40, .inl f5)), (g8, .inl (cy 0, 40, .inl f8))]) [0, 1, 2] rfl
      have hDw : va_D (fun _ => True) [(mo, .inr (12, [.int s0, .int s1, .long t2, .int s3, .int s4, .ref g5, .ref g6, .ref g7, .ref g8, .ref g9, .ref g10, .int s11, .ref g12, .ref g13, .ref g14, .ref g15, .ref g16, .ref g17, .ref g18, .ref g19, .ref g20, .int s21, .ref g22, .ref g23, .ref g24, .int s25, .int s26, .int s27, .int s28, .ref g29, .ref g30, .ref g31, .ref g32, .ref g33])), (g5, .inl (cy 0, 40, .inl f5)), (g8, .inl (cy 0, 40, .inl f8))] := hD0.sub [0, 1, 2] (by decide) rfl
      have hFc := va_free (wc := []) hD hS hA [] rfl
      refine va_calli (va_runV (As := [.int a1, .int 1]) (rest := []) ⟨hx, hb, hml, hown, hts⟩ (c_X12_room l D cy H.size mo g5 g6 g7 g8 g9 g10 g12 g13 g14 g15 g16 g17 g18 g19 g20 g22 g23 g24 g29 g30 g31 g32 g33 s0 s1 s3 s4 s11 s21 s25 s26 s27 s28 t2 f5 f8 a1 (1 : Int32) (by first | assumption | omega)) (cwV 2 hts gX12_step_X12_room rfl rfl rfl (by decide +kernel) ⟨Nat.le_of_ble_eq_true rfl, Nat.le_of_ble_eq_true rfl⟩) ⟨bl_, va_recv hK.1 hP (ci := 12) (q0 := 0) rfl rfl, fun U hU hW => ⟨rfl, by rw [hU], by rw [hU]; exact hPc, kk_mv hW hK, hDw⟩⟩ rfl rfl hl.1 rfl (lv_room (Nat.le_of_ble_eq_true rfl)) dX12_step_40 ⟨Nat.le_of_ble_eq_true rfl, Nat.le_of_ble_eq_true rfl⟩) hS (fun q _ h => hFc q h) hFc (fun r_31 u t H locs ht hvm hw hB hz1 hk1 hS => ?_)
      have hP := ro_keep hP hk1
      have hP : va_P D vwCl [(mo, .inr (12, [.int s0, .int s1, .long t2, .int s3, .int s4, .ref g5, .ref g6, .ref g7, .ref g8, .ref g9, .ref g10, .int s11, .ref g12, .ref g13, .ref g14, .ref g15, .ref g16, .ref g17, .ref g18, .ref g19, .ref g20, .int s21, .ref g22, .ref g23, .ref g24, .int s25, .int s26, .int s27, .int s28, .ref g29, .ref g30, .ref g31, .ref g32, .ref g33])), (g5, .inl (cy 0, 40, .inl f5)), (g8, .inl (cy 0, 40, .inl f8)), (g9, .inl (cy 0, 40, .inl f9)), (g22, .inl (cy 0, 40, .inl f22))] H := hP
      have f0_r_31 := hw
      refine lv_istore (lv' := [(5, .int r_31), (4, .int r_19), (3, .int y_18), (0, .ref mo), (1, .int a1), (2, .int a2)]) hx hb dX12_step_43 hl (by decide) rfl (fun ls hl => ?_)
      refine lv_aload_n hx hb dX12_step_45 rfl (lv_at hl 3 rfl) ?_
      refine lv_iload_n hx hb dX12_step_46 rfl (lv_at hl 4 rfl) ?_
      have hPc := hP.sub (ws' := [(mo, .inr (12, [.int s0, .int s1, .long t2, .int s3, .int s4, .ref g5, .ref g6, .ref g7, .ref g8, .ref g9, .ref g10, .int s11, .ref g12, .ref g13, .ref g14, .ref g15, .ref g16, .ref g17, .ref g18, .ref g19, .ref g20, .int s21, .ref g22, .ref g23, .ref g24, .int s25, .int s26, .int s27, .int s28, .ref g29, .ref g30, .ref g31, .ref g32, .ref g33])), (g5, .inl (cy 0, 40, .inl f5)), (g9, .inl (cy 0, 40, .inl f9))]) [0, 1, 3] rfl
      have hDw : va_D (fun _ => True) [(mo, .inr (12, [.int s0, .int s1, .long t2, .int s3, .int s4, .ref g5, .ref g6, .ref g7, .ref g8, .ref g9, .ref g10, .int s11, .ref g12, .ref g13, .ref g14, .ref g15, .ref g16, .ref g17, .ref g18, .ref g19, .ref g20, .int s21, .ref g22, .ref g23, .ref g24, .int s25, .int s26, .int s27, .int s28, .ref g29, .ref g30, .ref g31, .ref g32, .ref g33])), (g5, .inl (cy 0, 40, .inl f5)), (g9, .inl (cy 0, 40, .inl f9))] := hD0.sub [0, 1, 3] (by decide) rfl
      have hFc := va_free (wc := []) hD hS hA [] rfl
      refine va_calli (va_runV (As := [.int a1]) (rest := []) ⟨hx, hb, hml, hown, hts⟩ (c_X12_costs l D cy H.size mo g5 g6 g7 g8 g9 g10 g12 g13 g14 g15 g16 g17 g18 g19 g20 g22 g23 g24 g29 g30 g31 g32 g33 s0 s1 s3 s4 s11 s21 s25 s26 s27 s28 t2 f5 f9 a1 (by first | assumption | omega)) (cwV 1 hts gX12_step_X12_costs rfl rfl rfl (by decide +kernel) ⟨Nat.le_of_ble_eq_true rfl, Nat.le_of_ble_eq_true rfl⟩) ⟨bl_, va_recv hK.1 hP (ci := 12) (q0 := 0) rfl rfl, fun U hU hW => ⟨rfl, by rw [hU], by rw [hU]; exact hPc, kk_mv hW hK, hDw⟩⟩ rfl rfl hl.1 rfl (lv_room (Nat.le_of_ble_eq_true rfl)) dX12_step_47 ⟨Nat.le_of_ble_eq_true rfl, Nat.le_of_ble_eq_true rfl⟩) hS (fun q _ h => hFc q h) hFc (fun r_32 u t H locs ht hvm hw hB hz1 hk1 hS => ?_)
      have hP := ro_keep hP hk1
      have hP : va_P D vwCl [(mo, .inr (12, [.int s0, .int s1, .long t2, .int s3, .int s4, .ref g5, .ref g6, .ref g7, .ref g8, .ref g9, .ref g10, .int s11, .ref g12, .ref g13, .ref g14, .ref g15, .ref g16, .ref g17, .ref g18, .ref g19, .ref g20, .int s21, .ref g22, .ref g23, .ref g24, .int s25, .int s26, .int s27, .int s28, .ref g29, .ref g30, .ref g31, .ref g32, .ref g33])), (g5, .inl (cy 0, 40, .inl f5)), (g8, .inl (cy 0, 40, .inl f8)), (g9, .inl (cy 0, 40, .inl f9)), (g22, .inl (cy 0, 40, .inl f22))] H := hP
      refine lv_istore (lv' := [(6, .int r_32), (5, .int r_31), (4, .int r_19), (3, .int y_18), (0, .ref mo), (1, .int a1), (2, .int a2)]) hx hb dX12_step_50 hl (by decide) rfl (fun ls hl => ?_)
      refine lv_iload_n hx hb dX12_step_52 rfl (lv_at hl 3 rfl) ?_
      refine lv_if_ge (tgt := 68) hx hb dX12_step_53 (by decide) (fun c_33 => ?_) (fun c_33 => ?_)
      · have t_33 : (0 : Int32).toInt ≤ y_18.toInt := Int32.le_iff_toInt_le.mp c_33
        refine lv_iload_n hx hb dX12_step_68 rfl (lv_at hl 3 rfl) ?_
        refine lv_iload hx hb dX12_step_69 (lv_at hl 2 rfl) ?_
        refine lv_icmp_ge (tgt := 78) hx hb dX12_step_71 (by decide) (fun c_34 => ?_) (fun c_34 => ?_)
        · have t_34 : r_19.toInt ≤ y_18.toInt := Int32.le_iff_toInt_le.mp c_34
          refine lv_iload hx hb dX12_step_78 (lv_at hl 0 rfl) ?_
          refine lv_bipush (v := (-9)) hx hb dX12_step_80 (by decide) ?_
          refine lv_icmp_ne (tgt := 91) hx hb dX12_step_82 (by decide) (fun c_35 => ?_) (fun c_35 => ?_)
          · have t_35 : ¬ r_32.toInt = ((-9) : Int32).toInt := fun h => c_35 (Int32.toInt_inj.mp h)
            refine lv_iload hx hb dX12_step_91 (lv_at hl 0 rfl) ?_
            refine lv_i2l (v := r_32.toInt64) hx hb dX12_step_93 rfl ?_
            have q_93 : (r_32.toInt64).toInt = r_32.toInt := Int32.toInt_toInt64 r_32
            subst hQ
            exact W.lret (v := r_32.toInt64) hx hb hr (fun t ht hW => ⟨⟨r_32.toInt64, (), rfl, trivial, trivial⟩, hS.F ht⟩) hS.2.2 dX12_step_94
          · have t_35 : r_32.toInt = ((-9) : Int32).toInt := congrArg Int32.toInt c_35
            refine lv_ldc2 (v := 1000000) hx hb hown (hts (.constantLong RX12 118 (1000000)) (by decide +kernel)) dX12_step_85 ?_
            refine lv_goto (tgt := 94) hx hb dX12_step_88 (by decide) ?_
            subst hQ
            exact W.lret (v := 1000000) hx hb hr (fun t ht hW => ⟨⟨1000000, (), rfl, trivial, trivial⟩, hS.F ht⟩) hS.2.2 dX12_step_94
        · have t_34 : ¬ r_19.toInt ≤ y_18.toInt := fun h => c_34 (Int32.le_iff_toInt_le.mpr h)
          refine lv_lconst (v := 0) hx hb dX12_step_74 (by decide) ?_
          refine lv_goto (tgt := 94) hx hb dX12_step_75 (by decide) ?_
          subst hQ
          exact W.lret (v := 0) hx hb hr (fun t ht hW => ⟨⟨0, (), rfl, trivial, trivial⟩, hS.F ht⟩) hS.2.2 dX12_step_94
      · have t_33 : ¬ (0 : Int32).toInt ≤ y_18.toInt := fun h => c_33 (Int32.le_iff_toInt_le.mpr h)
        refine lv_iload_n hx hb dX12_step_56 rfl (lv_at hl 3 rfl) ?_
        refine lv_ineg hx hb dX12_step_57 ?_
        refine lv_topi (fun y_36 ey_36 => ?_)
        refine lv_iload hx hb dX12_step_58 (lv_at hl 1 rfl) ?_
        refine lv_icmp_le (tgt := 68) hx hb dX12_step_60 (by decide) (fun c_37 => ?_) (fun c_37 => ?_)
        · have t_37 : y_36.toInt ≤ r_31.toInt := Int32.le_iff_toInt_le.mp c_37
          refine lv_iload_n hx hb dX12_step_68 rfl (lv_at hl 3 rfl) ?_
          refine lv_iload hx hb dX12_step_69 (lv_at hl 2 rfl) ?_
          refine lv_icmp_ge (tgt := 78) hx hb dX12_step_71 (by decide) (fun c_38 => ?_) (fun c_38 => ?_)
          · have t_38 : r_19.toInt ≤ y_18.toInt := Int32.le_iff_toInt_le.mp c_38
            refine lv_iload hx hb dX12_step_78 (lv_at hl 0 rfl) ?_
            refine lv_bipush (v := (-9)) hx hb dX12_step_80 (by decide) ?_
            refine lv_icmp_ne (tgt := 91) hx hb dX12_step_82 (by decide) (fun c_39 => ?_) (fun c_39 => ?_)
            · have t_39 : ¬ r_32.toInt = ((-9) : Int32).toInt := fun h => c_39 (Int32.toInt_inj.mp h)
              refine lv_iload hx hb dX12_step_91 (lv_at hl 0 rfl) ?_
              refine lv_i2l (v := r_32.toInt64) hx hb dX12_step_93 rfl ?_
              have q_93 : (r_32.toInt64).toInt = r_32.toInt := Int32.toInt_toInt64 r_32
              subst hQ
              exact W.lret (v := r_32.toInt64) hx hb hr (fun t ht hW => ⟨⟨r_32.toInt64, (), rfl, trivial, trivial⟩, hS.F ht⟩) hS.2.2 dX12_step_94
            · have t_39 : r_32.toInt = ((-9) : Int32).toInt := congrArg Int32.toInt c_39
              refine lv_ldc2 (v := 1000000) hx hb hown (hts (.constantLong RX12 118 (1000000)) (by decide +kernel)) dX12_step_85 ?_
              refine lv_goto (tgt := 94) hx hb dX12_step_88 (by decide) ?_
              subst hQ
              exact W.lret (v := 1000000) hx hb hr (fun t ht hW => ⟨⟨1000000, (), rfl, trivial, trivial⟩, hS.F ht⟩) hS.2.2 dX12_step_94
          · have t_38 : ¬ r_19.toInt ≤ y_18.toInt := fun h => c_38 (Int32.le_iff_toInt_le.mpr h)
            refine lv_lconst (v := 0) hx hb dX12_step_74 (by decide) ?_
            refine lv_goto (tgt := 94) hx hb dX12_step_75 (by decide) ?_
            subst hQ
            exact W.lret (v := 0) hx hb hr (fun t ht hW => ⟨⟨0, (), rfl, trivial, trivial⟩, hS.F ht⟩) hS.2.2 dX12_step_94
        · have t_37 : ¬ y_36.toInt ≤ r_31.toInt := fun h => c_37 (Int32.le_iff_toInt_le.mpr h)
          refine lv_iload hx hb dX12_step_63 (lv_at hl 0 rfl) ?_
          refine lv_ineg hx hb dX12_step_65 ?_
          refine lv_topi (fun y_40 ey_40 => ?_)
          refine lv_i2l (v := y_40.toInt64) hx hb dX12_step_66 rfl ?_
          have q_66 : (y_40.toInt64).toInt = y_40.toInt := Int32.toInt_toInt64 y_40
          subst hQ
          exact W.lret (v := y_40.toInt64) hx hb hr (fun t ht hW => ⟨⟨y_40.toInt64, (), rfl, trivial, trivial⟩, hS.F ht⟩) hS.2.2 dX12_step_67

set_option maxHeartbeats 4000000 in
set_option maxRecDepth 100000 in
theorem c_X12_amount (l : Launch) (D : va_G) (cy : Nat → ClassId) (sz : Nat) (mo : Nat) (g5 : Nat) (g6 : Nat) (g7 : Nat) (g8 : Nat) (g9 : Nat) (g10 : Nat) (g12 : Nat) (g13 : Nat) (g14 : Nat) (g15 : Nat) (g16 : Nat) (g17 : Nat) (g18 : Nat) (g19 : Nat) (g20 : Nat) (g22 : Nat) (g23 : Nat) (g24 : Nat) (g29 : Nat) (g30 : Nat) (g31 : Nat) (g32 : Nat) (g33 : Nat) (s0 : Int32) (s1 : Int32) (s3 : Int32) (s4 : Int32) (s11 : Int32) (s21 : Int32) (s25 : Int32) (s26 : Int32) (s27 : Int32) (s28 : Int32) (t2 : Int64) (f5 : Nat → Int32) (f8 : Nat → Int32) (f22 : Nat → Int32) (a1 : Int32) (a2 : Int32) (q1 : 0 ≤ a1.toInt ∧ a1.toInt < 40) (h21 : s21.toInt = -9) (r_f8 : rng f8 40 (0) (2000)) : Met l yX12_amount wsX12_amount ({ frames := 2, cells := 0, slots := 0, locals := 46 }) (va_Pc [.ref mo, .int a1, .int a2] (fun U => U.heap.size = sz ∧ va_P D vwCl [(mo, .inr (12, [.int s0, .int s1, .long t2, .int s3, .int s4, .ref g5, .ref g6, .ref g7, .ref g8, .ref g9, .ref g10, .int s11, .ref g12, .ref g13, .ref g14, .ref g15, .ref g16, .ref g17, .ref g18, .ref g19, .ref g20, .int s21, .ref g22, .ref g23, .ref g24, .int s25, .int s26, .int s27, .int s28, .ref g29, .ref g30, .ref g31, .ref g32, .ref g33])), (g5, .inl (cy 0, 40, .inl f5)), (g8, .inl (cy 0, 40, .inl f8)), (g22, .inl (cy 0, 40, .inl f22))] U.heap ∧ kk_ D cy U ∧ va_D (fun _ => True) [(mo, .inr (12, [.int s0, .int s1, .long t2, .int s3, .int s4, .ref g5, .ref g6, .ref g7, .ref g8, .ref g9, .ref g10, .int s11, .ref g12, .ref g13, .ref g14, .ref g15, .ref g16, .ref g17, .ref g18, .ref g19, .ref g20, .int s21, .ref g22, .ref g23, .ref g24, .int s25, .int s26, .int s27, .int s28, .ref g29, .ref g30, .ref g31, .ref g32, .ref g33])), (g5, .inl (cy 0, 40, .inl f5)), (g8, .inl (cy 0, 40, .inl f8)), (g22, .inl (cy 0, 40, .inl f22))])) (va_Qi (fun (r : Int32) (_ : Unit) => True) (fun (_ : Unit) (_ : State) => True) (va_A [] sz)) 0 0 (va_A [] sz) := by
  refine ofQ (cc := cX12_amount) (maxL := 6) (ret := (some .int)) (by decide) rfl ?_
  intro p e s m args below meth c s₁ Q hQ B hml hv
  obtain ⟨rfl, hsz, hP, hK, hD0⟩ := hv
  have hx := B.exec
  have hb := B.bytes
  have hr := B.returns
  have hts := atoms_spec (ws := wsX12_amount) B.pre
  have hown : s.vm.findClass RX12 = some m.cls := findClass_of_methodNamed B.named
  have hlocks := B.notSynchronized
  subst hsz
  have hD : va_D (va_A [] s.heap.size) [] := dd_nil
  generalize hAe : va_A [] s.heap.size = A at hD hQ
  have hA : ∀ q : Nat, s.heap.size ≤ q → A q := fun q h => by rw [← hAe]; exact Or.inr h
  have hS : va_S A s.heap s.heap [] := va_S.rf
  have hl := lv_entry ([.ref mo, .int a1, .int a2]) (n := 6) (Nat.le_of_ble_eq_true rfl)
  rw [lg_entry_eq]
  generalize (lg_sl ([.ref mo, .int a1, .int a2]) ++ List.replicate (6 - (lg_sl ([.ref mo, .int a1, .int a2])).length) Slot.unset).toArray = ls at hl ⊢
  have hl : lv_has ls 6 [(0, .ref mo), (1, .int a1), (2, .int a2)] := hl
  have z0 : (0 : Int32).toInt = 0 := by decide
  have z1 : (1 : Int32).toInt = 1 := by decide
  have z1000000 : (1000000 : Int32).toInt = 1000000 := by decide
  refine lv_iload_n hx hb dX12_amount_0 rfl (lv_at hl 2 rfl) ?_
  refine lv_if_eq (tgt := 13) hx hb dX12_amount_1 (by decide) (fun c_1 => ?_) (fun c_1 => ?_)
  · have t_1 : a2.toInt = (0 : Int32).toInt := congrArg Int32.toInt c_1
    refine lv_aload_n hx hb dX12_amount_13 rfl (lv_at hl 0 rfl) ?_
    refine va_get (ci := 12) (v := .ref g22) (C := RX12) (T := TX12) (N := 34) hx hb hts (fun _ h => List.mem_cons_of_mem _ (List.mem_append_right _ h)) hown hK.1 hP 0 rfl rfl 22 (by decide) (hts (.fieldLink RX12 61 "CutAtlasModel" "flows" "[I") (by decide +kernel)) (fun _ h9 => h9) rfl dX12_amount_14 ?_
    refine lv_iload_n hx hb dX12_amount_17 rfl (lv_at hl 1 rfl) ?_
    have h_2 : vp_in a1 40 := in_I (by omega) (by omega)
    refine va_iald hx hb hK.1 hP 3 0 rfl rfl (i := a1) h_2 dX12_amount_18 ?_
    refine lv_topi (fun y_3 ey_3 => ?_)
    refine lv_ineg hx hb dX12_amount_19 ?_
    refine lv_topi (fun y_4 ey_4 => ?_)
    refine lv_istore_n (lv' := [(3, .int y_4), (0, .ref mo), (1, .int a1), (2, .int a2)]) hx hb dX12_amount_20 rfl hl (by decide) rfl (fun ls hl => ?_)
    refine lv_aload_n hx hb dX12_amount_21 rfl (lv_at hl 1 rfl) ?_
    refine lv_iload_n hx hb dX12_amount_22 rfl (lv_at hl 2 rfl) ?_
    refine lv_iload_n hx hb dX12_amount_23 rfl (lv_at hl 3 rfl) ?_
    have hPc := hP.sub (ws' := [(mo, .inr (12, [.int s0, .int s1, .long t2, .int s3, .int s4, .ref g5, .ref g6, .ref g7, .ref g8, .ref g9, .ref g10, .int s11, .ref g12, .ref g13, .ref g14, .ref g15, .ref g16, .ref g17, .ref g18, .ref g19, .ref g20, .int s21, .ref g22, .ref g23, .ref g24, .int s25, .int s26, .int s27, .int s28, .ref g29, .ref g30, .ref g31, .ref g32, .ref g33])), (g5, .inl (cy 0, 40, .inl f5)), (g8, .inl (cy 0, 40, .inl f8))]) [0, 1, 2] rfl
    have hDw : va_D (fun _ => True) [(mo, .inr (12, [.int s0, .int s1, .long t2, .int s3, .int s4, .ref g5, .ref g6, .ref g7, .ref g8, .ref g9, .ref g10, .int s11, .ref g12, .ref g13, .ref g14, .ref g15, .ref g16, .ref g17, .ref g18, .ref g19, .ref g20, .int s21, .ref g22, .ref g23, .ref g24, .int s25, .int s26, .int s27, .int s28, .ref g29, .ref g30, .ref g31, .ref g32, .ref g33])), (g5, .inl (cy 0, 40, .inl f5)), (g8, .inl (cy 0, 40, .inl f8))] := hD0.sub [0, 1, 2] (by decide) rfl
    have hFc := va_free (wc := []) hD hS hA [] rfl
    refine va_calli (va_runV (As := [.int a1, .int a2]) (rest := []) ⟨hx, hb, hml, hown, hts⟩ (c_X12_room l D cy s.heap.size mo g5 g6 g7 g8 g9 g10 g12 g13 g14 g15 g16 g17 g18 g19 g20 g22 g23 g24 g29 g30 g31 g32 g33 s0 s1 s3 s4 s11 s21 s25 s26 s27 s28 t2 f5 f8 a1 a2 (by first | assumption | omega)) (cwV 2 hts gX12_amount_X12_room rfl rfl rfl (by decide +kernel) ⟨Nat.le_of_ble_eq_true rfl, Nat.le_of_ble_eq_true rfl⟩) ⟨bl_, va_recv hK.1 hP (ci := 12) (q0 := 0) rfl rfl, fun U hU hW => ⟨rfl, by rw [hU], by rw [hU]; exact hPc, kk_mv hW hK, hDw⟩⟩ rfl rfl hl.1 rfl (lv_room (Nat.le_of_ble_eq_true rfl)) dX12_amount_24 ⟨Nat.le_of_ble_eq_true rfl, Nat.le_of_ble_eq_true rfl⟩) hS (fun q _ h => hFc q h) hFc (fun r_5 u t H locs ht hvm hw hB hz1 hk1 hS => ?_)
    have hP := ro_keep hP hk1
    have hP : va_P D vwCl [(mo, .inr (12, [.int s0, .int s1, .long t2, .int s3, .int s4, .ref g5, .ref g6, .ref g7, .ref g8, .ref g9, .ref g10, .int s11, .ref g12, .ref g13, .ref g14, .ref g15, .ref g16, .ref g17, .ref g18, .ref g19, .ref g20, .int s21, .ref g22, .ref g23, .ref g24, .int s25, .int s26, .int s27, .int s28, .ref g29, .ref g30, .ref g31, .ref g32, .ref g33])), (g5, .inl (cy 0, 40, .inl f5)), (g8, .inl (cy 0, 40, .inl f8)), (g22, .inl (cy 0, 40, .inl f22))] H := hP
    have f0_r_5 := hw
    refine lv_istore (lv' := [(4, .int r_5), (3, .int y_4), (0, .ref mo), (1, .int a1), (2, .int a2)]) hx hb dX12_amount_27 hl (by decide) rfl (fun ls hl => ?_)
    refine lv_aload_n hx hb dX12_amount_29 rfl (lv_at hl 2 rfl) ?_
    refine lv_iload_n hx hb dX12_amount_30 rfl (lv_at hl 3 rfl) ?_
    refine lv_iload_n hx hb dX12_amount_31 rfl (lv_at hl 4 rfl) ?_
    refine lv_if_ne (tgt := 39) hx hb dX12_amount_32 (by decide) (fun c_6 => ?_) (fun c_6 => ?_)
    · have t_6 : ¬ a2.toInt = (0 : Int32).toInt := fun h => c_6 (Int32.toInt_inj.mp h)
      exfalso; omega
    · have t_6 : a2.toInt = (0 : Int32).toInt := congrArg Int32.toInt c_6
      refine lv_iconst (v := 1) hx hb dX12_amount_35 (by decide) ?_
      refine lv_goto (tgt := 40) hx hb dX12_amount_36 (by decide) ?_
      have hPc := hP.sub (ws' := [(mo, .inr (12, [.int s0, .int s1, .long t2, .int s3, .int s4, .ref g5, .ref g6, .ref g7, .ref g8, .ref g9, .ref g10, .int s11, .ref g12, .ref g13, .ref g14, .ref g15, .ref g16, .ref g17, .ref g18, .ref g19, .ref g20, .int s21, .ref g22, .ref g23, .ref g24, .int s25, .int s26, .int s27, .int s28, .ref g29, .ref g30, .ref g31, .ref g32, .ref g33])), (g5, .inl (cy 0, 40, .inl f5)), (g8, .inl (cy 0, 40, .inl f8))]) [0, 1, 2] rfl
      have hDw : va_D (fun _ => True) [(mo, .inr (12, [.int s0, .int s1, .long t2, .int s3, .int s4, .ref g5, .ref g6, .ref g7, .ref g8, .ref g9, .ref g10, .int s11, .ref g12, .ref g13, .ref g14, .ref g15, .ref g16, .ref g17, .ref g18, .ref g19, .ref g20, .int s21, .ref g22, .ref g23, .ref g24, .int s25, .int s26, .int s27, .int s28, .ref g29, .ref g30, .ref g31, .ref g32, .ref g33])), (g5, .inl (cy 0, 40, .inl f5)), (g8, .inl (cy 0, 40, .inl f8))] := hD0.sub [0, 1, 2] (by decide) rfl
      have hFc := va_free (wc := []) hD hS hA [] rfl
      refine va_calli (va_runV (As := [.int a1, .int 1]) (rest := []) ⟨hx, hb, hml, hown, hts⟩ (c_X12_room l D cy H.size mo g5 g6 g7 g8 g9 g10 g12 g13 g14 g15 g16 g17 g18 g19 g20 g22 g23 g24 g29 g30 g31 g32 g33 s0 s1 s3 s4 s11 s21 s25 s26 s27 s28 t2 f5 f8 a1 (1 : Int32) (by first | assumption | omega)) (cwV 2 hts gX12_amount_X12_room rfl rfl rfl (by decide +kernel) ⟨Nat.le_of_ble_eq_true rfl, Nat.le_of_ble_eq_true rfl⟩) ⟨bl_, va_recv hK.1 hP (ci := 12) (q0 := 0) rfl rfl, fun U hU hW => ⟨rfl, by rw [hU], by rw [hU]; exact hPc, kk_mv hW hK, hDw⟩⟩ rfl rfl hl.1 rfl (lv_room (Nat.le_of_ble_eq_true rfl)) dX12_amount_40 ⟨Nat.le_of_ble_eq_true rfl, Nat.le_of_ble_eq_true rfl⟩) hS (fun q _ h => hFc q h) hFc (fun r_7 u t H locs ht hvm hw hB hz1 hk1 hS => ?_)
      have hP := ro_keep hP hk1
      have hP : va_P D vwCl [(mo, .inr (12, [.int s0, .int s1, .long t2, .int s3, .int s4, .ref g5, .ref g6, .ref g7, .ref g8, .ref g9, .ref g10, .int s11, .ref g12, .ref g13, .ref g14, .ref g15, .ref g16, .ref g17, .ref g18, .ref g19, .ref g20, .int s21, .ref g22, .ref g23, .ref g24, .int s25, .int s26, .int s27, .int s28, .ref g29, .ref g30, .ref g31, .ref g32, .ref g33])), (g5, .inl (cy 0, 40, .inl f5)), (g8, .inl (cy 0, 40, .inl f8)), (g22, .inl (cy 0, 40, .inl f22))] H := hP
      have f0_r_7 := hw
      refine lv_istore (lv' := [(5, .int r_7), (4, .int r_5), (3, .int y_4), (0, .ref mo), (1, .int a1), (2, .int a2)]) hx hb dX12_amount_43 hl (by decide) rfl (fun ls hl => ?_)
      refine lv_iload_n hx hb dX12_amount_45 rfl (lv_at hl 2 rfl) ?_
      refine lv_if_ge (tgt := 64) hx hb dX12_amount_46 (by decide) (fun c_8 => ?_) (fun c_8 => ?_)
      · have t_8 : (0 : Int32).toInt ≤ y_4.toInt := Int32.le_iff_toInt_le.mp c_8
        refine lv_iload_n hx hb dX12_amount_64 rfl (lv_at hl 2 rfl) ?_
        refine lv_iload hx hb dX12_amount_65 (lv_at hl 1 rfl) ?_
        refine lv_icmp_ge (tgt := 77) hx hb dX12_amount_67 (by decide) (fun c_9 => ?_) (fun c_9 => ?_)
        · have t_9 : r_5.toInt ≤ y_4.toInt := Int32.le_iff_toInt_le.mp c_9
          refine lv_ldc (v := 1000000) hx hb hown (hts (.constant RX12 159 (1000000)) (by decide +kernel)) dX12_amount_77 ?_
          subst hQ
          exact W.iret (v := 1000000) hx hb hr (fun t ht hW => ⟨⟨1000000, (), rfl, trivial, trivial⟩, hS.F ht⟩) hS.2.2 dX12_amount_79
        · have t_9 : ¬ r_5.toInt ≤ y_4.toInt := fun h => c_9 (Int32.le_iff_toInt_le.mpr h)
          refine lv_iload hx hb dX12_amount_70 (lv_at hl 1 rfl) ?_
          refine lv_iload_n hx hb dX12_amount_72 rfl (lv_at hl 2 rfl) ?_
          refine lv_isub hx hb dX12_amount_73 ?_
          refine lv_topi (fun y_10 ey_10 => ?_)
          refine lv_goto (tgt := 79) hx hb dX12_amount_74 (by decide) ?_
          subst hQ
          exact W.iret (v := y_10) hx hb hr (fun t ht hW => ⟨⟨y_10, (), rfl, trivial, trivial⟩, hS.F ht⟩) hS.2.2 dX12_amount_79
      · have t_8 : ¬ (0 : Int32).toInt ≤ y_4.toInt := fun h => c_8 (Int32.le_iff_toInt_le.mpr h)
        refine lv_iload_n hx hb dX12_amount_49 rfl (lv_at hl 2 rfl) ?_
        refine lv_ineg hx hb dX12_amount_50 ?_
        refine lv_topi (fun y_11 ey_11 => ?_)
        refine lv_iload hx hb dX12_amount_51 (lv_at hl 0 rfl) ?_
        refine lv_icmp_le (tgt := 64) hx hb dX12_amount_53 (by decide) (fun c_12 => ?_) (fun c_12 => ?_)
        · have t_12 : y_11.toInt ≤ r_7.toInt := Int32.le_iff_toInt_le.mp c_12
          refine lv_iload_n hx hb dX12_amount_64 rfl (lv_at hl 2 rfl) ?_
          refine lv_iload hx hb dX12_amount_65 (lv_at hl 1 rfl) ?_
          refine lv_icmp_ge (tgt := 77) hx hb dX12_amount_67 (by decide) (fun c_13 => ?_) (fun c_13 => ?_)
          · have t_13 : r_5.toInt ≤ y_4.toInt := Int32.le_iff_toInt_le.mp c_13
            refine lv_ldc (v := 1000000) hx hb hown (hts (.constant RX12 159 (1000000)) (by decide +kernel)) dX12_amount_77 ?_
            subst hQ
            exact W.iret (v := 1000000) hx hb hr (fun t ht hW => ⟨⟨1000000, (), rfl, trivial, trivial⟩, hS.F ht⟩) hS.2.2 dX12_amount_79
          · have t_13 : ¬ r_5.toInt ≤ y_4.toInt := fun h => c_13 (Int32.le_iff_toInt_le.mpr h)
            refine lv_iload hx hb dX12_amount_70 (lv_at hl 1 rfl) ?_
            refine lv_iload_n hx hb dX12_amount_72 rfl (lv_at hl 2 rfl) ?_
            refine lv_isub hx hb dX12_amount_73 ?_
            refine lv_topi (fun y_14 ey_14 => ?_)
            refine lv_goto (tgt := 79) hx hb dX12_amount_74 (by decide) ?_
            subst hQ
            exact W.iret (v := y_14) hx hb hr (fun t ht hW => ⟨⟨y_14, (), rfl, trivial, trivial⟩, hS.F ht⟩) hS.2.2 dX12_amount_79
        · have t_12 : ¬ y_11.toInt ≤ r_7.toInt := fun h => c_12 (Int32.le_iff_toInt_le.mpr h)
          refine lv_iload_n hx hb dX12_amount_56 rfl (lv_at hl 2 rfl) ?_
          refine lv_ineg hx hb dX12_amount_57 ?_
          refine lv_topi (fun y_15 ey_15 => ?_)
          refine lv_iload hx hb dX12_amount_58 (lv_at hl 0 rfl) ?_
          refine lv_isub hx hb dX12_amount_60 ?_
          refine lv_topi (fun y_16 ey_16 => ?_)
          refine lv_goto (tgt := 79) hx hb dX12_amount_61 (by decide) ?_
          subst hQ
          exact W.iret (v := y_16) hx hb hr (fun t ht hW => ⟨⟨y_16, (), rfl, trivial, trivial⟩, hS.F ht⟩) hS.2.2 dX12_amount_79
  · have t_1 : ¬ a2.toInt = (0 : Int32).toInt := fun h => c_1 (Int32.toInt_inj.mp h)
    refine lv_aload_n hx hb dX12_amount_4 rfl (lv_at hl 0 rfl) ?_
    refine va_get (ci := 12) (v := .ref g22) (C := RX12) (T := TX12) (N := 34) hx hb hts (fun _ h => List.mem_cons_of_mem _ (List.mem_append_right _ h)) hown hK.1 hP 0 rfl rfl 22 (by decide) (hts (.fieldLink RX12 61 "CutAtlasModel" "flows" "[I") (by decide +kernel)) (fun _ h9 => h9) rfl dX12_amount_5 ?_
    refine lv_iload_n hx hb dX12_amount_8 rfl (lv_at hl 1 rfl) ?_
    have h_17 : vp_in a1 40 := in_I (by omega) (by omega)
    refine va_iald hx hb hK.1 hP 3 0 rfl rfl (i := a1) h_17 dX12_amount_9 ?_
    refine lv_topi (fun y_18 ey_18 => ?_)
    refine lv_goto (tgt := 20) hx hb dX12_amount_10 (by decide) ?_
    refine lv_istore_n (lv' := [(3, .int y_18), (0, .ref mo), (1, .int a1), (2, .int a2)]) hx hb dX12_amount_20 rfl hl (by decide) rfl (fun ls hl => ?_)
    refine lv_aload_n hx hb dX12_amount_21 rfl (lv_at hl 1 rfl) ?_
    refine lv_iload_n hx hb dX12_amount_22 rfl (lv_at hl 2 rfl) ?_
    refine lv_iload_n hx hb dX12_amount_23 rfl (lv_at hl 3 rfl) ?_
    have hPc := hP.sub (ws' := [(mo, .inr (12, [.int s0, .int s1, .long t2, .int s3, .int s4, .ref g5, .ref g6, .ref g7, .ref g8, .ref g9, .ref g10, .int s11, .ref g12, .ref g13, .ref g14, .ref g15, .ref g16, .ref g17, .ref g18, .ref g19, .ref g20, .int s21, .ref g22, .ref g23, .ref g24, .int s25, .int s26, .int s27, .int s28, .ref g29, .ref g30, .ref g31, .ref g32, .ref g33])), (g5, .inl (cy 0, 40, .inl f5)), (g8, .inl (cy 0, 40, .inl f8))]) [0, 1, 2] rfl
    have hDw : va_D (fun _ => True) [(mo, .inr (12, [.int s0, .int s1, .long t2, .int s3, .int s4, .ref g5, .ref g6, .ref g7, .ref g8, .ref g9, .ref g10, .int s11, .ref g12, .ref g13, .ref g14, .ref g15, .ref g16, .ref g17, .ref g18, .ref g19, .ref g20, .int s21, .ref g22, .ref g23, .ref g24, .int s25, .int s26, .int s27, .int s28, .ref g29, .ref g30, .ref g31, .ref g32, .ref g33])), (g5, .inl (cy 0, 40, .inl f5)), (g8, .inl (cy 0, 40, .inl f8))] := hD0.sub [0, 1, 2] (by decide) rfl
    have hFc := va_free (wc := []) hD hS hA [] rfl
    refine va_calli (va_runV (As := [.int a1, .int a2]) (rest := []) ⟨hx, hb, hml, hown, hts⟩ (c_X12_room l D cy s.heap.size mo g5 g6 g7 g8 g9 g10 g12 g13 g14 g15 g16 g17 g18 g19 g20 g22 g23 g24 g29 g30 g31 g32 g33 s0 s1 s3 s4 s11 s21 s25 s26 s27 s28 t2 f5 f8 a1 a2 (by first | assumption | omega)) (cwV 2 hts gX12_amount_X12_room rfl rfl rfl (by decide +kernel) ⟨Nat.le_of_ble_eq_true rfl, Nat.le_of_ble_eq_true rfl⟩) ⟨bl_, va_recv hK.1 hP (ci := 12) (q0 := 0) rfl rfl, fun U hU hW => ⟨rfl, by rw [hU], by rw [hU]; exact hPc, kk_mv hW hK, hDw⟩⟩ rfl rfl hl.1 rfl (lv_room (Nat.le_of_ble_eq_true rfl)) dX12_amount_24 ⟨Nat.le_of_ble_eq_true rfl, Nat.le_of_ble_eq_true rfl⟩) hS (fun q _ h => hFc q h) hFc (fun r_19 u t H locs ht hvm hw hB hz1 hk1 hS => ?_)
    have hP := ro_keep hP hk1
    have hP : va_P D vwCl [(mo, .inr (12, [.int s0, .int s1, .long t2, .int s3, .int s4, .ref g5, .ref g6, .ref g7, .ref g8, .ref g9, .ref g10, .int s11, .ref g12, .ref g13, .ref g14, .ref g15, .ref g16, .ref g17, .ref g18, .ref g19, .ref g20, .int s21, .ref g22, .ref g23, .ref g24, .int s25, .int s26, .int s27, .int s28, .ref g29, .ref g30, .ref g31, .ref g32, .ref g33])), (g5, .inl (cy 0, 40, .inl f5)), (g8, .inl (cy 0, 40, .inl f8)), (g22, .inl (cy 0, 40, .inl f22))] H := hP
    have f0_r_19 := hw
    refine lv_istore (lv' := [(4, .int r_19), (3, .int y_18), (0, .ref mo), (1, .int a1), (2, .int a2)]) hx hb dX12_amount_27 hl (by decide) rfl (fun ls hl => ?_)
    refine lv_aload_n hx hb dX12_amount_29 rfl (lv_at hl 2 rfl) ?_
    refine lv_iload_n hx hb dX12_amount_30 rfl (lv_at hl 3 rfl) ?_
    refine lv_iload_n hx hb dX12_amount_31 rfl (lv_at hl 4 rfl) ?_
    refine lv_if_ne (tgt := 39) hx hb dX12_amount_32 (by decide) (fun c_20 => ?_) (fun c_20 => ?_)
    · have t_20 : ¬ a2.toInt = (0 : Int32).toInt := fun h => c_20 (Int32.toInt_inj.mp h)
      refine lv_iconst (v := 0) hx hb dX12_amount_39 (by decide) ?_
      have hPc := hP.sub (ws' := [(mo, .inr (12, [.int s0, .int s1, .long t2, .int s3, .int s4, .ref g5, .ref g6, .ref g7, .ref g8, .ref g9, .ref g10, .int s11, .ref g12, .ref g13, .ref g14, .ref g15, .ref g16, .ref g17, .ref g18, .ref g19, .ref g20, .int s21, .ref g22, .ref g23, .ref g24, .int s25, .int s26, .int s27, .int s28, .ref g29, .ref g30, .ref g31, .ref g32, .ref g33])), (g5, .inl (cy 0, 40, .inl f5)), (g8, .inl (cy 0, 40, .inl f8))]) [0, 1, 2] rfl
      have hDw : va_D (fun _ => True) [(mo, .inr (12, [.int s0, .int s1, .long t2, .int s3, .int s4, .ref g5, .ref g6, .ref g7, .ref g8, .ref g9, .ref g10, .int s11, .ref g12, .ref g13, .ref g14, .ref g15, .ref g16, .ref g17, .ref g18, .ref g19, .ref g20, .int s21, .ref g22, .ref g23, .ref g24, .int s25, .int s26, .int s27, .int s28, .ref g29, .ref g30, .ref g31, .ref g32, .ref g33])), (g5, .inl (cy 0, 40, .inl f5)), (g8, .inl (cy 0, 40, .inl f8))] := hD0.sub [0, 1, 2] (by decide) rfl
      have hFc := va_free (wc := []) hD hS hA [] rfl
      refine va_calli (va_runV (As := [.int a1, .int 0]) (rest := []) ⟨hx, hb, hml, hown, hts⟩ (c_X12_room l D cy H.size mo g5 g6 g7 g8 g9 g10 g12 g13 g14 g15 g16 g17 g18 g19 g20 g22 g23 g24 g29 g30 g31 g32 g33 s0 s1 s3 s4 s11 s21 s25 s26 s27 s28 t2 f5 f8 a1 (0 : Int32) (by first | assumption | omega)) (cwV 2 hts gX12_amount_X12_room rfl rfl rfl (by decide +kernel) ⟨Nat.le_of_ble_eq_true rfl, Nat.le_of_ble_eq_true rfl⟩) ⟨bl_, va_recv hK.1 hP (ci := 12) (q0 := 0) rfl rfl, fun U hU hW => ⟨rfl, by rw [hU], by rw [hU]; exact hPc, kk_mv hW hK, hDw⟩⟩ rfl rfl hl.1 rfl (lv_room (Nat.le_of_ble_eq_true rfl)) dX12_amount_40 ⟨Nat.le_of_ble_eq_true rfl, Nat.le_of_ble_eq_true rfl⟩) hS (fun q _ h => hFc q h) hFc (fun r_21 u t H locs ht hvm hw hB hz1 hk1 hS => ?_)
      have hP := ro_keep hP hk1
      have hP : va_P D vwCl [(mo, .inr (12, [.int s0, .int s1, .long t2, .int s3, .int s4, .ref g5, .ref g6, .ref g7, .ref g8, .ref g9, .ref g10, .int s11, .ref g12, .ref g13, .ref g14, .ref g15, .ref g16, .ref g17, .ref g18, .ref g19, .ref g20, .int s21, .ref g22, .ref g23, .ref g24, .int s25, .int s26, .int s27, .int s28, .ref g29, .ref g30, .ref g31, .ref g32, .ref g33])), (g5, .inl (cy 0, 40, .inl f5)), (g8, .inl (cy 0, 40, .inl f8)), (g22, .inl (cy 0, 40, .inl f22))] H := hP
      have f0_r_21 := hw
      refine lv_istore (lv' := [(5, .int r_21), (4, .int r_19), (3, .int y_18), (0, .ref mo), (1, .int a1), (2, .int a2)]) hx hb dX12_amount_43 hl (by decide) rfl (fun ls hl => ?_)
      refine lv_iload_n hx hb dX12_amount_45 rfl (lv_at hl 2 rfl) ?_
      refine lv_if_ge (tgt := 64) hx hb dX12_amount_46 (by decide) (fun c_22 => ?_) (fun c_22 => ?_)
      · have t_22 : (0 : Int32).toInt ≤ y_18.toInt := Int32.le_iff_toInt_le.mp c_22
        refine lv_iload_n hx hb dX12_amount_64 rfl (lv_at hl 2 rfl) ?_
        refine lv_iload hx hb dX12_amount_65 (lv_at hl 1 rfl) ?_
        refine lv_icmp_ge (tgt := 77) hx hb dX12_amount_67 (by decide) (fun c_23 => ?_) (fun c_23 => ?_)
        · have t_23 : r_19.toInt ≤ y_18.toInt := Int32.le_iff_toInt_le.mp c_23
          refine lv_ldc (v := 1000000) hx hb hown (hts (.constant RX12 159 (1000000)) (by decide +kernel)) dX12_amount_77 ?_
          subst hQ
          exact W.iret (v := 1000000) hx hb hr (fun t ht hW => ⟨⟨1000000, (), rfl, trivial, trivial⟩, hS.F ht⟩) hS.2.2 dX12_amount_79
        · have t_23 : ¬ r_19.toInt ≤ y_18.toInt := fun h => c_23 (Int32.le_iff_toInt_le.mpr h)
          refine lv_iload hx hb dX12_amount_70 (lv_at hl 1 rfl) ?_
          refine lv_iload_n hx hb dX12_amount_72 rfl (lv_at hl 2 rfl) ?_
          refine lv_isub hx hb dX12_amount_73 ?_
          refine lv_topi (fun y_24 ey_24 => ?_)
          refine lv_goto (tgt := 79) hx hb dX12_amount_74 (by decide) ?_
          subst hQ
          exact W.iret (v := y_24) hx hb hr (fun t ht hW => ⟨⟨y_24, (), rfl, trivial, trivial⟩, hS.F ht⟩) hS.2.2 dX12_amount_79
      · have t_22 : ¬ (0 : Int32).toInt ≤ y_18.toInt := fun h => c_22 (Int32.le_iff_toInt_le.mpr h)
        refine lv_iload_n hx hb dX12_amount_49 rfl (lv_at hl 2 rfl) ?_
        refine lv_ineg hx hb dX12_amount_50 ?_
        refine lv_topi (fun y_25 ey_25 => ?_)
        refine lv_iload hx hb dX12_amount_51 (lv_at hl 0 rfl) ?_
        refine lv_icmp_le (tgt := 64) hx hb dX12_amount_53 (by decide) (fun c_26 => ?_) (fun c_26 => ?_)
        · have t_26 : y_25.toInt ≤ r_21.toInt := Int32.le_iff_toInt_le.mp c_26
          refine lv_iload_n hx hb dX12_amount_64 rfl (lv_at hl 2 rfl) ?_
          refine lv_iload hx hb dX12_amount_65 (lv_at hl 1 rfl) ?_
          refine lv_icmp_ge (tgt := 77) hx hb dX12_amount_67 (by decide) (fun c_27 => ?_) (fun c_27 => ?_)
          · have t_27 : r_19.toInt ≤ y_18.toInt := Int32.le_iff_toInt_le.mp c_27
            refine lv_ldc (v := 1000000) hx hb hown (hts (.constant RX12 159 (1000000)) (by decide +kernel)) dX12_amount_77 ?_
            subst hQ
            exact W.iret (v := 1000000) hx hb hr (fun t ht hW => ⟨⟨1000000, (), rfl, trivial, trivial⟩, hS.F ht⟩) hS.2.2 dX12_amount_79
          · have t_27 : ¬ r_19.toInt ≤ y_18.toInt := fun h => c_27 (Int32.le_iff_toInt_le.mpr h)
            refine lv_iload hx hb dX12_amount_70 (lv_at hl 1 rfl) ?_
            refine lv_iload_n hx hb dX12_amount_72 rfl (lv_at hl 2 rfl) ?_
            refine lv_isub hx hb dX12_amount_73 ?_
            refine lv_topi (fun y_28 ey_28 => ?_)
            refine lv_goto (tgt := 79) hx hb dX12_amount_74 (by decide) ?_
            subst hQ
            exact W.iret (v := y_28) hx hb hr (fun t ht hW => ⟨⟨y_28, (), rfl, trivial, trivial⟩, hS.F ht⟩) hS.2.2 dX12_amount_79
        · have t_26 : ¬ y_25.toInt ≤ r_21.toInt := fun h => c_26 (Int32.le_iff_toInt_le.mpr h)
          refine lv_iload_n hx hb dX12_amount_56 rfl (lv_at hl 2 rfl) ?_
          refine lv_ineg hx hb dX12_amount_57 ?_
          refine lv_topi (fun y_29 ey_29 => ?_)
          refine lv_iload hx hb dX12_amount_58 (lv_at hl 0 rfl) ?_
          refine lv_isub hx hb dX12_amount_60 ?_
          refine lv_topi (fun y_30 ey_30 => ?_)
          refine lv_goto (tgt := 79) hx hb dX12_amount_61 (by decide) ?_
          subst hQ
          exact W.iret (v := y_30) hx hb hr (fun t ht hW => ⟨⟨y_30, (), rfl, trivial, trivial⟩, hS.F ht⟩) hS.2.2 dX12_amount_79
    · have t_20 : a2.toInt = (0 : Int32).toInt := congrArg Int32.toInt c_20
      refine lv_iconst (v := 1) hx hb dX12_amount_35 (by decide) ?_
      refine lv_goto (tgt := 40) hx hb dX12_amount_36 (by decide) ?_
      have hPc := hP.sub (ws' := [(mo, .inr (12, [.int s0, .int s1, .long t2, .int s3, .int s4, .ref g5, .ref g6, .ref g7, .ref g8, .ref g9, .ref g10, .int s11, .ref g12, .ref g13, .ref g14, .ref g15, .ref g16, .ref g17, .ref g18, .ref g19, .ref g20, .int s21, .ref g22, .ref g23, .ref g24, .int s25, .int s26, .int s27, .int s28, .ref g29, .ref g30, .ref g31, .ref g32, .ref g33])), (g5, .inl (cy 0, 40, .inl f5)), (g8, .inl (cy 0, 40, .inl f8))]) [0, 1, 2] rfl
      have hDw : va_D (fun _ => True) [(mo, .inr (12, [.int s0, .int s1, .long t2, .int s3, .int s4, .ref g5, .ref g6, .ref g7, .ref g8, .ref g9, .ref g10, .int s11, .ref g12, .ref g13, .ref g14, .ref g15, .ref g16, .ref g17, .ref g18, .ref g19, .ref g20, .int s21, .ref g22, .ref g23, .ref g24, .int s25, .int s26, .int s27, .int s28, .ref g29, .ref g30, .ref g31, .ref g32, .ref g33])), (g5, .inl (cy 0, 40, .inl f5)), (g8, .inl (cy 0, 40, .inl f8))] := hD0.sub [0, 1, 2] (by decide) rfl
      have hFc := va_free (wc := []) hD hS hA [] rfl
      refine va_calli (va_runV (As := [.int a1, .int 1]) (rest := []) ⟨hx, hb, hml, hown, hts⟩ (c_X12_room l D cy H.size mo g5 g6 g7 g8 g9 g10 g12 g13 g14 g15 g16 g17 g18 g19 g20 g22 g23 g24 g29 g30 g31 g32 g33 s0 s1 s3 s4 s11 s21 s25 s26 s27 s28 t2 f5 f8 a1 (1 : Int32) (by first | assumption | omega)) (cwV 2 hts gX12_amount_X12_room rfl rfl rfl (by decide +kernel) ⟨Nat.le_of_ble_eq_true rfl, Nat.le_of_ble_eq_true rfl⟩) ⟨bl_, va_recv hK.1 hP (ci := 12) (q0 := 0) rfl rfl, fun U hU hW => ⟨rfl, by rw [hU], by rw [hU]; exact hPc, kk_mv hW hK, hDw⟩⟩ rfl rfl hl.1 rfl (lv_room (Nat.le_of_ble_eq_true rfl)) dX12_amount_40 ⟨Nat.le_of_ble_eq_true rfl, Nat.le_of_ble_eq_true rfl⟩) hS (fun q _ h => hFc q h) hFc (fun r_31 u t H locs ht hvm hw hB hz1 hk1 hS => ?_)
      have hP := ro_keep hP hk1
      have hP : va_P D vwCl [(mo, .inr (12, [.int s0, .int s1, .long t2, .int s3, .int s4, .ref g5, .ref g6, .ref g7, .ref g8, .ref g9, .ref g10, .int s11, .ref g12, .ref g13, .ref g14, .ref g15, .ref g16, .ref g17, .ref g18, .ref g19, .ref g20, .int s21, .ref g22, .ref g23, .ref g24, .int s25, .int s26, .int s27, .int s28, .ref g29, .ref g30, .ref g31, .ref g32, .ref g33])), (g5, .inl (cy 0, 40, .inl f5)), (g8, .inl (cy 0, 40, .inl f8)), (g22, .inl (cy 0, 40, .inl f22))] H := hP
      have f0_r_31 := hw
      refine lv_istore (lv' := [(5, .int r_31), (4, .int r_19), (3, .int y_18), (0, .ref mo), (1, .int a1), (2, .int a2)]) hx hb dX12_amount_43 hl (by decide) rfl (fun ls hl => ?_)
      refine lv_iload_n hx hb dX12_amount_45 rfl (lv_at hl 2 rfl) ?_
      refine lv_if_ge (tgt := 64) hx hb dX12_amount_46 (by decide) (fun c_32 => ?_) (fun c_32 => ?_)
      · have t_32 : (0 : Int32).toInt ≤ y_18.toInt := Int32.le_iff_toInt_le.mp c_32
        refine lv_iload_n hx hb dX12_amount_64 rfl (lv_at hl 2 rfl) ?_
        refine lv_iload hx hb dX12_amount_65 (lv_at hl 1 rfl) ?_
        refine lv_icmp_ge (tgt := 77) hx hb dX12_amount_67 (by decide) (fun c_33 => ?_) (fun c_33 => ?_)
        · have t_33 : r_19.toInt ≤ y_18.toInt := Int32.le_iff_toInt_le.mp c_33
          refine lv_ldc (v := 1000000) hx hb hown (hts (.constant RX12 159 (1000000)) (by decide +kernel)) dX12_amount_77 ?_
          subst hQ
          exact W.iret (v := 1000000) hx hb hr (fun t ht hW => ⟨⟨1000000, (), rfl, trivial, trivial⟩, hS.F ht⟩) hS.2.2 dX12_amount_79
        · have t_33 : ¬ r_19.toInt ≤ y_18.toInt := fun h => c_33 (Int32.le_iff_toInt_le.mpr h)
          refine lv_iload hx hb dX12_amount_70 (lv_at hl 1 rfl) ?_
          refine lv_iload_n hx hb dX12_amount_72 rfl (lv_at hl 2 rfl) ?_
          refine lv_isub hx hb dX12_amount_73 ?_
          refine lv_topi (fun y_34 ey_34 => ?_)
          refine lv_goto (tgt := 79) hx hb dX12_amount_74 (by decide) ?_
          subst hQ
          exact W.iret (v := y_34) hx hb hr (fun t ht hW => ⟨⟨y_34, (), rfl, trivial, trivial⟩, hS.F ht⟩) hS.2.2 dX12_amount_79
      · have t_32 : ¬ (0 : Int32).toInt ≤ y_18.toInt := fun h => c_32 (Int32.le_iff_toInt_le.mpr h)
        refine lv_iload_n hx hb dX12_amount_49 rfl (lv_at hl 2 rfl) ?_
        refine lv_ineg hx hb dX12_amount_50 ?_
        refine lv_topi (fun y_35 ey_35 => ?_)
        refine lv_iload hx hb dX12_amount_51 (lv_at hl 0 rfl) ?_
        refine lv_icmp_le (tgt := 64) hx hb dX12_amount_53 (by decide) (fun c_36 => ?_) (fun c_36 => ?_)
        · have t_36 : y_35.toInt ≤ r_31.toInt := Int32.le_iff_toInt_le.mp c_36
          refine lv_iload_n hx hb dX12_amount_64 rfl (lv_at hl 2 rfl) ?_
          refine lv_iload hx hb dX12_amount_65 (lv_at hl 1 rfl) ?_
          refine lv_icmp_ge (tgt := 77) hx hb dX12_amount_67 (by decide) (fun c_37 => ?_) (fun c_37 => ?_)
          · have t_37 : r_19.toInt ≤ y_18.toInt := Int32.le_iff_toInt_le.mp c_37
            refine lv_ldc (v := 1000000) hx hb hown (hts (.constant RX12 159 (1000000)) (by decide +kernel)) dX12_amount_77 ?_
            subst hQ
            exact W.iret (v := 1000000) hx hb hr (fun t ht hW => ⟨⟨1000000, (), rfl, trivial, trivial⟩, hS.F ht⟩) hS.2.2 dX12_amount_79
          · have t_37 : ¬ r_19.toInt ≤ y_18.toInt := fun h => c_37 (Int32.le_iff_toInt_le.mpr h)
            refine lv_iload hx hb dX12_amount_70 (lv_at hl 1 rfl) ?_
            refine lv_iload_n hx hb dX12_amount_72 rfl (lv_at hl 2 rfl) ?_
            refine lv_isub hx hb dX12_amount_73 ?_
            refine lv_topi (fun y_38 ey_38 => ?_)
            refine lv_goto (tgt := 79) hx hb dX12_amount_74 (by decide) ?_
            subst hQ
            exact W.iret (v := y_38) hx hb hr (fun t ht hW => ⟨⟨y_38, (), rfl, trivial, trivial⟩, hS.F ht⟩) hS.2.2 dX12_amount_79
        · have t_36 : ¬ y_35.toInt ≤ r_31.toInt := fun h => c_36 (Int32.le_iff_toInt_le.mpr h)
          refine lv_iload_n hx hb dX12_amount_56 rfl (lv_at hl 2 rfl) ?_
          refine lv_ineg hx hb dX12_amount_57 ?_
          refine lv_topi (fun y_39 ey_39 => ?_)
          refine lv_iload hx hb dX12_amount_58 (lv_at hl 0 rfl) ?_
          refine lv_isub hx hb dX12_amount_60 ?_
          refine lv_topi (fun y_40 ey_40 => ?_)
          refine lv_goto (tgt := 79) hx hb dX12_amount_61 (by decide) ?_
          subst hQ
          exact W.iret (v := y_40) hx hb hr (fun t ht hW => ⟨⟨y_40, (), rfl, trivial, trivial⟩, hS.F ht⟩) hS.2.2 dX12_amount_79
