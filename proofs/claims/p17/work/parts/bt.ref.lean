section
set_option maxHeartbeats 4000000 in
set_option maxRecDepth 100000 in
theorem c_X12_told2 (l : Launch) (D : va_G) (cy : Nat → ClassId) (sz : Nat) (mo : Nat) (g5 : Nat) (g6 : Nat) (g7 : Nat) (g8 : Nat) (g9 : Nat) (g10 : Nat) (g12 : Nat) (g13 : Nat) (g14 : Nat) (g15 : Nat) (g16 : Nat) (g17 : Nat) (g18 : Nat) (g19 : Nat) (g20 : Nat) (g22 : Nat) (g23 : Nat) (g24 : Nat) (g29 : Nat) (g30 : Nat) (g31 : Nat) (g32 : Nat) (g33 : Nat) (s0 : Int32) (s1 : Int32) (s3 : Int32) (s4 : Int32) (s11 : Int32) (s21 : Int32) (s25 : Int32) (s26 : Int32) (s27 : Int32) (s28 : Int32) (t2 : Int64) (f5 : Nat → Int32) (f6 : Nat → Int32) (f7 : Nat → Int32) (f8 : Nat → Int32) (f9 : Nat → Int32) (f10 : Nat → Int32) (a1 : Int32) (a2 : Int32) (hN : 0 ≤ s4.toInt ∧ s4.toInt ≤ 40) : Met l yX12_told wsX12_told ({ frames := 2, cells := 0, slots := 0, locals := 46 }) (va_Pc [.ref mo, .int a1, .int a2] (fun U => U.heap.size = sz ∧ va_P D vwCl [ob12_0_ mo s0 s1 t2 s3 s4 g5 g6 g7 g8 g9 g10 s11 g12 g13 g14 g15 g16 g17 g18 g19 g20 s21 g22 g23 g24 s25 s26 s27 s28 g29 g30 g31 g32 g33, ai_ cy g5 40 f5, ai_ cy g6 40 f6, ai_ cy g7 40 f7, ai_ cy g8 40 f8, ai_ cy g9 40 f9, az_ cy g10 40 f10] U.heap ∧ kk_ D cy U ∧ va_D (fun _ => True) [ob12_0_ mo s0 s1 t2 s3 s4 g5 g6 g7 g8 g9 g10 s11 g12 g13 g14 g15 g16 g17 g18 g19 g20 s21 g22 g23 g24 s25 s26 s27 s28 g29 g30 g31 g32 g33, ai_ cy g5 40 f5, ai_ cy g6 40 f6, ai_ cy g7 40 f7, ai_ cy g8 40 f8, ai_ cy g9 40 f9, az_ cy g10 40 f10])) (va_Qi (fun (r : Int32) (_ : Unit) => (r.toInt = tdI a1.toInt a2.toInt s4.toInt (f5 a1.toNatClampNeg).toInt (if (f10 a1.toNatClampNeg).toInt ≠ 0 then -9 else (f6 a1.toNatClampNeg).toInt) (if (f10 a1.toNatClampNeg).toInt ≠ 0 then -9 else (f7 a1.toNatClampNeg).toInt) (f8 a1.toNatClampNeg).toInt (f9 a1.toNatClampNeg).toInt (f10 a1.toNatClampNeg).toInt)) (fun (_ : Unit) (t : State) => va_P D vwCl [ob12_0_ mo 0 s1 t2 s3 s4 g5 g6 g7 g8 g9 g10 s11 g12 g13 g14 g15 g16 g17 g18 g19 g20 s21 g22 g23 g24 s25 s26 s27 s28 g29 g30 g31 g32 g33, ai_ cy g5 40 f5, ai_ cy g6 40 f6, ai_ cy g7 40 f7, ai_ cy g8 40 f8, ai_ cy g9 40 f9, az_ cy g10 40 f10] t.heap ∧ va_D (va_A [ob12_0_ mo s0 s1 t2 s3 s4 g5 g6 g7 g8 g9 g10 s11 g12 g13 g14 g15 g16 g17 g18 g19 g20 s21 g22 g23 g24 s25 s26 s27 s28 g29 g30 g31 g32 g33, ai_ cy g5 40 f5, ai_ cy g6 40 f6, ai_ cy g7 40 f7, ai_ cy g8 40 f8, ai_ cy g9 40 f9, az_ cy g10 40 f10] sz) [ob12_0_ mo 0 s1 t2 s3 s4 g5 g6 g7 g8 g9 g10 s11 g12 g13 g14 g15 g16 g17 g18 g19 g20 s21 g22 g23 g24 s25 s26 s27 s28 g29 g30 g31 g32 g33, ai_ cy g5 40 f5, ai_ cy g6 40 f6, ai_ cy g7 40 f7, ai_ cy g8 40 f8, ai_ cy g9 40 f9, az_ cy g10 40 f10]) (va_A [ob12_0_ mo s0 s1 t2 s3 s4 g5 g6 g7 g8 g9 g10 s11 g12 g13 g14 g15 g16 g17 g18 g19 g20 s21 g22 g23 g24 s25 s26 s27 s28 g29 g30 g31 g32 g33, ai_ cy g5 40 f5, ai_ cy g6 40 f6, ai_ cy g7 40 f7, ai_ cy g8 40 f8, ai_ cy g9 40 f9, az_ cy g10 40 f10] sz)) 0 0 (va_A [ob12_0_ mo s0 s1 t2 s3 s4 g5 g6 g7 g8 g9 g10 s11 g12 g13 g14 g15 g16 g17 g18 g19 g20 s21 g22 g23 g24 s25 s26 s27 s28 g29 g30 g31 g32 g33, ai_ cy g5 40 f5, ai_ cy g6 40 f6, ai_ cy g7 40 f7, ai_ cy g8 40 f8, ai_ cy g9 40 f9, az_ cy g10 40 f10] sz) := by
  refine ofQ (cc := cX12_told) (maxL := 4) (ret := (some .int)) (by decide) rfl ?_
  intro p e s m args below meth c s₁ Q hQ B hml hv
  obtain ⟨rfl, hsz, hP, hK, hD0⟩ := hv
  have hx := B.exec
  have hb := B.bytes
  have hr := B.returns
  have hts := atoms_spec (ws := wsX12_told) B.pre
  have hown : s.vm.findClass RX12 = some m.cls := by have h_ := findClass_of_methodNamed B.named; exact h_
  have hlocks := B.notSynchronized
  subst hsz
  have hD := hD0.self (sz := s.heap.size)
  generalize hAe : va_A [ob12_0_ mo s0 s1 t2 s3 s4 g5 g6 g7 g8 g9 g10 s11 g12 g13 g14 g15 g16 g17 g18 g19 g20 s21 g22 g23 g24 s25 s26 s27 s28 g29 g30 g31 g32 g33, ai_ cy g5 40 f5, ai_ cy g6 40 f6, ai_ cy g7 40 f7, ai_ cy g8 40 f8, ai_ cy g9 40 f9, az_ cy g10 40 f10] s.heap.size = A at hD hQ
  have hA : ∀ q : Nat, s.heap.size ≤ q → A q := fun q h => by rw [← hAe]; exact Or.inr h
  have hS : va_S A s.heap s.heap [] := va_S.rf
  have hl := lv_entry ([.ref mo, .int a1, .int a2]) (n := 4) (Nat.le_of_ble_eq_true rfl)
  rw [lg_entry_eq]
  generalize (lg_sl ([.ref mo, .int a1, .int a2]) ++ List.replicate (4 - (lg_sl ([.ref mo, .int a1, .int a2])).length) Slot.unset).toArray = ls at hl ⊢
  have hl : lv_has ls 4 [(0, .ref mo), (1, .int a1), (2, .int a2)] := hl
  have zm9 : ((-9) : Int32).toInt = -9 := by decide
  have zm1 : ((-1) : Int32).toInt = -1 := by decide
  have z0 : (0 : Int32).toInt = 0 := by decide
  have zl0 : (0 : Int64).toInt = 0 := by decide
  have z1 : (1 : Int32).toInt = 1 := by decide
  have z2 : (2 : Int32).toInt = 2 := by decide
  have z3 : (3 : Int32).toInt = 3 := by decide
  have z4 : (4 : Int32).toInt = 4 := by decide
  have zl5 : (5 : Int64).toInt = 5 := by decide
  refine lv_aload_n hx hb dB_3_0_47.1.1.1.1 rfl (lv_at hl 0 rfl) ?_
  refine lv_iconst (v := 0) hx hb dB_3_0_47.1.1.1.2 (by decide) ?_
  refine va_put (ci := 12) (v := .int 0) (ty := .int) (C := RX12) (T := TX12) (N := 34) hx hb hts (fun _ h => List.mem_cons_of_mem _ (List.mem_append_right _ h)) tyX12 tyX12_ok nmX12 hown hK.1 hP hD hS 0 rfl rfl 0 (by decide) (hts (.fieldLink RX12 85 "CutAtlasModel" "thrown" "I") (List.mem_of_getElem? (i := 1) rfl)) (fun _ h9 => h9) rfl (by decide +kernel) rfl rfl (Nat.le_of_ble_eq_true rfl) dB_3_0_47.1.1.2.1 (fun H locs hP hD hS => ?_)
  refine pd_K [ob12_0_ mo 0 s1 t2 s3 s4 g5 g6 g7 g8 g9 g10 s11 g12 g13 g14 g15 g16 g17 g18 g19 g20 s21 g22 g23 g24 s25 s26 s27 s28 g29 g30 g31 g32 g33, ai_ cy g5 40 f5, ai_ cy g6 40 f6, ai_ cy g7 40 f7, ai_ cy g8 40 f8, ai_ cy g9 40 f9, az_ cy g10 40 f10] hP hD (fun hP hD => ?_)
  refine lv_aload_n hx hb dB_3_0_47.1.1.2.2 rfl (lv_at hl 0 rfl) ?_
  refine lv_iload_n hx hb dB_3_0_47.1.2.1.1 rfl (lv_at hl 1 rfl) ?_
  refine ct_R hP hD [ob12_0_ mo 0 s1 t2 s3 s4 g5 g6 g7 g8 g9 g10 s11 g12 g13 g14 g15 g16 g17 g18 g19 g20 s21 g22 g23 g24 s25 s26 s27 s28 g29 g30 g31 g32 g33] [0] (by decide) rfl (fun hPc hDw => ?_)
  have hFc := va_free (wc := []) hD hS hA [] rfl
  refine va_calli (va_runV (As := [.int a1]) (rest := []) ⟨hx, hb, hml, hown, hts⟩ (c_X12_isLine l D cy H.size mo g5 g6 g7 g8 g9 g10 g12 g13 g14 g15 g16 g17 g18 g19 g20 g22 g23 g24 g29 g30 g31 g32 g33 (0 : Int32) s1 s3 s4 s11 s21 s25 s26 s27 s28 t2 a1 (by first | with_reducible assumption | omega | assumption)) (cwV 1 hts gX12_told_X12_isLine rfl rfl rfl ⟨rfl, hd_X12_isLine⟩ ⟨Nat.le_of_ble_eq_true rfl, Nat.le_of_ble_eq_true rfl⟩) ⟨bl_, va_recvX hK.1 hP (ci := 12) (q0 := 0) rfl rfl, fun U hU hW => ⟨rfl, by rw [hU], by rw [hU]; exact hPc, kk_mv hW hK, hDw⟩⟩ rfl rfl hl.1 rfl (lv_room (Nat.le_of_ble_eq_true rfl)) dB_3_0_47.1.2.1.2 ⟨Nat.le_of_ble_eq_true rfl, Nat.le_of_ble_eq_true rfl⟩) hS (fun q _ h => hFc q h) hFc (fun r_1 u t H locs ht hvm hw hB hz1 hk1 hS => ?_)
  have hP : va_P D vwCl _ H := ro_keep hP hk1
  rcases hw with ⟨w_2, e_⟩ | ⟨w_2, e_⟩
  · have e_ := e_.symm
    subst e_
    refine lv_if_eq (tgt := 25) hx hb dB_3_0_47.1.2.2.1 (by decide) (fun c_3 => ?_) (fun c_3 => ?_)
    · exact absurd c_3 (by decide)
    · have _ := c_3
      refine lv_iload_n hx hb dB_3_0_47.1.2.2.2 rfl (lv_at hl 2 rfl) ?_
      refine lv_i2l (v := a2.toInt64) hx hb dB_3_0_47.2.1.1.1 rfl ?_
      have q_14 : (a2.toInt64).toInt = a2.toInt := Int32.toInt_toInt64 a2
      refine lv_lconst (v := 0) hx hb dB_3_0_47.2.1.1.2 (by decide) ?_
      refine lv_ldc2 (v := 5) hx hb hown (hts (.constantLong RX12 147 (5)) (List.mem_of_getElem? (i := 2) rfl)) dB_3_0_47.2.1.2.1 ?_
      refine ct_R hP hD [] [] (by decide) rfl (fun hPc hDw => ?_)
      have hFc := va_free (wc := []) hD hS hA [] rfl
      refine va_calli (va_runS (As := [.long a2.toInt64, .long 0, .long 5]) (rest := []) ⟨hx, hb, hml, hown, hts⟩ (c_X12_in l D cy H.size a2.toInt64 (0 : Int64) (5 : Int64)) (va_cwS 3 hts gX12_told_X12_in rfl rfl rfl hd_X12_in ⟨Nat.le_of_ble_eq_true rfl, Nat.le_of_ble_eq_true rfl⟩) ⟨bl_, fun U hU hW => ⟨rfl, by rw [hU], by rw [hU]; exact hPc, kk_mv hW hK, hDw⟩⟩ rfl rfl hl.1 rfl (lv_room (Nat.le_of_ble_eq_true rfl)) dB_3_0_47.2.1.2.2 ⟨Nat.le_of_ble_eq_true rfl, Nat.le_of_ble_eq_true rfl⟩) hS (fun q _ h => hFc q h) hFc (fun r_4 u t H locs ht hvm hw hB hz1 hk1 hS => ?_)
      have hP : va_P D vwCl _ H := ro_keep hP hk1
      rcases hw with ⟨w_5, e_⟩ | ⟨w_5, e_⟩
      · have e_ := e_.symm
        subst e_
        refine lv_if_ne (tgt := 27) hx hb dB_3_0_47.2.2.1.1 (by decide) (fun c_6 => ?_) (fun c_6 => ?_)
        · have _ := c_6
          refine lv_aload_n hx hb dB_3_0_47.2.2.2.2 rfl (lv_at hl 0 rfl) ?_
          refine va_get (ci := 12) (v := .ref g10) (C := RX12) (T := TX12) (N := 34) hx hb hts (fun _ h => List.mem_cons_of_mem _ (List.mem_append_right _ h)) hown hK.1 hP 0 rfl rfl 10 (by decide) (hts (.fieldLink RX12 25 "CutAtlasModel" "isMissing" "[Z") (List.mem_of_getElem? (i := 3) rfl)) (fun _ h9 => h9) rfl dB_3_0_48.1.1.1.1 ?_
          refine lv_iload_n hx hb dB_3_0_48.1.1.1.2 rfl (lv_at hl 1 rfl) ?_
          have h_7 : vp_in a1 40 := in_I (by first | with_reducible assumption | omega) (by omega)
          refine va_zald hx hb hK.1 hP 6 2 rfl rfl (i := a1) h_7 dB_3_0_48.1.1.2.1 ?_
          refine lv_topi (fun y_8 ey_8 => ?_)
          have ky_8 : y_8.toInt = (f10 a1.toNatClampNeg).toInt := by rw [ey_8]
          refine lv_istore_n (lv' := [(3, .int y_8), (0, .ref mo), (1, .int a1), (2, .int a2)]) hx hb dB_3_0_48.1.1.2.2 rfl hl (by decide) rfl (fun ls hl => ?_)
          refine lv_iload_n hx hb dB_3_0_48.1.2.1.1 rfl (lv_at hl 3 rfl) ?_
          refine lv_if_ne (tgt := 47) hx hb dB_3_0_48.1.2.1.2 (by decide) (fun c_9 => ?_) (fun c_9 => ?_)
          · have t_9 : ¬ a2.toInt = (0 : Int32).toInt := fun h => c_9 (Int32.toInt_inj.mp h)
            refine lv_iload_n hx hb dB_3_0_48.2.1.2.2 rfl (lv_at hl 3 rfl) ?_
            refine lv_iconst (v := 1) hx hb dB_3_0_48.2.2.1.1 (by decide) ?_
            refine lv_icmp_ne (tgt := 70) hx hb dB_3_0_48.2.2.1.2 (by decide) (fun c_10 => ?_) (fun c_10 => ?_)
            · have t_10 : ¬ a2.toInt = (1 : Int32).toInt := fun h => c_10 (Int32.toInt_inj.mp h)
              refine lv_iload_n hx hb dB_3_0_49.1.2.2.2 rfl (lv_at hl 3 rfl) ?_
              refine lv_iconst (v := 2) hx hb dB_3_0_49.2.1.1.1 (by decide) ?_
              refine lv_icmp_ne (tgt := 93) hx hb dB_3_0_49.2.1.1.2 (by decide) (fun c_11 => ?_) (fun c_11 => ?_)
              · have t_11 : ¬ a2.toInt = (2 : Int32).toInt := fun h => c_11 (Int32.toInt_inj.mp h)
                refine lv_iload_n hx hb dB_3_0_50.2.1 rfl (lv_at hl 3 rfl) ?_
                refine lv_iconst (v := 3) hx hb dB_3_0_50.2.2.1 (by decide) ?_
                refine lv_icmp_ne (tgt := 107) hx hb dB_3_0_50.2.2.2 (by decide) (fun c_12 => ?_) (fun c_12 => ?_)
                · have t_12 : ¬ a2.toInt = (3 : Int32).toInt := fun h => c_12 (Int32.toInt_inj.mp h)
                  refine lv_iload_n hx hb dB_3_1_67.1.2.1.2 rfl (lv_at hl 3 rfl) ?_
                  refine lv_iconst (v := 4) hx hb dB_3_1_67.1.2.2.1 (by decide) ?_
                  refine lv_icmp_ne (tgt := 121) hx hb dB_3_1_67.1.2.2.2 (by decide) (fun c_13 => ?_) (fun c_13 => ?_)
                  · have t_13 : ¬ a2.toInt = (4 : Int32).toInt := fun h => c_13 (Int32.toInt_inj.mp h)
                    refine lv_iload_n hx hb dB_3_1_67.2.2.1.2 rfl (lv_at hl 0 rfl) ?_
                    refine lv_if_eq (tgt := 129) hx hb dB_3_1_67.2.2.2.1 (by decide) (fun c_14 => ?_) (fun c_14 => ?_)
                    · have t_14 : y_8.toInt = (0 : Int32).toInt := congrArg Int32.toInt c_14
                      refine lv_iconst (v := 0) hx hb dB_3_1_68.2.1 (by decide) ?_
                      rw [hQ]
                      exact W.iret (v := 0) hx hb hr (fun t ht hW => ⟨⟨0, (), rfl, (by unfold tdI; (repeat' (first | with_reducible refine if_n (by omega) ?_ | with_reducible refine if_ns (by omega) ?_ | with_reducible refine if_nz (by omega) ?_ | with_reducible exact if_p (by omega) (by omega) | with_reducible exact if_ps (by omega) (by omega) | with_reducible exact if_pz (by omega) (by omega))) <;> omega), by rw [ht]; exact hP, hD⟩, hS.F ht⟩) hS.2.2 dB_3_1_68.2.2
                    · have t_14 : ¬ y_8.toInt = (0 : Int32).toInt := fun h => c_14 (Int32.toInt_inj.mp h)
                      refine lv_iconst (v := 1) hx hb dB_3_1_67.2.2.2.2 (by decide) ?_
                      refine lv_goto (tgt := 130) hx hb dB_3_1_68.1 (by decide) ?_
                      rw [hQ]
                      exact W.iret (v := 1) hx hb hr (fun t ht hW => ⟨⟨1, (), rfl, (by unfold tdI; (repeat' (first | with_reducible refine if_n (by omega) ?_ | with_reducible refine if_ns (by omega) ?_ | with_reducible refine if_nz (by omega) ?_ | with_reducible exact if_p (by omega) (by omega) | with_reducible exact if_ps (by omega) (by omega) | with_reducible exact if_pz (by omega) (by omega))) <;> omega), by rw [ht]; exact hP, hD⟩, hS.F ht⟩) hS.2.2 dB_3_1_68.2.2
                  · have t_13 : a2.toInt = (4 : Int32).toInt := congrArg Int32.toInt c_13
                    refine lv_aload_n hx hb dB_3_1_67.2.1.1.1 rfl (lv_at hl 1 rfl) ?_
                    refine va_get (ci := 12) (v := .ref g9) (C := RX12) (T := TX12) (N := 34) hx hb hts (fun _ h => List.mem_cons_of_mem _ (List.mem_append_right _ h)) hown hK.1 hP 0 rfl rfl 9 (by decide) (hts (.fieldLink RX12 22 "CutAtlasModel" "price" "[I") (List.mem_of_getElem? (i := 8) rfl)) (fun _ h9 => h9) rfl dB_3_1_67.2.1.1.2 ?_
                    refine lv_iload_n hx hb dB_3_1_67.2.1.2.1 rfl (lv_at hl 2 rfl) ?_
                    refine va_iald hx hb hK.1 hP 5 0 rfl rfl (i := a1) h_7 dB_3_1_67.2.1.2.2 ?_
                    refine lv_topi (fun y_16 ey_16 => ?_)
                    have ky_16 : y_16.toInt = (f9 a1.toNatClampNeg).toInt := by rw [ey_16]
                    refine lv_goto (tgt := 130) hx hb dB_3_1_67.2.2.1.1 (by decide) ?_
                    rw [hQ]
                    exact W.iret (v := y_16) hx hb hr (fun t ht hW => ⟨⟨y_16, (), rfl, (by unfold tdI; (repeat' (first | with_reducible refine if_n (by omega) ?_ | with_reducible refine if_ns (by omega) ?_ | with_reducible refine if_nz (by omega) ?_ | with_reducible exact if_p (by omega) (by omega) | with_reducible exact if_ps (by omega) (by omega) | with_reducible exact if_pz (by omega) (by omega))) <;> omega), by rw [ht]; exact hP, hD⟩, hS.F ht⟩) hS.2.2 dB_3_1_68.2.2
                · have t_12 : a2.toInt = (3 : Int32).toInt := congrArg Int32.toInt c_12
                  refine lv_aload_n hx hb dB_3_1_67.1.1.1.1 rfl (lv_at hl 1 rfl) ?_
                  refine va_get (ci := 12) (v := .ref g8) (C := RX12) (T := TX12) (N := 34) hx hb hts (fun _ h => List.mem_cons_of_mem _ (List.mem_append_right _ h)) hown hK.1 hP 0 rfl rfl 8 (by decide) (hts (.fieldLink RX12 19 "CutAtlasModel" "width" "[I") (List.mem_of_getElem? (i := 7) rfl)) (fun _ h9 => h9) rfl dB_3_1_67.1.1.1.2 ?_
                  refine lv_iload_n hx hb dB_3_1_67.1.1.2.1 rfl (lv_at hl 2 rfl) ?_
                  refine va_iald hx hb hK.1 hP 4 0 rfl rfl (i := a1) h_7 dB_3_1_67.1.1.2.2 ?_
                  refine lv_topi (fun y_18 ey_18 => ?_)
                  have ky_18 : y_18.toInt = (f8 a1.toNatClampNeg).toInt := by rw [ey_18]
                  refine lv_goto (tgt := 130) hx hb dB_3_1_67.1.2.1.1 (by decide) ?_
                  rw [hQ]
                  exact W.iret (v := y_18) hx hb hr (fun t ht hW => ⟨⟨y_18, (), rfl, (by unfold tdI; (repeat' (first | with_reducible refine if_n (by omega) ?_ | with_reducible refine if_ns (by omega) ?_ | with_reducible refine if_nz (by omega) ?_ | with_reducible exact if_p (by omega) (by omega) | with_reducible exact if_ps (by omega) (by omega) | with_reducible exact if_pz (by omega) (by omega))) <;> omega), by rw [ht]; exact hP, hD⟩, hS.F ht⟩) hS.2.2 dB_3_1_68.2.2
              · have t_11 : a2.toInt = (2 : Int32).toInt := congrArg Int32.toInt c_11
                refine lv_iload_n hx hb dB_3_0_49.2.1.2.1 rfl (lv_at hl 0 rfl) ?_
                refine lv_if_eq (tgt := 84) hx hb dB_3_0_49.2.1.2.2 (by decide) (fun c_19 => ?_) (fun c_19 => ?_)
                · have t_19 : y_8.toInt = (0 : Int32).toInt := congrArg Int32.toInt c_19
                  refine lv_aload_n hx hb dB_3_0_49.2.2.2.1 rfl (lv_at hl 1 rfl) ?_
                  refine va_get (ci := 12) (v := .ref g7) (C := RX12) (T := TX12) (N := 34) hx hb hts (fun _ h => List.mem_cons_of_mem _ (List.mem_append_right _ h)) hown hK.1 hP 0 rfl rfl 7 (by decide) (hts (.fieldLink RX12 16 "CutAtlasModel" "to" "[I") (List.mem_of_getElem? (i := 6) rfl)) (fun _ h9 => h9) rfl dB_3_0_49.2.2.2.2 ?_
                  refine lv_iload_n hx hb dB_3_0_50.1.1 rfl (lv_at hl 2 rfl) ?_
                  refine va_iald hx hb hK.1 hP 3 0 rfl rfl (i := a1) h_7 dB_3_0_50.1.2.1 ?_
                  refine lv_topi (fun y_21 ey_21 => ?_)
                  have ky_21 : y_21.toInt = (f7 a1.toNatClampNeg).toInt := by rw [ey_21]
                  refine lv_goto (tgt := 130) hx hb dB_3_0_50.1.2.2 (by decide) ?_
                  rw [hQ]
                  exact W.iret (v := y_21) hx hb hr (fun t ht hW => ⟨⟨y_21, (), rfl, (by unfold tdI; (repeat' (first | with_reducible refine if_n (by omega) ?_ | with_reducible refine if_ns (by omega) ?_ | with_reducible refine if_nz (by omega) ?_ | with_reducible exact if_p (by omega) (by omega) | with_reducible exact if_ps (by omega) (by omega) | with_reducible exact if_pz (by omega) (by omega))) <;> omega), by rw [ht]; exact hP, hD⟩, hS.F ht⟩) hS.2.2 dB_3_1_68.2.2
                · have t_19 : ¬ y_8.toInt = (0 : Int32).toInt := fun h => c_19 (Int32.toInt_inj.mp h)
                  refine lv_bipush (v := (-9)) hx hb dB_3_0_49.2.2.1.1 (by decide) ?_
                  refine lv_goto (tgt := 130) hx hb dB_3_0_49.2.2.1.2 (by decide) ?_
                  rw [hQ]
                  exact W.iret (v := (-9)) hx hb hr (fun t ht hW => ⟨⟨(-9), (), rfl, (by unfold tdI; (repeat' (first | with_reducible refine if_n (by omega) ?_ | with_reducible refine if_ns (by omega) ?_ | with_reducible refine if_nz (by omega) ?_ | with_reducible exact if_p (by omega) (by omega) | with_reducible exact if_ps (by omega) (by omega) | with_reducible exact if_pz (by omega) (by omega))) <;> omega), by rw [ht]; exact hP, hD⟩, hS.F ht⟩) hS.2.2 dB_3_1_68.2.2
            · have t_10 : a2.toInt = (1 : Int32).toInt := congrArg Int32.toInt c_10
              refine lv_iload_n hx hb dB_3_0_48.2.2.2.1 rfl (lv_at hl 0 rfl) ?_
              refine lv_if_eq (tgt := 61) hx hb dB_3_0_48.2.2.2.2 (by decide) (fun c_22 => ?_) (fun c_22 => ?_)
              · have t_22 : y_8.toInt = (0 : Int32).toInt := congrArg Int32.toInt c_22
                refine lv_aload_n hx hb dB_3_0_49.1.1.2.1 rfl (lv_at hl 1 rfl) ?_
                refine va_get (ci := 12) (v := .ref g6) (C := RX12) (T := TX12) (N := 34) hx hb hts (fun _ h => List.mem_cons_of_mem _ (List.mem_append_right _ h)) hown hK.1 hP 0 rfl rfl 6 (by decide) (hts (.fieldLink RX12 13 "CutAtlasModel" "from" "[I") (List.mem_of_getElem? (i := 5) rfl)) (fun _ h9 => h9) rfl dB_3_0_49.1.1.2.2 ?_
                refine lv_iload_n hx hb dB_3_0_49.1.2.1.1 rfl (lv_at hl 2 rfl) ?_
                refine va_iald hx hb hK.1 hP 2 0 rfl rfl (i := a1) h_7 dB_3_0_49.1.2.1.2 ?_
                refine lv_topi (fun y_24 ey_24 => ?_)
                have ky_24 : y_24.toInt = (f6 a1.toNatClampNeg).toInt := by rw [ey_24]
                refine lv_goto (tgt := 130) hx hb dB_3_0_49.1.2.2.1 (by decide) ?_
                rw [hQ]
                exact W.iret (v := y_24) hx hb hr (fun t ht hW => ⟨⟨y_24, (), rfl, (by unfold tdI; (repeat' (first | with_reducible refine if_n (by omega) ?_ | with_reducible refine if_ns (by omega) ?_ | with_reducible refine if_nz (by omega) ?_ | with_reducible exact if_p (by omega) (by omega) | with_reducible exact if_ps (by omega) (by omega) | with_reducible exact if_pz (by omega) (by omega))) <;> omega), by rw [ht]; exact hP, hD⟩, hS.F ht⟩) hS.2.2 dB_3_1_68.2.2
              · have t_22 : ¬ y_8.toInt = (0 : Int32).toInt := fun h => c_22 (Int32.toInt_inj.mp h)
                refine lv_bipush (v := (-9)) hx hb dB_3_0_49.1.1.1.1 (by decide) ?_
                refine lv_goto (tgt := 130) hx hb dB_3_0_49.1.1.1.2 (by decide) ?_
                rw [hQ]
                exact W.iret (v := (-9)) hx hb hr (fun t ht hW => ⟨⟨(-9), (), rfl, (by unfold tdI; (repeat' (first | with_reducible refine if_n (by omega) ?_ | with_reducible refine if_ns (by omega) ?_ | with_reducible refine if_nz (by omega) ?_ | with_reducible exact if_p (by omega) (by omega) | with_reducible exact if_ps (by omega) (by omega) | with_reducible exact if_pz (by omega) (by omega))) <;> omega), by rw [ht]; exact hP, hD⟩, hS.F ht⟩) hS.2.2 dB_3_1_68.2.2
          · have t_9 : a2.toInt = (0 : Int32).toInt := congrArg Int32.toInt c_9
            refine lv_aload_n hx hb dB_3_0_48.1.2.2.1 rfl (lv_at hl 1 rfl) ?_
            refine va_get (ci := 12) (v := .ref g5) (C := RX12) (T := TX12) (N := 34) hx hb hts (fun _ h => List.mem_cons_of_mem _ (List.mem_append_right _ h)) hown hK.1 hP 0 rfl rfl 5 (by decide) (hts (.fieldLink RX12 7 "CutAtlasModel" "kind" "[I") (List.mem_of_getElem? (i := 4) rfl)) (fun _ h9 => h9) rfl dB_3_0_48.1.2.2.2 ?_
            refine lv_iload_n hx hb dB_3_0_48.2.1.1.1 rfl (lv_at hl 2 rfl) ?_
            refine va_iald hx hb hK.1 hP 1 0 rfl rfl (i := a1) h_7 dB_3_0_48.2.1.1.2 ?_
            refine lv_topi (fun y_26 ey_26 => ?_)
            have ky_26 : y_26.toInt = (f5 a1.toNatClampNeg).toInt := by rw [ey_26]
            refine lv_goto (tgt := 130) hx hb dB_3_0_48.2.1.2.1 (by decide) ?_
            rw [hQ]
            exact W.iret (v := y_26) hx hb hr (fun t ht hW => ⟨⟨y_26, (), rfl, (by unfold tdI; (repeat' (first | with_reducible refine if_n (by omega) ?_ | with_reducible refine if_ns (by omega) ?_ | with_reducible refine if_nz (by omega) ?_ | with_reducible exact if_p (by omega) (by omega) | with_reducible exact if_ps (by omega) (by omega) | with_reducible exact if_pz (by omega) (by omega))) <;> omega), by rw [ht]; exact hP, hD⟩, hS.F ht⟩) hS.2.2 dB_3_1_68.2.2
        · exact absurd c_6 (by decide)
      · have e_ := e_.symm
        subst e_
        refine lv_if_ne (tgt := 27) hx hb dB_3_0_47.2.2.1.1 (by decide) (fun c_27 => ?_) (fun c_27 => ?_)
        · exact absurd c_27 (by decide)
        · have _ := c_27
          refine lv_iconst (v := (-1)) hx hb dB_3_0_47.2.2.1.2 (by decide) ?_
          rw [hQ]
          exact W.iret (v := (-1)) hx hb hr (fun t ht hW => ⟨⟨(-1), (), rfl, (by unfold tdI; (repeat' (first | with_reducible refine if_n (by omega) ?_ | with_reducible refine if_ns (by omega) ?_ | with_reducible refine if_nz (by omega) ?_ | with_reducible exact if_p (by omega) (by omega) | with_reducible exact if_ps (by omega) (by omega) | with_reducible exact if_pz (by omega) (by omega))) <;> omega), by rw [ht]; exact hP, hD⟩, hS.F ht⟩) hS.2.2 dB_3_0_47.2.2.2.1
  · have e_ := e_.symm
    subst e_
    refine lv_if_eq (tgt := 25) hx hb dB_3_0_47.1.2.2.1 (by decide) (fun c_28 => ?_) (fun c_28 => ?_)
    · have _ := c_28
      refine lv_iconst (v := (-1)) hx hb dB_3_0_47.2.2.1.2 (by decide) ?_
      rw [hQ]
      exact W.iret (v := (-1)) hx hb hr (fun t ht hW => ⟨⟨(-1), (), rfl, (by unfold tdI; (repeat' (first | with_reducible refine if_n (by omega) ?_ | with_reducible refine if_ns (by omega) ?_ | with_reducible refine if_nz (by omega) ?_ | with_reducible exact if_p (by omega) (by omega) | with_reducible exact if_ps (by omega) (by omega) | with_reducible exact if_pz (by omega) (by omega))) <;> omega), by rw [ht]; exact hP, hD⟩, hS.F ht⟩) hS.2.2 dB_3_0_47.2.2.2.1
    · exact absurd c_28 (by decide)

set_option maxHeartbeats 4000000 in
set_option maxRecDepth 100000 in
theorem c_X12_ask2 (l : Launch) (D : va_G) (cy : Nat → ClassId) (sz : Nat) (mo : Nat) (g5 : Nat) (g6 : Nat) (g7 : Nat) (g8 : Nat) (g9 : Nat) (g10 : Nat) (g12 : Nat) (g13 : Nat) (g14 : Nat) (g15 : Nat) (g16 : Nat) (g17 : Nat) (g18 : Nat) (g19 : Nat) (g20 : Nat) (g22 : Nat) (g23 : Nat) (g24 : Nat) (g29 : Nat) (g30 : Nat) (g31 : Nat) (g32 : Nat) (g33 : Nat) (s0 : Int32) (s1 : Int32) (s3 : Int32) (s4 : Int32) (s11 : Int32) (s21 : Int32) (s25 : Int32) (s26 : Int32) (s27 : Int32) (s28 : Int32) (t2 : Int64) (f5 : Nat → Int32) (f8 : Nat → Int32) (f9 : Nat → Int32) (a1 : Int32) (a2 : Int32) (hN : 0 ≤ s4.toInt ∧ s4.toInt ≤ 40) (r_f9 : rng f9 40 (0) (100)) : Met l yX12_ask wsX12_ask ({ frames := 2, cells := 0, slots := 0, locals := 46 }) (va_Pc [.ref mo, .int a1, .int a2] (fun U => U.heap.size = sz ∧ va_P D vwCl [ob12_0_ mo s0 s1 t2 s3 s4 g5 g6 g7 g8 g9 g10 s11 g12 g13 g14 g15 g16 g17 g18 g19 g20 s21 g22 g23 g24 s25 s26 s27 s28 g29 g30 g31 g32 g33, ai_ cy g5 40 f5, ai_ cy g8 40 f8, ai_ cy g9 40 f9] U.heap ∧ kk_ D cy U ∧ va_D (fun _ => True) [ob12_0_ mo s0 s1 t2 s3 s4 g5 g6 g7 g8 g9 g10 s11 g12 g13 g14 g15 g16 g17 g18 g19 g20 s21 g22 g23 g24 s25 s26 s27 s28 g29 g30 g31 g32 g33, ai_ cy g5 40 f5, ai_ cy g8 40 f8, ai_ cy g9 40 f9])) (va_Qi (fun (r : Int32) (_ : Unit) => (r.toInt = akI a1.toInt a2.toInt s4.toInt (f5 a1.toNatClampNeg).toInt (f8 a1.toNatClampNeg).toInt (f9 a1.toNatClampNeg).toInt)) (fun (_ : Unit) (t : State) => ∃ (n2 : Int64), va_P D vwCl [ob12_0_ mo 0 s1 n2 s3 s4 g5 g6 g7 g8 g9 g10 s11 g12 g13 g14 g15 g16 g17 g18 g19 g20 s21 g22 g23 g24 s25 s26 s27 s28 g29 g30 g31 g32 g33, ai_ cy g5 40 f5, ai_ cy g8 40 f8, ai_ cy g9 40 f9] t.heap ∧ va_D (va_A [ob12_0_ mo s0 s1 t2 s3 s4 g5 g6 g7 g8 g9 g10 s11 g12 g13 g14 g15 g16 g17 g18 g19 g20 s21 g22 g23 g24 s25 s26 s27 s28 g29 g30 g31 g32 g33, ai_ cy g5 40 f5, ai_ cy g8 40 f8, ai_ cy g9 40 f9] sz) [ob12_0_ mo 0 s1 n2 s3 s4 g5 g6 g7 g8 g9 g10 s11 g12 g13 g14 g15 g16 g17 g18 g19 g20 s21 g22 g23 g24 s25 s26 s27 s28 g29 g30 g31 g32 g33, ai_ cy g5 40 f5, ai_ cy g8 40 f8, ai_ cy g9 40 f9]) (va_A [ob12_0_ mo s0 s1 t2 s3 s4 g5 g6 g7 g8 g9 g10 s11 g12 g13 g14 g15 g16 g17 g18 g19 g20 s21 g22 g23 g24 s25 s26 s27 s28 g29 g30 g31 g32 g33, ai_ cy g5 40 f5, ai_ cy g8 40 f8, ai_ cy g9 40 f9] sz)) 0 0 (va_A [ob12_0_ mo s0 s1 t2 s3 s4 g5 g6 g7 g8 g9 g10 s11 g12 g13 g14 g15 g16 g17 g18 g19 g20 s21 g22 g23 g24 s25 s26 s27 s28 g29 g30 g31 g32 g33, ai_ cy g5 40 f5, ai_ cy g8 40 f8, ai_ cy g9 40 f9] sz) := by
  refine ofQ (cc := cX12_ask) (maxL := 4) (ret := (some .int)) (by decide) rfl ?_
  intro p e s m args below meth c s₁ Q hQ B hml hv
  obtain ⟨rfl, hsz, hP, hK, hD0⟩ := hv
  have hx := B.exec
  have hb := B.bytes
  have hr := B.returns
  have hts := atoms_spec (ws := wsX12_ask) B.pre
  have hown : s.vm.findClass RX12 = some m.cls := by have h_ := findClass_of_methodNamed B.named; exact h_
  have hlocks := B.notSynchronized
  subst hsz
  have hD := hD0.self (sz := s.heap.size)
  generalize hAe : va_A [ob12_0_ mo s0 s1 t2 s3 s4 g5 g6 g7 g8 g9 g10 s11 g12 g13 g14 g15 g16 g17 g18 g19 g20 s21 g22 g23 g24 s25 s26 s27 s28 g29 g30 g31 g32 g33, ai_ cy g5 40 f5, ai_ cy g8 40 f8, ai_ cy g9 40 f9] s.heap.size = A at hD hQ
  have hA : ∀ q : Nat, s.heap.size ≤ q → A q := fun q h => by rw [← hAe]; exact Or.inr h
  have hS : va_S A s.heap s.heap [] := va_S.rf
  have hl := lv_entry ([.ref mo, .int a1, .int a2]) (n := 4) (Nat.le_of_ble_eq_true rfl)
  rw [lg_entry_eq]
  generalize (lg_sl ([.ref mo, .int a1, .int a2]) ++ List.replicate (4 - (lg_sl ([.ref mo, .int a1, .int a2])).length) Slot.unset).toArray = ls at hl ⊢
  have hl : lv_has ls 4 [(0, .ref mo), (1, .int a1), (2, .int a2)] := hl
  have zm1 : ((-1) : Int32).toInt = -1 := by decide
  have z0 : (0 : Int32).toInt = 0 := by decide
  have zl0 : (0 : Int64).toInt = 0 := by decide
  have z1 : (1 : Int32).toInt = 1 := by decide
  have z2 : (2 : Int32).toInt = 2 := by decide
  have zl2 : (2 : Int64).toInt = 2 := by decide
  have zq0 : (0 : Int32).toInt = 0 := by decide
  have zq1 : (1 : Int32).toInt = 1 := by decide
  refine lv_aload_n hx hb dB_3_1_1.1.1.1.1 rfl (lv_at hl 0 rfl) ?_
  refine lv_iconst (v := 0) hx hb dB_3_1_1.1.1.1.2 (by decide) ?_
  refine va_put (ci := 12) (v := .int 0) (ty := .int) (C := RX12) (T := TX12) (N := 34) hx hb hts (fun _ h => List.mem_cons_of_mem _ (List.mem_append_right _ h)) tyX12 tyX12_ok nmX12 hown hK.1 hP hD hS 0 rfl rfl 0 (by decide) (hts (.fieldLink RX12 85 "CutAtlasModel" "thrown" "I") (List.mem_of_getElem? (i := 1) rfl)) (fun _ h9 => h9) rfl (by decide +kernel) rfl rfl (Nat.le_of_ble_eq_true rfl) dB_3_1_1.1.1.2.1 (fun H locs hP hD hS => ?_)
  refine pd_K [ob12_0_ mo 0 s1 t2 s3 s4 g5 g6 g7 g8 g9 g10 s11 g12 g13 g14 g15 g16 g17 g18 g19 g20 s21 g22 g23 g24 s25 s26 s27 s28 g29 g30 g31 g32 g33, ai_ cy g5 40 f5, ai_ cy g8 40 f8, ai_ cy g9 40 f9] hP hD (fun hP hD => ?_)
  refine lv_aload_n hx hb dB_3_1_1.1.1.2.2 rfl (lv_at hl 0 rfl) ?_
  refine lv_iload_n hx hb dB_3_1_1.1.2.1.1 rfl (lv_at hl 1 rfl) ?_
  refine ct_R hP hD [ob12_0_ mo 0 s1 t2 s3 s4 g5 g6 g7 g8 g9 g10 s11 g12 g13 g14 g15 g16 g17 g18 g19 g20 s21 g22 g23 g24 s25 s26 s27 s28 g29 g30 g31 g32 g33] [0] (by decide) rfl (fun hPc hDw => ?_)
  have hFc := va_free (wc := []) hD hS hA [] rfl
  refine va_calli (va_runV (As := [.int a1]) (rest := []) ⟨hx, hb, hml, hown, hts⟩ (c_X12_isLine l D cy H.size mo g5 g6 g7 g8 g9 g10 g12 g13 g14 g15 g16 g17 g18 g19 g20 g22 g23 g24 g29 g30 g31 g32 g33 (0 : Int32) s1 s3 s4 s11 s21 s25 s26 s27 s28 t2 a1 (by first | with_reducible assumption | omega | assumption)) (cwV 1 hts gX12_ask_X12_isLine rfl rfl rfl ⟨rfl, hd_X12_isLine⟩ ⟨Nat.le_of_ble_eq_true rfl, Nat.le_of_ble_eq_true rfl⟩) ⟨bl_, va_recvX hK.1 hP (ci := 12) (q0 := 0) rfl rfl, fun U hU hW => ⟨rfl, by rw [hU], by rw [hU]; exact hPc, kk_mv hW hK, hDw⟩⟩ rfl rfl hl.1 rfl (lv_room (Nat.le_of_ble_eq_true rfl)) dB_3_1_1.1.2.1.2 ⟨Nat.le_of_ble_eq_true rfl, Nat.le_of_ble_eq_true rfl⟩) hS (fun q _ h => hFc q h) hFc (fun r_1 u t H locs ht hvm hw hB hz1 hk1 hS => ?_)
  have hP : va_P D vwCl _ H := ro_keep hP hk1
  rcases hw with ⟨w_2, e_⟩ | ⟨w_2, e_⟩
  · have e_ := e_.symm
    subst e_
    refine lv_if_eq (tgt := 25) hx hb dB_3_1_1.1.2.2.1 (by decide) (fun c_3 => ?_) (fun c_3 => ?_)
    · exact absurd c_3 (by decide)
    · have _ := c_3
      refine lv_iload_n hx hb dB_3_1_1.1.2.2.2 rfl (lv_at hl 2 rfl) ?_
      refine lv_i2l (v := a2.toInt64) hx hb dB_3_1_1.2.1.1.1 rfl ?_
      have q_14 : (a2.toInt64).toInt = a2.toInt := Int32.toInt_toInt64 a2
      refine lv_lconst (v := 0) hx hb dB_3_1_1.2.1.1.2 (by decide) ?_
      refine lv_ldc2 (v := 2) hx hb hown (hts (.constantLong RX12 149 (2)) (List.mem_of_getElem? (i := 2) rfl)) dB_3_1_1.2.1.2.1 ?_
      refine ct_R hP hD [] [] (by decide) rfl (fun hPc hDw => ?_)
      have hFc := va_free (wc := []) hD hS hA [] rfl
      refine va_calli (va_runS (As := [.long a2.toInt64, .long 0, .long 2]) (rest := []) ⟨hx, hb, hml, hown, hts⟩ (c_X12_in l D cy H.size a2.toInt64 (0 : Int64) (2 : Int64)) (va_cwS 3 hts gX12_ask_X12_in rfl rfl rfl hd_X12_in ⟨Nat.le_of_ble_eq_true rfl, Nat.le_of_ble_eq_true rfl⟩) ⟨bl_, fun U hU hW => ⟨rfl, by rw [hU], by rw [hU]; exact hPc, kk_mv hW hK, hDw⟩⟩ rfl rfl hl.1 rfl (lv_room (Nat.le_of_ble_eq_true rfl)) dB_3_1_1.2.1.2.2 ⟨Nat.le_of_ble_eq_true rfl, Nat.le_of_ble_eq_true rfl⟩) hS (fun q _ h => hFc q h) hFc (fun r_4 u t H locs ht hvm hw hB hz1 hk1 hS => ?_)
      have hP : va_P D vwCl _ H := ro_keep hP hk1
      rcases hw with ⟨w_5, e_⟩ | ⟨w_5, e_⟩
      · have e_ := e_.symm
        subst e_
        refine lv_if_ne (tgt := 27) hx hb dB_3_1_1.2.2.1.1 (by decide) (fun c_6 => ?_) (fun c_6 => ?_)
        · have _ := c_6
          refine lv_iload_n hx hb dB_3_1_1.2.2.2.2 rfl (lv_at hl 2 rfl) ?_
          refine lv_iconst (v := 2) hx hb dB_3_1_2.1.1.1.1 (by decide) ?_
          refine lv_icmp_ne (tgt := 52) hx hb dB_3_1_2.1.1.1.2 (by decide) (fun c_7 => ?_) (fun c_7 => ?_)
          · have t_7 : ¬ a2.toInt = (2 : Int32).toInt := fun h => c_7 (Int32.toInt_inj.mp h)
            refine lv_iload_n hx hb dB_3_1_2.2.2.2.1 rfl (lv_at hl 2 rfl) ?_
            refine lv_if_ne (tgt := 60) hx hb dB_3_1_2.2.2.2.2 (by decide) (fun c_8 => ?_) (fun c_8 => ?_)
            · have t_8 : ¬ a2.toInt = (0 : Int32).toInt := fun h => c_8 (Int32.toInt_inj.mp h)
              refine lv_iconst (v := 0) hx hb dB_3_1_3.1.1.2.1 (by decide) ?_
              refine lv_istore_n (lv' := [(3, .int 0), (0, .ref mo), (1, .int a1), (2, .int a2)]) hx hb dB_3_1_3.1.1.2.2 rfl hl (by decide) rfl (fun ls hl => ?_)
              refine lv_aload_n hx hb dB_3_1_3.1.2.1.1 rfl (lv_at hl 1 rfl) ?_
              refine lv_dup hx hb dB_3_1_3.1.2.1.2 rfl ?_
              refine va_get (ci := 12) (v := .long t2) (C := RX12) (T := TX12) (N := 34) hx hb hts (fun _ h => List.mem_cons_of_mem _ (List.mem_append_right _ h)) hown hK.1 hP 0 rfl rfl 2 (by decide) (hts (.fieldLink RX12 114 "CutAtlasModel" "trace" "J") (List.mem_of_getElem? (i := 3) rfl)) (fun _ h9 => h9) rfl dB_3_1_3.1.2.2.1 ?_
              refine lv_aload_n hx hb dB_3_1_3.1.2.2.2 rfl (lv_at hl 1 rfl) ?_
              refine va_get (ci := 12) (v := .ref g5) (C := RX12) (T := TX12) (N := 34) hx hb hts (fun _ h => List.mem_cons_of_mem _ (List.mem_append_right _ h)) hown hK.1 hP 0 rfl rfl 5 (by decide) (hts (.fieldLink RX12 7 "CutAtlasModel" "kind" "[I") (List.mem_of_getElem? (i := 4) rfl)) (fun _ h9 => h9) rfl dB_3_1_3.2.1.1.1 ?_
              refine lv_iload_n hx hb dB_3_1_3.2.1.1.2 rfl (lv_at hl 2 rfl) ?_
              have h_9 : vp_in a1 40 := in_I (by first | with_reducible assumption | omega) (by omega)
              refine va_iald hx hb hK.1 hP 1 0 rfl rfl (i := a1) h_9 dB_3_1_3.2.1.2.1 ?_
              refine lv_topi (fun y_10 ey_10 => ?_)
              have ky_10 : y_10.toInt = (f5 a1.toNatClampNeg).toInt := by rw [ey_10]
              refine lv_iconst (v := 2) hx hb dB_3_1_3.2.1.2.2 (by decide) ?_
              refine lv_icmp_ne (tgt := 83) hx hb dB_3_1_3.2.2.1.1 (by decide) (fun c_11 => ?_) (fun c_11 => ?_)
              · have t_11 : ¬ y_10.toInt = (2 : Int32).toInt := fun h => c_11 (Int32.toInt_inj.mp h)
                refine lv_aload_n hx hb dB_3_1_3.2.2.2.2 rfl (lv_at hl 1 rfl) ?_
                refine va_get (ci := 12) (v := .ref g5) (C := RX12) (T := TX12) (N := 34) hx hb hts (fun _ h => List.mem_cons_of_mem _ (List.mem_append_right _ h)) hown hK.1 hP 0 rfl rfl 5 (by decide) (hts (.fieldLink RX12 7 "CutAtlasModel" "kind" "[I") (List.mem_of_getElem? (i := 4) rfl)) (fun _ h9 => h9) rfl dB_3_1_4.1.1.1.1 ?_
                refine lv_iload_n hx hb dB_3_1_4.1.1.1.2 rfl (lv_at hl 2 rfl) ?_
                refine va_iald hx hb hK.1 hP 1 0 rfl rfl (i := a1) h_9 dB_3_1_4.1.1.2.1 ?_
                refine lv_topi (fun y_13 ey_13 => ?_)
                have e_ := (ey_13.trans ey_10.symm).symm
                subst e_
                skip
                refine lv_iconst (v := 1) hx hb dB_3_1_4.1.1.2.2 (by decide) ?_
                refine lv_icmp_ne (tgt := 109) hx hb dB_3_1_4.1.2.1.1 (by decide) (fun c_14 => ?_) (fun c_14 => ?_)
                · have t_14 : ¬ y_10.toInt = (1 : Int32).toInt := fun h => c_14 (Int32.toInt_inj.mp h)
                  refine lv_lconst (v := 1) hx hb dB_3_1_4.2.1.2.2 (by decide) ?_
                  refine lv_ladd hx hb dB_3_1_4.2.2.1.1 ?_
                  refine lv_topl (fun y_15 ey_15 => ?_)
                  refine va_put (ci := 12) (v := .long y_15) (ty := .long) (C := RX12) (T := TX12) (N := 34) hx hb hts (fun _ h => List.mem_cons_of_mem _ (List.mem_append_right _ h)) tyX12 tyX12_ok nmX12 hown hK.1 hP hD hS 0 rfl rfl 2 (by decide) (hts (.fieldLink RX12 114 "CutAtlasModel" "trace" "J") (List.mem_of_getElem? (i := 3) rfl)) (fun _ h9 => h9) rfl (by decide +kernel) rfl rfl (Nat.le_of_ble_eq_true rfl) dB_3_1_4.2.2.1.2 (fun H locs hP hD hS => ?_)
                  refine pd_K [ob12_0_ mo 0 s1 y_15 s3 s4 g5 g6 g7 g8 g9 g10 s11 g12 g13 g14 g15 g16 g17 g18 g19 g20 s21 g22 g23 g24 s25 s26 s27 s28 g29 g30 g31 g32 g33, ai_ cy g5 40 f5, ai_ cy g8 40 f8, ai_ cy g9 40 f9] hP hD (fun hP hD => ?_)
                  refine lv_aload_n hx hb dB_3_1_4.2.2.2.1 rfl (lv_at hl 1 rfl) ?_
                  refine lv_iload_n hx hb dB_3_1_4.2.2.2.2 rfl (lv_at hl 2 rfl) ?_
                  refine lv_iload_n hx hb dB_3_1_5.1 rfl (lv_at hl 0 rfl) ?_
                  refine ct_R hP hD [ob12_0_ mo 0 s1 y_15 s3 s4 g5 g6 g7 g8 g9 g10 s11 g12 g13 g14 g15 g16 g17 g18 g19 g20 s21 g22 g23 g24 s25 s26 s27 s28 g29 g30 g31 g32 g33, ai_ cy g5 40 f5, ai_ cy g8 40 f8] [0, 1, 2] (by decide) rfl (fun hPc hDw => ?_)
                  have hFc := va_free (wc := []) hD hS hA [] rfl
                  refine va_calli (va_runV (As := [.int a1, .int 0]) (rest := []) ⟨hx, hb, hml, hown, hts⟩ (c_X12_lets l D cy H.size mo g5 g6 g7 g8 g9 g10 g12 g13 g14 g15 g16 g17 g18 g19 g20 g22 g23 g24 g29 g30 g31 g32 g33 (0 : Int32) s1 s3 s4 s11 s21 s25 s26 s27 s28 y_15 f5 f8 a1 (0 : Int32) (by first | with_reducible assumption | omega | assumption)) (cwV 2 hts gX12_ask_X12_lets rfl rfl rfl ⟨rfl, hd_X12_lets⟩ ⟨Nat.le_of_ble_eq_true rfl, Nat.le_of_ble_eq_true rfl⟩) ⟨bl_, va_recvX hK.1 hP (ci := 12) (q0 := 0) rfl rfl, fun U hU hW => ⟨rfl, by rw [hU], by rw [hU]; exact hPc, kk_mv hW hK, hDw⟩⟩ rfl rfl hl.1 rfl (lv_room (Nat.le_of_ble_eq_true rfl)) dB_3_1_5.2.1 ⟨Nat.le_of_ble_eq_true rfl, Nat.le_of_ble_eq_true rfl⟩) hS (fun q _ h => hFc q h) hFc (fun r_16 u t H locs ht hvm hw hB hz1 hk1 hS => ?_)
                  have hP : va_P D vwCl _ H := ro_keep hP hk1
                  have f0_r_16 := hw
                  have hle_ := letsI f0_r_16
                  rw [hQ]
                  exact W.iret (v := r_16) hx hb hr (fun t ht hW => ⟨⟨r_16, (), rfl, (by first | (unfold akI; (repeat' split) <;> omega) | (unfold akI; (repeat' split at hle_ ⊢) <;> omega)), y_15, by rw [ht]; exact hP, hD⟩, hS.F ht⟩) hS.2.2 dB_3_1_5.2.2
                · have t_14 : y_10.toInt = (1 : Int32).toInt := congrArg Int32.toInt c_14
                  refine lv_iload_n hx hb dB_3_1_4.1.2.1.2 rfl (lv_at hl 0 rfl) ?_
                  refine lv_if_eq (tgt := 103) hx hb dB_3_1_4.1.2.2.1 (by decide) (fun c_17 => ?_) (fun c_17 => ?_)
                  · have _ := c_17
                    refine lv_ldc2 (v := 10) hx hb hown (hts (.constantLong RX12 153 (10)) (List.mem_of_getElem? (i := 7) rfl)) dB_3_1_4.2.1.1.2 ?_
                    refine lv_goto (tgt := 110) hx hb dB_3_1_4.2.1.2.1 (by decide) ?_
                    refine lv_ladd hx hb dB_3_1_4.2.2.1.1 ?_
                    refine lv_topl (fun y_18 ey_18 => ?_)
                    refine va_put (ci := 12) (v := .long y_18) (ty := .long) (C := RX12) (T := TX12) (N := 34) hx hb hts (fun _ h => List.mem_cons_of_mem _ (List.mem_append_right _ h)) tyX12 tyX12_ok nmX12 hown hK.1 hP hD hS 0 rfl rfl 2 (by decide) (hts (.fieldLink RX12 114 "CutAtlasModel" "trace" "J") (List.mem_of_getElem? (i := 3) rfl)) (fun _ h9 => h9) rfl (by decide +kernel) rfl rfl (Nat.le_of_ble_eq_true rfl) dB_3_1_4.2.2.1.2 (fun H locs hP hD hS => ?_)
                    refine pd_K [ob12_0_ mo 0 s1 y_18 s3 s4 g5 g6 g7 g8 g9 g10 s11 g12 g13 g14 g15 g16 g17 g18 g19 g20 s21 g22 g23 g24 s25 s26 s27 s28 g29 g30 g31 g32 g33, ai_ cy g5 40 f5, ai_ cy g8 40 f8, ai_ cy g9 40 f9] hP hD (fun hP hD => ?_)
                    refine lv_aload_n hx hb dB_3_1_4.2.2.2.1 rfl (lv_at hl 1 rfl) ?_
                    refine lv_iload_n hx hb dB_3_1_4.2.2.2.2 rfl (lv_at hl 2 rfl) ?_
                    refine lv_iload_n hx hb dB_3_1_5.1 rfl (lv_at hl 0 rfl) ?_
                    refine ct_R hP hD [ob12_0_ mo 0 s1 y_18 s3 s4 g5 g6 g7 g8 g9 g10 s11 g12 g13 g14 g15 g16 g17 g18 g19 g20 s21 g22 g23 g24 s25 s26 s27 s28 g29 g30 g31 g32 g33, ai_ cy g5 40 f5, ai_ cy g8 40 f8] [0, 1, 2] (by decide) rfl (fun hPc hDw => ?_)
                    have hFc := va_free (wc := []) hD hS hA [] rfl
                    refine va_calli (va_runV (As := [.int a1, .int 0]) (rest := []) ⟨hx, hb, hml, hown, hts⟩ (c_X12_lets l D cy H.size mo g5 g6 g7 g8 g9 g10 g12 g13 g14 g15 g16 g17 g18 g19 g20 g22 g23 g24 g29 g30 g31 g32 g33 (0 : Int32) s1 s3 s4 s11 s21 s25 s26 s27 s28 y_18 f5 f8 a1 (0 : Int32) (by first | with_reducible assumption | omega | assumption)) (cwV 2 hts gX12_ask_X12_lets rfl rfl rfl ⟨rfl, hd_X12_lets⟩ ⟨Nat.le_of_ble_eq_true rfl, Nat.le_of_ble_eq_true rfl⟩) ⟨bl_, va_recvX hK.1 hP (ci := 12) (q0 := 0) rfl rfl, fun U hU hW => ⟨rfl, by rw [hU], by rw [hU]; exact hPc, kk_mv hW hK, hDw⟩⟩ rfl rfl hl.1 rfl (lv_room (Nat.le_of_ble_eq_true rfl)) dB_3_1_5.2.1 ⟨Nat.le_of_ble_eq_true rfl, Nat.le_of_ble_eq_true rfl⟩) hS (fun q _ h => hFc q h) hFc (fun r_19 u t H locs ht hvm hw hB hz1 hk1 hS => ?_)
                    have hP : va_P D vwCl _ H := ro_keep hP hk1
                    have f0_r_19 := hw
                    have hle_ := letsI f0_r_19
                    rw [hQ]
                    exact W.iret (v := r_19) hx hb hr (fun t ht hW => ⟨⟨r_19, (), rfl, (by first | (unfold akI; (repeat' split) <;> omega) | (unfold akI; (repeat' split at hle_ ⊢) <;> omega)), y_18, by rw [ht]; exact hP, hD⟩, hS.F ht⟩) hS.2.2 dB_3_1_5.2.2
                  · exact absurd c_17 (by decide)
              · have t_11 : y_10.toInt = (2 : Int32).toInt := congrArg Int32.toInt c_11
                refine lv_ldc2 (v := 100) hx hb hown (hts (.constantLong RX12 112 (100)) (List.mem_of_getElem? (i := 5) rfl)) dB_3_1_3.2.2.1.2 ?_
                refine lv_goto (tgt := 110) hx hb dB_3_1_3.2.2.2.1 (by decide) ?_
                refine lv_ladd hx hb dB_3_1_4.2.2.1.1 ?_
                refine lv_topl (fun y_20 ey_20 => ?_)
                refine va_put (ci := 12) (v := .long y_20) (ty := .long) (C := RX12) (T := TX12) (N := 34) hx hb hts (fun _ h => List.mem_cons_of_mem _ (List.mem_append_right _ h)) tyX12 tyX12_ok nmX12 hown hK.1 hP hD hS 0 rfl rfl 2 (by decide) (hts (.fieldLink RX12 114 "CutAtlasModel" "trace" "J") (List.mem_of_getElem? (i := 3) rfl)) (fun _ h9 => h9) rfl (by decide +kernel) rfl rfl (Nat.le_of_ble_eq_true rfl) dB_3_1_4.2.2.1.2 (fun H locs hP hD hS => ?_)
                refine pd_K [ob12_0_ mo 0 s1 y_20 s3 s4 g5 g6 g7 g8 g9 g10 s11 g12 g13 g14 g15 g16 g17 g18 g19 g20 s21 g22 g23 g24 s25 s26 s27 s28 g29 g30 g31 g32 g33, ai_ cy g5 40 f5, ai_ cy g8 40 f8, ai_ cy g9 40 f9] hP hD (fun hP hD => ?_)
                refine lv_aload_n hx hb dB_3_1_4.2.2.2.1 rfl (lv_at hl 1 rfl) ?_
                refine lv_iload_n hx hb dB_3_1_4.2.2.2.2 rfl (lv_at hl 2 rfl) ?_
                refine lv_iload_n hx hb dB_3_1_5.1 rfl (lv_at hl 0 rfl) ?_
                refine ct_R hP hD [ob12_0_ mo 0 s1 y_20 s3 s4 g5 g6 g7 g8 g9 g10 s11 g12 g13 g14 g15 g16 g17 g18 g19 g20 s21 g22 g23 g24 s25 s26 s27 s28 g29 g30 g31 g32 g33, ai_ cy g5 40 f5, ai_ cy g8 40 f8] [0, 1, 2] (by decide) rfl (fun hPc hDw => ?_)
                have hFc := va_free (wc := []) hD hS hA [] rfl
                refine va_calli (va_runV (As := [.int a1, .int 0]) (rest := []) ⟨hx, hb, hml, hown, hts⟩ (c_X12_lets l D cy H.size mo g5 g6 g7 g8 g9 g10 g12 g13 g14 g15 g16 g17 g18 g19 g20 g22 g23 g24 g29 g30 g31 g32 g33 (0 : Int32) s1 s3 s4 s11 s21 s25 s26 s27 s28 y_20 f5 f8 a1 (0 : Int32) (by first | with_reducible assumption | omega | assumption)) (cwV 2 hts gX12_ask_X12_lets rfl rfl rfl ⟨rfl, hd_X12_lets⟩ ⟨Nat.le_of_ble_eq_true rfl, Nat.le_of_ble_eq_true rfl⟩) ⟨bl_, va_recvX hK.1 hP (ci := 12) (q0 := 0) rfl rfl, fun U hU hW => ⟨rfl, by rw [hU], by rw [hU]; exact hPc, kk_mv hW hK, hDw⟩⟩ rfl rfl hl.1 rfl (lv_room (Nat.le_of_ble_eq_true rfl)) dB_3_1_5.2.1 ⟨Nat.le_of_ble_eq_true rfl, Nat.le_of_ble_eq_true rfl⟩) hS (fun q _ h => hFc q h) hFc (fun r_21 u t H locs ht hvm hw hB hz1 hk1 hS => ?_)
                have hP : va_P D vwCl _ H := ro_keep hP hk1
                have f0_r_21 := hw
                have hle_ := letsI f0_r_21
                rw [hQ]
                exact W.iret (v := r_21) hx hb hr (fun t ht hW => ⟨⟨r_21, (), rfl, (by first | (unfold akI; (repeat' split) <;> omega) | (unfold akI; (repeat' split at hle_ ⊢) <;> omega)), y_20, by rw [ht]; exact hP, hD⟩, hS.F ht⟩) hS.2.2 dB_3_1_5.2.2
            · have t_8 : a2.toInt = (0 : Int32).toInt := congrArg Int32.toInt c_8
              refine lv_iconst (v := 1) hx hb dB_3_1_3.1.1.1.1 (by decide) ?_
              refine lv_goto (tgt := 61) hx hb dB_3_1_3.1.1.1.2 (by decide) ?_
              refine lv_istore_n (lv' := [(3, .int 1), (0, .ref mo), (1, .int a1), (2, .int a2)]) hx hb dB_3_1_3.1.1.2.2 rfl hl (by decide) rfl (fun ls hl => ?_)
              refine lv_aload_n hx hb dB_3_1_3.1.2.1.1 rfl (lv_at hl 1 rfl) ?_
              refine lv_dup hx hb dB_3_1_3.1.2.1.2 rfl ?_
              refine va_get (ci := 12) (v := .long t2) (C := RX12) (T := TX12) (N := 34) hx hb hts (fun _ h => List.mem_cons_of_mem _ (List.mem_append_right _ h)) hown hK.1 hP 0 rfl rfl 2 (by decide) (hts (.fieldLink RX12 114 "CutAtlasModel" "trace" "J") (List.mem_of_getElem? (i := 3) rfl)) (fun _ h9 => h9) rfl dB_3_1_3.1.2.2.1 ?_
              refine lv_aload_n hx hb dB_3_1_3.1.2.2.2 rfl (lv_at hl 1 rfl) ?_
              refine va_get (ci := 12) (v := .ref g5) (C := RX12) (T := TX12) (N := 34) hx hb hts (fun _ h => List.mem_cons_of_mem _ (List.mem_append_right _ h)) hown hK.1 hP 0 rfl rfl 5 (by decide) (hts (.fieldLink RX12 7 "CutAtlasModel" "kind" "[I") (List.mem_of_getElem? (i := 4) rfl)) (fun _ h9 => h9) rfl dB_3_1_3.2.1.1.1 ?_
              refine lv_iload_n hx hb dB_3_1_3.2.1.1.2 rfl (lv_at hl 2 rfl) ?_
              have h_22 : vp_in a1 40 := in_I (by first | with_reducible assumption | omega) (by omega)
              refine va_iald hx hb hK.1 hP 1 0 rfl rfl (i := a1) h_22 dB_3_1_3.2.1.2.1 ?_
              refine lv_topi (fun y_23 ey_23 => ?_)
              have ky_23 : y_23.toInt = (f5 a1.toNatClampNeg).toInt := by rw [ey_23]
              refine lv_iconst (v := 2) hx hb dB_3_1_3.2.1.2.2 (by decide) ?_
              refine lv_icmp_ne (tgt := 83) hx hb dB_3_1_3.2.2.1.1 (by decide) (fun c_24 => ?_) (fun c_24 => ?_)
              · have t_24 : ¬ y_23.toInt = (2 : Int32).toInt := fun h => c_24 (Int32.toInt_inj.mp h)
                refine lv_aload_n hx hb dB_3_1_3.2.2.2.2 rfl (lv_at hl 1 rfl) ?_
                refine va_get (ci := 12) (v := .ref g5) (C := RX12) (T := TX12) (N := 34) hx hb hts (fun _ h => List.mem_cons_of_mem _ (List.mem_append_right _ h)) hown hK.1 hP 0 rfl rfl 5 (by decide) (hts (.fieldLink RX12 7 "CutAtlasModel" "kind" "[I") (List.mem_of_getElem? (i := 4) rfl)) (fun _ h9 => h9) rfl dB_3_1_4.1.1.1.1 ?_
                refine lv_iload_n hx hb dB_3_1_4.1.1.1.2 rfl (lv_at hl 2 rfl) ?_
                refine va_iald hx hb hK.1 hP 1 0 rfl rfl (i := a1) h_22 dB_3_1_4.1.1.2.1 ?_
                refine lv_topi (fun y_26 ey_26 => ?_)
                have e_ := (ey_26.trans ey_23.symm).symm
                subst e_
                skip
                refine lv_iconst (v := 1) hx hb dB_3_1_4.1.1.2.2 (by decide) ?_
                refine lv_icmp_ne (tgt := 109) hx hb dB_3_1_4.1.2.1.1 (by decide) (fun c_27 => ?_) (fun c_27 => ?_)
                · have t_27 : ¬ y_23.toInt = (1 : Int32).toInt := fun h => c_27 (Int32.toInt_inj.mp h)
                  refine lv_lconst (v := 1) hx hb dB_3_1_4.2.1.2.2 (by decide) ?_
                  refine lv_ladd hx hb dB_3_1_4.2.2.1.1 ?_
                  refine lv_topl (fun y_28 ey_28 => ?_)
                  refine va_put (ci := 12) (v := .long y_28) (ty := .long) (C := RX12) (T := TX12) (N := 34) hx hb hts (fun _ h => List.mem_cons_of_mem _ (List.mem_append_right _ h)) tyX12 tyX12_ok nmX12 hown hK.1 hP hD hS 0 rfl rfl 2 (by decide) (hts (.fieldLink RX12 114 "CutAtlasModel" "trace" "J") (List.mem_of_getElem? (i := 3) rfl)) (fun _ h9 => h9) rfl (by decide +kernel) rfl rfl (Nat.le_of_ble_eq_true rfl) dB_3_1_4.2.2.1.2 (fun H locs hP hD hS => ?_)
                  refine pd_K [ob12_0_ mo 0 s1 y_28 s3 s4 g5 g6 g7 g8 g9 g10 s11 g12 g13 g14 g15 g16 g17 g18 g19 g20 s21 g22 g23 g24 s25 s26 s27 s28 g29 g30 g31 g32 g33, ai_ cy g5 40 f5, ai_ cy g8 40 f8, ai_ cy g9 40 f9] hP hD (fun hP hD => ?_)
                  refine lv_aload_n hx hb dB_3_1_4.2.2.2.1 rfl (lv_at hl 1 rfl) ?_
                  refine lv_iload_n hx hb dB_3_1_4.2.2.2.2 rfl (lv_at hl 2 rfl) ?_
                  refine lv_iload_n hx hb dB_3_1_5.1 rfl (lv_at hl 0 rfl) ?_
                  refine ct_R hP hD [ob12_0_ mo 0 s1 y_28 s3 s4 g5 g6 g7 g8 g9 g10 s11 g12 g13 g14 g15 g16 g17 g18 g19 g20 s21 g22 g23 g24 s25 s26 s27 s28 g29 g30 g31 g32 g33, ai_ cy g5 40 f5, ai_ cy g8 40 f8] [0, 1, 2] (by decide) rfl (fun hPc hDw => ?_)
                  have hFc := va_free (wc := []) hD hS hA [] rfl
                  refine va_calli (va_runV (As := [.int a1, .int 1]) (rest := []) ⟨hx, hb, hml, hown, hts⟩ (c_X12_lets l D cy H.size mo g5 g6 g7 g8 g9 g10 g12 g13 g14 g15 g16 g17 g18 g19 g20 g22 g23 g24 g29 g30 g31 g32 g33 (0 : Int32) s1 s3 s4 s11 s21 s25 s26 s27 s28 y_28 f5 f8 a1 (1 : Int32) (by first | with_reducible assumption | omega | assumption)) (cwV 2 hts gX12_ask_X12_lets rfl rfl rfl ⟨rfl, hd_X12_lets⟩ ⟨Nat.le_of_ble_eq_true rfl, Nat.le_of_ble_eq_true rfl⟩) ⟨bl_, va_recvX hK.1 hP (ci := 12) (q0 := 0) rfl rfl, fun U hU hW => ⟨rfl, by rw [hU], by rw [hU]; exact hPc, kk_mv hW hK, hDw⟩⟩ rfl rfl hl.1 rfl (lv_room (Nat.le_of_ble_eq_true rfl)) dB_3_1_5.2.1 ⟨Nat.le_of_ble_eq_true rfl, Nat.le_of_ble_eq_true rfl⟩) hS (fun q _ h => hFc q h) hFc (fun r_29 u t H locs ht hvm hw hB hz1 hk1 hS => ?_)
                  have hP : va_P D vwCl _ H := ro_keep hP hk1
                  have f0_r_29 := hw
                  have hle_ := letsI f0_r_29
                  rw [hQ]
                  exact W.iret (v := r_29) hx hb hr (fun t ht hW => ⟨⟨r_29, (), rfl, (by first | (unfold akI; (repeat' split) <;> omega) | (unfold akI; (repeat' split at hle_ ⊢) <;> omega)), y_28, by rw [ht]; exact hP, hD⟩, hS.F ht⟩) hS.2.2 dB_3_1_5.2.2
                · have t_27 : y_23.toInt = (1 : Int32).toInt := congrArg Int32.toInt c_27
                  refine lv_iload_n hx hb dB_3_1_4.1.2.1.2 rfl (lv_at hl 0 rfl) ?_
                  refine lv_if_eq (tgt := 103) hx hb dB_3_1_4.1.2.2.1 (by decide) (fun c_30 => ?_) (fun c_30 => ?_)
                  · exact absurd c_30 (by decide)
                  · have _ := c_30
                    refine lv_ldc2 (v := 11) hx hb hown (hts (.constantLong RX12 151 (11)) (List.mem_of_getElem? (i := 6) rfl)) dB_3_1_4.1.2.2.2 ?_
                    refine lv_goto (tgt := 110) hx hb dB_3_1_4.2.1.1.1 (by decide) ?_
                    refine lv_ladd hx hb dB_3_1_4.2.2.1.1 ?_
                    refine lv_topl (fun y_31 ey_31 => ?_)
                    refine va_put (ci := 12) (v := .long y_31) (ty := .long) (C := RX12) (T := TX12) (N := 34) hx hb hts (fun _ h => List.mem_cons_of_mem _ (List.mem_append_right _ h)) tyX12 tyX12_ok nmX12 hown hK.1 hP hD hS 0 rfl rfl 2 (by decide) (hts (.fieldLink RX12 114 "CutAtlasModel" "trace" "J") (List.mem_of_getElem? (i := 3) rfl)) (fun _ h9 => h9) rfl (by decide +kernel) rfl rfl (Nat.le_of_ble_eq_true rfl) dB_3_1_4.2.2.1.2 (fun H locs hP hD hS => ?_)
                    refine pd_K [ob12_0_ mo 0 s1 y_31 s3 s4 g5 g6 g7 g8 g9 g10 s11 g12 g13 g14 g15 g16 g17 g18 g19 g20 s21 g22 g23 g24 s25 s26 s27 s28 g29 g30 g31 g32 g33, ai_ cy g5 40 f5, ai_ cy g8 40 f8, ai_ cy g9 40 f9] hP hD (fun hP hD => ?_)
                    refine lv_aload_n hx hb dB_3_1_4.2.2.2.1 rfl (lv_at hl 1 rfl) ?_
                    refine lv_iload_n hx hb dB_3_1_4.2.2.2.2 rfl (lv_at hl 2 rfl) ?_
                    refine lv_iload_n hx hb dB_3_1_5.1 rfl (lv_at hl 0 rfl) ?_
                    refine ct_R hP hD [ob12_0_ mo 0 s1 y_31 s3 s4 g5 g6 g7 g8 g9 g10 s11 g12 g13 g14 g15 g16 g17 g18 g19 g20 s21 g22 g23 g24 s25 s26 s27 s28 g29 g30 g31 g32 g33, ai_ cy g5 40 f5, ai_ cy g8 40 f8] [0, 1, 2] (by decide) rfl (fun hPc hDw => ?_)
                    have hFc := va_free (wc := []) hD hS hA [] rfl
                    refine va_calli (va_runV (As := [.int a1, .int 1]) (rest := []) ⟨hx, hb, hml, hown, hts⟩ (c_X12_lets l D cy H.size mo g5 g6 g7 g8 g9 g10 g12 g13 g14 g15 g16 g17 g18 g19 g20 g22 g23 g24 g29 g30 g31 g32 g33 (0 : Int32) s1 s3 s4 s11 s21 s25 s26 s27 s28 y_31 f5 f8 a1 (1 : Int32) (by first | with_reducible assumption | omega | assumption)) (cwV 2 hts gX12_ask_X12_lets rfl rfl rfl ⟨rfl, hd_X12_lets⟩ ⟨Nat.le_of_ble_eq_true rfl, Nat.le_of_ble_eq_true rfl⟩) ⟨bl_, va_recvX hK.1 hP (ci := 12) (q0 := 0) rfl rfl, fun U hU hW => ⟨rfl, by rw [hU], by rw [hU]; exact hPc, kk_mv hW hK, hDw⟩⟩ rfl rfl hl.1 rfl (lv_room (Nat.le_of_ble_eq_true rfl)) dB_3_1_5.2.1 ⟨Nat.le_of_ble_eq_true rfl, Nat.le_of_ble_eq_true rfl⟩) hS (fun q _ h => hFc q h) hFc (fun r_32 u t H locs ht hvm hw hB hz1 hk1 hS => ?_)
                    have hP : va_P D vwCl _ H := ro_keep hP hk1
                    have f0_r_32 := hw
                    have hle_ := letsI f0_r_32
                    rw [hQ]
                    exact W.iret (v := r_32) hx hb hr (fun t ht hW => ⟨⟨r_32, (), rfl, (by first | (unfold akI; (repeat' split) <;> omega) | (unfold akI; (repeat' split at hle_ ⊢) <;> omega)), y_31, by rw [ht]; exact hP, hD⟩, hS.F ht⟩) hS.2.2 dB_3_1_5.2.2
              · have t_24 : y_23.toInt = (2 : Int32).toInt := congrArg Int32.toInt c_24
                refine lv_ldc2 (v := 100) hx hb hown (hts (.constantLong RX12 112 (100)) (List.mem_of_getElem? (i := 5) rfl)) dB_3_1_3.2.2.1.2 ?_
                refine lv_goto (tgt := 110) hx hb dB_3_1_3.2.2.2.1 (by decide) ?_
                refine lv_ladd hx hb dB_3_1_4.2.2.1.1 ?_
                refine lv_topl (fun y_33 ey_33 => ?_)
                refine va_put (ci := 12) (v := .long y_33) (ty := .long) (C := RX12) (T := TX12) (N := 34) hx hb hts (fun _ h => List.mem_cons_of_mem _ (List.mem_append_right _ h)) tyX12 tyX12_ok nmX12 hown hK.1 hP hD hS 0 rfl rfl 2 (by decide) (hts (.fieldLink RX12 114 "CutAtlasModel" "trace" "J") (List.mem_of_getElem? (i := 3) rfl)) (fun _ h9 => h9) rfl (by decide +kernel) rfl rfl (Nat.le_of_ble_eq_true rfl) dB_3_1_4.2.2.1.2 (fun H locs hP hD hS => ?_)
                refine pd_K [ob12_0_ mo 0 s1 y_33 s3 s4 g5 g6 g7 g8 g9 g10 s11 g12 g13 g14 g15 g16 g17 g18 g19 g20 s21 g22 g23 g24 s25 s26 s27 s28 g29 g30 g31 g32 g33, ai_ cy g5 40 f5, ai_ cy g8 40 f8, ai_ cy g9 40 f9] hP hD (fun hP hD => ?_)
                refine lv_aload_n hx hb dB_3_1_4.2.2.2.1 rfl (lv_at hl 1 rfl) ?_
                refine lv_iload_n hx hb dB_3_1_4.2.2.2.2 rfl (lv_at hl 2 rfl) ?_
                refine lv_iload_n hx hb dB_3_1_5.1 rfl (lv_at hl 0 rfl) ?_
                refine ct_R hP hD [ob12_0_ mo 0 s1 y_33 s3 s4 g5 g6 g7 g8 g9 g10 s11 g12 g13 g14 g15 g16 g17 g18 g19 g20 s21 g22 g23 g24 s25 s26 s27 s28 g29 g30 g31 g32 g33, ai_ cy g5 40 f5, ai_ cy g8 40 f8] [0, 1, 2] (by decide) rfl (fun hPc hDw => ?_)
                have hFc := va_free (wc := []) hD hS hA [] rfl
                refine va_calli (va_runV (As := [.int a1, .int 1]) (rest := []) ⟨hx, hb, hml, hown, hts⟩ (c_X12_lets l D cy H.size mo g5 g6 g7 g8 g9 g10 g12 g13 g14 g15 g16 g17 g18 g19 g20 g22 g23 g24 g29 g30 g31 g32 g33 (0 : Int32) s1 s3 s4 s11 s21 s25 s26 s27 s28 y_33 f5 f8 a1 (1 : Int32) (by first | with_reducible assumption | omega | assumption)) (cwV 2 hts gX12_ask_X12_lets rfl rfl rfl ⟨rfl, hd_X12_lets⟩ ⟨Nat.le_of_ble_eq_true rfl, Nat.le_of_ble_eq_true rfl⟩) ⟨bl_, va_recvX hK.1 hP (ci := 12) (q0 := 0) rfl rfl, fun U hU hW => ⟨rfl, by rw [hU], by rw [hU]; exact hPc, kk_mv hW hK, hDw⟩⟩ rfl rfl hl.1 rfl (lv_room (Nat.le_of_ble_eq_true rfl)) dB_3_1_5.2.1 ⟨Nat.le_of_ble_eq_true rfl, Nat.le_of_ble_eq_true rfl⟩) hS (fun q _ h => hFc q h) hFc (fun r_34 u t H locs ht hvm hw hB hz1 hk1 hS => ?_)
                have hP : va_P D vwCl _ H := ro_keep hP hk1
                have f0_r_34 := hw
                have hle_ := letsI f0_r_34
                rw [hQ]
                exact W.iret (v := r_34) hx hb hr (fun t ht hW => ⟨⟨r_34, (), rfl, (by first | (unfold akI; (repeat' split) <;> omega) | (unfold akI; (repeat' split at hle_ ⊢) <;> omega)), y_33, by rw [ht]; exact hP, hD⟩, hS.F ht⟩) hS.2.2 dB_3_1_5.2.2
          · have t_7 : a2.toInt = (2 : Int32).toInt := congrArg Int32.toInt c_7
            refine lv_aload_n hx hb dB_3_1_2.1.1.2.1 rfl (lv_at hl 0 rfl) ?_
            refine lv_dup hx hb dB_3_1_2.1.1.2.2 rfl ?_
            refine va_get (ci := 12) (v := .long t2) (C := RX12) (T := TX12) (N := 34) hx hb hts (fun _ h => List.mem_cons_of_mem _ (List.mem_append_right _ h)) hown hK.1 hP 0 rfl rfl 2 (by decide) (hts (.fieldLink RX12 114 "CutAtlasModel" "trace" "J") (List.mem_of_getElem? (i := 3) rfl)) (fun _ h9 => h9) rfl dB_3_1_2.1.2.1.1 ?_
            refine lv_aload_n hx hb dB_3_1_2.1.2.1.2 rfl (lv_at hl 0 rfl) ?_
            refine lv_iload_n hx hb dB_3_1_2.1.2.2.1 rfl (lv_at hl 1 rfl) ?_
            refine ct_R hP hD [ob12_0_ mo 0 s1 t2 s3 s4 g5 g6 g7 g8 g9 g10 s11 g12 g13 g14 g15 g16 g17 g18 g19 g20 s21 g22 g23 g24 s25 s26 s27 s28 g29 g30 g31 g32 g33, ai_ cy g5 40 f5] [0, 1] (by decide) rfl (fun hPc hDw => ?_)
            have hFc := va_free (wc := []) hD hS hA [] rfl
            refine va_calll (va_runV (As := [.int a1]) (rest := [.long t2, .ref mo]) ⟨hx, hb, hml, hown, hts⟩ (c_X12_costsTrace l D cy H.size mo g5 g6 g7 g8 g9 g10 g12 g13 g14 g15 g16 g17 g18 g19 g20 g22 g23 g24 g29 g30 g31 g32 g33 (0 : Int32) s1 s3 s4 s11 s21 s25 s26 s27 s28 t2 f5 a1 (by first | with_reducible assumption | omega | assumption)) (cwV 1 hts gX12_ask_X12_costsTrace rfl rfl rfl ⟨rfl, hd_X12_costsTrace⟩ ⟨Nat.le_of_ble_eq_true rfl, Nat.le_of_ble_eq_true rfl⟩) ⟨bl_, va_recvX hK.1 hP (ci := 12) (q0 := 0) rfl rfl, fun U hU hW => ⟨rfl, by rw [hU], by rw [hU]; exact hPc, kk_mv hW hK, hDw⟩⟩ rfl rfl hl.1 rfl (lv_room (Nat.le_of_ble_eq_true rfl)) dB_3_1_2.1.2.2.2 ⟨Nat.le_of_ble_eq_true rfl, Nat.le_of_ble_eq_true rfl⟩) hS (fun q _ h => hFc q h) hFc (fun r_35 u t H locs ht hvm hw hB hz1 hk1 hS => ?_)
            have hP : va_P D vwCl _ H := ro_keep hP hk1
            refine lv_ladd hx hb dB_3_1_2.2.1.1.1 ?_
            refine lv_topl (fun y_36 ey_36 => ?_)
            refine va_put (ci := 12) (v := .long y_36) (ty := .long) (C := RX12) (T := TX12) (N := 34) hx hb hts (fun _ h => List.mem_cons_of_mem _ (List.mem_append_right _ h)) tyX12 tyX12_ok nmX12 hown hK.1 hP hD hS 0 rfl rfl 2 (by decide) (hts (.fieldLink RX12 114 "CutAtlasModel" "trace" "J") (List.mem_of_getElem? (i := 3) rfl)) (fun _ h9 => h9) rfl (by decide +kernel) rfl rfl (Nat.le_of_ble_eq_true rfl) dB_3_1_2.2.1.1.2 (fun H locs hP hD hS => ?_)
            refine pd_K [ob12_0_ mo 0 s1 y_36 s3 s4 g5 g6 g7 g8 g9 g10 s11 g12 g13 g14 g15 g16 g17 g18 g19 g20 s21 g22 g23 g24 s25 s26 s27 s28 g29 g30 g31 g32 g33, ai_ cy g5 40 f5, ai_ cy g8 40 f8, ai_ cy g9 40 f9] hP hD (fun hP hD => ?_)
            refine lv_aload_n hx hb dB_3_1_2.2.1.2.1 rfl (lv_at hl 0 rfl) ?_
            refine lv_iload_n hx hb dB_3_1_2.2.1.2.2 rfl (lv_at hl 1 rfl) ?_
            refine ct_R hP hD [ob12_0_ mo 0 s1 y_36 s3 s4 g5 g6 g7 g8 g9 g10 s11 g12 g13 g14 g15 g16 g17 g18 g19 g20 s21 g22 g23 g24 s25 s26 s27 s28 g29 g30 g31 g32 g33, ai_ cy g5 40 f5, ai_ cy g9 40 f9] [0, 1, 3] (by decide) rfl (fun hPc hDw => ?_)
            have hFc := va_free (wc := []) hD hS hA [] rfl
            refine va_calli (va_runV (As := [.int a1]) (rest := []) ⟨hx, hb, hml, hown, hts⟩ (c_X12_costs3 l D cy H.size mo g5 g6 g7 g8 g9 g10 g12 g13 g14 g15 g16 g17 g18 g19 g20 g22 g23 g24 g29 g30 g31 g32 g33 (0 : Int32) s1 s3 s4 s11 s21 s25 s26 s27 s28 y_36 f5 f9 a1 (by first | with_reducible assumption | omega | assumption) (by first | with_reducible assumption | assumption | omega)) (cwV 1 hts gX12_ask_X12_costs rfl rfl rfl ⟨rfl, hd_X12_costs⟩ ⟨Nat.le_of_ble_eq_true rfl, Nat.le_of_ble_eq_true rfl⟩) ⟨bl_, va_recvX hK.1 hP (ci := 12) (q0 := 0) rfl rfl, fun U hU hW => ⟨rfl, by rw [hU], by rw [hU]; exact hPc, kk_mv hW hK, hDw⟩⟩ rfl rfl hl.1 rfl (lv_room (Nat.le_of_ble_eq_true rfl)) dB_3_1_2.2.2.1.1 ⟨Nat.le_of_ble_eq_true rfl, Nat.le_of_ble_eq_true rfl⟩) hS (fun q _ h => hFc q h) hFc (fun r_37 u t H locs ht hvm hw hB hz1 hk1 hS => ?_)
            have hP : va_P D vwCl _ H := ro_keep hP hk1
            obtain ⟨f0_r_37, f1_r_37, f2_r_37⟩ := hw
            rw [hQ]
            exact W.iret (v := r_37) hx hb hr (fun t ht hW => ⟨⟨r_37, (), rfl, (by first | (unfold akI; (repeat' split) <;> omega) | (unfold akI; (repeat' split at hle_ ⊢) <;> omega)), y_36, by rw [ht]; exact hP, hD⟩, hS.F ht⟩) hS.2.2 dB_3_1_2.2.2.1.2
        · exact absurd c_6 (by decide)
      · have e_ := e_.symm
        subst e_
        refine lv_if_ne (tgt := 27) hx hb dB_3_1_1.2.2.1.1 (by decide) (fun c_38 => ?_) (fun c_38 => ?_)
        · exact absurd c_38 (by decide)
        · have _ := c_38
          refine lv_iconst (v := (-1)) hx hb dB_3_1_1.2.2.1.2 (by decide) ?_
          rw [hQ]
          exact W.iret (v := (-1)) hx hb hr (fun t ht hW => ⟨⟨(-1), (), rfl, (by first | (unfold akI; (repeat' split) <;> omega) | (unfold akI; (repeat' split at hle_ ⊢) <;> omega)), t2, by rw [ht]; exact hP, hD⟩, hS.F ht⟩) hS.2.2 dB_3_1_1.2.2.2.1
  · have e_ := e_.symm
    subst e_
    refine lv_if_eq (tgt := 25) hx hb dB_3_1_1.1.2.2.1 (by decide) (fun c_39 => ?_) (fun c_39 => ?_)
    · have _ := c_39
      refine lv_iconst (v := (-1)) hx hb dB_3_1_1.2.2.1.2 (by decide) ?_
      rw [hQ]
      exact W.iret (v := (-1)) hx hb hr (fun t ht hW => ⟨⟨(-1), (), rfl, (by first | (unfold akI; (repeat' split) <;> omega) | (unfold akI; (repeat' split at hle_ ⊢) <;> omega)), t2, by rw [ht]; exact hP, hD⟩, hS.F ht⟩) hS.2.2 dB_3_1_1.2.2.2.1
    · exact absurd c_39 (by decide)

set_option maxHeartbeats 4000000 in
set_option maxRecDepth 100000 in
theorem c_X12_about2 (l : Launch) (D : va_G) (cy : Nat → ClassId) (sz : Nat) (mo : Nat) (g5 : Nat) (g6 : Nat) (g7 : Nat) (g8 : Nat) (g9 : Nat) (g10 : Nat) (g12 : Nat) (g13 : Nat) (g14 : Nat) (g15 : Nat) (g16 : Nat) (g17 : Nat) (g18 : Nat) (g19 : Nat) (g20 : Nat) (g22 : Nat) (g23 : Nat) (g24 : Nat) (g29 : Nat) (g30 : Nat) (g31 : Nat) (g32 : Nat) (g33 : Nat) (s0 : Int32) (s1 : Int32) (s3 : Int32) (s4 : Int32) (s11 : Int32) (s21 : Int32) (s25 : Int32) (s26 : Int32) (s27 : Int32) (s28 : Int32) (t2 : Int64) (f5 : Nat → Int32) (f10 : Nat → Int32) (a1 : Int32) (hN : 0 ≤ s4.toInt ∧ s4.toInt ≤ 40) : Met l yX12_about wsX12_about ({ frames := 1, cells := 0, slots := 0, locals := 22 }) (va_Pc [.ref mo, .int a1] (fun U => U.heap.size = sz ∧ va_P D vwCl [ob12_0_ mo s0 s1 t2 s3 s4 g5 g6 g7 g8 g9 g10 s11 g12 g13 g14 g15 g16 g17 g18 g19 g20 s21 g22 g23 g24 s25 s26 s27 s28 g29 g30 g31 g32 g33, ai_ cy g5 40 f5, az_ cy g10 40 f10] U.heap ∧ kk_ D cy U ∧ va_D (fun _ => True) [ob12_0_ mo s0 s1 t2 s3 s4 g5 g6 g7 g8 g9 g10 s11 g12 g13 g14 g15 g16 g17 g18 g19 g20 s21 g22 g23 g24 s25 s26 s27 s28 g29 g30 g31 g32 g33, ai_ cy g5 40 f5, az_ cy g10 40 f10])) (va_Qi (fun (r : Int32) (_ : Unit) => (r.toInt = abI a1.toInt s3.toInt s4.toInt (sumI (mgC f10) s4.toNatClampNeg) s11.toInt (whI s3.toInt (sumI (bkR f5 f10) s4.toNatClampNeg)))) (fun (_ : Unit) (t : State) => va_P D vwCl [ob12_0_ mo 0 s1 t2 s3 s4 g5 g6 g7 g8 g9 g10 s11 g12 g13 g14 g15 g16 g17 g18 g19 g20 s21 g22 g23 g24 s25 s26 s27 s28 g29 g30 g31 g32 g33, ai_ cy g5 40 f5, az_ cy g10 40 f10] t.heap ∧ va_D (va_A [ob12_0_ mo s0 s1 t2 s3 s4 g5 g6 g7 g8 g9 g10 s11 g12 g13 g14 g15 g16 g17 g18 g19 g20 s21 g22 g23 g24 s25 s26 s27 s28 g29 g30 g31 g32 g33, ai_ cy g5 40 f5, az_ cy g10 40 f10] sz) [ob12_0_ mo 0 s1 t2 s3 s4 g5 g6 g7 g8 g9 g10 s11 g12 g13 g14 g15 g16 g17 g18 g19 g20 s21 g22 g23 g24 s25 s26 s27 s28 g29 g30 g31 g32 g33, ai_ cy g5 40 f5, az_ cy g10 40 f10]) (va_A [ob12_0_ mo s0 s1 t2 s3 s4 g5 g6 g7 g8 g9 g10 s11 g12 g13 g14 g15 g16 g17 g18 g19 g20 s21 g22 g23 g24 s25 s26 s27 s28 g29 g30 g31 g32 g33, ai_ cy g5 40 f5, az_ cy g10 40 f10] sz)) 0 0 (va_A [ob12_0_ mo s0 s1 t2 s3 s4 g5 g6 g7 g8 g9 g10 s11 g12 g13 g14 g15 g16 g17 g18 g19 g20 s21 g22 g23 g24 s25 s26 s27 s28 g29 g30 g31 g32 g33, ai_ cy g5 40 f5, az_ cy g10 40 f10] sz) := by
  refine ofQ (cc := cX12_about) (maxL := 4) (ret := (some .int)) (by decide) rfl ?_
  intro p e s m args below meth c s₁ Q hQ B hml hv
  obtain ⟨rfl, hsz, hP, hK, hD0⟩ := hv
  have hx := B.exec
  have hb := B.bytes
  have hr := B.returns
  have hts := atoms_spec (ws := wsX12_about) B.pre
  have hown : s.vm.findClass RX12 = some m.cls := by have h_ := findClass_of_methodNamed B.named; exact h_
  have hlocks := B.notSynchronized
  subst hsz
  have hD := hD0.self (sz := s.heap.size)
  generalize hAe : va_A [ob12_0_ mo s0 s1 t2 s3 s4 g5 g6 g7 g8 g9 g10 s11 g12 g13 g14 g15 g16 g17 g18 g19 g20 s21 g22 g23 g24 s25 s26 s27 s28 g29 g30 g31 g32 g33, ai_ cy g5 40 f5, az_ cy g10 40 f10] s.heap.size = A at hD hQ
  have hA : ∀ q : Nat, s.heap.size ≤ q → A q := fun q h => by rw [← hAe]; exact Or.inr h
  have hS : va_S A s.heap s.heap [] := va_S.rf
  have hl := lv_entry ([.ref mo, .int a1]) (n := 4) (Nat.le_of_ble_eq_true rfl)
  rw [lg_entry_eq]
  generalize (lg_sl ([.ref mo, .int a1]) ++ List.replicate (4 - (lg_sl ([.ref mo, .int a1])).length) Slot.unset).toArray = ls at hl ⊢
  have hl : lv_has ls 4 [(0, .ref mo), (1, .int a1)] := hl
  have zm1 : ((-1) : Int32).toInt = -1 := by decide
  have z0 : (0 : Int32).toInt = 0 := by decide
  have z1 : (1 : Int32).toInt = 1 := by decide
  have z2 : (2 : Int32).toInt = 2 := by decide
  have z3 : (3 : Int32).toInt = 3 := by decide
  have z4 : (4 : Int32).toInt = 4 := by decide
  refine lv_aload_n hx hb dB_3_3_0.1.1.1.1 rfl (lv_at hl 0 rfl) ?_
  refine lv_iconst (v := 0) hx hb dB_3_3_0.1.1.1.2 (by decide) ?_
  refine va_put (ci := 12) (v := .int 0) (ty := .int) (C := RX12) (T := TX12) (N := 34) hx hb hts (fun _ h => List.mem_cons_of_mem _ (List.mem_append_right _ h)) tyX12 tyX12_ok nmX12 hown hK.1 hP hD hS 0 rfl rfl 0 (by decide) (hts (.fieldLink RX12 85 "CutAtlasModel" "thrown" "I") (List.mem_of_getElem? (i := 1) rfl)) (fun _ h9 => h9) rfl (by decide +kernel) rfl rfl (Nat.le_of_ble_eq_true rfl) dB_3_3_0.1.1.2.1 (fun H locs hP hD hS => ?_)
  refine pd_K [ob12_0_ mo 0 s1 t2 s3 s4 g5 g6 g7 g8 g9 g10 s11 g12 g13 g14 g15 g16 g17 g18 g19 g20 s21 g22 g23 g24 s25 s26 s27 s28 g29 g30 g31 g32 g33, ai_ cy g5 40 f5, az_ cy g10 40 f10] hP hD (fun hP hD => ?_)
  refine lv_iconst (v := 0) hx hb dB_3_3_0.1.1.2.2 (by decide) ?_
  refine lv_istore_n (lv' := [(2, .int 0), (0, .ref mo), (1, .int a1)]) hx hb dB_3_3_0.1.2.1.1 rfl hl (by decide) rfl (fun ls hl => ?_)
  refine lv_iconst (v := 0) hx hb dB_3_3_0.1.2.1.2 (by decide) ?_
  refine lv_istore_n (lv' := [(3, .int 0), (2, .int 0), (0, .ref mo), (1, .int a1)]) hx hb dB_3_3_0.1.2.2.1 rfl hl (by decide) rfl (fun ls hl => ?_)
  suffices LOOP_1 : ∀ (n_1 : Nat) (x3_1 : Int32) (x2_1 : Int32) (H : Heap) (locs : List Loc) (ls : Array Slot), s4.toInt - x3_1.toInt < (n_1 : Int) → (0 ≤ x3_1.toInt) → (x3_1.toInt ≤ s4.toInt) → (0 ≤ x2_1.toInt ∧ x2_1.toInt ≤ x3_1.toInt) → (x2_1.toInt = sumI (mgC f10) x3_1.toNatClampNeg) → pd_2 D vwCl A [ob12_0_ mo 0 s1 t2 s3 s4 g5 g6 g7 g8 g9 g10 s11 g12 g13 g14 g15 g16 g17 g18 g19 g20 s21 g22 g23 g24 s25 s26 s27 s28 g29 g30 g31 g32 g33, ai_ cy g5 40 f5, az_ cy g10 40 f10] H → va_S A s.heap H locs → lv_has ls 4 [(3, .int x3_1), (2, .int x2_1), (0, .ref mo), (1, .int a1)] → W p l e ({ frames := 1, cells := 0, slots := 0, locals := 22 } : Room) s m (([.ref mo, .int a1] : List Value).toArray) below meth c H locs 0 0 Q (F0 m 9 ls []) from LOOP_1 ((s4.toInt - (0 : Int32).toInt).toNat + 1) (0 : Int32) (0 : Int32) _ _ _ (by omega) (by first | with_reducible assumption | omega | assumption) (by first | with_reducible assumption | omega | assumption) (by first | with_reducible assumption | omega | assumption) (by first | exact sum_0 | exact cnt_st v_none (by unfold mgC; (repeat' (first | with_reducible refine if_n (by omega) ?_ | with_reducible refine if_ns (by omega) ?_ | with_reducible refine if_nz (by omega) ?_ | with_reducible exact if_p (by omega) (by omega) | with_reducible exact if_ps (by omega) (by omega) | with_reducible exact if_pz (by omega) (by omega))) <;> omega) (by omega) (by omega)) ⟨hP, hD⟩ hS (lv_sub hl [0, 1, 2, 3] rfl)
  intro n_1
  induction n_1 with
  | zero =>
    intro x3_1 x2_1 H locs ls hm v0_1 v1_1 v2_1 v3_1 hPD hS hl; obtain ⟨hP, hD⟩ := hPD
    exact absurd hm (by omega)
  | succ n_1 ih_1 =>
    intro x3_1 x2_1 H locs ls hm v0_1 v1_1 v2_1 v3_1 hPD hS hl; obtain ⟨hP, hD⟩ := hPD
    refine lv_iload_n hx hb dB_3_3_0.1.2.2.2 rfl (lv_at hl 0 rfl) ?_
    refine lv_aload_n hx hb dB_3_3_0.2.1.1.1 rfl (lv_at hl 2 rfl) ?_
    refine va_get (ci := 12) (v := .int s4) (C := RX12) (T := TX12) (N := 34) hx hb hts (fun _ h => List.mem_cons_of_mem _ (List.mem_append_right _ h)) hown hK.1 hP 0 rfl rfl 4 (by decide) (hts (.fieldLink RX12 95 "CutAtlasModel" "lines" "I") (List.mem_of_getElem? (i := 2) rfl)) (fun _ h9 => h9) rfl dB_3_3_0.2.1.1.2 ?_
    refine lv_icmp_ge (tgt := 40) hx hb dB_3_3_0.2.1.2.1 (by decide) (fun c_2 => ?_) (fun c_2 => ?_)
    · have t_2 : s4.toInt ≤ x3_1.toInt := Int32.le_iff_toInt_le.mp c_2
      have hct_ := sum_end v3_1 (show x3_1.toInt = s4.toInt by omega)
      refine lv_iload_n hx hb dB_3_3_1.2.1.1.1 rfl (lv_at hl 3 rfl) ?_
      refine lv_if_ne (tgt := 51) hx hb dB_3_3_1.2.1.1.2 (by decide) (fun c_3 => ?_) (fun c_3 => ?_)
      · have t_3 : ¬ a1.toInt = (0 : Int32).toInt := fun h => c_3 (Int32.toInt_inj.mp h)
        refine lv_iload_n hx hb dB_3_3_1.2.2.1.2 rfl (lv_at hl 3 rfl) ?_
        refine lv_iconst (v := 1) hx hb dB_3_3_1.2.2.2.1 (by decide) ?_
        refine lv_icmp_ne (tgt := 63) hx hb dB_3_3_1.2.2.2.2 (by decide) (fun c_4 => ?_) (fun c_4 => ?_)
        · have t_4 : ¬ a1.toInt = (1 : Int32).toInt := fun h => c_4 (Int32.toInt_inj.mp h)
          refine lv_iload_n hx hb dB_3_3_2.1.1.2.2 rfl (lv_at hl 3 rfl) ?_
          refine lv_iconst (v := 2) hx hb dB_3_3_2.1.2.1.1 (by decide) ?_
          refine lv_icmp_ne (tgt := 72) hx hb dB_3_3_2.1.2.1.2 (by decide) (fun c_5 => ?_) (fun c_5 => ?_)
          · have t_5 : ¬ a1.toInt = (2 : Int32).toInt := fun h => c_5 (Int32.toInt_inj.mp h)
            refine lv_iload_n hx hb dB_3_3_2.2.1.1.1 rfl (lv_at hl 3 rfl) ?_
            refine lv_iconst (v := 3) hx hb dB_3_3_2.2.1.1.2 (by decide) ?_
            refine lv_icmp_ne (tgt := 84) hx hb dB_3_3_2.2.1.2.1 (by decide) (fun c_6 => ?_) (fun c_6 => ?_)
            · have t_6 : ¬ a1.toInt = (3 : Int32).toInt := fun h => c_6 (Int32.toInt_inj.mp h)
              refine lv_iload_n hx hb dB_3_3_2.2.2.2.1 rfl (lv_at hl 3 rfl) ?_
              refine lv_iconst (v := 4) hx hb dB_3_3_2.2.2.2.2 (by decide) ?_
              refine lv_icmp_ne (tgt := 104) hx hb dB_3_3_3.1.1.1 (by decide) (fun c_7 => ?_) (fun c_7 => ?_)
              · have t_7 : ¬ a1.toInt = (4 : Int32).toInt := fun h => c_7 (Int32.toInt_inj.mp h)
                refine lv_iconst (v := (-1)) hx hb dB_3_3_3.2.2.2.1 (by decide) ?_
                rw [hQ]
                exact W.iret (v := (-1)) hx hb hr (fun t ht hW => ⟨⟨(-1), (), rfl, (by unfold abI; (repeat' (first | with_reducible refine if_n (by omega) ?_ | with_reducible refine if_ns (by omega) ?_ | with_reducible refine if_nz (by omega) ?_ | with_reducible exact if_p (by omega) (by omega) | with_reducible exact if_ps (by omega) (by omega) | with_reducible exact if_pz (by omega) (by omega))) <;> omega), by rw [ht]; exact hP, hD⟩, hS.F ht⟩) hS.2.2 dB_3_3_3.2.2.2.2
              · have t_7 : a1.toInt = (4 : Int32).toInt := congrArg Int32.toInt c_7
                refine lv_aload_n hx hb dB_3_3_3.1.1.2 rfl (lv_at hl 2 rfl) ?_
                refine ct_R hP hD [ob12_0_ mo 0 s1 t2 s3 s4 g5 g6 g7 g8 g9 g10 s11 g12 g13 g14 g15 g16 g17 g18 g19 g20 s21 g22 g23 g24 s25 s26 s27 s28 g29 g30 g31 g32 g33, ai_ cy g5 40 f5, az_ cy g10 40 f10] [0, 1, 2] (by decide) rfl (fun hPc hDw => ?_)
                have hFc := va_free (wc := []) hD hS hA [] rfl
                refine va_calli (va_runV (As := []) (rest := []) ⟨hx, hb, hml, hown, hts⟩ (c_X12_isWhole2 l D cy H.size mo g5 g6 g7 g8 g9 g10 g12 g13 g14 g15 g16 g17 g18 g19 g20 g22 g23 g24 g29 g30 g31 g32 g33 (0 : Int32) s1 s3 s4 s11 s21 s25 s26 s27 s28 t2 f5 f10 (by first | with_reducible assumption | omega | assumption)) (cwV 0 hts gX12_about_X12_isWhole rfl rfl rfl ⟨rfl, hd_X12_isWhole⟩ ⟨Nat.le_of_ble_eq_true rfl, Nat.le_of_ble_eq_true rfl⟩) ⟨bl_, va_recvX hK.1 hP (ci := 12) (q0 := 0) rfl rfl, fun U hU hW => ⟨rfl, by rw [hU], by rw [hU]; exact hPc, kk_mv hW hK, hDw⟩⟩ rfl rfl hl.1 rfl (lv_room (Nat.le_of_ble_eq_true rfl)) dB_3_3_3.1.2.1 ⟨Nat.le_of_ble_eq_true rfl, Nat.le_of_ble_eq_true rfl⟩) hS (fun q _ h => hFc q h) hFc (fun r_8 u t H locs ht hvm hw hB hz1 hk1 hS => ?_)
                have hP : va_P D vwCl _ H := ro_keep hP hk1
                obtain ⟨f0_r_8, f1_r_8⟩ := hw
                refine lv_if_eq (tgt := 100) hx hb dB_3_3_3.1.2.2.1 (by decide) (fun c_9 => ?_) (fun c_9 => ?_)
                · have t_9 : r_8.toInt = (0 : Int32).toInt := congrArg Int32.toInt c_9
                  refine lv_iconst (v := 0) hx hb dB_3_3_3.2.1.2 (by decide) ?_
                  refine lv_goto (tgt := 105) hx hb dB_3_3_3.2.2.1 (by decide) ?_
                  rw [hQ]
                  exact W.iret (v := 0) hx hb hr (fun t ht hW => ⟨⟨0, (), rfl, (by unfold abI; (repeat' (first | with_reducible refine if_n (by omega) ?_ | with_reducible refine if_ns (by omega) ?_ | with_reducible refine if_nz (by omega) ?_ | with_reducible exact if_p (by omega) (by omega) | with_reducible exact if_ps (by omega) (by omega) | with_reducible exact if_pz (by omega) (by omega))) <;> omega), by rw [ht]; exact hP, hD⟩, hS.F ht⟩) hS.2.2 dB_3_3_3.2.2.2.2
                · have t_9 : ¬ r_8.toInt = (0 : Int32).toInt := fun h => c_9 (Int32.toInt_inj.mp h)
                  refine lv_iconst (v := 1) hx hb dB_3_3_3.1.2.2.2 (by decide) ?_
                  refine lv_goto (tgt := 105) hx hb dB_3_3_3.2.1.1 (by decide) ?_
                  rw [hQ]
                  exact W.iret (v := 1) hx hb hr (fun t ht hW => ⟨⟨1, (), rfl, (by unfold abI; (repeat' (first | with_reducible refine if_n (by omega) ?_ | with_reducible refine if_ns (by omega) ?_ | with_reducible refine if_nz (by omega) ?_ | with_reducible exact if_p (by omega) (by omega) | with_reducible exact if_ps (by omega) (by omega) | with_reducible exact if_pz (by omega) (by omega))) <;> omega), by rw [ht]; exact hP, hD⟩, hS.F ht⟩) hS.2.2 dB_3_3_3.2.2.2.2
            · have t_6 : a1.toInt = (3 : Int32).toInt := congrArg Int32.toInt c_6
              refine lv_aload_n hx hb dB_3_3_2.2.1.2.2 rfl (lv_at hl 2 rfl) ?_
              refine va_get (ci := 12) (v := .int s11) (C := RX12) (T := TX12) (N := 34) hx hb hts (fun _ h => List.mem_cons_of_mem _ (List.mem_append_right _ h)) hown hK.1 hP 0 rfl rfl 11 (by decide) (hts (.fieldLink RX12 102 "CutAtlasModel" "undone" "I") (List.mem_of_getElem? (i := 5) rfl)) (fun _ h9 => h9) rfl dB_3_3_2.2.2.1.1 ?_
              refine lv_goto (tgt := 105) hx hb dB_3_3_2.2.2.1.2 (by decide) ?_
              rw [hQ]
              exact W.iret (v := s11) hx hb hr (fun t ht hW => ⟨⟨s11, (), rfl, (by unfold abI; (repeat' (first | with_reducible refine if_n (by omega) ?_ | with_reducible refine if_ns (by omega) ?_ | with_reducible refine if_nz (by omega) ?_ | with_reducible exact if_p (by omega) (by omega) | with_reducible exact if_ps (by omega) (by omega) | with_reducible exact if_pz (by omega) (by omega))) <;> omega), by rw [ht]; exact hP, hD⟩, hS.F ht⟩) hS.2.2 dB_3_3_3.2.2.2.2
          · have t_5 : a1.toInt = (2 : Int32).toInt := congrArg Int32.toInt c_5
            refine lv_iload_n hx hb dB_3_3_2.1.2.2.1 rfl (lv_at hl 1 rfl) ?_
            refine lv_goto (tgt := 105) hx hb dB_3_3_2.1.2.2.2 (by decide) ?_
            rw [hQ]
            exact W.iret (v := x2_1) hx hb hr (fun t ht hW => ⟨⟨x2_1, (), rfl, (by unfold abI; (repeat' (first | with_reducible refine if_n (by omega) ?_ | with_reducible refine if_ns (by omega) ?_ | with_reducible refine if_nz (by omega) ?_ | with_reducible exact if_p (by omega) (by omega) | with_reducible exact if_ps (by omega) (by omega) | with_reducible exact if_pz (by omega) (by omega))) <;> omega), by rw [ht]; exact hP, hD⟩, hS.F ht⟩) hS.2.2 dB_3_3_3.2.2.2.2
        · have t_4 : a1.toInt = (1 : Int32).toInt := congrArg Int32.toInt c_4
          refine lv_aload_n hx hb dB_3_3_2.1.1.1.1 rfl (lv_at hl 2 rfl) ?_
          refine va_get (ci := 12) (v := .int s4) (C := RX12) (T := TX12) (N := 34) hx hb hts (fun _ h => List.mem_cons_of_mem _ (List.mem_append_right _ h)) hown hK.1 hP 0 rfl rfl 4 (by decide) (hts (.fieldLink RX12 95 "CutAtlasModel" "lines" "I") (List.mem_of_getElem? (i := 2) rfl)) (fun _ h9 => h9) rfl dB_3_3_2.1.1.1.2 ?_
          refine lv_goto (tgt := 105) hx hb dB_3_3_2.1.1.2.1 (by decide) ?_
          rw [hQ]
          exact W.iret (v := s4) hx hb hr (fun t ht hW => ⟨⟨s4, (), rfl, (by unfold abI; (repeat' (first | with_reducible refine if_n (by omega) ?_ | with_reducible refine if_ns (by omega) ?_ | with_reducible refine if_nz (by omega) ?_ | with_reducible exact if_p (by omega) (by omega) | with_reducible exact if_ps (by omega) (by omega) | with_reducible exact if_pz (by omega) (by omega))) <;> omega), by rw [ht]; exact hP, hD⟩, hS.F ht⟩) hS.2.2 dB_3_3_3.2.2.2.2
      · have t_3 : a1.toInt = (0 : Int32).toInt := congrArg Int32.toInt c_3
        refine lv_aload_n hx hb dB_3_3_1.2.1.2.1 rfl (lv_at hl 2 rfl) ?_
        refine va_get (ci := 12) (v := .int s3) (C := RX12) (T := TX12) (N := 34) hx hb hts (fun _ h => List.mem_cons_of_mem _ (List.mem_append_right _ h)) hown hK.1 hP 0 rfl rfl 3 (by decide) (hts (.fieldLink RX12 88 "CutAtlasModel" "places" "I") (List.mem_of_getElem? (i := 4) rfl)) (fun _ h9 => h9) rfl dB_3_3_1.2.1.2.2 ?_
        refine lv_goto (tgt := 105) hx hb dB_3_3_1.2.2.1.1 (by decide) ?_
        rw [hQ]
        exact W.iret (v := s3) hx hb hr (fun t ht hW => ⟨⟨s3, (), rfl, (by unfold abI; (repeat' (first | with_reducible refine if_n (by omega) ?_ | with_reducible refine if_ns (by omega) ?_ | with_reducible refine if_nz (by omega) ?_ | with_reducible exact if_p (by omega) (by omega) | with_reducible exact if_ps (by omega) (by omega) | with_reducible exact if_pz (by omega) (by omega))) <;> omega), by rw [ht]; exact hP, hD⟩, hS.F ht⟩) hS.2.2 dB_3_3_3.2.2.2.2
    · have t_2 : ¬ s4.toInt ≤ x3_1.toInt := fun h => c_2 (Int32.le_iff_toInt_le.mpr h)
      refine lv_iload_n hx hb dB_3_3_0.2.1.2.2 rfl (lv_at hl 1 rfl) ?_
      refine lv_aload_n hx hb dB_3_3_0.2.2.1.1 rfl (lv_at hl 2 rfl) ?_
      refine va_get (ci := 12) (v := .ref g10) (C := RX12) (T := TX12) (N := 34) hx hb hts (fun _ h => List.mem_cons_of_mem _ (List.mem_append_right _ h)) hown hK.1 hP 0 rfl rfl 10 (by decide) (hts (.fieldLink RX12 25 "CutAtlasModel" "isMissing" "[Z") (List.mem_of_getElem? (i := 3) rfl)) (fun _ h9 => h9) rfl dB_3_3_0.2.2.1.2 ?_
      refine lv_iload_n hx hb dB_3_3_0.2.2.2.1 rfl (lv_at hl 0 rfl) ?_
      have h_10 : vp_in x3_1 40 := in_I (by first | with_reducible assumption | omega) (by omega)
      refine va_zald hx hb hK.1 hP 2 2 rfl rfl (i := x3_1) h_10 dB_3_3_0.2.2.2.2 ?_
      refine lv_topi (fun y_11 ey_11 => ?_)
      have ky_11 : y_11.toInt = (f10 x3_1.toNatClampNeg).toInt := by rw [ey_11]
      refine lv_if_eq (tgt := 31) hx hb dB_3_3_1.1.1.1.1 (by decide) (fun c_12 => ?_) (fun c_12 => ?_)
      · have t_12 : y_11.toInt = (0 : Int32).toInt := congrArg Int32.toInt c_12
        refine lv_iconst (v := 0) hx hb dB_3_3_1.1.1.2.2 (by decide) ?_
        refine lv_iadd hx hb dB_3_3_1.1.2.1.1 ?_
        refine lv_topi (fun y_13 ey_13 => ?_)
        have ty_13 : y_13.toInt = x2_1.toInt + (0 : Int32).toInt := by rw [ey_13]; exact addI (by omega) (by omega)
        refine lv_istore_n (lv' := [(2, .int y_13), (3, .int x3_1), (0, .ref mo), (1, .int a1)]) hx hb dB_3_3_1.1.2.1.2 rfl hl (by decide) rfl (fun ls hl => ?_)
        obtain ⟨y_14, ey_14⟩ : ∃ y : Int32, y = x3_1 + 1 := ⟨_, rfl⟩
        have ty_14 : y_14.toInt = x3_1.toInt + (1 : Int32).toInt := by rw [ey_14]; exact addI (by omega) (by omega)
        refine lv_iinc (v := y_14) (lv' := [(3, .int y_14), (2, .int y_13), (0, .ref mo), (1, .int a1)]) hx hb dB_3_3_1.1.2.2.1 hl (k := 1) rfl (by rw [ey_14]; rfl) (by decide) rfl (fun ls hl => ?_)
        refine lv_goto (tgt := 9) hx hb dB_3_3_1.1.2.2.2 (by decide) ?_
        exact ih_1 y_14 y_13 _ _ _ (by omega) (by first | with_reducible assumption | omega | assumption) (by first | with_reducible assumption | omega | assumption) (by first | with_reducible assumption | omega | assumption) (by first | exact sum_0 | exact cnt_st v3_1 (by unfold mgC; (repeat' (first | with_reducible refine if_n (by omega) ?_ | with_reducible refine if_ns (by omega) ?_ | with_reducible refine if_nz (by omega) ?_ | with_reducible exact if_p (by omega) (by omega) | with_reducible exact if_ps (by omega) (by omega) | with_reducible exact if_pz (by omega) (by omega))) <;> omega) (by omega) (by omega)) ⟨hP, hD⟩ hS (lv_sub hl [0, 1, 2, 3] rfl)
      · have t_12 : ¬ y_11.toInt = (0 : Int32).toInt := fun h => c_12 (Int32.toInt_inj.mp h)
        refine lv_iconst (v := 1) hx hb dB_3_3_1.1.1.1.2 (by decide) ?_
        refine lv_goto (tgt := 32) hx hb dB_3_3_1.1.1.2.1 (by decide) ?_
        refine lv_iadd hx hb dB_3_3_1.1.2.1.1 ?_
        refine lv_topi (fun y_15 ey_15 => ?_)
        have ty_15 : y_15.toInt = x2_1.toInt + (1 : Int32).toInt := by rw [ey_15]; exact addI (by omega) (by omega)
        refine lv_istore_n (lv' := [(2, .int y_15), (3, .int x3_1), (0, .ref mo), (1, .int a1)]) hx hb dB_3_3_1.1.2.1.2 rfl hl (by decide) rfl (fun ls hl => ?_)
        obtain ⟨y_16, ey_16⟩ : ∃ y : Int32, y = x3_1 + 1 := ⟨_, rfl⟩
        have ty_16 : y_16.toInt = x3_1.toInt + (1 : Int32).toInt := by rw [ey_16]; exact addI (by omega) (by omega)
        refine lv_iinc (v := y_16) (lv' := [(3, .int y_16), (2, .int y_15), (0, .ref mo), (1, .int a1)]) hx hb dB_3_3_1.1.2.2.1 hl (k := 1) rfl (by rw [ey_16]; rfl) (by decide) rfl (fun ls hl => ?_)
        refine lv_goto (tgt := 9) hx hb dB_3_3_1.1.2.2.2 (by decide) ?_
        exact ih_1 y_16 y_15 _ _ _ (by omega) (by first | with_reducible assumption | omega | assumption) (by first | with_reducible assumption | omega | assumption) (by first | with_reducible assumption | omega | assumption) (by first | exact sum_0 | exact cnt_st v3_1 (by unfold mgC; (repeat' (first | with_reducible refine if_n (by omega) ?_ | with_reducible refine if_ns (by omega) ?_ | with_reducible refine if_nz (by omega) ?_ | with_reducible exact if_p (by omega) (by omega) | with_reducible exact if_ps (by omega) (by omega) | with_reducible exact if_pz (by omega) (by omega))) <;> omega) (by omega) (by omega)) ⟨hP, hD⟩ hS (lv_sub hl [0, 1, 2, 3] rfl)

set_option maxHeartbeats 4000000 in
set_option maxRecDepth 100000 in
theorem c_X12_status2 (l : Launch) (D : va_G) (cy : Nat → ClassId) (sz : Nat) (mo : Nat) (g5 : Nat) (g6 : Nat) (g7 : Nat) (g8 : Nat) (g9 : Nat) (g10 : Nat) (g12 : Nat) (g13 : Nat) (g14 : Nat) (g15 : Nat) (g16 : Nat) (g17 : Nat) (g18 : Nat) (g19 : Nat) (g20 : Nat) (g22 : Nat) (g23 : Nat) (g24 : Nat) (g29 : Nat) (g30 : Nat) (g31 : Nat) (g32 : Nat) (g33 : Nat) (s0 : Int32) (s1 : Int32) (s3 : Int32) (s4 : Int32) (s11 : Int32) (s21 : Int32) (s25 : Int32) (s26 : Int32) (s27 : Int32) (s28 : Int32) (t2 : Int64) : Met l yX12_status wsX12_status ({ frames := 0, cells := 0, slots := 0, locals := 0 }) (va_Pc [.ref mo] (fun U => U.heap.size = sz ∧ va_P D vwCl [ob12_0_ mo s0 s1 t2 s3 s4 g5 g6 g7 g8 g9 g10 s11 g12 g13 g14 g15 g16 g17 g18 g19 g20 s21 g22 g23 g24 s25 s26 s27 s28 g29 g30 g31 g32 g33] U.heap ∧ kk_ D cy U ∧ va_D (fun _ => True) [ob12_0_ mo s0 s1 t2 s3 s4 g5 g6 g7 g8 g9 g10 s11 g12 g13 g14 g15 g16 g17 g18 g19 g20 s21 g22 g23 g24 s25 s26 s27 s28 g29 g30 g31 g32 g33])) (va_Qi (fun (r : Int32) (_ : Unit) => (r = s1)) (fun (_ : Unit) (t : State) => va_P D vwCl [ob12_0_ mo 0 s1 t2 s3 s4 g5 g6 g7 g8 g9 g10 s11 g12 g13 g14 g15 g16 g17 g18 g19 g20 s21 g22 g23 g24 s25 s26 s27 s28 g29 g30 g31 g32 g33] t.heap ∧ va_D (va_A [ob12_0_ mo s0 s1 t2 s3 s4 g5 g6 g7 g8 g9 g10 s11 g12 g13 g14 g15 g16 g17 g18 g19 g20 s21 g22 g23 g24 s25 s26 s27 s28 g29 g30 g31 g32 g33] sz) [ob12_0_ mo 0 s1 t2 s3 s4 g5 g6 g7 g8 g9 g10 s11 g12 g13 g14 g15 g16 g17 g18 g19 g20 s21 g22 g23 g24 s25 s26 s27 s28 g29 g30 g31 g32 g33]) (va_A [ob12_0_ mo s0 s1 t2 s3 s4 g5 g6 g7 g8 g9 g10 s11 g12 g13 g14 g15 g16 g17 g18 g19 g20 s21 g22 g23 g24 s25 s26 s27 s28 g29 g30 g31 g32 g33] sz)) 0 0 (va_A [ob12_0_ mo s0 s1 t2 s3 s4 g5 g6 g7 g8 g9 g10 s11 g12 g13 g14 g15 g16 g17 g18 g19 g20 s21 g22 g23 g24 s25 s26 s27 s28 g29 g30 g31 g32 g33] sz) := by
  refine ofQ (cc := cX12_status) (maxL := 1) (ret := (some .int)) (by decide) rfl ?_
  intro p e s m args below meth c s₁ Q hQ B hml hv
  obtain ⟨rfl, hsz, hP, hK, hD0⟩ := hv
  have hx := B.exec
  have hb := B.bytes
  have hr := B.returns
  have hts := atoms_spec (ws := wsX12_status) B.pre
  have hown : s.vm.findClass RX12 = some m.cls := by have h_ := findClass_of_methodNamed B.named; exact h_
  have hlocks := B.notSynchronized
  subst hsz
  have hD := hD0.self (sz := s.heap.size)
  generalize hAe : va_A [ob12_0_ mo s0 s1 t2 s3 s4 g5 g6 g7 g8 g9 g10 s11 g12 g13 g14 g15 g16 g17 g18 g19 g20 s21 g22 g23 g24 s25 s26 s27 s28 g29 g30 g31 g32 g33] s.heap.size = A at hD hQ
  have hA : ∀ q : Nat, s.heap.size ≤ q → A q := fun q h => by rw [← hAe]; exact Or.inr h
  have hS : va_S A s.heap s.heap [] := va_S.rf
  have hl := lv_entry ([.ref mo]) (n := 1) (Nat.le_of_ble_eq_true rfl)
  rw [lg_entry_eq]
  generalize (lg_sl ([.ref mo]) ++ List.replicate (1 - (lg_sl ([.ref mo])).length) Slot.unset).toArray = ls at hl ⊢
  have hl : lv_has ls 1 [(0, .ref mo)] := hl
  refine lv_aload_n hx hb dB_3_3_46.1.1 rfl (lv_at hl 0 rfl) ?_
  refine lv_iconst (v := 0) hx hb dB_3_3_46.1.2.1 (by decide) ?_
  refine va_put (ci := 12) (v := .int 0) (ty := .int) (C := RX12) (T := TX12) (N := 34) hx hb hts (fun _ h => List.mem_cons_of_mem _ (List.mem_append_right _ h)) tyX12 tyX12_ok nmX12 hown hK.1 hP hD hS 0 rfl rfl 0 (by decide) (hts (.fieldLink RX12 85 "CutAtlasModel" "thrown" "I") (List.mem_of_getElem? (i := 1) rfl)) (fun _ h9 => h9) rfl (by decide +kernel) rfl rfl (Nat.le_of_ble_eq_true rfl) dB_3_3_46.1.2.2 (fun H locs hP hD hS => ?_)
  refine pd_K [ob12_0_ mo 0 s1 t2 s3 s4 g5 g6 g7 g8 g9 g10 s11 g12 g13 g14 g15 g16 g17 g18 g19 g20 s21 g22 g23 g24 s25 s26 s27 s28 g29 g30 g31 g32 g33] hP hD (fun hP hD => ?_)
  refine lv_aload_n hx hb dB_3_3_46.2.1 rfl (lv_at hl 0 rfl) ?_
  refine va_get (ci := 12) (v := .int s1) (C := RX12) (T := TX12) (N := 34) hx hb hts (fun _ h => List.mem_cons_of_mem _ (List.mem_append_right _ h)) hown hK.1 hP 0 rfl rfl 1 (by decide) (hts (.fieldLink RX12 240 "CutAtlasModel" "status" "I") (List.mem_of_getElem? (i := 2) rfl)) (fun _ h9 => h9) rfl dB_3_3_46.2.2.1 ?_
  rw [hQ]
  exact W.iret (v := s1) hx hb hr (fun t ht hW => ⟨⟨s1, (), rfl, (rfl), by rw [ht]; exact hP, hD⟩, hS.F ht⟩) hS.2.2 dB_3_3_46.2.2.2
end

section
/-! ===== read, exactly ===== -/
noncomputable def rdI (len c0 c1 c2 c3 c4 P N : Int) : Int := if len < 0 then -11 else if len < 5 then -12 else lnI c0 c1 c2 c3 c4 P N
/-- what refuses row i, if N lines stand -/
noncomputable def rwC (fl : Nat → Int32) (fn : Nat → Int64) (P : Int) (i : Nat) (N : Int) : Int := rdI (fl i).toInt (fn (5 * i + 0)).toInt (fn (5 * i + 1)).toInt (fn (5 * i + 2)).toInt (fn (5 * i + 3)).toInt (fn (5 * i + 4)).toInt P N
noncomputable def rwR (f18 : Nat → Int32) (f19 : Nat → Int64) (a : Nat) (P : Int) (i : Nat) (N : Int) : Int := rdI (f18 (6 * a + i)).toInt (f19 (30 * a + 5 * i + 0)).toInt (f19 (30 * a + 5 * i + 1)).toInt (f19 (30 * a + 5 * i + 2)).toInt (f19 (30 * a + 5 * i + 3)).toInt (f19 (30 * a + 5 * i + 4)).toInt P N
/-- c rows came, then st -/
noncomputable def rdn (code : Nat → Int → Int) (N rows c st : Int) : Prop := (0 ≤ c ∧ c ≤ rows) ∧ (∀ i : Nat, (i : Int) < c → code i (N + i) = 0) ∧ (c = rows ∧ st = 0 ∨ c < rows ∧ code c.toNat (N + c) = st ∧ st ≠ 0)
theorem rdn_un {code code2 : Nat → Int → Int} {N rows c st c2 st2 : Int} (h : rdn code N rows c st) (h2 : rdn code2 N rows c2 st2) (he : ∀ (i : Nat) (n : Int), (i : Int) < rows → code i n = code2 i n) : c = c2 ∧ st = st2 := by
  obtain ⟨a0, a1, a2⟩ := h
  obtain ⟨b0, b1, b2⟩ := h2
  rcases Int.lt_trichotomy c c2 with q | q | q
  · have w := b1 c.toNat (by omega)
    have e := he c.toNat (N + c) (by omega)
    rw [show ((c.toNat : Nat) : Int) = c by omega] at w
    rw [w] at e
    omega
  · subst q
    refine ⟨rfl, ?_⟩
    rcases a2 with a | a <;> rcases b2 with b | b
    · omega
    · omega
    · omega
    · rw [← a.2.1, ← b.2.1]
      exact he _ _ (by omega)
  · have w := a1 c2.toNat (by omega)
    have e := he c2.toNat (N + c2) (by omega)
    rw [show ((c2.toNat : Nat) : Int) = c2 by omega] at w
    rw [w] at e
    omega
/-- while the class reads: c came, r looked at -/
noncomputable def rdl (code : Nat → Int → Int) (N rows c r st : Int) : Prop := (0 ≤ c ∧ (∀ i : Nat, (i : Int) < c → code i (N + i) = 0)) ∧ (st = 0 ∧ c = r ∧ r ≤ rows ∨ st ≠ 0 ∧ c + 1 = r ∧ r ≤ rows ∧ code c.toNat (N + c) = st ∨ st = -11 ∧ rows = -9 ∧ c = 0 ∧ r = 0)
section RDL
variable {code : Nat → Int → Int} {N rows c r st c2 r2 st2 : Int}
theorem rdl_0 (h : rows ≠ -9) (h0 : 0 ≤ rows) : rdl code N rows (0 : Int32).toInt (0 : Int32).toInt (0 : Int32).toInt := by
  have z : (0 : Int32).toInt = 0 := by decide
  rw [z]
  exact ⟨⟨by omega, fun i hi => by omega⟩, Or.inl ⟨rfl, rfl, h0⟩⟩
theorem rdl_9 (h : rows = -9) : rdl code N rows (0 : Int32).toInt (0 : Int32).toInt ((-11) : Int32).toInt := by
  have z : (0 : Int32).toInt = 0 := by decide
  have z2 : ((-11) : Int32).toInt = -11 := by decide
  rw [z, z2]
  exact ⟨⟨by omega, fun i hi => by omega⟩, Or.inr (Or.inr ⟨rfl, h, rfl, rfl⟩)⟩
theorem rdl_ok (h : rdl code N rows c r st) (hs : st = 0) (hr : r < rows) (hc : code c.toNat (N + c) = 0) (e1 : c2 = c + 1) (e2 : r2 = r + 1) (hs2 : st2 = 0) : rdl code N rows c2 r2 st2 := by
  obtain ⟨⟨a0, a1⟩, a2⟩ := h
  refine ⟨⟨by omega, fun i hi => ?_⟩, Or.inl (by omega)⟩
  by_cases q : (i : Int) < c
  · exact a1 i q
  · rw [show i = c.toNat by omega, show ((c.toNat : Nat) : Int) = c by omega]
    exact hc
theorem rdl_no (h : rdl code N rows c r st) (hs : st = 0) (hr : r < rows) (hc : code c.toNat (N + c) = st2) (e2 : r2 = r + 1) (hs2 : st2 ≠ 0) : rdl code N rows c r2 st2 := by
  obtain ⟨⟨a0, a1⟩, a2⟩ := h
  exact ⟨⟨a0, a1⟩, Or.inr (Or.inl ⟨hs2, by omega, by omega, hc⟩)⟩
theorem rdl_end (h : rdl code N rows c r st) (he : rows ≤ r ∨ st ≠ 0) (h9 : rows ≠ -9) : rdn code N rows c st := by
  obtain ⟨⟨a0, a1⟩, a2⟩ := h
  refine ⟨⟨a0, by omega⟩, a1, ?_⟩
  rcases a2 with a | a | a
  · exact Or.inl (by omega)
  · exact Or.inr ⟨by omega, a.2.2.2, a.1⟩
  · omega
end RDL
noncomputable def wbg (k w : Int32) : Int32 := if k.toInt = 4 then 0 else w
/-- c lines more, from the map's rows -/
noncomputable def apC (N c : Int) (fk fs fe fw fp gk gs ge gw gp : Nat → Int32) (fn : Nat → Int64) : Prop := same5 N gk gs ge gw gp fk fs fe fw fp ∧ ∀ i : Nat, (i : Int) < c → gk (N.toNat + i) = (fn (5 * i + 0)).toInt32 ∧ gs (N.toNat + i) = (fn (5 * i + 1)).toInt32 ∧ ge (N.toNat + i) = (fn (5 * i + 2)).toInt32 ∧ gw (N.toNat + i) = wbg (fn (5 * i + 0)).toInt32 (fn (5 * i + 3)).toInt32 ∧ gp (N.toNat + i) = (fn (5 * i + 4)).toInt32
noncomputable def apR (N c : Int) (f5 f6 f7 f8 f9 f10 g5 g6 g7 g8 g9 g10 : Nat → Int32) (f19 : Nat → Int64) (b : Nat) : Prop := (same5 N g5 g6 g7 g8 g9 f5 f6 f7 f8 f9 ∧ ∀ j : Nat, (j : Int) < N → g10 j = f10 j) ∧ ∀ i : Nat, (i : Int) < c → g5 (N.toNat + i) = (f19 (b + 5 * i + 0)).toInt32 ∧ g6 (N.toNat + i) = (f19 (b + 5 * i + 1)).toInt32 ∧ g7 (N.toNat + i) = (f19 (b + 5 * i + 2)).toInt32 ∧ g8 (N.toNat + i) = wbg (f19 (b + 5 * i + 0)).toInt32 (f19 (b + 5 * i + 3)).toInt32 ∧ g9 (N.toNat + i) = (f19 (b + 5 * i + 4)).toInt32 ∧ (g10 (N.toNat + i)).toInt = 0
/-- remembered just when the first row came -/
noncomputable def chn (n : Int) (pf ph : Int32) (pv : Nat → Nat → Int32) (pg : Nat → Nat → Nat → Int32) (vp vn : Int32) (fk fs fe fw fp : Nat → Int32) (epf eph : Int32) (epv : Nat → Nat → Int32) (epg : Nat → Nat → Nat → Int32) (evn : Int32) (gk gs ge gw gp : Nat → Int32) : Prop := (n = 0 → epf = pf ∧ eph = ph ∧ epv = pv ∧ epg = pg ∧ evn = vn ∧ gk = fk ∧ gs = fs ∧ ge = fe ∧ gw = fw ∧ gp = fp) ∧ (n ≠ 0 → remd pf ph pv pg vp vn fk fs fe fw fp epf eph epv epg)
noncomputable def kpn (n : Int) (P N : Int32) (f5 f6 f7 f8 f9 f10 : Nat → Int32) (U : Int) (f12 f13 f14 : Nat → Int32) (U2 : Int) (e12 e13 e14 : Nat → Int32) (n4 : Int32) (g5 g6 g7 g8 g9 g10 : Nat → Int32) : Prop := (n = 0 → U2 = U ∧ e12 = f12 ∧ e13 = f13 ∧ e14 = f14 ∧ n4 = N ∧ g5 = f5 ∧ g6 = f6 ∧ g7 = f7 ∧ g8 = f8 ∧ g9 = f9 ∧ g10 = f10) ∧ (n ≠ 0 → kept P N f5 f6 f7 f8 f9 f10 U f12 f13 f14 U2 e12 e13 e14)
section CHN
variable {n n2 c c2 : Int} {pf ph vp vn epf eph evn P N n4 qf qh kk a b w p : Int32} {pv epv qv : Nat → Nat → Int32} {pg epg qg : Nat → Nat → Nat → Int32} {fk fs fe fw fp gk gs ge gw gp ek es ee ew ep f5 f6 f7 f8 f9 f10 g5 g6 g7 g8 g9 g10 e5 e6 e7 e8 e9 e10 f12 f13 f14 e12 e13 e14 h12 h13 h14 : Nat → Int32} {U U2 U3 : Int} {fn f19 : Nat → Int64}
theorem chn_0 : chn (0 : Int32).toInt pf ph pv pg vp vn fk fs fe fw fp pf ph pv pg vn fk fs fe fw fp := ⟨fun _ => ⟨rfl, rfl, rfl, rfl, rfl, rfl, rfl, rfl, rfl, rfl⟩, fun h => absurd (by decide) h⟩
theorem chn_z (h : chn n pf ph pv pg vp vn fk fs fe fw fp epf eph epv epg evn gk gs ge gw gp) (hn : n = 0) (hr : remd epf eph epv epg vp evn gk gs ge gw gp qf qh qv qg) : remd pf ph pv pg vp vn fk fs fe fw fp qf qh qv qg := by
  obtain ⟨a1, a2, a3, a4, a5, a6, a7, a8, a9, a10⟩ := h.1 hn
  rw [a1, a2, a3, a4, a5, a6, a7, a8, a9, a10] at hr
  exact hr
theorem chn_p (hn : n ≠ 0) (hr : remd pf ph pv pg vp vn fk fs fe fw fp epf eph epv epg) : chn n pf ph pv pg vp vn fk fs fe fw fp epf eph epv epg evn gk gs ge gw gp := ⟨fun h => absurd h hn, fun _ => hr⟩
theorem kpn_0 : kpn (0 : Int32).toInt P N f5 f6 f7 f8 f9 f10 U f12 f13 f14 U f12 f13 f14 N f5 f6 f7 f8 f9 f10 := ⟨fun _ => ⟨rfl, rfl, rfl, rfl, rfl, rfl, rfl, rfl, rfl, rfl, rfl⟩, fun h => absurd (by decide) h⟩
theorem kpn_z (h : kpn n P N f5 f6 f7 f8 f9 f10 U f12 f13 f14 U2 e12 e13 e14 n4 g5 g6 g7 g8 g9 g10) (hn : n = 0) (hr : kept P n4 g5 g6 g7 g8 g9 g10 U2 e12 e13 e14 U3 h12 h13 h14) : kept P N f5 f6 f7 f8 f9 f10 U f12 f13 f14 U3 h12 h13 h14 := by
  obtain ⟨a1, a2, a3, a4, a5, a6, a7, a8, a9, a10, a11⟩ := h.1 hn
  rw [a1, a2, a3, a4, a5, a6, a7, a8, a9, a10, a11] at hr
  exact hr
theorem kpn_p (hn : n ≠ 0) (hr : kept P N f5 f6 f7 f8 f9 f10 U f12 f13 f14 U2 e12 e13 e14) : kpn n P N f5 f6 f7 f8 f9 f10 U f12 f13 f14 U2 e12 e13 e14 n4 g5 g6 g7 g8 g9 g10 := ⟨fun h => absurd h hn, fun _ => hr⟩
theorem apC_0 : apC n (0 : Int32).toInt fk fs fe fw fp fk fs fe fw fp fn := by
  have z : (0 : Int32).toInt = 0 := by decide
  exact ⟨fun _ _ => ⟨rfl, rfl, rfl, rfl, rfl⟩, fun i hi => by omega⟩
theorem apR_0 {b : Nat} : apR n (0 : Int32).toInt f5 f6 f7 f8 f9 f10 f5 f6 f7 f8 f9 f10 f19 b := by
  have z : (0 : Int32).toInt = 0 := by decide
  exact ⟨⟨fun _ _ => ⟨rfl, rfl, rfl, rfl, rfl⟩, fun _ _ => rfl⟩, fun i hi => by omega⟩
theorem wb_upd {f g : Nat → Int32} {k : Nat} {x y : Int32} (h : x.toInt = 4 ∧ g = upd f k 0 ∨ x.toInt ≠ 4 ∧ g = upd f k y) : g = upd f k (wbg x y) := by
  unfold wbg
  rcases h with h | h
  · rw [if_pos h.1]
    exact h.2
  · rw [if_neg h.1]
    exact h.2
theorem apC_st {vn2 : Int32} {i : Nat} (h : apC n c fk fs fe fw fp gk gs ge gw gp fn) (hv : vn2.toInt = n + c) (h0 : 0 ≤ n) (hc : c = i) (ha : addd vn2 gk gs ge gw gp kk a b w p evn ek es ee ew ep) (q0 : kk = (fn (5 * i + 0)).toInt32) (q1 : a = (fn (5 * i + 1)).toInt32) (q2 : b = (fn (5 * i + 2)).toInt32) (q3 : w = (fn (5 * i + 3)).toInt32) (q4 : p = (fn (5 * i + 4)).toInt32) (hc2 : c2 = c + 1) : apC n c2 fk fs fe fw fp ek es ee ew ep fn := by
  obtain ⟨d1, d2, d3, d4, d5, d6⟩ := ha
  have d5 := wb_upd d5
  have cv := clI (i := vn2) (by omega)
  have ne : ∀ j : Nat, (j : Int) < n + c → j ≠ vn2.toNatClampNeg := fun j hj => by omega
  refine ⟨fun j hj => ?_, fun j hj => ?_⟩
  · rw [d2, d3, d4, d5, d6, pk_un (ne j (by omega)), pk_un (ne j (by omega)), pk_un (ne j (by omega)), pk_un (ne j (by omega)), pk_un (ne j (by omega))]
    exact h.1 j hj
  · by_cases z : j = i
    · rw [z, show n.toNat + i = vn2.toNatClampNeg by omega, d2, d3, d4, d5, d6, pk_us, pk_us, pk_us, pk_us, pk_us, q0, q1, q2, q3, q4]
      exact ⟨rfl, rfl, rfl, rfl, rfl⟩
    · have u : n.toNat + j ≠ vn2.toNatClampNeg := by omega
      rw [d2, d3, d4, d5, d6, pk_un u, pk_un u, pk_un u, pk_un u, pk_un u]
      exact h.2 j (by omega)
theorem apR_st {N2 : Int32} {i t : Nat} (h : apR n c f5 f6 f7 f8 f9 f10 g5 g6 g7 g8 g9 g10 f19 t) (hv : N2.toInt = n + c) (h0 : 0 ≤ n) (hc : c = i) (ha : adR N2 g5 g6 g7 g8 g9 g10 kk a b w p n4 e5 e6 e7 e8 e9 e10) (q0 : kk = (f19 (t + 5 * i + 0)).toInt32) (q1 : a = (f19 (t + 5 * i + 1)).toInt32) (q2 : b = (f19 (t + 5 * i + 2)).toInt32) (q3 : w = (f19 (t + 5 * i + 3)).toInt32) (q4 : p = (f19 (t + 5 * i + 4)).toInt32) (hc2 : c2 = c + 1) : apR n c2 f5 f6 f7 f8 f9 f10 e5 e6 e7 e8 e9 e10 f19 t := by
  obtain ⟨d1, d2, d3, d4, d5, d6, d7⟩ := ha
  have d5 := wb_upd d5
  have cv := clI (i := N2) (by omega)
  have ne : ∀ j : Nat, (j : Int) < n + c → j ≠ N2.toNatClampNeg := fun j hj => by omega
  refine ⟨⟨fun j hj => ?_, fun j hj => ?_⟩, fun j hj => ?_⟩
  · rw [d2, d3, d4, d5, d6, pk_un (ne j (by omega)), pk_un (ne j (by omega)), pk_un (ne j (by omega)), pk_un (ne j (by omega)), pk_un (ne j (by omega))]
    exact h.1.1 j hj
  · rw [d7, pk_un (ne j (by omega))]
    exact h.1.2 j hj
  · by_cases z : j = i
    · rw [z, show n.toNat + i = N2.toNatClampNeg by omega, d2, d3, d4, d5, d6, d7, pk_us, pk_us, pk_us, pk_us, pk_us, pk_us, q0, q1, q2, q3, q4]
      exact ⟨rfl, rfl, rfl, rfl, rfl, by decide⟩
    · have u : n.toNat + j ≠ N2.toNatClampNeg := by omega
      rw [d2, d3, d4, d5, d6, d7, pk_un u, pk_un u, pk_un u, pk_un u, pk_un u, pk_un u]
      exact h.2 j (by omega)
theorem nrel_read {t : Nat} (h : nrel vp vn fk fs fe fw fp P N f5 f6 f7 f8 f9 f10) (h0 : 0 ≤ N.toInt) (hc : apC vn.toInt c fk fs fe fw fp gk gs ge gw gp fn) (hr : apR N.toInt c f5 f6 f7 f8 f9 f10 g5 g6 g7 g8 g9 g10 f19 t) (he : ∀ i : Nat, (i : Int) < c → ∀ q : Nat, q < 5 → fn (5 * i + q) = f19 (t + 5 * i + q)) (ec : evn.toInt = vn.toInt + c) (er : n4.toInt = N.toInt + c) : nrel vp evn gk gs ge gw gp P n4 g5 g6 g7 g8 g9 g10 := by
  have ev := h.2.1
  rw [ev] at hc ec
  refine ⟨h.1, Int32.toInt_inj.mp (by omega), fun j hj => ?_⟩
  by_cases z : (j : Int) < N.toInt
  · obtain ⟨a1, a2, a3, a4, a5⟩ := hc.1 j z
    obtain ⟨b1, b2, b3, b4, b5⟩ := hr.1.1 j z
    rw [a1, a2, a3, a4, a5, b1, b2, b3, b4, b5, hr.1.2 j z]
    exact h.2.2 j z
  · have ei : j = N.toInt.toNat + (j - N.toInt.toNat) := by omega
    have hi : ((j - N.toInt.toNat : Nat) : Int) < c := by omega
    obtain ⟨a1, a2, a3, a4, a5⟩ := hc.2 (j - N.toInt.toNat) hi
    obtain ⟨b1, b2, b3, b4, b5, b6⟩ := hr.2 (j - N.toInt.toNat) hi
    rw [ei, a1, a2, a3, a4, a5, b1, b2, b3, b4, b5, he _ hi 0 (by omega), he _ hi 1 (by omega), he _ hi 2 (by omega), he _ hi 3 (by omega), he _ hi 4 (by omega)]
    exact ⟨rfl, rfl, rfl, fun g => absurd b6 g, fun _ => ⟨rfl, rfl⟩⟩
theorem prel_read (h : prel pf ph pv pg U f12 f13 f14) (hn : nrel vp vn fk fs fe fw fp P N f5 f6 f7 f8 f9 f10) (hc : chn n pf ph pv pg vp vn fk fs fe fw fp epf eph epv epg evn gk gs ge gw gp) (hk : kpn n P N f5 f6 f7 f8 f9 f10 U f12 f13 f14 U2 e12 e13 e14 n4 g5 g6 g7 g8 g9 g10) (h9 : rng f9 40 0 100) (h13 : rng f13 30 0 40) (hN : N.toInt ≤ 40) (hpf : 0 ≤ pf.toInt ∧ pf.toInt ≤ 29) (hU : 0 ≤ U) : prel epf eph epv epg U2 e12 e13 e14 := by
  by_cases z : n = 0
  · obtain ⟨a1, a2, a3, a4, _⟩ := hc.1 z
    obtain ⟨b1, b2, b3, b4, _⟩ := hk.1 z
    rw [a1, a2, a3, a4, b1, b2, b3, b4]
    exact h
  · exact prel_kept h hn (hc.2 z) (hk.2 z) h9 h13 hN hpf hU
end CHN
theorem num_at {fn : Nat → Int64} {r : Int64} {a b : Int32} {k : Nat} (h : r = fn (5 * a.toInt + b.toInt).toNat) (ha : 0 ≤ a.toInt) (hb : b.toInt = k) : r.toInt = (fn (5 * a.toNatClampNeg + k)).toInt := by
  have c := clI (i := a) ha
  rw [h, show (5 * a.toInt + b.toInt).toNat = 5 * a.toNatClampNeg + k by omega]
theorem num32 {fn : Nat → Int64} {r : Int32} {a b : Int32} {k : Nat} (h : r = (fn (5 * a.toInt + b.toInt).toNat).toInt32) (ha : 0 ≤ a.toInt) (hb : b.toInt = k) : r = (fn (5 * a.toNatClampNeg + k)).toInt32 := by
  have c := clI (i := a) ha
  rw [h, show (5 * a.toInt + b.toInt).toNat = 5 * a.toNatClampNeg + k by omega]
theorem c19 {f : Nat → Int64} {y : Int64} {x a i : Int32} {k : Nat} (e : y = f x.toNatClampNeg) (hx : x.toInt = 30 * a.toInt + 5 * i.toInt + k) (ha : 0 ≤ a.toInt) (hi : 0 ≤ i.toInt) : y = f (30 * a.toNatClampNeg + 5 * i.toNatClampNeg + k) := by
  have c := clI (i := a) ha
  have c2 := clI (i := i) hi
  have c3 := clI (i := x) (by omega)
  rw [e, show x.toNatClampNeg = 30 * a.toNatClampNeg + 5 * i.toNatClampNeg + k by omega]
theorem c18 {f : Nat → Int32} {y x a i : Int32} (e : y = f x.toNatClampNeg) (hx : x.toInt = 6 * a.toInt + i.toInt) (ha : 0 ≤ a.toInt) (hi : 0 ≤ i.toInt) : y = f (6 * a.toNatClampNeg + i.toNatClampNeg) := by
  have c := clI (i := a) ha
  have c2 := clI (i := i) hi
  have c3 := clI (i := x) (by omega)
  rw [e, show x.toNatClampNeg = 6 * a.toNatClampNeg + i.toNatClampNeg by omega]
/-- the rows of both sides are refused alike -/
theorem rw_same {fl : Nat → Int32} {fn : Nat → Int64} {f18 : Nat → Int32} {f19 : Nat → Int64} {a : Nat} {P : Int} {i : Nat} {n : Int} (h1 : fl i = f18 (6 * a + i)) (h2 : (fl i).toInt ≠ -9 → ∀ q : Nat, q < 5 → fn (5 * i + q) = f19 (30 * a + 5 * i + q)) : rwC fl fn P i n = rwR f18 f19 a P i n := by
  unfold rwC rwR rdI
  rw [← h1]
  by_cases z : (fl i).toInt < 0
  · rw [if_pos z, if_pos z]
  · have w := h2 (by omega)
    rw [if_neg z, if_neg z, w 0 (by omega), w 1 (by omega), w 2 (by omega), w 3 (by omega), w 4 (by omega)]
theorem rdI_0 {len c0 c1 c2 c3 c4 P N : Int} (h : rdI len c0 c1 c2 c3 c4 P N = 0) : 5 ≤ len := by
  unfold rdI at h
  (repeat' split at h) <;> omega
theorem rdl_s {code : Nat → Int → Int} {N rows : Int} {f : Int32} (h : f.toInt = 0 ∧ rows ≠ -9 ∨ f.toInt = -11 ∧ rows = -9) (h0 : rows = -9 ∨ 0 ≤ rows) : rdl code N rows (0 : Int32).toInt (0 : Int32).toInt f.toInt := by
  rcases h with h | h
  · rw [h.1]
    exact rdl_0 h.2 (by omega)
  · rw [h.1]
    exact rdl_9 h.2
theorem chn_s {n : Int} {pf ph vp vn epf eph evn : Int32} {pv epv : Nat → Nat → Int32} {pg epg : Nat → Nat → Nat → Int32} {fk fs fe fw fp gk gs ge gw gp : Nat → Int32} (h : chn n pf ph pv pg vp vn fk fs fe fw fp epf eph epv epg evn gk gs ge gw gp) (e : n = 0) : chn 0 pf ph pv pg vp vn fk fs fe fw fp epf eph epv epg evn gk gs ge gw gp := e ▸ h
theorem rdn_no {code : Nat → Int → Int} {N rows c st : Int} (h1 : 0 ≤ c ∧ c < rows) (h2 : ∀ i : Nat, (i : Int) < c → code i (N + i) = 0) (h3 : code c.toNat (N + c) = st) (h4 : st ≠ 0) : rdn code N rows c st := ⟨⟨h1.1, by omega⟩, h2, Or.inr ⟨h1.2, h3, h4⟩⟩
theorem rdn_all {code : Nat → Int → Int} {N rows c st : Int} (h1 : 0 ≤ c ∧ c = rows) (h2 : ∀ i : Nat, (i : Int) < c → code i (N + i) = 0) (h4 : st = 0) : rdn code N rows c st := ⟨⟨h1.1, by omega⟩, h2, Or.inl ⟨h1.2, h4⟩⟩
theorem rws_st {code : Nat → Int → Int} {N c c2 : Int} (h : ∀ i : Nat, (i : Int) < c → code i (N + i) = 0) (hc : code c.toNat (N + c) = 0) (h0 : 0 ≤ c) (e : c2 = c + 1) : ∀ i : Nat, (i : Int) < c2 → code i (N + i) = 0 := fun i hi => by
  by_cases q : (i : Int) < c
  · exact h i q
  · rw [show i = c.toNat by omega, show ((c.toNat : Nat) : Int) = c by omega]
    exact hc

set_option maxHeartbeats 4000000 in
set_option maxRecDepth 100000 in
theorem c_X11_readRefusal2 (l : Launch) (D : va_G) (cy : Nat → ClassId) (sz : Nat) (xo : Nat) (xk : Nat) (xn : Nat) (xc : Nat) (xh : Nat) (xt : Nat) (xw : Nat) (xm : Nat) (xp : Nat) (pf : Int32) (ph : Int32) (tr : Int64) (fi : Int32) (n1 : Nat) (n2 : Nat) (n3 : Nat) (n4 : Nat) (n5 : Nat) (vp : Int32) (vn : Int32) (mm : Nat) (ml : Nat) (mu : Nat) (mk : Int32) (mr : Int32) (fl : Nat → Int32) (fn : Nat → Int64) (a2 : Int32) (hvn : 0 ≤ vn.toInt ∧ vn.toInt ≤ 40) (hvp : 0 ≤ vp.toInt ∧ vp.toInt ≤ 12) (q2 : 0 ≤ a2.toInt ∧ a2.toInt ≤ 5) (r_fl : rng fl 6 (-9) (5)) : Met l yX11_readRefusal wsX11_readRefusal ({ frames := 3, cells := 0, slots := 0, locals := 76 }) (va_Pc [.ref xo, .ref mm, .int a2] (fun U => U.heap.size = sz ∧ va_P D vwCl [ob11_0_ xo xk xn xc xh xt xw xm xp pf ph tr fi, ob3_0_ xn vp vn n1 n2 n3 n4 n5, ob4_0_ mm mk mr ml mu, ai_ cy ml 6 fl, aj_ cy mu 30 fn] U.heap ∧ kk_ D cy U ∧ va_D (fun _ => True) [ob11_0_ xo xk xn xc xh xt xw xm xp pf ph tr fi, ob3_0_ xn vp vn n1 n2 n3 n4 n5, ob4_0_ mm mk mr ml mu, ai_ cy ml 6 fl, aj_ cy mu 30 fn])) (va_Qi (fun (r : Int32) (_ : Unit) => (r.toInt < 0 ∨ (r.toInt = 0 ∧ vn.toInt < 40 ∧ (0 ≤ (fn (5 * a2.toNatClampNeg + 0)).toInt ∧ (fn (5 * a2.toNatClampNeg + 0)).toInt ≤ 4) ∧ (0 ≤ (fn (5 * a2.toNatClampNeg + 1)).toInt ∧ (fn (5 * a2.toNatClampNeg + 1)).toInt < vp.toInt) ∧ (0 ≤ (fn (5 * a2.toNatClampNeg + 2)).toInt ∧ (fn (5 * a2.toNatClampNeg + 2)).toInt < vp.toInt) ∧ (fn (5 * a2.toNatClampNeg + 1)).toInt ≠ (fn (5 * a2.toNatClampNeg + 2)).toInt ∧ (0 ≤ (fn (5 * a2.toNatClampNeg + 3)).toInt ∧ (fn (5 * a2.toNatClampNeg + 3)).toInt ≤ 1000) ∧ (0 ≤ (fn (5 * a2.toNatClampNeg + 4)).toInt ∧ (fn (5 * a2.toNatClampNeg + 4)).toInt ≤ 100))) ∧ (r.toInt = rwC fl fn vp.toInt a2.toNatClampNeg vn.toInt)) (fun (_ : Unit) (_ : State) => True) (va_A [] sz)) 0 0 (va_A [] sz) := by
  refine ofQ (cc := cX11_readRefusal) (maxL := 3) (ret := (some .int)) (by decide) rfl ?_
  intro p e s m args below meth c s₁ Q hQ B hml hv
  obtain ⟨rfl, hsz, hP, hK, hD0⟩ := hv
  have hx := B.exec
  have hb := B.bytes
  have hr := B.returns
  have hts := atoms_spec (ws := wsX11_readRefusal) B.pre
  have hown : s.vm.findClass RX11 = some m.cls := by have h_ := findClass_of_methodNamed B.named; exact h_
  have hlocks := B.notSynchronized
  subst hsz
  have hD : va_D (va_A [] s.heap.size) [] := dd_nil
  generalize hAe : va_A [] s.heap.size = A at hD hQ
  have hA : ∀ q : Nat, s.heap.size ≤ q → A q := fun q h => by rw [← hAe]; exact Or.inr h
  have hS : va_S A s.heap s.heap [] := va_S.rf
  have hl := lv_entry ([.ref xo, .ref mm, .int a2]) (n := 3) (Nat.le_of_ble_eq_true rfl)
  rw [lg_entry_eq]
  generalize (lg_sl ([.ref xo, .ref mm, .int a2]) ++ List.replicate (3 - (lg_sl ([.ref xo, .ref mm, .int a2])).length) Slot.unset).toArray = ls at hl ⊢
  have hl : lv_has ls 3 [(0, .ref xo), (1, .ref mm), (2, .int a2)] := hl
  have zm12 : ((-12) : Int32).toInt = -12 := by decide
  have zm11 : ((-11) : Int32).toInt = -11 := by decide
  have zm3 : ((-3) : Int32).toInt = -3 := by decide
  have zm1 : ((-1) : Int32).toInt = -1 := by decide
  have z0 : (0 : Int32).toInt = 0 := by decide
  have z1 : (1 : Int32).toInt = 1 := by decide
  have z2 : (2 : Int32).toInt = 2 := by decide
  have z3 : (3 : Int32).toInt = 3 := by decide
  have z4 : (4 : Int32).toInt = 4 := by decide
  have z5 : (5 : Int32).toInt = 5 := by decide
  refine lv_aload_n hx hb dB_36_4_5.1.1.1.1 rfl (lv_at hl 1 rfl) ?_
  refine va_get (ci := 4) (v := .ref ml) (C := RX4) (T := TX4) (N := 4) hx hb hts (fun _ h => List.mem_cons_of_mem _ (List.mem_append_left _ (List.mem_append_left _ (List.mem_append_right _ h)))) hown hK.1 hP 2 rfl rfl 2 (by decide) (hts (.fieldLink RX11 321 "CutAtlas$NumberMap" "lengths" "[I") (List.mem_of_getElem? (i := 1) rfl)) (fun _ h9 => h9) rfl dB_36_4_5.1.1.1.2 ?_
  refine lv_iload_n hx hb dB_36_4_5.1.1.2.1 rfl (lv_at hl 2 rfl) ?_
  have h_1 : vp_in a2 6 := in_I (by first | with_reducible assumption | omega) (by omega)
  refine va_iald hx hb hK.1 hP 3 0 rfl rfl (i := a2) h_1 dB_36_4_5.1.1.2.2 ?_
  refine lv_topi (fun y_2 ey_2 => ?_)
  have ky_2 : y_2.toInt = (fl a2.toNatClampNeg).toInt := by rw [ey_2]
  have ry_2 : -9 ≤ y_2.toInt ∧ y_2.toInt ≤ 5 := by rw [ey_2]; exact r_fl _ (in_lt h_1)
  refine lv_if_ge (tgt := 12) hx hb dB_36_4_5.1.2.1.1 (by decide) (fun c_3 => ?_) (fun c_3 => ?_)
  · have t_3 : (0 : Int32).toInt ≤ y_2.toInt := Int32.le_iff_toInt_le.mp c_3
    refine lv_aload_n hx hb dB_36_4_5.1.2.2.2 rfl (lv_at hl 1 rfl) ?_
    refine va_get (ci := 4) (v := .ref ml) (C := RX4) (T := TX4) (N := 4) hx hb hts (fun _ h => List.mem_cons_of_mem _ (List.mem_append_left _ (List.mem_append_left _ (List.mem_append_right _ h)))) hown hK.1 hP 2 rfl rfl 2 (by decide) (hts (.fieldLink RX11 321 "CutAtlas$NumberMap" "lengths" "[I") (List.mem_of_getElem? (i := 1) rfl)) (fun _ h9 => h9) rfl dB_36_4_5.2.1.1.1 ?_
    refine lv_iload_n hx hb dB_36_4_5.2.1.1.2 rfl (lv_at hl 2 rfl) ?_
    refine va_iald hx hb hK.1 hP 3 0 rfl rfl (i := a2) h_1 dB_36_4_5.2.1.2.1 ?_
    refine lv_topi (fun y_5 ey_5 => ?_)
    have e_ := (ey_5.trans ey_2.symm).symm
    subst e_
    skip
    refine lv_iconst (v := 5) hx hb dB_36_4_5.2.1.2.2 (by decide) ?_
    refine lv_icmp_ge (tgt := 25) hx hb dB_36_4_5.2.2.1.1 (by decide) (fun c_6 => ?_) (fun c_6 => ?_)
    · have t_6 : (5 : Int32).toInt ≤ y_2.toInt := Int32.le_iff_toInt_le.mp c_6
      refine lv_aload_n hx hb dB_36_4_5.2.2.2.2 rfl (lv_at hl 0 rfl) ?_
      refine lv_aload_n hx hb dB_36_4_6.1.1.1.1 rfl (lv_at hl 1 rfl) ?_
      refine lv_iload_n hx hb dB_36_4_6.1.1.1.2 rfl (lv_at hl 2 rfl) ?_
      refine lv_iconst (v := 0) hx hb dB_36_4_6.1.1.2.1 (by decide) ?_
      refine ct_R hP hD0 [ob4_0_ mm mk mr ml mu, aj_ cy mu 30 fn] [2, 4] (by decide) rfl (fun hPc hDw => ?_)
      have hFc := va_free (wc := []) hD hS hA [] rfl
      refine va_calll (va_runV (As := [.int a2, .int 0]) (rest := [.ref xo]) ⟨hx, hb, hml, hown, hts⟩ (c_X4_number l D cy s.heap.size mm ml mu mk mr fn a2 (0 : Int32) (by first | with_reducible assumption | omega | assumption) (by first | with_reducible assumption | omega | assumption)) (cwV 2 hts gX11_readRefusal_X4_number rfl rfl rfl ⟨rfl, hd_X4_number⟩ ⟨Nat.le_of_ble_eq_true rfl, Nat.le_of_ble_eq_true rfl⟩) ⟨bl_, va_recvX hK.1 hP (ci := 4) (q0 := 2) rfl rfl, fun U hU hW => ⟨rfl, by rw [hU], by rw [hU]; exact hPc, kk_mv hW hK, hDw⟩⟩ rfl rfl hl.1 rfl (lv_room (Nat.le_of_ble_eq_true rfl)) dB_36_4_6.1.1.2.2 ⟨Nat.le_of_ble_eq_true rfl, Nat.le_of_ble_eq_true rfl⟩) hS (fun q _ h => hFc q h) hFc (fun r_7 u t H locs ht hvm hw hB hz1 hk1 hS => ?_)
      have hP : va_P D vwCl _ H := ro_keep hP hk1
      have f0_r_7 := hw
      have nk0 : r_7.toInt = (fn (5 * a2.toNatClampNeg + 0)).toInt := num_at f0_r_7 (by omega) (by omega)
      refine lv_aload_n hx hb dB_36_4_6.1.2.1.1 rfl (lv_at hl 1 rfl) ?_
      refine lv_iload_n hx hb dB_36_4_6.1.2.1.2 rfl (lv_at hl 2 rfl) ?_
      refine lv_iconst (v := 1) hx hb dB_36_4_6.1.2.2.1 (by decide) ?_
      refine ct_R hP hD0 [ob4_0_ mm mk mr ml mu, aj_ cy mu 30 fn] [2, 4] (by decide) rfl (fun hPc hDw => ?_)
      have hFc := va_free (wc := []) hD hS hA [] rfl
      refine va_calll (va_runV (As := [.int a2, .int 1]) (rest := [.long r_7, .ref xo]) ⟨hx, hb, hml, hown, hts⟩ (c_X4_number l D cy H.size mm ml mu mk mr fn a2 (1 : Int32) (by first | with_reducible assumption | omega | assumption) (by first | with_reducible assumption | omega | assumption)) (cwV 2 hts gX11_readRefusal_X4_number rfl rfl rfl ⟨rfl, hd_X4_number⟩ ⟨Nat.le_of_ble_eq_true rfl, Nat.le_of_ble_eq_true rfl⟩) ⟨bl_, va_recvX hK.1 hP (ci := 4) (q0 := 2) rfl rfl, fun U hU hW => ⟨rfl, by rw [hU], by rw [hU]; exact hPc, kk_mv hW hK, hDw⟩⟩ rfl rfl hl.1 rfl (lv_room (Nat.le_of_ble_eq_true rfl)) dB_36_4_6.1.2.2.2 ⟨Nat.le_of_ble_eq_true rfl, Nat.le_of_ble_eq_true rfl⟩) hS (fun q _ h => hFc q h) hFc (fun r_8 u t H locs ht hvm hw hB hz1 hk1 hS => ?_)
      have hP : va_P D vwCl _ H := ro_keep hP hk1
      have f0_r_8 := hw
      have nk1 : r_8.toInt = (fn (5 * a2.toNatClampNeg + 1)).toInt := num_at f0_r_8 (by omega) (by omega)
      refine lv_aload_n hx hb dB_36_4_6.2.1.1.1 rfl (lv_at hl 1 rfl) ?_
      refine lv_iload_n hx hb dB_36_4_6.2.1.1.2 rfl (lv_at hl 2 rfl) ?_
      refine lv_iconst (v := 2) hx hb dB_36_4_6.2.1.2.1 (by decide) ?_
      refine ct_R hP hD0 [ob4_0_ mm mk mr ml mu, aj_ cy mu 30 fn] [2, 4] (by decide) rfl (fun hPc hDw => ?_)
      have hFc := va_free (wc := []) hD hS hA [] rfl
      refine va_calll (va_runV (As := [.int a2, .int 2]) (rest := [.long r_8, .long r_7, .ref xo]) ⟨hx, hb, hml, hown, hts⟩ (c_X4_number l D cy H.size mm ml mu mk mr fn a2 (2 : Int32) (by first | with_reducible assumption | omega | assumption) (by first | with_reducible assumption | omega | assumption)) (cwV 2 hts gX11_readRefusal_X4_number rfl rfl rfl ⟨rfl, hd_X4_number⟩ ⟨Nat.le_of_ble_eq_true rfl, Nat.le_of_ble_eq_true rfl⟩) ⟨bl_, va_recvX hK.1 hP (ci := 4) (q0 := 2) rfl rfl, fun U hU hW => ⟨rfl, by rw [hU], by rw [hU]; exact hPc, kk_mv hW hK, hDw⟩⟩ rfl rfl hl.1 rfl (lv_room (Nat.le_of_ble_eq_true rfl)) dB_36_4_6.2.1.2.2 ⟨Nat.le_of_ble_eq_true rfl, Nat.le_of_ble_eq_true rfl⟩) hS (fun q _ h => hFc q h) hFc (fun r_9 u t H locs ht hvm hw hB hz1 hk1 hS => ?_)
      have hP : va_P D vwCl _ H := ro_keep hP hk1
      have f0_r_9 := hw
      have nk2 : r_9.toInt = (fn (5 * a2.toNatClampNeg + 2)).toInt := num_at f0_r_9 (by omega) (by omega)
      refine lv_aload_n hx hb dB_36_4_6.2.2.1.1 rfl (lv_at hl 1 rfl) ?_
      refine lv_iload_n hx hb dB_36_4_6.2.2.1.2 rfl (lv_at hl 2 rfl) ?_
      refine lv_iconst (v := 3) hx hb dB_36_4_6.2.2.2.1 (by decide) ?_
      refine ct_R hP hD0 [ob4_0_ mm mk mr ml mu, aj_ cy mu 30 fn] [2, 4] (by decide) rfl (fun hPc hDw => ?_)
      have hFc := va_free (wc := []) hD hS hA [] rfl
      refine va_calll (va_runV (As := [.int a2, .int 3]) (rest := [.long r_9, .long r_8, .long r_7, .ref xo]) ⟨hx, hb, hml, hown, hts⟩ (c_X4_number l D cy H.size mm ml mu mk mr fn a2 (3 : Int32) (by first | with_reducible assumption | omega | assumption) (by first | with_reducible assumption | omega | assumption)) (cwV 2 hts gX11_readRefusal_X4_number rfl rfl rfl ⟨rfl, hd_X4_number⟩ ⟨Nat.le_of_ble_eq_true rfl, Nat.le_of_ble_eq_true rfl⟩) ⟨bl_, va_recvX hK.1 hP (ci := 4) (q0 := 2) rfl rfl, fun U hU hW => ⟨rfl, by rw [hU], by rw [hU]; exact hPc, kk_mv hW hK, hDw⟩⟩ rfl rfl hl.1 rfl (lv_room (Nat.le_of_ble_eq_true rfl)) dB_36_4_6.2.2.2.2 ⟨Nat.le_of_ble_eq_true rfl, Nat.le_of_ble_eq_true rfl⟩) hS (fun q _ h => hFc q h) hFc (fun r_10 u t H locs ht hvm hw hB hz1 hk1 hS => ?_)
      have hP : va_P D vwCl _ H := ro_keep hP hk1
      have f0_r_10 := hw
      have nk3 : r_10.toInt = (fn (5 * a2.toNatClampNeg + 3)).toInt := num_at f0_r_10 (by omega) (by omega)
      refine lv_aload_n hx hb dB_36_4_7.1.1 rfl (lv_at hl 1 rfl) ?_
      refine lv_iload_n hx hb dB_36_4_7.1.2.1 rfl (lv_at hl 2 rfl) ?_
      refine lv_iconst (v := 4) hx hb dB_36_4_7.1.2.2 (by decide) ?_
      refine ct_R hP hD0 [ob4_0_ mm mk mr ml mu, aj_ cy mu 30 fn] [2, 4] (by decide) rfl (fun hPc hDw => ?_)
      have hFc := va_free (wc := []) hD hS hA [] rfl
      refine va_calll (va_runVW (W := 16) (As := [.int a2, .int 4]) (rest := [.long r_10, .long r_9, .long r_8, .long r_7, .ref xo]) ⟨hx, hb, hml, hown, hts⟩ (c_X4_number l D cy H.size mm ml mu mk mr fn a2 (4 : Int32) (by first | with_reducible assumption | omega | assumption) (by first | with_reducible assumption | omega | assumption)) (cwV 2 hts gX11_readRefusal_X4_number rfl rfl rfl ⟨rfl, hd_X4_number⟩ ⟨Nat.le_of_ble_eq_true rfl, Nat.le_of_ble_eq_true rfl⟩) (Nat.le_of_ble_eq_true rfl) ⟨bl_, va_recvX hK.1 hP (ci := 4) (q0 := 2) rfl rfl, fun U hU hW => ⟨rfl, by rw [hU], by rw [hU]; exact hPc, kk_mv hW hK, hDw⟩⟩ rfl rfl hl.1 rfl (by show 2 * 0 + _ ≤ 16; exact Nat.le_of_ble_eq_true rfl) dB_36_4_7.2.1 ⟨Nat.le_of_ble_eq_true rfl, Nat.le_of_ble_eq_true rfl⟩) hS (fun q _ h => hFc q h) hFc (fun r_11 u t H locs ht hvm hw hB hz1 hk1 hS => ?_)
      have hP : va_P D vwCl _ H := ro_keep hP hk1
      have f0_r_11 := hw
      have nk4 : r_11.toInt = (fn (5 * a2.toNatClampNeg + 4)).toInt := num_at f0_r_11 (by omega) (by omega)
      refine ct_R hP hD0 [ob11_0_ xo xk xn xc xh xt xw xm xp pf ph tr fi, ob3_0_ xn vp vn n1 n2 n3 n4 n5] [0, 1] (by decide) rfl (fun hPc hDw => ?_)
      have hFc := va_free (wc := []) hD hS hA [] rfl
      refine va_calli (va_runV (As := [.long r_7, .long r_8, .long r_9, .long r_10, .long r_11]) (rest := []) ⟨hx, hb, hml, hown, hts⟩ (c_X11_lineRefusal l D cy H.size xo xk xn xc xh xt xw xm xp pf ph tr fi n1 n2 n3 n4 n5 vp vn r_7 r_8 r_9 r_10 r_11 (by first | with_reducible assumption | omega | assumption) (by first | with_reducible assumption | omega | assumption)) (cwV 5 hts gX11_readRefusal_X11_lineRefusal rfl rfl rfl ⟨rfl, hd_X11_lineRefusal⟩ ⟨Nat.le_of_ble_eq_true rfl, Nat.le_of_ble_eq_true rfl⟩) ⟨bl_, va_recvX hK.1 hP (ci := 11) (q0 := 0) rfl rfl, fun U hU hW => ⟨rfl, by rw [hU], by rw [hU]; exact hPc, kk_mv hW hK, hDw⟩⟩ rfl rfl hl.1 rfl (lv_room (Nat.le_of_ble_eq_true rfl)) dB_36_4_7.2.2.1 ⟨Nat.le_of_ble_eq_true rfl, Nat.le_of_ble_eq_true rfl⟩) hS (fun q _ h => hFc q h) hFc (fun r_12 u t H locs ht hvm hw hB hz1 hk1 hS => ?_)
      have hP : va_P D vwCl _ H := ro_keep hP hk1
      rcases hw with ⟨w_13, e_⟩ | ⟨w_13, e_⟩ | ⟨w_13, e_⟩
      · have e_ := e_.symm
        subst e_
        rw [hQ]
        exact W.iret (v := (-1)) hx hb hr (fun t ht hW => ⟨⟨(-1), (), rfl, ⟨by omega, by unfold rwC rdI lnI; (repeat' split) <;> omega⟩, trivial⟩, hS.F ht⟩) hS.2.2 dB_36_4_7.2.2.2
      · have e_ := e_.symm
        subst e_
        rw [hQ]
        exact W.iret (v := (-3)) hx hb hr (fun t ht hW => ⟨⟨(-3), (), rfl, ⟨by omega, by unfold rwC rdI lnI; (repeat' split) <;> omega⟩, trivial⟩, hS.F ht⟩) hS.2.2 dB_36_4_7.2.2.2
      · have e_ := e_.symm
        subst e_
        rw [hQ]
        exact W.iret (v := 0) hx hb hr (fun t ht hW => ⟨⟨0, (), rfl, ⟨by omega, by unfold rwC rdI lnI; (repeat' split) <;> omega⟩, trivial⟩, hS.F ht⟩) hS.2.2 dB_36_4_7.2.2.2
    · have t_6 : ¬ (5 : Int32).toInt ≤ y_2.toInt := fun h => c_6 (Int32.le_iff_toInt_le.mpr h)
      refine lv_bipush (v := (-12)) hx hb dB_36_4_5.2.2.1.2 (by decide) ?_
      rw [hQ]
      exact W.iret (v := (-12)) hx hb hr (fun t ht hW => ⟨⟨(-12), (), rfl, ⟨by omega, by unfold rwC rdI lnI; (repeat' split) <;> omega⟩, trivial⟩, hS.F ht⟩) hS.2.2 dB_36_4_5.2.2.2.1
  · have t_3 : ¬ (0 : Int32).toInt ≤ y_2.toInt := fun h => c_3 (Int32.le_iff_toInt_le.mpr h)
    refine lv_bipush (v := (-11)) hx hb dB_36_4_5.1.2.1.2 (by decide) ?_
    rw [hQ]
    exact W.iret (v := (-11)) hx hb hr (fun t ht hW => ⟨⟨(-11), (), rfl, ⟨by omega, by unfold rwC rdI lnI; (repeat' split) <;> omega⟩, trivial⟩, hS.F ht⟩) hS.2.2 dB_36_4_5.1.2.2.1
end

section
set_option maxHeartbeats 4000000 in
set_option maxRecDepth 100000 in
theorem c_X11_read2 (l : Launch) (D : va_G) (cy : Nat → ClassId) (sz : Nat) (xo : Nat) (xk : Nat) (xn : Nat) (xc : Nat) (xh : Nat) (xt : Nat) (xw : Nat) (xm : Nat) (xp : Nat) (pf : Int32) (ph : Int32) (tr : Int64) (fi : Int32) (n1 : Nat) (n2 : Nat) (n3 : Nat) (n4 : Nat) (n5 : Nat) (vp : Int32) (vn : Int32) (fk : Nat → Int32) (fs : Nat → Int32) (fe : Nat → Int32) (fw : Nat → Int32) (fp : Nat → Int32) (pa : Nat → Nat → Nat) (pv : Nat → Nat → Int32) (pg : Nat → Nat → Nat → Int32) (pm : Nat) (k0 : Nat) (k1 : Nat) (k2 : Nat) (k3 : Nat) (k4 : Nat) (m0 : Nat) (l0 : Nat) (u0 : Nat) (m1 : Nat) (l1 : Nat) (u1 : Nat) (m2 : Nat) (l2 : Nat) (u2 : Nat) (m3 : Nat) (l3 : Nat) (u3 : Nat) (mk0 : Int32) (mr0 : Int32) (mk1 : Int32) (mr1 : Int32) (mk2 : Int32) (mr2 : Int32) (mk3 : Int32) (mr3 : Int32) (fl0 : Nat → Int32) (fl1 : Nat → Int32) (fl2 : Nat → Int32) (fl3 : Nat → Int32) (fn0 : Nat → Int64) (fn1 : Nat → Int64) (fn2 : Nat → Int64) (fn3 : Nat → Int64) (a1 : Int32) (hnk : nok vp vn fk fs fe fw fp) (hpk : pok pv pg pm) (hrk : rok pf ph pm) (hmr0 : mr0.toInt = -9 ∨ (0 ≤ mr0.toInt ∧ mr0.toInt ≤ 6)) (hmr1 : mr1.toInt = -9 ∨ (0 ≤ mr1.toInt ∧ mr1.toInt ≤ 6)) (hmr2 : mr2.toInt = -9 ∨ (0 ≤ mr2.toInt ∧ mr2.toInt ≤ 6)) (hmr3 : mr3.toInt = -9 ∨ (0 ≤ mr3.toInt ∧ mr3.toInt ≤ 6)) (hpr : prng fs fe 40) (r_fk : rng fk 40 (0) (4)) (r_fw : rng fw 40 (0) (2000)) (r_fp : rng fp 40 (0) (100)) (r_fl0 : rng fl0 6 (-9) (5)) (r_fl1 : rng fl1 6 (-9) (5)) (r_fl2 : rng fl2 6 (-9) (5)) (r_fl3 : rng fl3 6 (-9) (5)) : Met l yX11_read wsX11_read ({ frames := 4, cells := 6, slots := 207, locals := 98 }) (va_Pc [.ref xo, .int a1] (fun U => U.heap.size = sz ∧ va_P D vwCl (([ob11_0_ xo xk xn xc xh xt xw xm xp pf ph tr fi, ob3_0_ xn vp vn n1 n2 n3 n4 n5, ai_ cy n1 40 fk, ai_ cy n2 40 fs, ai_ cy n3 40 fe, ai_ cy n4 40 fw, ai_ cy n5 40 fp, aq_ cy 3 xk 5 (kf_ k0 k1 k2 k3 k4), ob6_0_ k0, ob5_0_ k1, ob9_0_ k2, ob2_0_ k3, ob8_0_ k4, aq_ cy 4 xm 4 (mf_ m0 m1 m2 m3), ob4_0_ m0 mk0 mr0 l0 u0, ob4_0_ m1 mk1 mr1 l1 u1, ob4_0_ m2 mk2 mr2 l2 u2, ob4_0_ m3 mk3 mr3 l3 u3, ai_ cy l0 6 fl0, ai_ cy l1 6 fl1, ai_ cy l2 6 fl2, ai_ cy l3 6 fl3, aj_ cy u0 30 fn0, aj_ cy u1 30 fn1, aj_ cy u2 30 fn2, aj_ cy u3 30 fn3, aq_ cy 5 xp 30 (pst pa pm)] : va_W) ++ (pool cy pa pv pg pm)) U.heap ∧ kk_ D cy U ∧ va_D (fun _ => True) (([ob11_0_ xo xk xn xc xh xt xw xm xp pf ph tr fi, ob3_0_ xn vp vn n1 n2 n3 n4 n5, ai_ cy n1 40 fk, ai_ cy n2 40 fs, ai_ cy n3 40 fe, ai_ cy n4 40 fw, ai_ cy n5 40 fp, aq_ cy 3 xk 5 (kf_ k0 k1 k2 k3 k4), ob6_0_ k0, ob5_0_ k1, ob9_0_ k2, ob2_0_ k3, ob8_0_ k4, aq_ cy 4 xm 4 (mf_ m0 m1 m2 m3), ob4_0_ m0 mk0 mr0 l0 u0, ob4_0_ m1 mk1 mr1 l1 u1, ob4_0_ m2 mk2 mr2 l2 u2, ob4_0_ m3 mk3 mr3 l3 u3, ai_ cy l0 6 fl0, ai_ cy l1 6 fl1, ai_ cy l2 6 fl2, ai_ cy l3 6 fl3, aj_ cy u0 30 fn0, aj_ cy u1 30 fn1, aj_ cy u2 30 fn2, aj_ cy u3 30 fn3, aq_ cy 5 xp 30 (pst pa pm)] : va_W) ++ (pool cy pa pv pg pm)))) (va_Qi (fun (r : Int32) (_ : Unit) => ((¬ (0 ≤ a1.toInt ∧ a1.toInt < 4) → r.toInt = -1) ∧ ((0 ≤ a1.toInt ∧ a1.toInt < 4) → (((f4_ mr0 mr1 mr2 mr3) a1.toNatClampNeg)).toInt = -9 → r.toInt = 0) ∧ ((0 ≤ a1.toInt ∧ a1.toInt < 4) → (((f4_ mr0 mr1 mr2 mr3) a1.toNatClampNeg)).toInt ≠ -9 → ∃ st : Int, rdn (rwC ((f4_ fl0 fl1 fl2 fl3) a1.toNatClampNeg) ((f4_ fn0 fn1 fn2 fn3) a1.toNatClampNeg) vp.toInt) vn.toInt (((f4_ mr0 mr1 mr2 mr3) a1.toNatClampNeg)).toInt r.toInt st))) (fun (_ : Unit) (t : State) => ∃ (epf : Int32), ∃ (eph : Int32), ∃ (efi : Int32), ∃ (evn : Int32), ∃ (efk : Nat → Int32), ∃ (efs : Nat → Int32), ∃ (efe : Nat → Int32), ∃ (efw : Nat → Int32), ∃ (efp : Nat → Int32), ∃ (epa : Nat → Nat → Nat), ∃ (epv : Nat → Nat → Int32), ∃ (epg : Nat → Nat → Nat → Int32), ∃ (epm : Nat), (nok vp evn efk efs efe efw efp) ∧ (pok epv epg epm) ∧ (rok epf eph epm) ∧ ((¬ (0 ≤ a1.toInt ∧ a1.toInt < 4) → efi.toInt = -1 ∧ chn 0 pf ph pv pg vp vn fk fs fe fw fp epf eph epv epg evn efk efs efe efw efp) ∧ ((0 ≤ a1.toInt ∧ a1.toInt < 4) → (((f4_ mr0 mr1 mr2 mr3) a1.toNatClampNeg)).toInt = -9 → efi.toInt = -11 ∧ chn 0 pf ph pv pg vp vn fk fs fe fw fp epf eph epv epg evn efk efs efe efw efp) ∧ ((0 ≤ a1.toInt ∧ a1.toInt < 4) → (((f4_ mr0 mr1 mr2 mr3) a1.toNatClampNeg)).toInt ≠ -9 → ∃ c : Int, rdn (rwC ((f4_ fl0 fl1 fl2 fl3) a1.toNatClampNeg) ((f4_ fn0 fn1 fn2 fn3) a1.toNatClampNeg) vp.toInt) vn.toInt (((f4_ mr0 mr1 mr2 mr3) a1.toNatClampNeg)).toInt c efi.toInt ∧ chn c pf ph pv pg vp vn fk fs fe fw fp epf eph epv epg evn efk efs efe efw efp ∧ apC vn.toInt c fk fs fe fw fp efk efs efe efw efp ((f4_ fn0 fn1 fn2 fn3) a1.toNatClampNeg) ∧ evn.toInt = vn.toInt + c)) ∧ va_P D vwCl (([ob11_0_ xo xk xn xc xh xt xw xm xp epf eph tr efi, ob3_0_ xn vp evn n1 n2 n3 n4 n5, ai_ cy n1 40 efk, ai_ cy n2 40 efs, ai_ cy n3 40 efe, ai_ cy n4 40 efw, ai_ cy n5 40 efp, aq_ cy 3 xk 5 (kf_ k0 k1 k2 k3 k4), ob6_0_ k0, ob5_0_ k1, ob9_0_ k2, ob2_0_ k3, ob8_0_ k4, aq_ cy 4 xm 4 (mf_ m0 m1 m2 m3), ob4_0_ m0 mk0 mr0 l0 u0, ob4_0_ m1 mk1 mr1 l1 u1, ob4_0_ m2 mk2 mr2 l2 u2, ob4_0_ m3 mk3 mr3 l3 u3, ai_ cy l0 6 fl0, ai_ cy l1 6 fl1, ai_ cy l2 6 fl2, ai_ cy l3 6 fl3, aj_ cy u0 30 fn0, aj_ cy u1 30 fn1, aj_ cy u2 30 fn2, aj_ cy u3 30 fn3, aq_ cy 5 xp 30 (pst epa epm)] : va_W) ++ (pool cy epa epv epg epm)) t.heap ∧ va_D (va_A (([ob11_0_ xo xk xn xc xh xt xw xm xp pf ph tr fi, ob3_0_ xn vp vn n1 n2 n3 n4 n5, ai_ cy n1 40 fk, ai_ cy n2 40 fs, ai_ cy n3 40 fe, ai_ cy n4 40 fw, ai_ cy n5 40 fp, aq_ cy 3 xk 5 (kf_ k0 k1 k2 k3 k4), ob6_0_ k0, ob5_0_ k1, ob9_0_ k2, ob2_0_ k3, ob8_0_ k4, aq_ cy 4 xm 4 (mf_ m0 m1 m2 m3), ob4_0_ m0 mk0 mr0 l0 u0, ob4_0_ m1 mk1 mr1 l1 u1, ob4_0_ m2 mk2 mr2 l2 u2, ob4_0_ m3 mk3 mr3 l3 u3, ai_ cy l0 6 fl0, ai_ cy l1 6 fl1, ai_ cy l2 6 fl2, ai_ cy l3 6 fl3, aj_ cy u0 30 fn0, aj_ cy u1 30 fn1, aj_ cy u2 30 fn2, aj_ cy u3 30 fn3, aq_ cy 5 xp 30 (pst pa pm)] : va_W) ++ (pool cy pa pv pg pm)) sz) (([ob11_0_ xo xk xn xc xh xt xw xm xp epf eph tr efi, ob3_0_ xn vp evn n1 n2 n3 n4 n5, ai_ cy n1 40 efk, ai_ cy n2 40 efs, ai_ cy n3 40 efe, ai_ cy n4 40 efw, ai_ cy n5 40 efp, aq_ cy 3 xk 5 (kf_ k0 k1 k2 k3 k4), ob6_0_ k0, ob5_0_ k1, ob9_0_ k2, ob2_0_ k3, ob8_0_ k4, aq_ cy 4 xm 4 (mf_ m0 m1 m2 m3), ob4_0_ m0 mk0 mr0 l0 u0, ob4_0_ m1 mk1 mr1 l1 u1, ob4_0_ m2 mk2 mr2 l2 u2, ob4_0_ m3 mk3 mr3 l3 u3, ai_ cy l0 6 fl0, ai_ cy l1 6 fl1, ai_ cy l2 6 fl2, ai_ cy l3 6 fl3, aj_ cy u0 30 fn0, aj_ cy u1 30 fn1, aj_ cy u2 30 fn2, aj_ cy u3 30 fn3, aq_ cy 5 xp 30 (pst epa epm)] : va_W) ++ (pool cy epa epv epg epm))) (va_A (([ob11_0_ xo xk xn xc xh xt xw xm xp pf ph tr fi, ob3_0_ xn vp vn n1 n2 n3 n4 n5, ai_ cy n1 40 fk, ai_ cy n2 40 fs, ai_ cy n3 40 fe, ai_ cy n4 40 fw, ai_ cy n5 40 fp, aq_ cy 3 xk 5 (kf_ k0 k1 k2 k3 k4), ob6_0_ k0, ob5_0_ k1, ob9_0_ k2, ob2_0_ k3, ob8_0_ k4, aq_ cy 4 xm 4 (mf_ m0 m1 m2 m3), ob4_0_ m0 mk0 mr0 l0 u0, ob4_0_ m1 mk1 mr1 l1 u1, ob4_0_ m2 mk2 mr2 l2 u2, ob4_0_ m3 mk3 mr3 l3 u3, ai_ cy l0 6 fl0, ai_ cy l1 6 fl1, ai_ cy l2 6 fl2, ai_ cy l3 6 fl3, aj_ cy u0 30 fn0, aj_ cy u1 30 fn1, aj_ cy u2 30 fn2, aj_ cy u3 30 fn3, aq_ cy 5 xp 30 (pst pa pm)] : va_W) ++ (pool cy pa pv pg pm)) sz)) 6 207 (va_A (([ob11_0_ xo xk xn xc xh xt xw xm xp pf ph tr fi, ob3_0_ xn vp vn n1 n2 n3 n4 n5, ai_ cy n1 40 fk, ai_ cy n2 40 fs, ai_ cy n3 40 fe, ai_ cy n4 40 fw, ai_ cy n5 40 fp, aq_ cy 3 xk 5 (kf_ k0 k1 k2 k3 k4), ob6_0_ k0, ob5_0_ k1, ob9_0_ k2, ob2_0_ k3, ob8_0_ k4, aq_ cy 4 xm 4 (mf_ m0 m1 m2 m3), ob4_0_ m0 mk0 mr0 l0 u0, ob4_0_ m1 mk1 mr1 l1 u1, ob4_0_ m2 mk2 mr2 l2 u2, ob4_0_ m3 mk3 mr3 l3 u3, ai_ cy l0 6 fl0, ai_ cy l1 6 fl1, ai_ cy l2 6 fl2, ai_ cy l3 6 fl3, aj_ cy u0 30 fn0, aj_ cy u1 30 fn1, aj_ cy u2 30 fn2, aj_ cy u3 30 fn3, aq_ cy 5 xp 30 (pst pa pm)] : va_W) ++ (pool cy pa pv pg pm)) sz) := by
  refine ofQ (cc := cX11_read) (maxL := 5) (ret := (some .int)) (by decide) rfl ?_
  intro p e s m args below meth c s₁ Q hQ B hml hv
  obtain ⟨rfl, hsz, hP, hK, hD0⟩ := hv
  have hx := B.exec
  have hb := B.bytes
  have hr := B.returns
  have hts := atoms_spec (ws := wsX11_read) B.pre
  have hown : s.vm.findClass RX11 = some m.cls := by have h_ := findClass_of_methodNamed B.named; exact h_
  have hlocks := B.notSynchronized
  subst hsz
  have hD := hD0.self (sz := s.heap.size)
  generalize hAe : va_A (([ob11_0_ xo xk xn xc xh xt xw xm xp pf ph tr fi, ob3_0_ xn vp vn n1 n2 n3 n4 n5, ai_ cy n1 40 fk, ai_ cy n2 40 fs, ai_ cy n3 40 fe, ai_ cy n4 40 fw, ai_ cy n5 40 fp, aq_ cy 3 xk 5 (kf_ k0 k1 k2 k3 k4), ob6_0_ k0, ob5_0_ k1, ob9_0_ k2, ob2_0_ k3, ob8_0_ k4, aq_ cy 4 xm 4 (mf_ m0 m1 m2 m3), ob4_0_ m0 mk0 mr0 l0 u0, ob4_0_ m1 mk1 mr1 l1 u1, ob4_0_ m2 mk2 mr2 l2 u2, ob4_0_ m3 mk3 mr3 l3 u3, ai_ cy l0 6 fl0, ai_ cy l1 6 fl1, ai_ cy l2 6 fl2, ai_ cy l3 6 fl3, aj_ cy u0 30 fn0, aj_ cy u1 30 fn1, aj_ cy u2 30 fn2, aj_ cy u3 30 fn3, aq_ cy 5 xp 30 (pst pa pm)] : va_W) ++ (pool cy pa pv pg pm)) s.heap.size = A at hD hQ
  have hA : ∀ q : Nat, s.heap.size ≤ q → A q := fun q h => by rw [← hAe]; exact Or.inr h
  have hS : va_S A s.heap s.heap [] := va_S.rf
  have hl := lv_entry ([.ref xo, .int a1]) (n := 5) (Nat.le_of_ble_eq_true rfl)
  rw [lg_entry_eq]
  generalize (lg_sl ([.ref xo, .int a1]) ++ List.replicate (5 - (lg_sl ([.ref xo, .int a1])).length) Slot.unset).toArray = ls at hl ⊢
  have hl : lv_has ls 5 [(0, .ref xo), (1, .int a1)] := hl
  have zm11 : ((-11) : Int32).toInt = -11 := by decide
  have zm1 : ((-1) : Int32).toInt = -1 := by decide
  have z0 : (0 : Int32).toInt = 0 := by decide
  have z1 : (1 : Int32).toInt = 1 := by decide
  have z2 : (2 : Int32).toInt = 2 := by decide
  have z3 : (3 : Int32).toInt = 3 := by decide
  have z4 : (4 : Int32).toInt = 4 := by decide
  have hvp := hnk.1
  have hvn := hnk.2.1
  have hr_ := hrk
  unfold rok at hr_
  refine lv_iload_n hx hb dB_36_3_49.1.1.1.1 rfl (lv_at hl 1 rfl) ?_
  have hPx := pp_left hP
  have hDx := dd_left hD
  refine ct_R hPx hDx [] [] (by decide) rfl (fun hPc hDw => ?_)
  have hFc := va_free (wc := []) hD hS hA [] rfl
  refine va_calli (va_runS (As := [.int a1]) (rest := []) ⟨hx, hb, hml, hown, hts⟩ (c_X11_isMapNumber l D cy s.heap.size a1) (va_cwS 1 hts gX11_read_X11_isMapNumber rfl rfl rfl hd_X11_isMapNumber ⟨Nat.le_of_ble_eq_true rfl, Nat.le_of_ble_eq_true rfl⟩) ⟨bl_, fun U hU hW => ⟨rfl, by rw [hU], by rw [hU]; exact hPc, kk_mv hW hK, hDw⟩⟩ rfl rfl hl.1 rfl (lv_room (Nat.le_of_ble_eq_true rfl)) dB_36_3_49.1.1.1.2 ⟨Nat.le_of_ble_eq_true rfl, Nat.le_of_ble_eq_true rfl⟩) hS (fun q _ h => hFc q h) hFc (fun r_1 u t H locs ht hvm hw hB hz1 hk1 hS => ?_)
  have hP : va_P D vwCl _ H := ro_keep hP hk1
  rcases hw with ⟨w_2, e_⟩ | ⟨w_2, e_⟩
  · have e_ := e_.symm
    subst e_
    refine lv_if_ne (tgt := 14) hx hb dB_36_3_49.1.1.2.1 (by decide) (fun c_3 => ?_) (fun c_3 => ?_)
    · have _ := c_3
      rcases sp_4 (x := a1) (by omega) with rfl | rfl | rfl | rfl
      · refine lv_aload_n hx hb dB_36_3_49.2.1.1.1 rfl (lv_at hl 0 rfl) ?_
        refine va_get (ci := 11) (v := .ref xm) (C := RX11) (T := TX11) (N := 12) hx hb hts (fun _ h => List.mem_cons_of_mem _ (List.mem_append_left _ (List.mem_append_left _ (List.mem_append_right _ h)))) hown hK.1 hP 0 rfl rfl 6 (by decide) (hts (.fieldLink RX11 72 "CutAtlas" "maps" "[LCutAtlas$NumberMap;") (List.mem_of_getElem? (i := 2) rfl)) (fun _ h9 => h9) rfl dB_36_3_49.2.1.1.2 ?_
        refine lv_iload_n hx hb dB_36_3_49.2.1.2.1 rfl (lv_at hl 1 rfl) ?_
        refine va_aldq hx hb hK.1 hP 13 4 rfl rfl (i := 0) (by unfold vp_in; decide) dB_36_3_49.2.1.2.2 ?_
        refine lv_topv (v' := .ref m0) (by simp [va_up, va_rf, mf_, cl_0, cl_1, cl_2, cl_3, cl_4]) ?_
        refine lv_astore_n (lv' := [(2, .ref m0), (0, .ref xo), (1, .int 0)]) hx hb dB_36_3_49.2.2.1.1 rfl hl (by decide) rfl (fun ls hl => ?_)
        refine lv_aload_n hx hb dB_36_3_49.2.2.1.2 rfl (lv_at hl 1 rfl) ?_
        have JOIN_4 : ∀ (u0_4 : Int32) (H : Heap) (locs : List Loc) (ls : Array Slot), (u0_4.toInt = 0 ∧ mr0.toInt ≠ -9 ∨ u0_4.toInt = -11 ∧ mr0.toInt = -9) → pd_2 D vwCl A (([ob11_0_ xo xk xn xc xh xt xw xm xp pf ph tr fi, ob3_0_ xn vp vn n1 n2 n3 n4 n5, ai_ cy n1 40 fk, ai_ cy n2 40 fs, ai_ cy n3 40 fe, ai_ cy n4 40 fw, ai_ cy n5 40 fp, aq_ cy 3 xk 5 (kf_ k0 k1 k2 k3 k4), ob6_0_ k0, ob5_0_ k1, ob9_0_ k2, ob2_0_ k3, ob8_0_ k4, aq_ cy 4 xm 4 (mf_ m0 m1 m2 m3), ob4_0_ m0 mk0 mr0 l0 u0, ob4_0_ m1 mk1 mr1 l1 u1, ob4_0_ m2 mk2 mr2 l2 u2, ob4_0_ m3 mk3 mr3 l3 u3, ai_ cy l0 6 fl0, ai_ cy l1 6 fl1, ai_ cy l2 6 fl2, ai_ cy l3 6 fl3, aj_ cy u0 30 fn0, aj_ cy u1 30 fn1, aj_ cy u2 30 fn2, aj_ cy u3 30 fn3, aq_ cy 5 xp 30 (pst pa pm)] : va_W) ++ (pool cy pa pv pg pm)) H → va_S A s.heap H locs → lv_has ls 5 [(2, .ref m0), (0, .ref xo), (1, .int 0)] → W p l e ({ frames := 4, cells := 6, slots := 207, locals := 98 } : Room) s m (([.ref xo, .int (0 : Int32)] : List Value).toArray) below meth c H locs 0 0 Q (F0 m 35 ls [.int u0_4, .ref xo]) := by
          intro u0_4 H locs ls v0_4 hPD hS hl; obtain ⟨hP, hD⟩ := hPD
          have z35_ := v0_4
          refine va_put (ci := 11) (v := .int u0_4) (ty := .int) (C := RX11) (T := TX11) (N := 12) hx hb hts (fun _ h => List.mem_cons_of_mem _ (List.mem_append_left _ (List.mem_append_left _ (List.mem_append_right _ h)))) tyX11 tyX11_ok nmX11 hown hK.1 hP hD hS 0 rfl rfl 11 (by decide) (hts (.fieldLink RX11 91 "CutAtlas" "finding" "I") (List.mem_of_getElem? (i := 1) rfl)) (fun _ h9 => h9) rfl (by decide +kernel) rfl rfl (Nat.le_of_ble_eq_true rfl) dB_36_3_50.1.2.1.1 (fun H locs hP hD hS => ?_)
          refine pd_K (([ob11_0_ xo xk xn xc xh xt xw xm xp pf ph tr u0_4, ob3_0_ xn vp vn n1 n2 n3 n4 n5, ai_ cy n1 40 fk, ai_ cy n2 40 fs, ai_ cy n3 40 fe, ai_ cy n4 40 fw, ai_ cy n5 40 fp, aq_ cy 3 xk 5 (kf_ k0 k1 k2 k3 k4), ob6_0_ k0, ob5_0_ k1, ob9_0_ k2, ob2_0_ k3, ob8_0_ k4, aq_ cy 4 xm 4 (mf_ m0 m1 m2 m3), ob4_0_ m0 mk0 mr0 l0 u0, ob4_0_ m1 mk1 mr1 l1 u1, ob4_0_ m2 mk2 mr2 l2 u2, ob4_0_ m3 mk3 mr3 l3 u3, ai_ cy l0 6 fl0, ai_ cy l1 6 fl1, ai_ cy l2 6 fl2, ai_ cy l3 6 fl3, aj_ cy u0 30 fn0, aj_ cy u1 30 fn1, aj_ cy u2 30 fn2, aj_ cy u3 30 fn3, aq_ cy 5 xp 30 (pst pa pm)] : va_W) ++ (pool cy pa pv pg pm)) hP hD (fun hP hD => ?_)
          refine lv_iconst (v := 0) hx hb dB_36_3_50.1.2.1.2 (by decide) ?_
          refine lv_istore_n (lv' := [(3, .int 0), (2, .ref m0), (0, .ref xo), (1, .int 0)]) hx hb dB_36_3_50.1.2.2.1 rfl hl (by decide) rfl (fun ls hl => ?_)
          refine lv_iconst (v := 0) hx hb dB_36_3_50.1.2.2.2 (by decide) ?_
          refine lv_istore (lv' := [(4, .int 0), (3, .int 0), (2, .ref m0), (0, .ref xo), (1, .int 0)]) hx hb dB_36_3_50.2.1.1.1 hl (by decide) rfl (fun ls hl => ?_)
          have hr0_ : rdl (rwC fl0 fn0 vp.toInt) vn.toInt mr0.toInt (0 : Int32).toInt (0 : Int32).toInt u0_4.toInt := rdl_s (by omega) (by omega)
          suffices LOOP_5 : ∀ (n_5 : Nat) (x4_5 : Int32) (x3_5 : Int32) (p0_5 : Nat → Nat → Nat) (p1_5 : Nat → Nat → Int32) (p2_5 : Nat → Nat → Nat → Int32) (p3_5 : Nat) (o8_5 : Int32) (o9_5 : Int32) (o11_5 : Int32) (o1_5 : Int32) (c_n1_5 : Nat → Int32) (c_n2_5 : Nat → Int32) (c_n3_5 : Nat → Int32) (c_n4_5 : Nat → Int32) (c_n5_5 : Nat → Int32) (kc_5 : Nat) (ks_5 : Nat) (H : Heap) (locs : List Loc) (ls : Array Slot), 6 - x4_5.toInt < (n_5 : Int) → (0 ≤ x4_5.toInt) → (x4_5.toInt ≤ 6) → (0 ≤ x3_5.toInt) → (x3_5.toInt ≤ x4_5.toInt) → (nok vp o1_5 c_n1_5 c_n2_5 c_n3_5 c_n4_5 c_n5_5) → (pok p1_5 p2_5 p3_5) → (rok o8_5 o9_5 p3_5) → (prng c_n2_5 c_n3_5 40) → (kc_5 ≤ 6 ∧ ks_5 ≤ 207 ∧ (x3_5.toInt = 0 → kc_5 = 0 ∧ ks_5 = 0)) → (rdl (rwC fl0 fn0 vp.toInt) vn.toInt mr0.toInt x3_5.toInt x4_5.toInt o11_5.toInt) → (apC vn.toInt x3_5.toInt fk fs fe fw fp c_n1_5 c_n2_5 c_n3_5 c_n4_5 c_n5_5 fn0) → (chn x3_5.toInt pf ph pv pg vp vn fk fs fe fw fp o8_5 o9_5 p1_5 p2_5 o1_5 c_n1_5 c_n2_5 c_n3_5 c_n4_5 c_n5_5) → (o1_5.toInt = vn.toInt + x3_5.toInt) → (rng c_n1_5 40 (0) (4)) → (rng c_n4_5 40 (0) (2000)) → (rng c_n5_5 40 (0) (100)) → pd_2 D vwCl A (([ob11_0_ xo xk xn xc xh xt xw xm xp o8_5 o9_5 tr o11_5, ob3_0_ xn vp o1_5 n1 n2 n3 n4 n5, ai_ cy n1 40 c_n1_5, ai_ cy n2 40 c_n2_5, ai_ cy n3 40 c_n3_5, ai_ cy n4 40 c_n4_5, ai_ cy n5 40 c_n5_5, aq_ cy 3 xk 5 (kf_ k0 k1 k2 k3 k4), ob6_0_ k0, ob5_0_ k1, ob9_0_ k2, ob2_0_ k3, ob8_0_ k4, aq_ cy 4 xm 4 (mf_ m0 m1 m2 m3), ob4_0_ m0 mk0 mr0 l0 u0, ob4_0_ m1 mk1 mr1 l1 u1, ob4_0_ m2 mk2 mr2 l2 u2, ob4_0_ m3 mk3 mr3 l3 u3, ai_ cy l0 6 fl0, ai_ cy l1 6 fl1, ai_ cy l2 6 fl2, ai_ cy l3 6 fl3, aj_ cy u0 30 fn0, aj_ cy u1 30 fn1, aj_ cy u2 30 fn2, aj_ cy u3 30 fn3, aq_ cy 5 xp 30 (pst p0_5 p3_5)] : va_W) ++ (pool cy p0_5 p1_5 p2_5 p3_5)) H → va_S A s.heap H locs → lv_has ls 5 [(4, .int x4_5), (3, .int x3_5), (2, .ref m0), (0, .ref xo), (1, .int 0)] → W p l e ({ frames := 4, cells := 6, slots := 207, locals := 98 } : Room) s m (([.ref xo, .int (0 : Int32)] : List Value).toArray) below meth c H locs kc_5 ks_5 Q (F0 m 43 ls []) from LOOP_5 ((6 - (0 : Int32).toInt).toNat + 1) (0 : Int32) (0 : Int32) pa pv pg pm pf ph u0_4 vn fk fs fe fw fp _ _ _ _ _ (by omega) (by first | with_reducible assumption | omega | assumption) (by first | with_reducible assumption | omega | assumption) (by first | with_reducible assumption | omega | assumption) (by first | with_reducible assumption | omega | assumption) (by first | exact hnn_ | assumption) (by first | with_reducible assumption | assumption | omega) (by first | with_reducible assumption | assumption | omega) (by first | with_reducible assumption | assumption | omega) (by first | with_reducible assumption | assumption | omega) (by first | exact hr0_ | exact rdl_ok v_none (by omega) (by omega) (hrc_.symm.trans (by omega)) (by omega) (by omega) (by omega) | exact rdl_no v_none (by omega) (by omega) hrc_.symm (by omega) (by omega)) (by first | exact apC_0 | exact hap_ _ (by omega) | assumption) (by first | exact chn_0 | exact chn_p (by omega) hrm_ | assumption) (by first | with_reducible assumption | omega | assumption) (by first | with_reducible assumption | assumption | exact rng_zero (by omega) (by omega) | exact orng_zero) (by first | with_reducible assumption | assumption | exact rng_zero (by omega) (by omega) | exact orng_zero) (by first | with_reducible assumption | assumption | exact rng_zero (by omega) (by omega) | exact orng_zero) ⟨hP, hD⟩ hS (lv_sub hl [0, 1, 2, 3, 4] rfl)
          intro n_5
          induction n_5 with
          | zero =>
            intro x4_5 x3_5 p0_5 p1_5 p2_5 p3_5 o8_5 o9_5 o11_5 o1_5 c_n1_5 c_n2_5 c_n3_5 c_n4_5 c_n5_5 kc_5 ks_5 H locs ls hm v0_5 v1_5 v2_5 v3_5 v4_5 v5_5 v6_5 v7_5 v8_5 v9_5 v10_5 v11_5 v12_5 rc_n1_5 rc_n4_5 rc_n5_5 hPD hS hl; obtain ⟨hP, hD⟩ := hPD
            exact absurd hm (by omega)
          | succ n_5 ih_5 =>
            intro x4_5 x3_5 p0_5 p1_5 p2_5 p3_5 o8_5 o9_5 o11_5 o1_5 c_n1_5 c_n2_5 c_n3_5 c_n4_5 c_n5_5 kc_5 ks_5 H locs ls hm v0_5 v1_5 v2_5 v3_5 v4_5 v5_5 v6_5 v7_5 v8_5 v9_5 v10_5 v11_5 v12_5 rc_n1_5 rc_n4_5 rc_n5_5 hPD hS hl; obtain ⟨hP, hD⟩ := hPD
            refine lv_iload hx hb dB_36_3_50.2.1.1.2 (lv_at hl 0 rfl) ?_
            refine lv_aload_n hx hb dB_36_3_50.2.1.2.1 rfl (lv_at hl 2 rfl) ?_
            refine va_get (ci := 4) (v := .int mr0) (C := RX4) (T := TX4) (N := 4) hx hb hts (fun _ h => List.mem_cons_of_mem _ (List.mem_append_left _ (List.mem_append_right _ h))) hown hK.1 hP 14 rfl rfl 1 (by decide) (hts (.fieldLink RX11 284 "CutAtlas$NumberMap" "rows" "I") (List.mem_of_getElem? (i := 3) rfl)) (fun _ h9 => h9) rfl dB_36_3_50.2.1.2.2 ?_
            refine lv_icmp_ge (tgt := 134) hx hb dB_36_3_50.2.2.1.1 (by decide) (fun c_6 => ?_) (fun c_6 => ?_)
            · have t_6 : mr0.toInt ≤ x4_5.toInt := Int32.le_iff_toInt_le.mp c_6
              have hq9_ := (v9_5).2
              refine lv_iload_n hx hb dB_36_3_53.2.2.2.1 rfl (lv_at hl 1 rfl) ?_
              refine W.widen (k := 6) (n := 207) (by omega) (by omega) ?_
              rw [hQ]
              exact W.iret (v := x3_5) hx hb hr (fun t ht hW => ⟨⟨x3_5, (), rfl, (by first | exact ⟨fun _ => by decide, fun h => absurd h (by omega), fun h => absurd h (by omega)⟩ | (refine ⟨fun h => absurd (by decide) h, ?_, ?_⟩ <;> rw [f4_c0] <;> first | exact fun _ h => absurd h (by omega) | exact fun _ h => by omega | (rw [f4_c0, f4_c0]; exact fun _ _ => ⟨_, rdl_end v9_5 (by omega) (by omega)⟩)) | (refine ⟨fun h => absurd (by decide) h, ?_, ?_⟩ <;> rw [f4_c1] <;> first | exact fun _ h => absurd h (by omega) | exact fun _ h => by omega | (rw [f4_c1, f4_c1]; exact fun _ _ => ⟨_, rdl_end v9_5 (by omega) (by omega)⟩)) | (refine ⟨fun h => absurd (by decide) h, ?_, ?_⟩ <;> rw [f4_c2] <;> first | exact fun _ h => absurd h (by omega) | exact fun _ h => by omega | (rw [f4_c2, f4_c2]; exact fun _ _ => ⟨_, rdl_end v9_5 (by omega) (by omega)⟩)) | (refine ⟨fun h => absurd (by decide) h, ?_, ?_⟩ <;> rw [f4_c3] <;> first | exact fun _ h => absurd h (by omega) | exact fun _ h => by omega | (rw [f4_c3, f4_c3]; exact fun _ _ => ⟨_, rdl_end v9_5 (by omega) (by omega)⟩))), o8_5, o9_5, o11_5, o1_5, c_n1_5, c_n2_5, c_n3_5, c_n4_5, c_n5_5, p0_5, p1_5, p2_5, p3_5, (by first | exact hnk | assumption), (by assumption), (by assumption), (by first | exact ⟨fun _ => ⟨by decide, chn_0⟩, fun h => absurd h (by omega), fun h => absurd h (by omega)⟩ | (refine ⟨fun h => absurd (by decide) h, ?_, ?_⟩ <;> rw [f4_c0] <;> first | exact fun _ h => absurd h (by omega) | exact fun _ h => ⟨by omega, chn_s v11_5 (by omega)⟩ | (rw [f4_c0, f4_c0]; exact fun _ _ => ⟨_, rdl_end v9_5 (by omega) (by omega), v11_5, v10_5, by omega⟩)) | (refine ⟨fun h => absurd (by decide) h, ?_, ?_⟩ <;> rw [f4_c1] <;> first | exact fun _ h => absurd h (by omega) | exact fun _ h => ⟨by omega, chn_s v11_5 (by omega)⟩ | (rw [f4_c1, f4_c1]; exact fun _ _ => ⟨_, rdl_end v9_5 (by omega) (by omega), v11_5, v10_5, by omega⟩)) | (refine ⟨fun h => absurd (by decide) h, ?_, ?_⟩ <;> rw [f4_c2] <;> first | exact fun _ h => absurd h (by omega) | exact fun _ h => ⟨by omega, chn_s v11_5 (by omega)⟩ | (rw [f4_c2, f4_c2]; exact fun _ _ => ⟨_, rdl_end v9_5 (by omega) (by omega), v11_5, v10_5, by omega⟩)) | (refine ⟨fun h => absurd (by decide) h, ?_, ?_⟩ <;> rw [f4_c3] <;> first | exact fun _ h => absurd h (by omega) | exact fun _ h => ⟨by omega, chn_s v11_5 (by omega)⟩ | (rw [f4_c3, f4_c3]; exact fun _ _ => ⟨_, rdl_end v9_5 (by omega) (by omega), v11_5, v10_5, by omega⟩))), by rw [ht]; exact hP, hD⟩, hS.F ht⟩) hS.2.2 dB_36_3_53.2.2.2.2
            · have t_6 : ¬ mr0.toInt ≤ x4_5.toInt := fun h => c_6 (Int32.le_iff_toInt_le.mpr h)
              have hnl_ := v4_5.2.1
              refine lv_aload_n hx hb dB_36_3_50.2.2.1.2 rfl (lv_at hl 3 rfl) ?_
              refine va_get (ci := 11) (v := .int o11_5) (C := RX11) (T := TX11) (N := 12) hx hb hts (fun _ h => List.mem_cons_of_mem _ (List.mem_append_left _ (List.mem_append_left _ (List.mem_append_right _ h)))) hown hK.1 hP 0 rfl rfl 11 (by decide) (hts (.fieldLink RX11 91 "CutAtlas" "finding" "I") (List.mem_of_getElem? (i := 1) rfl)) (fun _ h9 => h9) rfl dB_36_3_50.2.2.2.1 ?_
              refine lv_if_ne (tgt := 134) hx hb dB_36_3_50.2.2.2.2 (by decide) (fun c_7 => ?_) (fun c_7 => ?_)
              · have t_7 : ¬ o11_5.toInt = (0 : Int32).toInt := fun h => c_7 (Int32.toInt_inj.mp h)
                have hq9_ := (v9_5).2
                refine lv_iload_n hx hb dB_36_3_53.2.2.2.1 rfl (lv_at hl 1 rfl) ?_
                refine W.widen (k := 6) (n := 207) (by omega) (by omega) ?_
                rw [hQ]
                exact W.iret (v := x3_5) hx hb hr (fun t ht hW => ⟨⟨x3_5, (), rfl, (by first | exact ⟨fun _ => by decide, fun h => absurd h (by omega), fun h => absurd h (by omega)⟩ | (refine ⟨fun h => absurd (by decide) h, ?_, ?_⟩ <;> rw [f4_c0] <;> first | exact fun _ h => absurd h (by omega) | exact fun _ h => by omega | (rw [f4_c0, f4_c0]; exact fun _ _ => ⟨_, rdl_end v9_5 (by omega) (by omega)⟩)) | (refine ⟨fun h => absurd (by decide) h, ?_, ?_⟩ <;> rw [f4_c1] <;> first | exact fun _ h => absurd h (by omega) | exact fun _ h => by omega | (rw [f4_c1, f4_c1]; exact fun _ _ => ⟨_, rdl_end v9_5 (by omega) (by omega)⟩)) | (refine ⟨fun h => absurd (by decide) h, ?_, ?_⟩ <;> rw [f4_c2] <;> first | exact fun _ h => absurd h (by omega) | exact fun _ h => by omega | (rw [f4_c2, f4_c2]; exact fun _ _ => ⟨_, rdl_end v9_5 (by omega) (by omega)⟩)) | (refine ⟨fun h => absurd (by decide) h, ?_, ?_⟩ <;> rw [f4_c3] <;> first | exact fun _ h => absurd h (by omega) | exact fun _ h => by omega | (rw [f4_c3, f4_c3]; exact fun _ _ => ⟨_, rdl_end v9_5 (by omega) (by omega)⟩))), o8_5, o9_5, o11_5, o1_5, c_n1_5, c_n2_5, c_n3_5, c_n4_5, c_n5_5, p0_5, p1_5, p2_5, p3_5, (by first | exact hnk | assumption), (by assumption), (by assumption), (by first | exact ⟨fun _ => ⟨by decide, chn_0⟩, fun h => absurd h (by omega), fun h => absurd h (by omega)⟩ | (refine ⟨fun h => absurd (by decide) h, ?_, ?_⟩ <;> rw [f4_c0] <;> first | exact fun _ h => absurd h (by omega) | exact fun _ h => ⟨by omega, chn_s v11_5 (by omega)⟩ | (rw [f4_c0, f4_c0]; exact fun _ _ => ⟨_, rdl_end v9_5 (by omega) (by omega), v11_5, v10_5, by omega⟩)) | (refine ⟨fun h => absurd (by decide) h, ?_, ?_⟩ <;> rw [f4_c1] <;> first | exact fun _ h => absurd h (by omega) | exact fun _ h => ⟨by omega, chn_s v11_5 (by omega)⟩ | (rw [f4_c1, f4_c1]; exact fun _ _ => ⟨_, rdl_end v9_5 (by omega) (by omega), v11_5, v10_5, by omega⟩)) | (refine ⟨fun h => absurd (by decide) h, ?_, ?_⟩ <;> rw [f4_c2] <;> first | exact fun _ h => absurd h (by omega) | exact fun _ h => ⟨by omega, chn_s v11_5 (by omega)⟩ | (rw [f4_c2, f4_c2]; exact fun _ _ => ⟨_, rdl_end v9_5 (by omega) (by omega), v11_5, v10_5, by omega⟩)) | (refine ⟨fun h => absurd (by decide) h, ?_, ?_⟩ <;> rw [f4_c3] <;> first | exact fun _ h => absurd h (by omega) | exact fun _ h => ⟨by omega, chn_s v11_5 (by omega)⟩ | (rw [f4_c3, f4_c3]; exact fun _ _ => ⟨_, rdl_end v9_5 (by omega) (by omega), v11_5, v10_5, by omega⟩))), by rw [ht]; exact hP, hD⟩, hS.F ht⟩) hS.2.2 dB_36_3_53.2.2.2.2
              · have t_7 : o11_5.toInt = (0 : Int32).toInt := congrArg Int32.toInt c_7
                have hlt3_ : x3_5.toInt = x4_5.toInt ∧ x4_5.toInt < mr0.toInt := by have h9 := v9_5.2; omega
                refine lv_aload_n hx hb dB_36_3_51.1.1.1.1 rfl (lv_at hl 3 rfl) ?_
                refine lv_aload_n hx hb dB_36_3_51.1.1.1.2 rfl (lv_at hl 3 rfl) ?_
                refine lv_aload_n hx hb dB_36_3_51.1.1.2.1 rfl (lv_at hl 2 rfl) ?_
                refine lv_iload hx hb dB_36_3_51.1.1.2.2 (lv_at hl 0 rfl) ?_
                have hPx := pp_left hP
                have hDx := dd_left hD
                refine ct_R hPx hDx [ob11_0_ xo xk xn xc xh xt xw xm xp o8_5 o9_5 tr o11_5, ob3_0_ xn vp o1_5 n1 n2 n3 n4 n5, ob4_0_ m0 mk0 mr0 l0 u0, ai_ cy l0 6 fl0, aj_ cy u0 30 fn0] [0, 1, 14, 18, 22] (by decide) rfl (fun hPc hDw => ?_)
                have hFc := va_free (wc := []) hD hS hA [] rfl
                refine va_calli (va_runV (As := [.ref m0, .int x4_5]) (rest := [.ref xo]) ⟨hx, hb, hml, hown, hts⟩ (c_X11_readRefusal2 l D cy H.size xo xk xn xc xh xt xw xm xp o8_5 o9_5 tr o11_5 n1 n2 n3 n4 n5 vp o1_5 m0 l0 u0 mk0 mr0 fl0 fn0 x4_5 (by first | with_reducible assumption | omega | assumption) (by first | with_reducible assumption | omega | assumption) (by first | with_reducible assumption | omega | assumption) (by first | with_reducible assumption | assumption | omega)) (cwV 2 hts gX11_read_X11_readRefusal rfl rfl rfl ⟨rfl, hd_X11_readRefusal⟩ ⟨Nat.le_of_ble_eq_true rfl, Nat.le_of_ble_eq_true rfl⟩) ⟨bl_, va_recvX hK.1 hPx (ci := 11) (q0 := 0) rfl rfl, fun U hU hW => ⟨rfl, by rw [hU], by rw [hU]; exact hPc, kk_mv hW hK, hDw⟩⟩ rfl rfl hl.1 rfl (lv_room (Nat.le_of_ble_eq_true rfl)) dB_36_3_51.1.2.1.1 ⟨(by show _ ≤ 6; omega), (by show _ ≤ 207; omega)⟩) hS (fun q _ h => hFc q h) hFc (fun r_8 u t H locs ht hvm hw hB hz1 hk1 hS => ?_)
                have hP : va_P D vwCl _ H := ro_keep hP hk1
                obtain ⟨f0_r_8, f1_r_8⟩ := hw
                have hrc_ : r_8.toInt = rwC fl0 fn0 vp.toInt x3_5.toInt.toNat (vn.toInt + x3_5.toInt) := by rw [f1_r_8, show x4_5.toNatClampNeg = x3_5.toInt.toNat from (by rw [hlt3_.1]; rfl), v12_5]
                refine va_put (ci := 11) (v := .int r_8) (ty := .int) (C := RX11) (T := TX11) (N := 12) hx hb hts (fun _ h => List.mem_cons_of_mem _ (List.mem_append_left _ (List.mem_append_left _ (List.mem_append_right _ h)))) tyX11 tyX11_ok nmX11 hown hK.1 hP hD hS 0 rfl rfl 11 (by decide) (hts (.fieldLink RX11 91 "CutAtlas" "finding" "I") (List.mem_of_getElem? (i := 1) rfl)) (fun _ h9 => h9) rfl (by decide +kernel) rfl rfl (Nat.le_of_ble_eq_true rfl) dB_36_3_51.1.2.1.2 (fun H locs hP hD hS => ?_)
                refine pd_K (([ob11_0_ xo xk xn xc xh xt xw xm xp o8_5 o9_5 tr r_8, ob3_0_ xn vp o1_5 n1 n2 n3 n4 n5, ai_ cy n1 40 c_n1_5, ai_ cy n2 40 c_n2_5, ai_ cy n3 40 c_n3_5, ai_ cy n4 40 c_n4_5, ai_ cy n5 40 c_n5_5, aq_ cy 3 xk 5 (kf_ k0 k1 k2 k3 k4), ob6_0_ k0, ob5_0_ k1, ob9_0_ k2, ob2_0_ k3, ob8_0_ k4, aq_ cy 4 xm 4 (mf_ m0 m1 m2 m3), ob4_0_ m0 mk0 mr0 l0 u0, ob4_0_ m1 mk1 mr1 l1 u1, ob4_0_ m2 mk2 mr2 l2 u2, ob4_0_ m3 mk3 mr3 l3 u3, ai_ cy l0 6 fl0, ai_ cy l1 6 fl1, ai_ cy l2 6 fl2, ai_ cy l3 6 fl3, aj_ cy u0 30 fn0, aj_ cy u1 30 fn1, aj_ cy u2 30 fn2, aj_ cy u3 30 fn3, aq_ cy 5 xp 30 (pst p0_5 p3_5)] : va_W) ++ (pool cy p0_5 p1_5 p2_5 p3_5)) hP hD (fun hP hD => ?_)
                refine lv_aload_n hx hb dB_36_3_51.1.2.2.1 rfl (lv_at hl 3 rfl) ?_
                refine va_get (ci := 11) (v := .int r_8) (C := RX11) (T := TX11) (N := 12) hx hb hts (fun _ h => List.mem_cons_of_mem _ (List.mem_append_left _ (List.mem_append_left _ (List.mem_append_right _ h)))) hown hK.1 hP 0 rfl rfl 11 (by decide) (hts (.fieldLink RX11 91 "CutAtlas" "finding" "I") (List.mem_of_getElem? (i := 1) rfl)) (fun _ h9 => h9) rfl dB_36_3_51.1.2.2.2 ?_
                refine lv_if_ne (tgt := 128) hx hb dB_36_3_51.2.1.1.1 (by decide) (fun c_9 => ?_) (fun c_9 => ?_)
                · have t_9 : ¬ r_8.toInt = (0 : Int32).toInt := fun h => c_9 (Int32.toInt_inj.mp h)
                  obtain ⟨y_10, ey_10⟩ : ∃ y : Int32, y = x4_5 + 1 := ⟨_, rfl⟩
                  have ty_10 : y_10.toInt = x4_5.toInt + (1 : Int32).toInt := by rw [ey_10]; exact addI (by omega) (by omega)
                  refine lv_iinc (v := y_10) (lv' := [(4, .int y_10), (3, .int x3_5), (2, .ref m0), (0, .ref xo), (1, .int 0)]) hx hb dB_36_3_53.2.1.2 hl (k := 0) rfl (by rw [ey_10]; rfl) (by decide) rfl (fun ls hl => ?_)
                  refine lv_goto (tgt := 43) hx hb dB_36_3_53.2.2.1 (by decide) ?_
                  exact ih_5 y_10 x3_5 p0_5 p1_5 p2_5 p3_5 o8_5 o9_5 r_8 o1_5 c_n1_5 c_n2_5 c_n3_5 c_n4_5 c_n5_5 _ _ _ _ _ (by omega) (by first | with_reducible assumption | omega | assumption) (by first | with_reducible assumption | omega | assumption) (by first | with_reducible assumption | omega | assumption) (by first | with_reducible assumption | omega | assumption) (by first | exact hnn_ | assumption) (by first | with_reducible assumption | assumption | omega) (by first | with_reducible assumption | assumption | omega) (by first | with_reducible assumption | assumption | omega) (by first | with_reducible assumption | assumption | omega) (by first | exact hr0_ | exact rdl_ok v9_5 (by omega) (by omega) (hrc_.symm.trans (by omega)) (by omega) (by omega) (by omega) | exact rdl_no v9_5 (by omega) (by omega) hrc_.symm (by omega) (by omega)) (by first | exact apC_0 | exact hap_ _ (by omega) | assumption) (by first | exact chn_0 | exact chn_p (by omega) hrm_ | assumption) (by first | with_reducible assumption | omega | assumption) (by first | with_reducible assumption | assumption | exact rng_zero (by omega) (by omega) | exact orng_zero) (by first | with_reducible assumption | assumption | exact rng_zero (by omega) (by omega) | exact orng_zero) (by first | with_reducible assumption | assumption | exact rng_zero (by omega) (by omega) | exact orng_zero) ⟨hP, hD⟩ hS (lv_sub hl [0, 1, 2, 3, 4] rfl)
                · have t_9 : r_8.toInt = (0 : Int32).toInt := congrArg Int32.toInt c_9
                  have JOIN_11 : ∀ (p0_11 : Nat → Nat → Nat) (p1_11 : Nat → Nat → Int32) (p2_11 : Nat → Nat → Nat → Int32) (p3_11 : Nat) (o8_11 : Int32) (o9_11 : Int32) (H : Heap) (locs : List Loc) (ls : Array Slot), (pok p1_11 p2_11 p3_11) → (rok o8_11 o9_11 p3_11) → (remd pf ph pv pg vp vn fk fs fe fw fp o8_11 o9_11 p1_11 p2_11) → pd_2 D vwCl A (([ob11_0_ xo xk xn xc xh xt xw xm xp o8_11 o9_11 tr r_8, ob3_0_ xn vp o1_5 n1 n2 n3 n4 n5, ai_ cy n1 40 c_n1_5, ai_ cy n2 40 c_n2_5, ai_ cy n3 40 c_n3_5, ai_ cy n4 40 c_n4_5, ai_ cy n5 40 c_n5_5, aq_ cy 3 xk 5 (kf_ k0 k1 k2 k3 k4), ob6_0_ k0, ob5_0_ k1, ob9_0_ k2, ob2_0_ k3, ob8_0_ k4, aq_ cy 4 xm 4 (mf_ m0 m1 m2 m3), ob4_0_ m0 mk0 mr0 l0 u0, ob4_0_ m1 mk1 mr1 l1 u1, ob4_0_ m2 mk2 mr2 l2 u2, ob4_0_ m3 mk3 mr3 l3 u3, ai_ cy l0 6 fl0, ai_ cy l1 6 fl1, ai_ cy l2 6 fl2, ai_ cy l3 6 fl3, aj_ cy u0 30 fn0, aj_ cy u1 30 fn1, aj_ cy u2 30 fn2, aj_ cy u3 30 fn3, aq_ cy 5 xp 30 (pst p0_11 p3_11)] : va_W) ++ (pool cy p0_11 p1_11 p2_11 p3_11)) H → va_S A s.heap H locs → lv_has ls 5 [(4, .int x4_5), (3, .int x3_5), (2, .ref m0), (0, .ref xo), (1, .int 0)] → W p l e ({ frames := 4, cells := 6, slots := 207, locals := 98 } : Room) s m (([.ref xo, .int (0 : Int32)] : List Value).toArray) below meth c H locs 6 207 Q (F0 m 85 ls []) := by
                    intro p0_11 p1_11 p2_11 p3_11 o8_11 o9_11 H locs ls v0_11 v1_11 v2_11 hPD hS hl; obtain ⟨hP, hD⟩ := hPD
                    have hrm_ := v2_11
                    refine lv_aload_n hx hb dB_36_3_51.2.2.1.2 rfl (lv_at hl 3 rfl) ?_
                    refine lv_aload_n hx hb dB_36_3_51.2.2.2.1 rfl (lv_at hl 2 rfl) ?_
                    refine lv_iload hx hb dB_36_3_51.2.2.2.2 (lv_at hl 0 rfl) ?_
                    refine lv_iconst (v := 0) hx hb dB_36_3_52.1.1.1.1 (by decide) ?_
                    have hPx := pp_left hP
                    have hDx := dd_left hD
                    refine ct_R hPx hDx [ob4_0_ m0 mk0 mr0 l0 u0, aj_ cy u0 30 fn0] [14, 22] (by decide) rfl (fun hPc hDw => ?_)
                    have hFc := va_free (wc := []) hD hS hA [] rfl
                    refine va_calli (va_runV (As := [.int x4_5, .int 0]) (rest := [.ref xo]) ⟨hx, hb, hml, hown, hts⟩ (c_X4_whole l D cy H.size m0 l0 u0 mk0 mr0 fn0 x4_5 (0 : Int32) (by first | with_reducible assumption | omega | assumption) (by first | with_reducible assumption | omega | assumption)) (cwV 2 hts gX11_read_X4_whole rfl rfl rfl ⟨rfl, hd_X4_whole⟩ ⟨Nat.le_of_ble_eq_true rfl, Nat.le_of_ble_eq_true rfl⟩) ⟨bl_, va_recvX hK.1 hPx (ci := 4) (q0 := 14) rfl rfl, fun U hU hW => ⟨rfl, by rw [hU], by rw [hU]; exact hPc, kk_mv hW hK, hDw⟩⟩ rfl rfl hl.1 rfl (lv_room (Nat.le_of_ble_eq_true rfl)) dB_36_3_52.1.1.1.2 ⟨Nat.le_of_ble_eq_true rfl, Nat.le_of_ble_eq_true rfl⟩) hS (fun q _ h => hFc q h) hFc (fun r_12 u t H locs ht hvm hw hB hz1 hk1 hS => ?_)
                    have hP : va_P D vwCl _ H := ro_keep hP hk1
                    have f0_r_12 := hw
                    have v0_ : r_12 = (fn0 (5 * x4_5.toNatClampNeg + 0)).toInt32 := num32 f0_r_12 (by omega) (by omega)
                    have w0_ : r_12.toInt = (fn0 (5 * x4_5.toNatClampNeg + 0)).toInt := by rw [v0_]; exact l2iI (by omega) (by omega)
                    refine lv_aload_n hx hb dB_36_3_52.1.1.2.1 rfl (lv_at hl 2 rfl) ?_
                    refine lv_iload hx hb dB_36_3_52.1.1.2.2 (lv_at hl 0 rfl) ?_
                    refine lv_iconst (v := 1) hx hb dB_36_3_52.1.2.1.1 (by decide) ?_
                    have hPx := pp_left hP
                    have hDx := dd_left hD
                    refine ct_R hPx hDx [ob4_0_ m0 mk0 mr0 l0 u0, aj_ cy u0 30 fn0] [14, 22] (by decide) rfl (fun hPc hDw => ?_)
                    have hFc := va_free (wc := []) hD hS hA [] rfl
                    refine va_calli (va_runV (As := [.int x4_5, .int 1]) (rest := [.int r_12, .ref xo]) ⟨hx, hb, hml, hown, hts⟩ (c_X4_whole l D cy H.size m0 l0 u0 mk0 mr0 fn0 x4_5 (1 : Int32) (by first | with_reducible assumption | omega | assumption) (by first | with_reducible assumption | omega | assumption)) (cwV 2 hts gX11_read_X4_whole rfl rfl rfl ⟨rfl, hd_X4_whole⟩ ⟨Nat.le_of_ble_eq_true rfl, Nat.le_of_ble_eq_true rfl⟩) ⟨bl_, va_recvX hK.1 hPx (ci := 4) (q0 := 14) rfl rfl, fun U hU hW => ⟨rfl, by rw [hU], by rw [hU]; exact hPc, kk_mv hW hK, hDw⟩⟩ rfl rfl hl.1 rfl (lv_room (Nat.le_of_ble_eq_true rfl)) dB_36_3_52.1.2.1.2 ⟨Nat.le_of_ble_eq_true rfl, Nat.le_of_ble_eq_true rfl⟩) hS (fun q _ h => hFc q h) hFc (fun r_13 u t H locs ht hvm hw hB hz1 hk1 hS => ?_)
                    have hP : va_P D vwCl _ H := ro_keep hP hk1
                    have f0_r_13 := hw
                    have v1_ : r_13 = (fn0 (5 * x4_5.toNatClampNeg + 1)).toInt32 := num32 f0_r_13 (by omega) (by omega)
                    have w1_ : r_13.toInt = (fn0 (5 * x4_5.toNatClampNeg + 1)).toInt := by rw [v1_]; exact l2iI (by omega) (by omega)
                    refine lv_aload_n hx hb dB_36_3_52.1.2.2.1 rfl (lv_at hl 2 rfl) ?_
                    refine lv_iload hx hb dB_36_3_52.1.2.2.2 (lv_at hl 0 rfl) ?_
                    refine lv_iconst (v := 2) hx hb dB_36_3_52.2.1.1.1 (by decide) ?_
                    have hPx := pp_left hP
                    have hDx := dd_left hD
                    refine ct_R hPx hDx [ob4_0_ m0 mk0 mr0 l0 u0, aj_ cy u0 30 fn0] [14, 22] (by decide) rfl (fun hPc hDw => ?_)
                    have hFc := va_free (wc := []) hD hS hA [] rfl
                    refine va_calli (va_runV (As := [.int x4_5, .int 2]) (rest := [.int r_13, .int r_12, .ref xo]) ⟨hx, hb, hml, hown, hts⟩ (c_X4_whole l D cy H.size m0 l0 u0 mk0 mr0 fn0 x4_5 (2 : Int32) (by first | with_reducible assumption | omega | assumption) (by first | with_reducible assumption | omega | assumption)) (cwV 2 hts gX11_read_X4_whole rfl rfl rfl ⟨rfl, hd_X4_whole⟩ ⟨Nat.le_of_ble_eq_true rfl, Nat.le_of_ble_eq_true rfl⟩) ⟨bl_, va_recvX hK.1 hPx (ci := 4) (q0 := 14) rfl rfl, fun U hU hW => ⟨rfl, by rw [hU], by rw [hU]; exact hPc, kk_mv hW hK, hDw⟩⟩ rfl rfl hl.1 rfl (lv_room (Nat.le_of_ble_eq_true rfl)) dB_36_3_52.2.1.1.2 ⟨Nat.le_of_ble_eq_true rfl, Nat.le_of_ble_eq_true rfl⟩) hS (fun q _ h => hFc q h) hFc (fun r_14 u t H locs ht hvm hw hB hz1 hk1 hS => ?_)
                    have hP : va_P D vwCl _ H := ro_keep hP hk1
                    have f0_r_14 := hw
                    have v2_ : r_14 = (fn0 (5 * x4_5.toNatClampNeg + 2)).toInt32 := num32 f0_r_14 (by omega) (by omega)
                    have w2_ : r_14.toInt = (fn0 (5 * x4_5.toNatClampNeg + 2)).toInt := by rw [v2_]; exact l2iI (by omega) (by omega)
                    refine lv_aload_n hx hb dB_36_3_52.2.1.2.1 rfl (lv_at hl 2 rfl) ?_
                    refine lv_iload hx hb dB_36_3_52.2.1.2.2 (lv_at hl 0 rfl) ?_
                    refine lv_iconst (v := 3) hx hb dB_36_3_52.2.2.1.1 (by decide) ?_
                    have hPx := pp_left hP
                    have hDx := dd_left hD
                    refine ct_R hPx hDx [ob4_0_ m0 mk0 mr0 l0 u0, aj_ cy u0 30 fn0] [14, 22] (by decide) rfl (fun hPc hDw => ?_)
                    have hFc := va_free (wc := []) hD hS hA [] rfl
                    refine va_calli (va_runV (As := [.int x4_5, .int 3]) (rest := [.int r_14, .int r_13, .int r_12, .ref xo]) ⟨hx, hb, hml, hown, hts⟩ (c_X4_whole l D cy H.size m0 l0 u0 mk0 mr0 fn0 x4_5 (3 : Int32) (by first | with_reducible assumption | omega | assumption) (by first | with_reducible assumption | omega | assumption)) (cwV 2 hts gX11_read_X4_whole rfl rfl rfl ⟨rfl, hd_X4_whole⟩ ⟨Nat.le_of_ble_eq_true rfl, Nat.le_of_ble_eq_true rfl⟩) ⟨bl_, va_recvX hK.1 hPx (ci := 4) (q0 := 14) rfl rfl, fun U hU hW => ⟨rfl, by rw [hU], by rw [hU]; exact hPc, kk_mv hW hK, hDw⟩⟩ rfl rfl hl.1 rfl (lv_room (Nat.le_of_ble_eq_true rfl)) dB_36_3_52.2.2.1.2 ⟨Nat.le_of_ble_eq_true rfl, Nat.le_of_ble_eq_true rfl⟩) hS (fun q _ h => hFc q h) hFc (fun r_15 u t H locs ht hvm hw hB hz1 hk1 hS => ?_)
                    have hP : va_P D vwCl _ H := ro_keep hP hk1
                    have f0_r_15 := hw
                    have v3_ : r_15 = (fn0 (5 * x4_5.toNatClampNeg + 3)).toInt32 := num32 f0_r_15 (by omega) (by omega)
                    have w3_ : r_15.toInt = (fn0 (5 * x4_5.toNatClampNeg + 3)).toInt := by rw [v3_]; exact l2iI (by omega) (by omega)
                    refine lv_aload_n hx hb dB_36_3_52.2.2.2.1 rfl (lv_at hl 2 rfl) ?_
                    refine lv_iload hx hb dB_36_3_52.2.2.2.2 (lv_at hl 0 rfl) ?_
                    refine lv_iconst (v := 4) hx hb dB_36_3_53.1.1.1 (by decide) ?_
                    have hPx := pp_left hP
                    have hDx := dd_left hD
                    refine ct_R hPx hDx [ob4_0_ m0 mk0 mr0 l0 u0, aj_ cy u0 30 fn0] [14, 22] (by decide) rfl (fun hPc hDw => ?_)
                    have hFc := va_free (wc := []) hD hS hA [] rfl
                    refine va_calli (va_runV (As := [.int x4_5, .int 4]) (rest := [.int r_15, .int r_14, .int r_13, .int r_12, .ref xo]) ⟨hx, hb, hml, hown, hts⟩ (c_X4_whole l D cy H.size m0 l0 u0 mk0 mr0 fn0 x4_5 (4 : Int32) (by first | with_reducible assumption | omega | assumption) (by first | with_reducible assumption | omega | assumption)) (cwV 2 hts gX11_read_X4_whole rfl rfl rfl ⟨rfl, hd_X4_whole⟩ ⟨Nat.le_of_ble_eq_true rfl, Nat.le_of_ble_eq_true rfl⟩) ⟨bl_, va_recvX hK.1 hPx (ci := 4) (q0 := 14) rfl rfl, fun U hU hW => ⟨rfl, by rw [hU], by rw [hU]; exact hPc, kk_mv hW hK, hDw⟩⟩ rfl rfl hl.1 rfl (lv_room (Nat.le_of_ble_eq_true rfl)) dB_36_3_53.1.1.2 ⟨Nat.le_of_ble_eq_true rfl, Nat.le_of_ble_eq_true rfl⟩) hS (fun q _ h => hFc q h) hFc (fun r_16 u t H locs ht hvm hw hB hz1 hk1 hS => ?_)
                    have hP : va_P D vwCl _ H := ro_keep hP hk1
                    have f0_r_16 := hw
                    have v4_ : r_16 = (fn0 (5 * x4_5.toNatClampNeg + 4)).toInt32 := num32 f0_r_16 (by omega) (by omega)
                    have w4_ : r_16.toInt = (fn0 (5 * x4_5.toNatClampNeg + 4)).toInt := by rw [v4_]; exact l2iI (by omega) (by omega)
                    have hPx := pp_left hP
                    have hDx := dd_left hD
                    refine ct_S hPx hDx hS hA [ob11_0_ xo xk xn xc xh xt xw xm xp o8_11 o9_11 tr r_8, ob3_0_ xn vp o1_5 n1 n2 n3 n4 n5, ai_ cy n1 40 c_n1_5, ai_ cy n2 40 c_n2_5, ai_ cy n3 40 c_n3_5, ai_ cy n4 40 c_n4_5, ai_ cy n5 40 c_n5_5, aq_ cy 3 xk 5 (kf_ k0 k1 k2 k3 k4), ob6_0_ k0, ob5_0_ k1, ob9_0_ k2, ob2_0_ k3, ob8_0_ k4] [0, 1, 2, 3, 4, 5, 6, 7, 8, 9, 10, 11, 12] (by decide +kernel) rfl (fun hPc hDw hFc hC_ => ?_)
                    refine va_calli (va_runV (As := [.int r_12, .int r_13, .int r_14, .int r_15, .int r_16]) (rest := []) ⟨hx, hb, hml, hown, hts⟩ (c_X11_addLine2 l D cy H.size xo xk xn xc xh xt xw xm xp o8_11 o9_11 tr r_8 n1 n2 n3 n4 n5 vp o1_5 c_n1_5 c_n2_5 c_n3_5 c_n4_5 c_n5_5 k0 k1 k2 k3 k4 r_12 r_13 r_14 r_15 r_16 (by first | with_reducible assumption | omega | assumption) (by first | with_reducible assumption | omega | assumption) (by first | with_reducible assumption | omega | assumption) (by first | with_reducible assumption | omega | assumption) (by first | with_reducible assumption | omega | assumption) (by first | with_reducible assumption | omega | assumption) (by first | with_reducible assumption | assumption | omega) (by first | with_reducible assumption | assumption | omega) (by first | with_reducible assumption | assumption | omega) (by first | with_reducible assumption | assumption | omega)) (cwV 5 hts gX11_read_X11_addLine rfl rfl rfl ⟨rfl, hd_X11_addLine⟩ ⟨Nat.le_of_ble_eq_true rfl, Nat.le_of_ble_eq_true rfl⟩) ⟨bl_, va_recvX hK.1 hPx (ci := 11) (q0 := 0) rfl rfl, fun U hU hW => ⟨rfl, by rw [hU], by rw [hU]; exact hPc, kk_mv hW hK, hDw⟩⟩ rfl rfl hl.1 rfl (lv_room (Nat.le_of_ble_eq_true rfl)) dB_36_3_53.1.2.1 ⟨Nat.le_of_ble_eq_true rfl, Nat.le_of_ble_eq_true rfl⟩) hS (fun q _ h => hFc q h) hFc (fun r_17 u t H locs ht hvm hw hB hz1 hk1 hS => ?_)
                    obtain ⟨evn_18, efk_19, efs_20, efe_21, efw_22, efp_23, g_24, g_25, g_26, g_27, g_28, g_29, hP1, hD1⟩ := hB
                    rw [ht] at hP1
                    obtain ⟨hP, hD⟩ := va_joinQ (wr := [aq_ cy 4 xm 4 (mf_ m0 m1 m2 m3), ob4_0_ m0 mk0 mr0 l0 u0, ob4_0_ m1 mk1 mr1 l1 u1, ob4_0_ m2 mk2 mr2 l2 u2, ob4_0_ m3 mk3 mr3 l3 u3, ai_ cy l0 6 fl0, ai_ cy l1 6 fl1, ai_ cy l2 6 fl2, ai_ cy l3 6 fl3, aj_ cy u0 30 fn0, aj_ cy u1 30 fn1, aj_ cy u2 30 fn2, aj_ cy u3 30 fn3, aq_ cy 5 xp 30 (pst p0_11 p3_11)]) (w1 := [ob11_0_ xo xk xn xc xh xt xw xm xp o8_11 o9_11 tr r_8, ob3_0_ xn vp evn_18 n1 n2 n3 n4 n5, ai_ cy n1 40 efk_19, ai_ cy n2 40 efs_20, ai_ cy n3 40 efe_21, ai_ cy n4 40 efw_22, ai_ cy n5 40 efp_23, aq_ cy 3 xk 5 (kf_ k0 k1 k2 k3 k4), ob6_0_ k0, ob5_0_ k1, ob9_0_ k2, ob2_0_ k3, ob8_0_ k4]) hP hD [0, 1, 2, 3, 4, 5, 6, 7, 8, 9, 10, 11, 12] [13, 14, 15, 16, 17, 18, 19, 20, 21, 22, 23, 24, 25, 26] hC_ rfl (by decide +kernel) (by decide +kernel) hk1 hFc hP1 hD1
                    refine pd_K (([aq_ cy 4 xm 4 (mf_ m0 m1 m2 m3), ob4_0_ m0 mk0 mr0 l0 u0, ob4_0_ m1 mk1 mr1 l1 u1, ob4_0_ m2 mk2 mr2 l2 u2, ob4_0_ m3 mk3 mr3 l3 u3, ai_ cy l0 6 fl0, ai_ cy l1 6 fl1, ai_ cy l2 6 fl2, ai_ cy l3 6 fl3, aj_ cy u0 30 fn0, aj_ cy u1 30 fn1, aj_ cy u2 30 fn2, aj_ cy u3 30 fn3, aq_ cy 5 xp 30 (pst p0_11 p3_11), ob11_0_ xo xk xn xc xh xt xw xm xp o8_11 o9_11 tr r_8, ob3_0_ xn vp evn_18 n1 n2 n3 n4 n5, ai_ cy n1 40 efk_19, ai_ cy n2 40 efs_20, ai_ cy n3 40 efe_21, ai_ cy n4 40 efw_22, ai_ cy n5 40 efp_23, aq_ cy 3 xk 5 (kf_ k0 k1 k2 k3 k4), ob6_0_ k0, ob5_0_ k1, ob9_0_ k2, ob2_0_ k3, ob8_0_ k4] : va_W) ++ (pool cy p0_11 p1_11 p2_11 p3_11)) hP hD (fun hP hD => ?_)
                    refine pd_P hP hD [ob11_0_ xo xk xn xc xh xt xw xm xp o8_11 o9_11 tr r_8, ob3_0_ xn vp evn_18 n1 n2 n3 n4 n5, ai_ cy n1 40 efk_19, ai_ cy n2 40 efs_20, ai_ cy n3 40 efe_21, ai_ cy n4 40 efw_22, ai_ cy n5 40 efp_23, aq_ cy 3 xk 5 (kf_ k0 k1 k2 k3 k4), ob6_0_ k0, ob5_0_ k1, ob9_0_ k2, ob2_0_ k3, ob8_0_ k4, aq_ cy 4 xm 4 (mf_ m0 m1 m2 m3), ob4_0_ m0 mk0 mr0 l0 u0, ob4_0_ m1 mk1 mr1 l1 u1, ob4_0_ m2 mk2 mr2 l2 u2, ob4_0_ m3 mk3 mr3 l3 u3, ai_ cy l0 6 fl0, ai_ cy l1 6 fl1, ai_ cy l2 6 fl2, ai_ cy l3 6 fl3, aj_ cy u0 30 fn0, aj_ cy u1 30 fn1, aj_ cy u2 30 fn2, aj_ cy u3 30 fn3, aq_ cy 5 xp 30 (pst p0_11 p3_11)] [14, 15, 16, 17, 18, 19, 20, 21, 22, 23, 24, 25, 26, 0, 1, 2, 3, 4, 5, 6, 7, 8, 9, 10, 11, 12, 13] (by decide +kernel) rfl (fun hP hD => ?_)
                    have f0_r_17 := hw
                    refine lv_pop hx hb dB_36_3_53.1.2.2 rfl ?_
                    have hnn_ : nok vp evn_18 efk_19 efs_20 efe_21 efw_22 efp_23 := ⟨hnk.1, by omega, g_27, g_25, g_28, g_29⟩
                    have hap_ : ∀ c2 : Int, c2 = x3_5.toInt + 1 → apC vn.toInt c2 fk fs fe fw fp efk_19 efs_20 efe_21 efw_22 efp_23 fn0 := fun c2 e2 => apC_st v10_5 v12_5 (by omega) (i := x4_5.toNatClampNeg) (by rw [clI (by omega)]; exact hlt3_.1) g_26 v0_ v1_ v2_ v3_ v4_ e2
                    obtain ⟨y_30, ey_30⟩ : ∃ y : Int32, y = x3_5 + 1 := ⟨_, rfl⟩
                    have ty_30 : y_30.toInt = x3_5.toInt + (1 : Int32).toInt := by rw [ey_30]; exact addI (by omega) (by omega)
                    refine lv_iinc (v := y_30) (lv' := [(3, .int y_30), (4, .int x4_5), (2, .ref m0), (0, .ref xo), (1, .int 0)]) hx hb dB_36_3_53.2.1.1 hl (k := 1) rfl (by rw [ey_30]; rfl) (by decide) rfl (fun ls hl => ?_)
                    obtain ⟨y_31, ey_31⟩ : ∃ y : Int32, y = x4_5 + 1 := ⟨_, rfl⟩
                    have ty_31 : y_31.toInt = x4_5.toInt + (1 : Int32).toInt := by rw [ey_31]; exact addI (by omega) (by omega)
                    refine lv_iinc (v := y_31) (lv' := [(4, .int y_31), (3, .int y_30), (2, .ref m0), (0, .ref xo), (1, .int 0)]) hx hb dB_36_3_53.2.1.2 hl (k := 1) rfl (by rw [ey_31]; rfl) (by decide) rfl (fun ls hl => ?_)
                    refine lv_goto (tgt := 43) hx hb dB_36_3_53.2.2.1 (by decide) ?_
                    exact ih_5 y_31 y_30 p0_11 p1_11 p2_11 p3_11 o8_11 o9_11 r_8 evn_18 efk_19 efs_20 efe_21 efw_22 efp_23 _ _ _ _ _ (by omega) (by first | with_reducible assumption | omega | assumption) (by first | with_reducible assumption | omega | assumption) (by first | with_reducible assumption | omega | assumption) (by first | with_reducible assumption | omega | assumption) (by first | exact hnn_ | assumption) (by first | with_reducible assumption | assumption | omega) (by first | with_reducible assumption | assumption | omega) (by first | with_reducible assumption | assumption | omega) (by first | with_reducible assumption | assumption | omega) (by first | exact hr0_ | exact rdl_ok v9_5 (by omega) (by omega) (hrc_.symm.trans (by omega)) (by omega) (by omega) (by omega) | exact rdl_no v9_5 (by omega) (by omega) hrc_.symm (by omega) (by omega)) (by first | exact apC_0 | exact hap_ _ (by omega) | assumption) (by first | exact chn_0 | exact chn_p (by omega) hrm_ | assumption) (by first | with_reducible assumption | omega | assumption) (by first | with_reducible assumption | assumption | exact rng_zero (by omega) (by omega) | exact orng_zero) (by first | with_reducible assumption | assumption | exact rng_zero (by omega) (by omega) | exact orng_zero) (by first | with_reducible assumption | assumption | exact rng_zero (by omega) (by omega) | exact orng_zero) ⟨hP, hD⟩ hS (lv_sub hl [0, 1, 2, 3, 4] rfl)
                  refine lv_iload_n hx hb dB_36_3_51.2.1.1.2 rfl (lv_at hl 1 rfl) ?_
                  refine lv_if_ne (tgt := 85) hx hb dB_36_3_51.2.1.2.1 (by decide) (fun c_32 => ?_) (fun c_32 => ?_)
                  · have t_32 : ¬ x3_5.toInt = (0 : Int32).toInt := fun h => c_32 (Int32.toInt_inj.mp h)
                    refine W.widen (k := 6) (n := 207) (by omega) (by omega) ?_
                    exact JOIN_11 p0_5 p1_5 p2_5 p3_5 o8_5 o9_5 _ _ _ (by first | with_reducible assumption | assumption | omega) (by first | with_reducible assumption | assumption | omega) (by first | exact (v11_5).2 (by omega) | exact chn_z v11_5 (by omega) of_none) ⟨hP, hD⟩ hS (lv_sub hl [0, 1, 2, 3, 4] rfl)
                  · have t_32 : x3_5.toInt = (0 : Int32).toInt := congrArg Int32.toInt c_32
                    refine lv_aload_n hx hb dB_36_3_51.2.1.2.2 rfl (lv_at hl 3 rfl) ?_
                    refine ct_P hP hD hS hA [ob11_0_ xo xk xn xc xh xt xw xm xp o8_5 o9_5 tr r_8, ob3_0_ xn vp o1_5 n1 n2 n3 n4 n5, ai_ cy n1 40 c_n1_5, ai_ cy n2 40 c_n2_5, ai_ cy n3 40 c_n3_5, ai_ cy n4 40 c_n4_5, ai_ cy n5 40 c_n5_5, aq_ cy 5 xp 30 (pst p0_5 p3_5)] [0, 1, 2, 3, 4, 5, 6, 26] (by decide) rfl (fun hPc hDw hFc hC_ => ?_)
                    have hPx := pp_left hP
                    refine va_callv (va_runV (As := []) (rest := []) ⟨hx, hb, hml, hown, hts⟩ (c_X11_remember2 l D cy H.size xo xk xn xc xh xt xw xm xp o8_5 o9_5 tr r_8 n1 n2 n3 n4 n5 vp o1_5 c_n1_5 c_n2_5 c_n3_5 c_n4_5 c_n5_5 p0_5 p1_5 p2_5 p3_5 (by first | with_reducible assumption | assumption | omega) (by first | with_reducible assumption | assumption | omega) (by first | with_reducible assumption | assumption | omega) (by first | with_reducible assumption | assumption | omega) (by first | with_reducible assumption | assumption | omega) (by first | with_reducible assumption | assumption | omega) (by first | with_reducible assumption | assumption | omega)) (cwV 0 hts gX11_read_X11_remember rfl rfl rfl ⟨rfl, hd_X11_remember⟩ ⟨Nat.le_of_ble_eq_true rfl, Nat.le_of_ble_eq_true rfl⟩) ⟨bl_, va_recvX hK.1 hPx (ci := 11) (q0 := 0) rfl rfl, fun U hU hW => ⟨rfl, by rw [hU], by rw [hU]; exact hPc, kk_mv hW hK, hDw⟩⟩ rfl rfl hl.1 rfl (lv_room (Nat.le_of_ble_eq_true rfl)) dB_36_3_51.2.2.1.1 ⟨(by show _ ≤ 6; omega), (by show _ ≤ 207; omega)⟩) hS (fun q _ h => hFc q h) hFc (fun u t H locs ht hvm hw hB hz1 hk1 hS => ?_)
                    obtain ⟨epf_34, eph_35, epa_36, epv_37, epg_38, epm_39, g_40, g_41, g_42, g_43, hP1, hD1⟩ := hB
                    rw [ht] at hP1
                    obtain ⟨hP, hD⟩ := va_joinP (wr := [aq_ cy 3 xk 5 (kf_ k0 k1 k2 k3 k4), ob6_0_ k0, ob5_0_ k1, ob9_0_ k2, ob2_0_ k3, ob8_0_ k4, aq_ cy 4 xm 4 (mf_ m0 m1 m2 m3), ob4_0_ m0 mk0 mr0 l0 u0, ob4_0_ m1 mk1 mr1 l1 u1, ob4_0_ m2 mk2 mr2 l2 u2, ob4_0_ m3 mk3 mr3 l3 u3, ai_ cy l0 6 fl0, ai_ cy l1 6 fl1, ai_ cy l2 6 fl2, ai_ cy l3 6 fl3, aj_ cy u0 30 fn0, aj_ cy u1 30 fn1, aj_ cy u2 30 fn2, aj_ cy u3 30 fn3]) (rx := [ob11_0_ xo xk xn xc xh xt xw xm xp epf_34 eph_35 tr r_8, ob3_0_ xn vp o1_5 n1 n2 n3 n4 n5, ai_ cy n1 40 c_n1_5, ai_ cy n2 40 c_n2_5, ai_ cy n3 40 c_n3_5, ai_ cy n4 40 c_n4_5, ai_ cy n5 40 c_n5_5, aq_ cy 5 xp 30 (pst epa_36 epm_39)]) (pl1 := (pool cy epa_36 epv_37 epg_38 epm_39)) hP hD [0, 1, 2, 3, 4, 5, 6, 26] [7, 8, 9, 10, 11, 12, 13, 14, 15, 16, 17, 18, 19, 20, 21, 22, 23, 24, 25] hC_ rfl (by decide +kernel) (by decide +kernel) hk1 hFc hP1 hD1
                    refine pd_K (([aq_ cy 3 xk 5 (kf_ k0 k1 k2 k3 k4), ob6_0_ k0, ob5_0_ k1, ob9_0_ k2, ob2_0_ k3, ob8_0_ k4, aq_ cy 4 xm 4 (mf_ m0 m1 m2 m3), ob4_0_ m0 mk0 mr0 l0 u0, ob4_0_ m1 mk1 mr1 l1 u1, ob4_0_ m2 mk2 mr2 l2 u2, ob4_0_ m3 mk3 mr3 l3 u3, ai_ cy l0 6 fl0, ai_ cy l1 6 fl1, ai_ cy l2 6 fl2, ai_ cy l3 6 fl3, aj_ cy u0 30 fn0, aj_ cy u1 30 fn1, aj_ cy u2 30 fn2, aj_ cy u3 30 fn3, ob11_0_ xo xk xn xc xh xt xw xm xp epf_34 eph_35 tr r_8, ob3_0_ xn vp o1_5 n1 n2 n3 n4 n5, ai_ cy n1 40 c_n1_5, ai_ cy n2 40 c_n2_5, ai_ cy n3 40 c_n3_5, ai_ cy n4 40 c_n4_5, ai_ cy n5 40 c_n5_5, aq_ cy 5 xp 30 (pst epa_36 epm_39)] : va_W) ++ (pool cy epa_36 epv_37 epg_38 epm_39)) hP hD (fun hP hD => ?_)
                    refine pd_P hP hD [ob11_0_ xo xk xn xc xh xt xw xm xp epf_34 eph_35 tr r_8, ob3_0_ xn vp o1_5 n1 n2 n3 n4 n5, ai_ cy n1 40 c_n1_5, ai_ cy n2 40 c_n2_5, ai_ cy n3 40 c_n3_5, ai_ cy n4 40 c_n4_5, ai_ cy n5 40 c_n5_5, aq_ cy 3 xk 5 (kf_ k0 k1 k2 k3 k4), ob6_0_ k0, ob5_0_ k1, ob9_0_ k2, ob2_0_ k3, ob8_0_ k4, aq_ cy 4 xm 4 (mf_ m0 m1 m2 m3), ob4_0_ m0 mk0 mr0 l0 u0, ob4_0_ m1 mk1 mr1 l1 u1, ob4_0_ m2 mk2 mr2 l2 u2, ob4_0_ m3 mk3 mr3 l3 u3, ai_ cy l0 6 fl0, ai_ cy l1 6 fl1, ai_ cy l2 6 fl2, ai_ cy l3 6 fl3, aj_ cy u0 30 fn0, aj_ cy u1 30 fn1, aj_ cy u2 30 fn2, aj_ cy u3 30 fn3, aq_ cy 5 xp 30 (pst epa_36 epm_39)] [19, 20, 21, 22, 23, 24, 25, 0, 1, 2, 3, 4, 5, 6, 7, 8, 9, 10, 11, 12, 13, 14, 15, 16, 17, 18, 26] (by decide +kernel) rfl (fun hP hD => ?_)
                    refine W.widen (k := 6) (n := 207) (by omega) (by omega) ?_
                    exact JOIN_11 epa_36 epv_37 epg_38 epm_39 epf_34 eph_35 _ _ _ (by first | with_reducible assumption | assumption | omega) (by first | with_reducible assumption | assumption | omega) (by first | exact (v11_5).2 (by omega) | exact chn_z v11_5 (by omega) g_43) ⟨hP, hD⟩ hS (lv_sub hl [0, 1, 2, 3, 4] rfl)
        refine lv_aload_n hx hb dB_36_3_49.2.2.2.1 rfl (lv_at hl 0 rfl) ?_
        have hPx := pp_left hP
        have hDx := dd_left hD
        refine ct_R hPx hDx [ob4_0_ m0 mk0 mr0 l0 u0] [14] (by decide) rfl (fun hPc hDw => ?_)
        have hFc := va_free (wc := []) hD hS hA [] rfl
        refine va_calli (va_runV (As := []) (rest := [.ref xo]) ⟨hx, hb, hml, hown, hts⟩ (c_X4_isThere l D cy H.size m0 l0 u0 mk0 mr0) (cwV 0 hts gX11_read_X4_isThere rfl rfl rfl ⟨rfl, hd_X4_isThere⟩ ⟨Nat.le_of_ble_eq_true rfl, Nat.le_of_ble_eq_true rfl⟩) ⟨bl_, va_recvX hK.1 hPx (ci := 4) (q0 := 14) rfl rfl, fun U hU hW => ⟨rfl, by rw [hU], by rw [hU]; exact hPc, kk_mv hW hK, hDw⟩⟩ rfl rfl hl.1 rfl (lv_room (Nat.le_of_ble_eq_true rfl)) dB_36_3_49.2.2.2.2 ⟨Nat.le_of_ble_eq_true rfl, Nat.le_of_ble_eq_true rfl⟩) hS (fun q _ h => hFc q h) hFc (fun r_44 u t H locs ht hvm hw hB hz1 hk1 hS => ?_)
        have hP : va_P D vwCl _ H := ro_keep hP hk1
        rcases hw with ⟨w_45, e_⟩ | ⟨w_45, e_⟩
        · have e_ := e_.symm
          subst e_
          refine lv_if_eq (tgt := 33) hx hb dB_36_3_50.1.1.1.1 (by decide) (fun c_46 => ?_) (fun c_46 => ?_)
          · exact absurd c_46 (by decide)
          · have _ := c_46
            refine lv_iconst (v := 0) hx hb dB_36_3_50.1.1.1.2 (by decide) ?_
            refine lv_goto (tgt := 35) hx hb dB_36_3_50.1.1.2.1 (by decide) ?_
            exact JOIN_4 (0 : Int32) _ _ _ (by first | with_reducible assumption | assumption | omega) ⟨hP, hD⟩ hS (lv_sub hl [0, 1, 2] rfl)
        · have e_ := e_.symm
          subst e_
          refine lv_if_eq (tgt := 33) hx hb dB_36_3_50.1.1.1.1 (by decide) (fun c_47 => ?_) (fun c_47 => ?_)
          · have _ := c_47
            refine lv_bipush (v := (-11)) hx hb dB_36_3_50.1.1.2.2 (by decide) ?_
            exact JOIN_4 ((-11) : Int32) _ _ _ (by first | with_reducible assumption | assumption | omega) ⟨hP, hD⟩ hS (lv_sub hl [0, 1, 2] rfl)
          · exact absurd c_47 (by decide)
      · refine lv_aload_n hx hb dB_36_3_49.2.1.1.1 rfl (lv_at hl 0 rfl) ?_
        refine va_get (ci := 11) (v := .ref xm) (C := RX11) (T := TX11) (N := 12) hx hb hts (fun _ h => List.mem_cons_of_mem _ (List.mem_append_left _ (List.mem_append_left _ (List.mem_append_right _ h)))) hown hK.1 hP 0 rfl rfl 6 (by decide) (hts (.fieldLink RX11 72 "CutAtlas" "maps" "[LCutAtlas$NumberMap;") (List.mem_of_getElem? (i := 2) rfl)) (fun _ h9 => h9) rfl dB_36_3_49.2.1.1.2 ?_
        refine lv_iload_n hx hb dB_36_3_49.2.1.2.1 rfl (lv_at hl 1 rfl) ?_
        refine va_aldq hx hb hK.1 hP 13 4 rfl rfl (i := 1) (by unfold vp_in; decide) dB_36_3_49.2.1.2.2 ?_
        refine lv_topv (v' := .ref m1) (by simp [va_up, va_rf, mf_, cl_0, cl_1, cl_2, cl_3, cl_4]) ?_
        refine lv_astore_n (lv' := [(2, .ref m1), (0, .ref xo), (1, .int 1)]) hx hb dB_36_3_49.2.2.1.1 rfl hl (by decide) rfl (fun ls hl => ?_)
        refine lv_aload_n hx hb dB_36_3_49.2.2.1.2 rfl (lv_at hl 1 rfl) ?_
        have JOIN_48 : ∀ (u0_48 : Int32) (H : Heap) (locs : List Loc) (ls : Array Slot), (u0_48.toInt = 0 ∧ mr1.toInt ≠ -9 ∨ u0_48.toInt = -11 ∧ mr1.toInt = -9) → pd_2 D vwCl A (([ob11_0_ xo xk xn xc xh xt xw xm xp pf ph tr fi, ob3_0_ xn vp vn n1 n2 n3 n4 n5, ai_ cy n1 40 fk, ai_ cy n2 40 fs, ai_ cy n3 40 fe, ai_ cy n4 40 fw, ai_ cy n5 40 fp, aq_ cy 3 xk 5 (kf_ k0 k1 k2 k3 k4), ob6_0_ k0, ob5_0_ k1, ob9_0_ k2, ob2_0_ k3, ob8_0_ k4, aq_ cy 4 xm 4 (mf_ m0 m1 m2 m3), ob4_0_ m0 mk0 mr0 l0 u0, ob4_0_ m1 mk1 mr1 l1 u1, ob4_0_ m2 mk2 mr2 l2 u2, ob4_0_ m3 mk3 mr3 l3 u3, ai_ cy l0 6 fl0, ai_ cy l1 6 fl1, ai_ cy l2 6 fl2, ai_ cy l3 6 fl3, aj_ cy u0 30 fn0, aj_ cy u1 30 fn1, aj_ cy u2 30 fn2, aj_ cy u3 30 fn3, aq_ cy 5 xp 30 (pst pa pm)] : va_W) ++ (pool cy pa pv pg pm)) H → va_S A s.heap H locs → lv_has ls 5 [(2, .ref m1), (0, .ref xo), (1, .int 1)] → W p l e ({ frames := 4, cells := 6, slots := 207, locals := 98 } : Room) s m (([.ref xo, .int (1 : Int32)] : List Value).toArray) below meth c H locs 0 0 Q (F0 m 35 ls [.int u0_48, .ref xo]) := by
          intro u0_48 H locs ls v0_48 hPD hS hl; obtain ⟨hP, hD⟩ := hPD
          have z35_ := v0_48
          refine va_put (ci := 11) (v := .int u0_48) (ty := .int) (C := RX11) (T := TX11) (N := 12) hx hb hts (fun _ h => List.mem_cons_of_mem _ (List.mem_append_left _ (List.mem_append_left _ (List.mem_append_right _ h)))) tyX11 tyX11_ok nmX11 hown hK.1 hP hD hS 0 rfl rfl 11 (by decide) (hts (.fieldLink RX11 91 "CutAtlas" "finding" "I") (List.mem_of_getElem? (i := 1) rfl)) (fun _ h9 => h9) rfl (by decide +kernel) rfl rfl (Nat.le_of_ble_eq_true rfl) dB_36_3_50.1.2.1.1 (fun H locs hP hD hS => ?_)
          refine pd_K (([ob11_0_ xo xk xn xc xh xt xw xm xp pf ph tr u0_48, ob3_0_ xn vp vn n1 n2 n3 n4 n5, ai_ cy n1 40 fk, ai_ cy n2 40 fs, ai_ cy n3 40 fe, ai_ cy n4 40 fw, ai_ cy n5 40 fp, aq_ cy 3 xk 5 (kf_ k0 k1 k2 k3 k4), ob6_0_ k0, ob5_0_ k1, ob9_0_ k2, ob2_0_ k3, ob8_0_ k4, aq_ cy 4 xm 4 (mf_ m0 m1 m2 m3), ob4_0_ m0 mk0 mr0 l0 u0, ob4_0_ m1 mk1 mr1 l1 u1, ob4_0_ m2 mk2 mr2 l2 u2, ob4_0_ m3 mk3 mr3 l3 u3, ai_ cy l0 6 fl0, ai_ cy l1 6 fl1, ai_ cy l2 6 fl2, ai_ cy l3 6 fl3, aj_ cy u0 30 fn0, aj_ cy u1 30 fn1, aj_ cy u2 30 fn2, aj_ cy u3 30 fn3, aq_ cy 5 xp 30 (pst pa pm)] : va_W) ++ (pool cy pa pv pg pm)) hP hD (fun hP hD => ?_)
          refine lv_iconst (v := 0) hx hb dB_36_3_50.1.2.1.2 (by decide) ?_
          refine lv_istore_n (lv' := [(3, .int 0), (2, .ref m1), (0, .ref xo), (1, .int 1)]) hx hb dB_36_3_50.1.2.2.1 rfl hl (by decide) rfl (fun ls hl => ?_)
          refine lv_iconst (v := 0) hx hb dB_36_3_50.1.2.2.2 (by decide) ?_
          refine lv_istore (lv' := [(4, .int 0), (3, .int 0), (2, .ref m1), (0, .ref xo), (1, .int 1)]) hx hb dB_36_3_50.2.1.1.1 hl (by decide) rfl (fun ls hl => ?_)
          have hr0_ : rdl (rwC fl1 fn1 vp.toInt) vn.toInt mr1.toInt (0 : Int32).toInt (0 : Int32).toInt u0_48.toInt := rdl_s (by omega) (by omega)
          suffices LOOP_49 : ∀ (n_49 : Nat) (x4_49 : Int32) (x3_49 : Int32) (p0_49 : Nat → Nat → Nat) (p1_49 : Nat → Nat → Int32) (p2_49 : Nat → Nat → Nat → Int32) (p3_49 : Nat) (o8_49 : Int32) (o9_49 : Int32) (o11_49 : Int32) (o1_49 : Int32) (c_n1_49 : Nat → Int32) (c_n2_49 : Nat → Int32) (c_n3_49 : Nat → Int32) (c_n4_49 : Nat → Int32) (c_n5_49 : Nat → Int32) (kc_49 : Nat) (ks_49 : Nat) (H : Heap) (locs : List Loc) (ls : Array Slot), 6 - x4_49.toInt < (n_49 : Int) → (0 ≤ x4_49.toInt) → (x4_49.toInt ≤ 6) → (0 ≤ x3_49.toInt) → (x3_49.toInt ≤ x4_49.toInt) → (nok vp o1_49 c_n1_49 c_n2_49 c_n3_49 c_n4_49 c_n5_49) → (pok p1_49 p2_49 p3_49) → (rok o8_49 o9_49 p3_49) → (prng c_n2_49 c_n3_49 40) → (kc_49 ≤ 6 ∧ ks_49 ≤ 207 ∧ (x3_49.toInt = 0 → kc_49 = 0 ∧ ks_49 = 0)) → (rdl (rwC fl1 fn1 vp.toInt) vn.toInt mr1.toInt x3_49.toInt x4_49.toInt o11_49.toInt) → (apC vn.toInt x3_49.toInt fk fs fe fw fp c_n1_49 c_n2_49 c_n3_49 c_n4_49 c_n5_49 fn1) → (chn x3_49.toInt pf ph pv pg vp vn fk fs fe fw fp o8_49 o9_49 p1_49 p2_49 o1_49 c_n1_49 c_n2_49 c_n3_49 c_n4_49 c_n5_49) → (o1_49.toInt = vn.toInt + x3_49.toInt) → (rng c_n1_49 40 (0) (4)) → (rng c_n4_49 40 (0) (2000)) → (rng c_n5_49 40 (0) (100)) → pd_2 D vwCl A (([ob11_0_ xo xk xn xc xh xt xw xm xp o8_49 o9_49 tr o11_49, ob3_0_ xn vp o1_49 n1 n2 n3 n4 n5, ai_ cy n1 40 c_n1_49, ai_ cy n2 40 c_n2_49, ai_ cy n3 40 c_n3_49, ai_ cy n4 40 c_n4_49, ai_ cy n5 40 c_n5_49, aq_ cy 3 xk 5 (kf_ k0 k1 k2 k3 k4), ob6_0_ k0, ob5_0_ k1, ob9_0_ k2, ob2_0_ k3, ob8_0_ k4, aq_ cy 4 xm 4 (mf_ m0 m1 m2 m3), ob4_0_ m0 mk0 mr0 l0 u0, ob4_0_ m1 mk1 mr1 l1 u1, ob4_0_ m2 mk2 mr2 l2 u2, ob4_0_ m3 mk3 mr3 l3 u3, ai_ cy l0 6 fl0, ai_ cy l1 6 fl1, ai_ cy l2 6 fl2, ai_ cy l3 6 fl3, aj_ cy u0 30 fn0, aj_ cy u1 30 fn1, aj_ cy u2 30 fn2, aj_ cy u3 30 fn3, aq_ cy 5 xp 30 (pst p0_49 p3_49)] : va_W) ++ (pool cy p0_49 p1_49 p2_49 p3_49)) H → va_S A s.heap H locs → lv_has ls 5 [(4, .int x4_49), (3, .int x3_49), (2, .ref m1), (0, .ref xo), (1, .int 1)] → W p l e ({ frames := 4, cells := 6, slots := 207, locals := 98 } : Room) s m (([.ref xo, .int (1 : Int32)] : List Value).toArray) below meth c H locs kc_49 ks_49 Q (F0 m 43 ls []) from LOOP_49 ((6 - (0 : Int32).toInt).toNat + 1) (0 : Int32) (0 : Int32) pa pv pg pm pf ph u0_48 vn fk fs fe fw fp _ _ _ _ _ (by omega) (by first | with_reducible assumption | omega | assumption) (by first | with_reducible assumption | omega | assumption) (by first | with_reducible assumption | omega | assumption) (by first | with_reducible assumption | omega | assumption) (by first | exact hnn_ | assumption) (by first | with_reducible assumption | assumption | omega) (by first | with_reducible assumption | assumption | omega) (by first | with_reducible assumption | assumption | omega) (by first | with_reducible assumption | assumption | omega) (by first | exact hr0_ | exact rdl_ok v_none (by omega) (by omega) (hrc_.symm.trans (by omega)) (by omega) (by omega) (by omega) | exact rdl_no v_none (by omega) (by omega) hrc_.symm (by omega) (by omega)) (by first | exact apC_0 | exact hap_ _ (by omega) | assumption) (by first | exact chn_0 | exact chn_p (by omega) hrm_ | assumption) (by first | with_reducible assumption | omega | assumption) (by first | with_reducible assumption | assumption | exact rng_zero (by omega) (by omega) | exact orng_zero) (by first | with_reducible assumption | assumption | exact rng_zero (by omega) (by omega) | exact orng_zero) (by first | with_reducible assumption | assumption | exact rng_zero (by omega) (by omega) | exact orng_zero) ⟨hP, hD⟩ hS (lv_sub hl [0, 1, 2, 3, 4] rfl)
          intro n_49
          induction n_49 with
          | zero =>
            intro x4_49 x3_49 p0_49 p1_49 p2_49 p3_49 o8_49 o9_49 o11_49 o1_49 c_n1_49 c_n2_49 c_n3_49 c_n4_49 c_n5_49 kc_49 ks_49 H locs ls hm v0_49 v1_49 v2_49 v3_49 v4_49 v5_49 v6_49 v7_49 v8_49 v9_49 v10_49 v11_49 v12_49 rc_n1_49 rc_n4_49 rc_n5_49 hPD hS hl; obtain ⟨hP, hD⟩ := hPD
            exact absurd hm (by omega)
          | succ n_49 ih_49 =>
            intro x4_49 x3_49 p0_49 p1_49 p2_49 p3_49 o8_49 o9_49 o11_49 o1_49 c_n1_49 c_n2_49 c_n3_49 c_n4_49 c_n5_49 kc_49 ks_49 H locs ls hm v0_49 v1_49 v2_49 v3_49 v4_49 v5_49 v6_49 v7_49 v8_49 v9_49 v10_49 v11_49 v12_49 rc_n1_49 rc_n4_49 rc_n5_49 hPD hS hl; obtain ⟨hP, hD⟩ := hPD
            refine lv_iload hx hb dB_36_3_50.2.1.1.2 (lv_at hl 0 rfl) ?_
            refine lv_aload_n hx hb dB_36_3_50.2.1.2.1 rfl (lv_at hl 2 rfl) ?_
            refine va_get (ci := 4) (v := .int mr1) (C := RX4) (T := TX4) (N := 4) hx hb hts (fun _ h => List.mem_cons_of_mem _ (List.mem_append_left _ (List.mem_append_right _ h))) hown hK.1 hP 15 rfl rfl 1 (by decide) (hts (.fieldLink RX11 284 "CutAtlas$NumberMap" "rows" "I") (List.mem_of_getElem? (i := 3) rfl)) (fun _ h9 => h9) rfl dB_36_3_50.2.1.2.2 ?_
            refine lv_icmp_ge (tgt := 134) hx hb dB_36_3_50.2.2.1.1 (by decide) (fun c_50 => ?_) (fun c_50 => ?_)
            · have t_50 : mr1.toInt ≤ x4_49.toInt := Int32.le_iff_toInt_le.mp c_50
              have hq9_ := (v9_49).2
              refine lv_iload_n hx hb dB_36_3_53.2.2.2.1 rfl (lv_at hl 1 rfl) ?_
              refine W.widen (k := 6) (n := 207) (by omega) (by omega) ?_
              rw [hQ]
              exact W.iret (v := x3_49) hx hb hr (fun t ht hW => ⟨⟨x3_49, (), rfl, (by first | exact ⟨fun _ => by decide, fun h => absurd h (by omega), fun h => absurd h (by omega)⟩ | (refine ⟨fun h => absurd (by decide) h, ?_, ?_⟩ <;> rw [f4_c0] <;> first | exact fun _ h => absurd h (by omega) | exact fun _ h => by omega | (rw [f4_c0, f4_c0]; exact fun _ _ => ⟨_, rdl_end v9_49 (by omega) (by omega)⟩)) | (refine ⟨fun h => absurd (by decide) h, ?_, ?_⟩ <;> rw [f4_c1] <;> first | exact fun _ h => absurd h (by omega) | exact fun _ h => by omega | (rw [f4_c1, f4_c1]; exact fun _ _ => ⟨_, rdl_end v9_49 (by omega) (by omega)⟩)) | (refine ⟨fun h => absurd (by decide) h, ?_, ?_⟩ <;> rw [f4_c2] <;> first | exact fun _ h => absurd h (by omega) | exact fun _ h => by omega | (rw [f4_c2, f4_c2]; exact fun _ _ => ⟨_, rdl_end v9_49 (by omega) (by omega)⟩)) | (refine ⟨fun h => absurd (by decide) h, ?_, ?_⟩ <;> rw [f4_c3] <;> first | exact fun _ h => absurd h (by omega) | exact fun _ h => by omega | (rw [f4_c3, f4_c3]; exact fun _ _ => ⟨_, rdl_end v9_49 (by omega) (by omega)⟩))), o8_49, o9_49, o11_49, o1_49, c_n1_49, c_n2_49, c_n3_49, c_n4_49, c_n5_49, p0_49, p1_49, p2_49, p3_49, (by first | exact hnk | assumption), (by assumption), (by assumption), (by first | exact ⟨fun _ => ⟨by decide, chn_0⟩, fun h => absurd h (by omega), fun h => absurd h (by omega)⟩ | (refine ⟨fun h => absurd (by decide) h, ?_, ?_⟩ <;> rw [f4_c0] <;> first | exact fun _ h => absurd h (by omega) | exact fun _ h => ⟨by omega, chn_s v11_49 (by omega)⟩ | (rw [f4_c0, f4_c0]; exact fun _ _ => ⟨_, rdl_end v9_49 (by omega) (by omega), v11_49, v10_49, by omega⟩)) | (refine ⟨fun h => absurd (by decide) h, ?_, ?_⟩ <;> rw [f4_c1] <;> first | exact fun _ h => absurd h (by omega) | exact fun _ h => ⟨by omega, chn_s v11_49 (by omega)⟩ | (rw [f4_c1, f4_c1]; exact fun _ _ => ⟨_, rdl_end v9_49 (by omega) (by omega), v11_49, v10_49, by omega⟩)) | (refine ⟨fun h => absurd (by decide) h, ?_, ?_⟩ <;> rw [f4_c2] <;> first | exact fun _ h => absurd h (by omega) | exact fun _ h => ⟨by omega, chn_s v11_49 (by omega)⟩ | (rw [f4_c2, f4_c2]; exact fun _ _ => ⟨_, rdl_end v9_49 (by omega) (by omega), v11_49, v10_49, by omega⟩)) | (refine ⟨fun h => absurd (by decide) h, ?_, ?_⟩ <;> rw [f4_c3] <;> first | exact fun _ h => absurd h (by omega) | exact fun _ h => ⟨by omega, chn_s v11_49 (by omega)⟩ | (rw [f4_c3, f4_c3]; exact fun _ _ => ⟨_, rdl_end v9_49 (by omega) (by omega), v11_49, v10_49, by omega⟩))), by rw [ht]; exact hP, hD⟩, hS.F ht⟩) hS.2.2 dB_36_3_53.2.2.2.2
            · have t_50 : ¬ mr1.toInt ≤ x4_49.toInt := fun h => c_50 (Int32.le_iff_toInt_le.mpr h)
              have hnl_ := v4_49.2.1
              refine lv_aload_n hx hb dB_36_3_50.2.2.1.2 rfl (lv_at hl 3 rfl) ?_
              refine va_get (ci := 11) (v := .int o11_49) (C := RX11) (T := TX11) (N := 12) hx hb hts (fun _ h => List.mem_cons_of_mem _ (List.mem_append_left _ (List.mem_append_left _ (List.mem_append_right _ h)))) hown hK.1 hP 0 rfl rfl 11 (by decide) (hts (.fieldLink RX11 91 "CutAtlas" "finding" "I") (List.mem_of_getElem? (i := 1) rfl)) (fun _ h9 => h9) rfl dB_36_3_50.2.2.2.1 ?_
              refine lv_if_ne (tgt := 134) hx hb dB_36_3_50.2.2.2.2 (by decide) (fun c_51 => ?_) (fun c_51 => ?_)
              · have t_51 : ¬ o11_49.toInt = (0 : Int32).toInt := fun h => c_51 (Int32.toInt_inj.mp h)
                have hq9_ := (v9_49).2
                refine lv_iload_n hx hb dB_36_3_53.2.2.2.1 rfl (lv_at hl 1 rfl) ?_
                refine W.widen (k := 6) (n := 207) (by omega) (by omega) ?_
                rw [hQ]
                exact W.iret (v := x3_49) hx hb hr (fun t ht hW => ⟨⟨x3_49, (), rfl, (by first | exact ⟨fun _ => by decide, fun h => absurd h (by omega), fun h => absurd h (by omega)⟩ | (refine ⟨fun h => absurd (by decide) h, ?_, ?_⟩ <;> rw [f4_c0] <;> first | exact fun _ h => absurd h (by omega) | exact fun _ h => by omega | (rw [f4_c0, f4_c0]; exact fun _ _ => ⟨_, rdl_end v9_49 (by omega) (by omega)⟩)) | (refine ⟨fun h => absurd (by decide) h, ?_, ?_⟩ <;> rw [f4_c1] <;> first | exact fun _ h => absurd h (by omega) | exact fun _ h => by omega | (rw [f4_c1, f4_c1]; exact fun _ _ => ⟨_, rdl_end v9_49 (by omega) (by omega)⟩)) | (refine ⟨fun h => absurd (by decide) h, ?_, ?_⟩ <;> rw [f4_c2] <;> first | exact fun _ h => absurd h (by omega) | exact fun _ h => by omega | (rw [f4_c2, f4_c2]; exact fun _ _ => ⟨_, rdl_end v9_49 (by omega) (by omega)⟩)) | (refine ⟨fun h => absurd (by decide) h, ?_, ?_⟩ <;> rw [f4_c3] <;> first | exact fun _ h => absurd h (by omega) | exact fun _ h => by omega | (rw [f4_c3, f4_c3]; exact fun _ _ => ⟨_, rdl_end v9_49 (by omega) (by omega)⟩))), o8_49, o9_49, o11_49, o1_49, c_n1_49, c_n2_49, c_n3_49, c_n4_49, c_n5_49, p0_49, p1_49, p2_49, p3_49, (by first | exact hnk | assumption), (by assumption), (by assumption), (by first | exact ⟨fun _ => ⟨by decide, chn_0⟩, fun h => absurd h (by omega), fun h => absurd h (by omega)⟩ | (refine ⟨fun h => absurd (by decide) h, ?_, ?_⟩ <;> rw [f4_c0] <;> first | exact fun _ h => absurd h (by omega) | exact fun _ h => ⟨by omega, chn_s v11_49 (by omega)⟩ | (rw [f4_c0, f4_c0]; exact fun _ _ => ⟨_, rdl_end v9_49 (by omega) (by omega), v11_49, v10_49, by omega⟩)) | (refine ⟨fun h => absurd (by decide) h, ?_, ?_⟩ <;> rw [f4_c1] <;> first | exact fun _ h => absurd h (by omega) | exact fun _ h => ⟨by omega, chn_s v11_49 (by omega)⟩ | (rw [f4_c1, f4_c1]; exact fun _ _ => ⟨_, rdl_end v9_49 (by omega) (by omega), v11_49, v10_49, by omega⟩)) | (refine ⟨fun h => absurd (by decide) h, ?_, ?_⟩ <;> rw [f4_c2] <;> first | exact fun _ h => absurd h (by omega) | exact fun _ h => ⟨by omega, chn_s v11_49 (by omega)⟩ | (rw [f4_c2, f4_c2]; exact fun _ _ => ⟨_, rdl_end v9_49 (by omega) (by omega), v11_49, v10_49, by omega⟩)) | (refine ⟨fun h => absurd (by decide) h, ?_, ?_⟩ <;> rw [f4_c3] <;> first | exact fun _ h => absurd h (by omega) | exact fun _ h => ⟨by omega, chn_s v11_49 (by omega)⟩ | (rw [f4_c3, f4_c3]; exact fun _ _ => ⟨_, rdl_end v9_49 (by omega) (by omega), v11_49, v10_49, by omega⟩))), by rw [ht]; exact hP, hD⟩, hS.F ht⟩) hS.2.2 dB_36_3_53.2.2.2.2
              · have t_51 : o11_49.toInt = (0 : Int32).toInt := congrArg Int32.toInt c_51
                have hlt3_ : x3_49.toInt = x4_49.toInt ∧ x4_49.toInt < mr1.toInt := by have h9 := v9_49.2; omega
                refine lv_aload_n hx hb dB_36_3_51.1.1.1.1 rfl (lv_at hl 3 rfl) ?_
                refine lv_aload_n hx hb dB_36_3_51.1.1.1.2 rfl (lv_at hl 3 rfl) ?_
                refine lv_aload_n hx hb dB_36_3_51.1.1.2.1 rfl (lv_at hl 2 rfl) ?_
                refine lv_iload hx hb dB_36_3_51.1.1.2.2 (lv_at hl 0 rfl) ?_
                have hPx := pp_left hP
                have hDx := dd_left hD
                refine ct_R hPx hDx [ob11_0_ xo xk xn xc xh xt xw xm xp o8_49 o9_49 tr o11_49, ob3_0_ xn vp o1_49 n1 n2 n3 n4 n5, ob4_0_ m1 mk1 mr1 l1 u1, ai_ cy l1 6 fl1, aj_ cy u1 30 fn1] [0, 1, 15, 19, 23] (by decide) rfl (fun hPc hDw => ?_)
                have hFc := va_free (wc := []) hD hS hA [] rfl
                refine va_calli (va_runV (As := [.ref m1, .int x4_49]) (rest := [.ref xo]) ⟨hx, hb, hml, hown, hts⟩ (c_X11_readRefusal2 l D cy H.size xo xk xn xc xh xt xw xm xp o8_49 o9_49 tr o11_49 n1 n2 n3 n4 n5 vp o1_49 m1 l1 u1 mk1 mr1 fl1 fn1 x4_49 (by first | with_reducible assumption | omega | assumption) (by first | with_reducible assumption | omega | assumption) (by first | with_reducible assumption | omega | assumption) (by first | with_reducible assumption | assumption | omega)) (cwV 2 hts gX11_read_X11_readRefusal rfl rfl rfl ⟨rfl, hd_X11_readRefusal⟩ ⟨Nat.le_of_ble_eq_true rfl, Nat.le_of_ble_eq_true rfl⟩) ⟨bl_, va_recvX hK.1 hPx (ci := 11) (q0 := 0) rfl rfl, fun U hU hW => ⟨rfl, by rw [hU], by rw [hU]; exact hPc, kk_mv hW hK, hDw⟩⟩ rfl rfl hl.1 rfl (lv_room (Nat.le_of_ble_eq_true rfl)) dB_36_3_51.1.2.1.1 ⟨(by show _ ≤ 6; omega), (by show _ ≤ 207; omega)⟩) hS (fun q _ h => hFc q h) hFc (fun r_52 u t H locs ht hvm hw hB hz1 hk1 hS => ?_)
                have hP : va_P D vwCl _ H := ro_keep hP hk1
                obtain ⟨f0_r_52, f1_r_52⟩ := hw
                have hrc_ : r_52.toInt = rwC fl1 fn1 vp.toInt x3_49.toInt.toNat (vn.toInt + x3_49.toInt) := by rw [f1_r_52, show x4_49.toNatClampNeg = x3_49.toInt.toNat from (by rw [hlt3_.1]; rfl), v12_49]
                refine va_put (ci := 11) (v := .int r_52) (ty := .int) (C := RX11) (T := TX11) (N := 12) hx hb hts (fun _ h => List.mem_cons_of_mem _ (List.mem_append_left _ (List.mem_append_left _ (List.mem_append_right _ h)))) tyX11 tyX11_ok nmX11 hown hK.1 hP hD hS 0 rfl rfl 11 (by decide) (hts (.fieldLink RX11 91 "CutAtlas" "finding" "I") (List.mem_of_getElem? (i := 1) rfl)) (fun _ h9 => h9) rfl (by decide +kernel) rfl rfl (Nat.le_of_ble_eq_true rfl) dB_36_3_51.1.2.1.2 (fun H locs hP hD hS => ?_)
                refine pd_K (([ob11_0_ xo xk xn xc xh xt xw xm xp o8_49 o9_49 tr r_52, ob3_0_ xn vp o1_49 n1 n2 n3 n4 n5, ai_ cy n1 40 c_n1_49, ai_ cy n2 40 c_n2_49, ai_ cy n3 40 c_n3_49, ai_ cy n4 40 c_n4_49, ai_ cy n5 40 c_n5_49, aq_ cy 3 xk 5 (kf_ k0 k1 k2 k3 k4), ob6_0_ k0, ob5_0_ k1, ob9_0_ k2, ob2_0_ k3, ob8_0_ k4, aq_ cy 4 xm 4 (mf_ m0 m1 m2 m3), ob4_0_ m0 mk0 mr0 l0 u0, ob4_0_ m1 mk1 mr1 l1 u1, ob4_0_ m2 mk2 mr2 l2 u2, ob4_0_ m3 mk3 mr3 l3 u3, ai_ cy l0 6 fl0, ai_ cy l1 6 fl1, ai_ cy l2 6 fl2, ai_ cy l3 6 fl3, aj_ cy u0 30 fn0, aj_ cy u1 30 fn1, aj_ cy u2 30 fn2, aj_ cy u3 30 fn3, aq_ cy 5 xp 30 (pst p0_49 p3_49)] : va_W) ++ (pool cy p0_49 p1_49 p2_49 p3_49)) hP hD (fun hP hD => ?_)
                refine lv_aload_n hx hb dB_36_3_51.1.2.2.1 rfl (lv_at hl 3 rfl) ?_
                refine va_get (ci := 11) (v := .int r_52) (C := RX11) (T := TX11) (N := 12) hx hb hts (fun _ h => List.mem_cons_of_mem _ (List.mem_append_left _ (List.mem_append_left _ (List.mem_append_right _ h)))) hown hK.1 hP 0 rfl rfl 11 (by decide) (hts (.fieldLink RX11 91 "CutAtlas" "finding" "I") (List.mem_of_getElem? (i := 1) rfl)) (fun _ h9 => h9) rfl dB_36_3_51.1.2.2.2 ?_
                refine lv_if_ne (tgt := 128) hx hb dB_36_3_51.2.1.1.1 (by decide) (fun c_53 => ?_) (fun c_53 => ?_)
                · have t_53 : ¬ r_52.toInt = (0 : Int32).toInt := fun h => c_53 (Int32.toInt_inj.mp h)
                  obtain ⟨y_54, ey_54⟩ : ∃ y : Int32, y = x4_49 + 1 := ⟨_, rfl⟩
                  have ty_54 : y_54.toInt = x4_49.toInt + (1 : Int32).toInt := by rw [ey_54]; exact addI (by omega) (by omega)
                  refine lv_iinc (v := y_54) (lv' := [(4, .int y_54), (3, .int x3_49), (2, .ref m1), (0, .ref xo), (1, .int 1)]) hx hb dB_36_3_53.2.1.2 hl (k := 0) rfl (by rw [ey_54]; rfl) (by decide) rfl (fun ls hl => ?_)
                  refine lv_goto (tgt := 43) hx hb dB_36_3_53.2.2.1 (by decide) ?_
                  exact ih_49 y_54 x3_49 p0_49 p1_49 p2_49 p3_49 o8_49 o9_49 r_52 o1_49 c_n1_49 c_n2_49 c_n3_49 c_n4_49 c_n5_49 _ _ _ _ _ (by omega) (by first | with_reducible assumption | omega | assumption) (by first | with_reducible assumption | omega | assumption) (by first | with_reducible assumption | omega | assumption) (by first | with_reducible assumption | omega | assumption) (by first | exact hnn_ | assumption) (by first | with_reducible assumption | assumption | omega) (by first | with_reducible assumption | assumption | omega) (by first | with_reducible assumption | assumption | omega) (by first | with_reducible assumption | assumption | omega) (by first | exact hr0_ | exact rdl_ok v9_49 (by omega) (by omega) (hrc_.symm.trans (by omega)) (by omega) (by omega) (by omega) | exact rdl_no v9_49 (by omega) (by omega) hrc_.symm (by omega) (by omega)) (by first | exact apC_0 | exact hap_ _ (by omega) | assumption) (by first | exact chn_0 | exact chn_p (by omega) hrm_ | assumption) (by first | with_reducible assumption | omega | assumption) (by first | with_reducible assumption | assumption | exact rng_zero (by omega) (by omega) | exact orng_zero) (by first | with_reducible assumption | assumption | exact rng_zero (by omega) (by omega) | exact orng_zero) (by first | with_reducible assumption | assumption | exact rng_zero (by omega) (by omega) | exact orng_zero) ⟨hP, hD⟩ hS (lv_sub hl [0, 1, 2, 3, 4] rfl)
                · have t_53 : r_52.toInt = (0 : Int32).toInt := congrArg Int32.toInt c_53
                  have JOIN_55 : ∀ (p0_55 : Nat → Nat → Nat) (p1_55 : Nat → Nat → Int32) (p2_55 : Nat → Nat → Nat → Int32) (p3_55 : Nat) (o8_55 : Int32) (o9_55 : Int32) (H : Heap) (locs : List Loc) (ls : Array Slot), (pok p1_55 p2_55 p3_55) → (rok o8_55 o9_55 p3_55) → (remd pf ph pv pg vp vn fk fs fe fw fp o8_55 o9_55 p1_55 p2_55) → pd_2 D vwCl A (([ob11_0_ xo xk xn xc xh xt xw xm xp o8_55 o9_55 tr r_52, ob3_0_ xn vp o1_49 n1 n2 n3 n4 n5, ai_ cy n1 40 c_n1_49, ai_ cy n2 40 c_n2_49, ai_ cy n3 40 c_n3_49, ai_ cy n4 40 c_n4_49, ai_ cy n5 40 c_n5_49, aq_ cy 3 xk 5 (kf_ k0 k1 k2 k3 k4), ob6_0_ k0, ob5_0_ k1, ob9_0_ k2, ob2_0_ k3, ob8_0_ k4, aq_ cy 4 xm 4 (mf_ m0 m1 m2 m3), ob4_0_ m0 mk0 mr0 l0 u0, ob4_0_ m1 mk1 mr1 l1 u1, ob4_0_ m2 mk2 mr2 l2 u2, ob4_0_ m3 mk3 mr3 l3 u3, ai_ cy l0 6 fl0, ai_ cy l1 6 fl1, ai_ cy l2 6 fl2, ai_ cy l3 6 fl3, aj_ cy u0 30 fn0, aj_ cy u1 30 fn1, aj_ cy u2 30 fn2, aj_ cy u3 30 fn3, aq_ cy 5 xp 30 (pst p0_55 p3_55)] : va_W) ++ (pool cy p0_55 p1_55 p2_55 p3_55)) H → va_S A s.heap H locs → lv_has ls 5 [(4, .int x4_49), (3, .int x3_49), (2, .ref m1), (0, .ref xo), (1, .int 1)] → W p l e ({ frames := 4, cells := 6, slots := 207, locals := 98 } : Room) s m (([.ref xo, .int (1 : Int32)] : List Value).toArray) below meth c H locs 6 207 Q (F0 m 85 ls []) := by
                    intro p0_55 p1_55 p2_55 p3_55 o8_55 o9_55 H locs ls v0_55 v1_55 v2_55 hPD hS hl; obtain ⟨hP, hD⟩ := hPD
                    have hrm_ := v2_55
                    refine lv_aload_n hx hb dB_36_3_51.2.2.1.2 rfl (lv_at hl 3 rfl) ?_
                    refine lv_aload_n hx hb dB_36_3_51.2.2.2.1 rfl (lv_at hl 2 rfl) ?_
                    refine lv_iload hx hb dB_36_3_51.2.2.2.2 (lv_at hl 0 rfl) ?_
                    refine lv_iconst (v := 0) hx hb dB_36_3_52.1.1.1.1 (by decide) ?_
                    have hPx := pp_left hP
                    have hDx := dd_left hD
                    refine ct_R hPx hDx [ob4_0_ m1 mk1 mr1 l1 u1, aj_ cy u1 30 fn1] [15, 23] (by decide) rfl (fun hPc hDw => ?_)
                    have hFc := va_free (wc := []) hD hS hA [] rfl
                    refine va_calli (va_runV (As := [.int x4_49, .int 0]) (rest := [.ref xo]) ⟨hx, hb, hml, hown, hts⟩ (c_X4_whole l D cy H.size m1 l1 u1 mk1 mr1 fn1 x4_49 (0 : Int32) (by first | with_reducible assumption | omega | assumption) (by first | with_reducible assumption | omega | assumption)) (cwV 2 hts gX11_read_X4_whole rfl rfl rfl ⟨rfl, hd_X4_whole⟩ ⟨Nat.le_of_ble_eq_true rfl, Nat.le_of_ble_eq_true rfl⟩) ⟨bl_, va_recvX hK.1 hPx (ci := 4) (q0 := 15) rfl rfl, fun U hU hW => ⟨rfl, by rw [hU], by rw [hU]; exact hPc, kk_mv hW hK, hDw⟩⟩ rfl rfl hl.1 rfl (lv_room (Nat.le_of_ble_eq_true rfl)) dB_36_3_52.1.1.1.2 ⟨Nat.le_of_ble_eq_true rfl, Nat.le_of_ble_eq_true rfl⟩) hS (fun q _ h => hFc q h) hFc (fun r_56 u t H locs ht hvm hw hB hz1 hk1 hS => ?_)
                    have hP : va_P D vwCl _ H := ro_keep hP hk1
                    have f0_r_56 := hw
                    have v0_ : r_56 = (fn1 (5 * x4_49.toNatClampNeg + 0)).toInt32 := num32 f0_r_56 (by omega) (by omega)
                    have w0_ : r_56.toInt = (fn1 (5 * x4_49.toNatClampNeg + 0)).toInt := by rw [v0_]; exact l2iI (by omega) (by omega)
                    refine lv_aload_n hx hb dB_36_3_52.1.1.2.1 rfl (lv_at hl 2 rfl) ?_
                    refine lv_iload hx hb dB_36_3_52.1.1.2.2 (lv_at hl 0 rfl) ?_
                    refine lv_iconst (v := 1) hx hb dB_36_3_52.1.2.1.1 (by decide) ?_
                    have hPx := pp_left hP
                    have hDx := dd_left hD
                    refine ct_R hPx hDx [ob4_0_ m1 mk1 mr1 l1 u1, aj_ cy u1 30 fn1] [15, 23] (by decide) rfl (fun hPc hDw => ?_)
                    have hFc := va_free (wc := []) hD hS hA [] rfl
                    refine va_calli (va_runV (As := [.int x4_49, .int 1]) (rest := [.int r_56, .ref xo]) ⟨hx, hb, hml, hown, hts⟩ (c_X4_whole l D cy H.size m1 l1 u1 mk1 mr1 fn1 x4_49 (1 : Int32) (by first | with_reducible assumption | omega | assumption) (by first | with_reducible assumption | omega | assumption)) (cwV 2 hts gX11_read_X4_whole rfl rfl rfl ⟨rfl, hd_X4_whole⟩ ⟨Nat.le_of_ble_eq_true rfl, Nat.le_of_ble_eq_true rfl⟩) ⟨bl_, va_recvX hK.1 hPx (ci := 4) (q0 := 15) rfl rfl, fun U hU hW => ⟨rfl, by rw [hU], by rw [hU]; exact hPc, kk_mv hW hK, hDw⟩⟩ rfl rfl hl.1 rfl (lv_room (Nat.le_of_ble_eq_true rfl)) dB_36_3_52.1.2.1.2 ⟨Nat.le_of_ble_eq_true rfl, Nat.le_of_ble_eq_true rfl⟩) hS (fun q _ h => hFc q h) hFc (fun r_57 u t H locs ht hvm hw hB hz1 hk1 hS => ?_)
                    have hP : va_P D vwCl _ H := ro_keep hP hk1
                    have f0_r_57 := hw
                    have v1_ : r_57 = (fn1 (5 * x4_49.toNatClampNeg + 1)).toInt32 := num32 f0_r_57 (by omega) (by omega)
                    have w1_ : r_57.toInt = (fn1 (5 * x4_49.toNatClampNeg + 1)).toInt := by rw [v1_]; exact l2iI (by omega) (by omega)
                    refine lv_aload_n hx hb dB_36_3_52.1.2.2.1 rfl (lv_at hl 2 rfl) ?_
                    refine lv_iload hx hb dB_36_3_52.1.2.2.2 (lv_at hl 0 rfl) ?_
                    refine lv_iconst (v := 2) hx hb dB_36_3_52.2.1.1.1 (by decide) ?_
                    have hPx := pp_left hP
                    have hDx := dd_left hD
                    refine ct_R hPx hDx [ob4_0_ m1 mk1 mr1 l1 u1, aj_ cy u1 30 fn1] [15, 23] (by decide) rfl (fun hPc hDw => ?_)
                    have hFc := va_free (wc := []) hD hS hA [] rfl
                    refine va_calli (va_runV (As := [.int x4_49, .int 2]) (rest := [.int r_57, .int r_56, .ref xo]) ⟨hx, hb, hml, hown, hts⟩ (c_X4_whole l D cy H.size m1 l1 u1 mk1 mr1 fn1 x4_49 (2 : Int32) (by first | with_reducible assumption | omega | assumption) (by first | with_reducible assumption | omega | assumption)) (cwV 2 hts gX11_read_X4_whole rfl rfl rfl ⟨rfl, hd_X4_whole⟩ ⟨Nat.le_of_ble_eq_true rfl, Nat.le_of_ble_eq_true rfl⟩) ⟨bl_, va_recvX hK.1 hPx (ci := 4) (q0 := 15) rfl rfl, fun U hU hW => ⟨rfl, by rw [hU], by rw [hU]; exact hPc, kk_mv hW hK, hDw⟩⟩ rfl rfl hl.1 rfl (lv_room (Nat.le_of_ble_eq_true rfl)) dB_36_3_52.2.1.1.2 ⟨Nat.le_of_ble_eq_true rfl, Nat.le_of_ble_eq_true rfl⟩) hS (fun q _ h => hFc q h) hFc (fun r_58 u t H locs ht hvm hw hB hz1 hk1 hS => ?_)
                    have hP : va_P D vwCl _ H := ro_keep hP hk1
                    have f0_r_58 := hw
                    have v2_ : r_58 = (fn1 (5 * x4_49.toNatClampNeg + 2)).toInt32 := num32 f0_r_58 (by omega) (by omega)
                    have w2_ : r_58.toInt = (fn1 (5 * x4_49.toNatClampNeg + 2)).toInt := by rw [v2_]; exact l2iI (by omega) (by omega)
                    refine lv_aload_n hx hb dB_36_3_52.2.1.2.1 rfl (lv_at hl 2 rfl) ?_
                    refine lv_iload hx hb dB_36_3_52.2.1.2.2 (lv_at hl 0 rfl) ?_
                    refine lv_iconst (v := 3) hx hb dB_36_3_52.2.2.1.1 (by decide) ?_
                    have hPx := pp_left hP
                    have hDx := dd_left hD
                    refine ct_R hPx hDx [ob4_0_ m1 mk1 mr1 l1 u1, aj_ cy u1 30 fn1] [15, 23] (by decide) rfl (fun hPc hDw => ?_)
                    have hFc := va_free (wc := []) hD hS hA [] rfl
                    refine va_calli (va_runV (As := [.int x4_49, .int 3]) (rest := [.int r_58, .int r_57, .int r_56, .ref xo]) ⟨hx, hb, hml, hown, hts⟩ (c_X4_whole l D cy H.size m1 l1 u1 mk1 mr1 fn1 x4_49 (3 : Int32) (by first | with_reducible assumption | omega | assumption) (by first | with_reducible assumption | omega | assumption)) (cwV 2 hts gX11_read_X4_whole rfl rfl rfl ⟨rfl, hd_X4_whole⟩ ⟨Nat.le_of_ble_eq_true rfl, Nat.le_of_ble_eq_true rfl⟩) ⟨bl_, va_recvX hK.1 hPx (ci := 4) (q0 := 15) rfl rfl, fun U hU hW => ⟨rfl, by rw [hU], by rw [hU]; exact hPc, kk_mv hW hK, hDw⟩⟩ rfl rfl hl.1 rfl (lv_room (Nat.le_of_ble_eq_true rfl)) dB_36_3_52.2.2.1.2 ⟨Nat.le_of_ble_eq_true rfl, Nat.le_of_ble_eq_true rfl⟩) hS (fun q _ h => hFc q h) hFc (fun r_59 u t H locs ht hvm hw hB hz1 hk1 hS => ?_)
                    have hP : va_P D vwCl _ H := ro_keep hP hk1
                    have f0_r_59 := hw
                    have v3_ : r_59 = (fn1 (5 * x4_49.toNatClampNeg + 3)).toInt32 := num32 f0_r_59 (by omega) (by omega)
                    have w3_ : r_59.toInt = (fn1 (5 * x4_49.toNatClampNeg + 3)).toInt := by rw [v3_]; exact l2iI (by omega) (by omega)
                    refine lv_aload_n hx hb dB_36_3_52.2.2.2.1 rfl (lv_at hl 2 rfl) ?_
                    refine lv_iload hx hb dB_36_3_52.2.2.2.2 (lv_at hl 0 rfl) ?_
                    refine lv_iconst (v := 4) hx hb dB_36_3_53.1.1.1 (by decide) ?_
                    have hPx := pp_left hP
                    have hDx := dd_left hD
                    refine ct_R hPx hDx [ob4_0_ m1 mk1 mr1 l1 u1, aj_ cy u1 30 fn1] [15, 23] (by decide) rfl (fun hPc hDw => ?_)
                    have hFc := va_free (wc := []) hD hS hA [] rfl
                    refine va_calli (va_runV (As := [.int x4_49, .int 4]) (rest := [.int r_59, .int r_58, .int r_57, .int r_56, .ref xo]) ⟨hx, hb, hml, hown, hts⟩ (c_X4_whole l D cy H.size m1 l1 u1 mk1 mr1 fn1 x4_49 (4 : Int32) (by first | with_reducible assumption | omega | assumption) (by first | with_reducible assumption | omega | assumption)) (cwV 2 hts gX11_read_X4_whole rfl rfl rfl ⟨rfl, hd_X4_whole⟩ ⟨Nat.le_of_ble_eq_true rfl, Nat.le_of_ble_eq_true rfl⟩) ⟨bl_, va_recvX hK.1 hPx (ci := 4) (q0 := 15) rfl rfl, fun U hU hW => ⟨rfl, by rw [hU], by rw [hU]; exact hPc, kk_mv hW hK, hDw⟩⟩ rfl rfl hl.1 rfl (lv_room (Nat.le_of_ble_eq_true rfl)) dB_36_3_53.1.1.2 ⟨Nat.le_of_ble_eq_true rfl, Nat.le_of_ble_eq_true rfl⟩) hS (fun q _ h => hFc q h) hFc (fun r_60 u t H locs ht hvm hw hB hz1 hk1 hS => ?_)
                    have hP : va_P D vwCl _ H := ro_keep hP hk1
                    have f0_r_60 := hw
                    have v4_ : r_60 = (fn1 (5 * x4_49.toNatClampNeg + 4)).toInt32 := num32 f0_r_60 (by omega) (by omega)
                    have w4_ : r_60.toInt = (fn1 (5 * x4_49.toNatClampNeg + 4)).toInt := by rw [v4_]; exact l2iI (by omega) (by omega)
                    have hPx := pp_left hP
                    have hDx := dd_left hD
                    refine ct_S hPx hDx hS hA [ob11_0_ xo xk xn xc xh xt xw xm xp o8_55 o9_55 tr r_52, ob3_0_ xn vp o1_49 n1 n2 n3 n4 n5, ai_ cy n1 40 c_n1_49, ai_ cy n2 40 c_n2_49, ai_ cy n3 40 c_n3_49, ai_ cy n4 40 c_n4_49, ai_ cy n5 40 c_n5_49, aq_ cy 3 xk 5 (kf_ k0 k1 k2 k3 k4), ob6_0_ k0, ob5_0_ k1, ob9_0_ k2, ob2_0_ k3, ob8_0_ k4] [0, 1, 2, 3, 4, 5, 6, 7, 8, 9, 10, 11, 12] (by decide +kernel) rfl (fun hPc hDw hFc hC_ => ?_)
                    refine va_calli (va_runV (As := [.int r_56, .int r_57, .int r_58, .int r_59, .int r_60]) (rest := []) ⟨hx, hb, hml, hown, hts⟩ (c_X11_addLine2 l D cy H.size xo xk xn xc xh xt xw xm xp o8_55 o9_55 tr r_52 n1 n2 n3 n4 n5 vp o1_49 c_n1_49 c_n2_49 c_n3_49 c_n4_49 c_n5_49 k0 k1 k2 k3 k4 r_56 r_57 r_58 r_59 r_60 (by first | with_reducible assumption | omega | assumption) (by first | with_reducible assumption | omega | assumption) (by first | with_reducible assumption | omega | assumption) (by first | with_reducible assumption | omega | assumption) (by first | with_reducible assumption | omega | assumption) (by first | with_reducible assumption | omega | assumption) (by first | with_reducible assumption | assumption | omega) (by first | with_reducible assumption | assumption | omega) (by first | with_reducible assumption | assumption | omega) (by first | with_reducible assumption | assumption | omega)) (cwV 5 hts gX11_read_X11_addLine rfl rfl rfl ⟨rfl, hd_X11_addLine⟩ ⟨Nat.le_of_ble_eq_true rfl, Nat.le_of_ble_eq_true rfl⟩) ⟨bl_, va_recvX hK.1 hPx (ci := 11) (q0 := 0) rfl rfl, fun U hU hW => ⟨rfl, by rw [hU], by rw [hU]; exact hPc, kk_mv hW hK, hDw⟩⟩ rfl rfl hl.1 rfl (lv_room (Nat.le_of_ble_eq_true rfl)) dB_36_3_53.1.2.1 ⟨Nat.le_of_ble_eq_true rfl, Nat.le_of_ble_eq_true rfl⟩) hS (fun q _ h => hFc q h) hFc (fun r_61 u t H locs ht hvm hw hB hz1 hk1 hS => ?_)
                    obtain ⟨evn_62, efk_63, efs_64, efe_65, efw_66, efp_67, g_68, g_69, g_70, g_71, g_72, g_73, hP1, hD1⟩ := hB
                    rw [ht] at hP1
                    obtain ⟨hP, hD⟩ := va_joinQ (wr := [aq_ cy 4 xm 4 (mf_ m0 m1 m2 m3), ob4_0_ m0 mk0 mr0 l0 u0, ob4_0_ m1 mk1 mr1 l1 u1, ob4_0_ m2 mk2 mr2 l2 u2, ob4_0_ m3 mk3 mr3 l3 u3, ai_ cy l0 6 fl0, ai_ cy l1 6 fl1, ai_ cy l2 6 fl2, ai_ cy l3 6 fl3, aj_ cy u0 30 fn0, aj_ cy u1 30 fn1, aj_ cy u2 30 fn2, aj_ cy u3 30 fn3, aq_ cy 5 xp 30 (pst p0_55 p3_55)]) (w1 := [ob11_0_ xo xk xn xc xh xt xw xm xp o8_55 o9_55 tr r_52, ob3_0_ xn vp evn_62 n1 n2 n3 n4 n5, ai_ cy n1 40 efk_63, ai_ cy n2 40 efs_64, ai_ cy n3 40 efe_65, ai_ cy n4 40 efw_66, ai_ cy n5 40 efp_67, aq_ cy 3 xk 5 (kf_ k0 k1 k2 k3 k4), ob6_0_ k0, ob5_0_ k1, ob9_0_ k2, ob2_0_ k3, ob8_0_ k4]) hP hD [0, 1, 2, 3, 4, 5, 6, 7, 8, 9, 10, 11, 12] [13, 14, 15, 16, 17, 18, 19, 20, 21, 22, 23, 24, 25, 26] hC_ rfl (by decide +kernel) (by decide +kernel) hk1 hFc hP1 hD1
                    refine pd_K (([aq_ cy 4 xm 4 (mf_ m0 m1 m2 m3), ob4_0_ m0 mk0 mr0 l0 u0, ob4_0_ m1 mk1 mr1 l1 u1, ob4_0_ m2 mk2 mr2 l2 u2, ob4_0_ m3 mk3 mr3 l3 u3, ai_ cy l0 6 fl0, ai_ cy l1 6 fl1, ai_ cy l2 6 fl2, ai_ cy l3 6 fl3, aj_ cy u0 30 fn0, aj_ cy u1 30 fn1, aj_ cy u2 30 fn2, aj_ cy u3 30 fn3, aq_ cy 5 xp 30 (pst p0_55 p3_55), ob11_0_ xo xk xn xc xh xt xw xm xp o8_55 o9_55 tr r_52, ob3_0_ xn vp evn_62 n1 n2 n3 n4 n5, ai_ cy n1 40 efk_63, ai_ cy n2 40 efs_64, ai_ cy n3 40 efe_65, ai_ cy n4 40 efw_66, ai_ cy n5 40 efp_67, aq_ cy 3 xk 5 (kf_ k0 k1 k2 k3 k4), ob6_0_ k0, ob5_0_ k1, ob9_0_ k2, ob2_0_ k3, ob8_0_ k4] : va_W) ++ (pool cy p0_55 p1_55 p2_55 p3_55)) hP hD (fun hP hD => ?_)
                    refine pd_P hP hD [ob11_0_ xo xk xn xc xh xt xw xm xp o8_55 o9_55 tr r_52, ob3_0_ xn vp evn_62 n1 n2 n3 n4 n5, ai_ cy n1 40 efk_63, ai_ cy n2 40 efs_64, ai_ cy n3 40 efe_65, ai_ cy n4 40 efw_66, ai_ cy n5 40 efp_67, aq_ cy 3 xk 5 (kf_ k0 k1 k2 k3 k4), ob6_0_ k0, ob5_0_ k1, ob9_0_ k2, ob2_0_ k3, ob8_0_ k4, aq_ cy 4 xm 4 (mf_ m0 m1 m2 m3), ob4_0_ m0 mk0 mr0 l0 u0, ob4_0_ m1 mk1 mr1 l1 u1, ob4_0_ m2 mk2 mr2 l2 u2, ob4_0_ m3 mk3 mr3 l3 u3, ai_ cy l0 6 fl0, ai_ cy l1 6 fl1, ai_ cy l2 6 fl2, ai_ cy l3 6 fl3, aj_ cy u0 30 fn0, aj_ cy u1 30 fn1, aj_ cy u2 30 fn2, aj_ cy u3 30 fn3, aq_ cy 5 xp 30 (pst p0_55 p3_55)] [14, 15, 16, 17, 18, 19, 20, 21, 22, 23, 24, 25, 26, 0, 1, 2, 3, 4, 5, 6, 7, 8, 9, 10, 11, 12, 13] (by decide +kernel) rfl (fun hP hD => ?_)
                    have f0_r_61 := hw
                    refine lv_pop hx hb dB_36_3_53.1.2.2 rfl ?_
                    have hnn_ : nok vp evn_62 efk_63 efs_64 efe_65 efw_66 efp_67 := ⟨hnk.1, by omega, g_71, g_69, g_72, g_73⟩
                    have hap_ : ∀ c2 : Int, c2 = x3_49.toInt + 1 → apC vn.toInt c2 fk fs fe fw fp efk_63 efs_64 efe_65 efw_66 efp_67 fn1 := fun c2 e2 => apC_st v10_49 v12_49 (by omega) (i := x4_49.toNatClampNeg) (by rw [clI (by omega)]; exact hlt3_.1) g_70 v0_ v1_ v2_ v3_ v4_ e2
                    obtain ⟨y_74, ey_74⟩ : ∃ y : Int32, y = x3_49 + 1 := ⟨_, rfl⟩
                    have ty_74 : y_74.toInt = x3_49.toInt + (1 : Int32).toInt := by rw [ey_74]; exact addI (by omega) (by omega)
                    refine lv_iinc (v := y_74) (lv' := [(3, .int y_74), (4, .int x4_49), (2, .ref m1), (0, .ref xo), (1, .int 1)]) hx hb dB_36_3_53.2.1.1 hl (k := 1) rfl (by rw [ey_74]; rfl) (by decide) rfl (fun ls hl => ?_)
                    obtain ⟨y_75, ey_75⟩ : ∃ y : Int32, y = x4_49 + 1 := ⟨_, rfl⟩
                    have ty_75 : y_75.toInt = x4_49.toInt + (1 : Int32).toInt := by rw [ey_75]; exact addI (by omega) (by omega)
                    refine lv_iinc (v := y_75) (lv' := [(4, .int y_75), (3, .int y_74), (2, .ref m1), (0, .ref xo), (1, .int 1)]) hx hb dB_36_3_53.2.1.2 hl (k := 1) rfl (by rw [ey_75]; rfl) (by decide) rfl (fun ls hl => ?_)
                    refine lv_goto (tgt := 43) hx hb dB_36_3_53.2.2.1 (by decide) ?_
                    exact ih_49 y_75 y_74 p0_55 p1_55 p2_55 p3_55 o8_55 o9_55 r_52 evn_62 efk_63 efs_64 efe_65 efw_66 efp_67 _ _ _ _ _ (by omega) (by first | with_reducible assumption | omega | assumption) (by first | with_reducible assumption | omega | assumption) (by first | with_reducible assumption | omega | assumption) (by first | with_reducible assumption | omega | assumption) (by first | exact hnn_ | assumption) (by first | with_reducible assumption | assumption | omega) (by first | with_reducible assumption | assumption | omega) (by first | with_reducible assumption | assumption | omega) (by first | with_reducible assumption | assumption | omega) (by first | exact hr0_ | exact rdl_ok v9_49 (by omega) (by omega) (hrc_.symm.trans (by omega)) (by omega) (by omega) (by omega) | exact rdl_no v9_49 (by omega) (by omega) hrc_.symm (by omega) (by omega)) (by first | exact apC_0 | exact hap_ _ (by omega) | assumption) (by first | exact chn_0 | exact chn_p (by omega) hrm_ | assumption) (by first | with_reducible assumption | omega | assumption) (by first | with_reducible assumption | assumption | exact rng_zero (by omega) (by omega) | exact orng_zero) (by first | with_reducible assumption | assumption | exact rng_zero (by omega) (by omega) | exact orng_zero) (by first | with_reducible assumption | assumption | exact rng_zero (by omega) (by omega) | exact orng_zero) ⟨hP, hD⟩ hS (lv_sub hl [0, 1, 2, 3, 4] rfl)
                  refine lv_iload_n hx hb dB_36_3_51.2.1.1.2 rfl (lv_at hl 1 rfl) ?_
                  refine lv_if_ne (tgt := 85) hx hb dB_36_3_51.2.1.2.1 (by decide) (fun c_76 => ?_) (fun c_76 => ?_)
                  · have t_76 : ¬ x3_49.toInt = (0 : Int32).toInt := fun h => c_76 (Int32.toInt_inj.mp h)
                    refine W.widen (k := 6) (n := 207) (by omega) (by omega) ?_
                    exact JOIN_55 p0_49 p1_49 p2_49 p3_49 o8_49 o9_49 _ _ _ (by first | with_reducible assumption | assumption | omega) (by first | with_reducible assumption | assumption | omega) (by first | exact (v11_49).2 (by omega) | exact chn_z v11_49 (by omega) of_none) ⟨hP, hD⟩ hS (lv_sub hl [0, 1, 2, 3, 4] rfl)
                  · have t_76 : x3_49.toInt = (0 : Int32).toInt := congrArg Int32.toInt c_76
                    refine lv_aload_n hx hb dB_36_3_51.2.1.2.2 rfl (lv_at hl 3 rfl) ?_
                    refine ct_P hP hD hS hA [ob11_0_ xo xk xn xc xh xt xw xm xp o8_49 o9_49 tr r_52, ob3_0_ xn vp o1_49 n1 n2 n3 n4 n5, ai_ cy n1 40 c_n1_49, ai_ cy n2 40 c_n2_49, ai_ cy n3 40 c_n3_49, ai_ cy n4 40 c_n4_49, ai_ cy n5 40 c_n5_49, aq_ cy 5 xp 30 (pst p0_49 p3_49)] [0, 1, 2, 3, 4, 5, 6, 26] (by decide) rfl (fun hPc hDw hFc hC_ => ?_)
                    have hPx := pp_left hP
                    refine va_callv (va_runV (As := []) (rest := []) ⟨hx, hb, hml, hown, hts⟩ (c_X11_remember2 l D cy H.size xo xk xn xc xh xt xw xm xp o8_49 o9_49 tr r_52 n1 n2 n3 n4 n5 vp o1_49 c_n1_49 c_n2_49 c_n3_49 c_n4_49 c_n5_49 p0_49 p1_49 p2_49 p3_49 (by first | with_reducible assumption | assumption | omega) (by first | with_reducible assumption | assumption | omega) (by first | with_reducible assumption | assumption | omega) (by first | with_reducible assumption | assumption | omega) (by first | with_reducible assumption | assumption | omega) (by first | with_reducible assumption | assumption | omega) (by first | with_reducible assumption | assumption | omega)) (cwV 0 hts gX11_read_X11_remember rfl rfl rfl ⟨rfl, hd_X11_remember⟩ ⟨Nat.le_of_ble_eq_true rfl, Nat.le_of_ble_eq_true rfl⟩) ⟨bl_, va_recvX hK.1 hPx (ci := 11) (q0 := 0) rfl rfl, fun U hU hW => ⟨rfl, by rw [hU], by rw [hU]; exact hPc, kk_mv hW hK, hDw⟩⟩ rfl rfl hl.1 rfl (lv_room (Nat.le_of_ble_eq_true rfl)) dB_36_3_51.2.2.1.1 ⟨(by show _ ≤ 6; omega), (by show _ ≤ 207; omega)⟩) hS (fun q _ h => hFc q h) hFc (fun u t H locs ht hvm hw hB hz1 hk1 hS => ?_)
                    obtain ⟨epf_78, eph_79, epa_80, epv_81, epg_82, epm_83, g_84, g_85, g_86, g_87, hP1, hD1⟩ := hB
                    rw [ht] at hP1
                    obtain ⟨hP, hD⟩ := va_joinP (wr := [aq_ cy 3 xk 5 (kf_ k0 k1 k2 k3 k4), ob6_0_ k0, ob5_0_ k1, ob9_0_ k2, ob2_0_ k3, ob8_0_ k4, aq_ cy 4 xm 4 (mf_ m0 m1 m2 m3), ob4_0_ m0 mk0 mr0 l0 u0, ob4_0_ m1 mk1 mr1 l1 u1, ob4_0_ m2 mk2 mr2 l2 u2, ob4_0_ m3 mk3 mr3 l3 u3, ai_ cy l0 6 fl0, ai_ cy l1 6 fl1, ai_ cy l2 6 fl2, ai_ cy l3 6 fl3, aj_ cy u0 30 fn0, aj_ cy u1 30 fn1, aj_ cy u2 30 fn2, aj_ cy u3 30 fn3]) (rx := [ob11_0_ xo xk xn xc xh xt xw xm xp epf_78 eph_79 tr r_52, ob3_0_ xn vp o1_49 n1 n2 n3 n4 n5, ai_ cy n1 40 c_n1_49, ai_ cy n2 40 c_n2_49, ai_ cy n3 40 c_n3_49, ai_ cy n4 40 c_n4_49, ai_ cy n5 40 c_n5_49, aq_ cy 5 xp 30 (pst epa_80 epm_83)]) (pl1 := (pool cy epa_80 epv_81 epg_82 epm_83)) hP hD [0, 1, 2, 3, 4, 5, 6, 26] [7, 8, 9, 10, 11, 12, 13, 14, 15, 16, 17, 18, 19, 20, 21, 22, 23, 24, 25] hC_ rfl (by decide +kernel) (by decide +kernel) hk1 hFc hP1 hD1
                    refine pd_K (([aq_ cy 3 xk 5 (kf_ k0 k1 k2 k3 k4), ob6_0_ k0, ob5_0_ k1, ob9_0_ k2, ob2_0_ k3, ob8_0_ k4, aq_ cy 4 xm 4 (mf_ m0 m1 m2 m3), ob4_0_ m0 mk0 mr0 l0 u0, ob4_0_ m1 mk1 mr1 l1 u1, ob4_0_ m2 mk2 mr2 l2 u2, ob4_0_ m3 mk3 mr3 l3 u3, ai_ cy l0 6 fl0, ai_ cy l1 6 fl1, ai_ cy l2 6 fl2, ai_ cy l3 6 fl3, aj_ cy u0 30 fn0, aj_ cy u1 30 fn1, aj_ cy u2 30 fn2, aj_ cy u3 30 fn3, ob11_0_ xo xk xn xc xh xt xw xm xp epf_78 eph_79 tr r_52, ob3_0_ xn vp o1_49 n1 n2 n3 n4 n5, ai_ cy n1 40 c_n1_49, ai_ cy n2 40 c_n2_49, ai_ cy n3 40 c_n3_49, ai_ cy n4 40 c_n4_49, ai_ cy n5 40 c_n5_49, aq_ cy 5 xp 30 (pst epa_80 epm_83)] : va_W) ++ (pool cy epa_80 epv_81 epg_82 epm_83)) hP hD (fun hP hD => ?_)
                    refine pd_P hP hD [ob11_0_ xo xk xn xc xh xt xw xm xp epf_78 eph_79 tr r_52, ob3_0_ xn vp o1_49 n1 n2 n3 n4 n5, ai_ cy n1 40 c_n1_49, ai_ cy n2 40 c_n2_49, ai_ cy n3 40 c_n3_49, ai_ cy n4 40 c_n4_49, ai_ cy n5 40 c_n5_49, aq_ cy 3 xk 5 (kf_ k0 k1 k2 k3 k4), ob6_0_ k0, ob5_0_ k1, ob9_0_ k2, ob2_0_ k3, ob8_0_ k4, aq_ cy 4 xm 4 (mf_ m0 m1 m2 m3), ob4_0_ m0 mk0 mr0 l0 u0, ob4_0_ m1 mk1 mr1 l1 u1, ob4_0_ m2 mk2 mr2 l2 u2, ob4_0_ m3 mk3 mr3 l3 u3, ai_ cy l0 6 fl0, ai_ cy l1 6 fl1, ai_ cy l2 6 fl2, ai_ cy l3 6 fl3, aj_ cy u0 30 fn0, aj_ cy u1 30 fn1, aj_ cy u2 30 fn2, aj_ cy u3 30 fn3, aq_ cy 5 xp 30 (pst epa_80 epm_83)] [19, 20, 21, 22, 23, 24, 25, 0, 1, 2, 3, 4, 5, 6, 7, 8, 9, 10, 11, 12, 13, 14, 15, 16, 17, 18, 26] (by decide +kernel) rfl (fun hP hD => ?_)
                    refine W.widen (k := 6) (n := 207) (by omega) (by omega) ?_
                    exact JOIN_55 epa_80 epv_81 epg_82 epm_83 epf_78 eph_79 _ _ _ (by first | with_reducible assumption | assumption | omega) (by first | with_reducible assumption | assumption | omega) (by first | exact (v11_49).2 (by omega) | exact chn_z v11_49 (by omega) g_87) ⟨hP, hD⟩ hS (lv_sub hl [0, 1, 2, 3, 4] rfl)
        refine lv_aload_n hx hb dB_36_3_49.2.2.2.1 rfl (lv_at hl 0 rfl) ?_
        have hPx := pp_left hP
        have hDx := dd_left hD
        refine ct_R hPx hDx [ob4_0_ m1 mk1 mr1 l1 u1] [15] (by decide) rfl (fun hPc hDw => ?_)
        have hFc := va_free (wc := []) hD hS hA [] rfl
        refine va_calli (va_runV (As := []) (rest := [.ref xo]) ⟨hx, hb, hml, hown, hts⟩ (c_X4_isThere l D cy H.size m1 l1 u1 mk1 mr1) (cwV 0 hts gX11_read_X4_isThere rfl rfl rfl ⟨rfl, hd_X4_isThere⟩ ⟨Nat.le_of_ble_eq_true rfl, Nat.le_of_ble_eq_true rfl⟩) ⟨bl_, va_recvX hK.1 hPx (ci := 4) (q0 := 15) rfl rfl, fun U hU hW => ⟨rfl, by rw [hU], by rw [hU]; exact hPc, kk_mv hW hK, hDw⟩⟩ rfl rfl hl.1 rfl (lv_room (Nat.le_of_ble_eq_true rfl)) dB_36_3_49.2.2.2.2 ⟨Nat.le_of_ble_eq_true rfl, Nat.le_of_ble_eq_true rfl⟩) hS (fun q _ h => hFc q h) hFc (fun r_88 u t H locs ht hvm hw hB hz1 hk1 hS => ?_)
        have hP : va_P D vwCl _ H := ro_keep hP hk1
        rcases hw with ⟨w_89, e_⟩ | ⟨w_89, e_⟩
        · have e_ := e_.symm
          subst e_
          refine lv_if_eq (tgt := 33) hx hb dB_36_3_50.1.1.1.1 (by decide) (fun c_90 => ?_) (fun c_90 => ?_)
          · exact absurd c_90 (by decide)
          · have _ := c_90
            refine lv_iconst (v := 0) hx hb dB_36_3_50.1.1.1.2 (by decide) ?_
            refine lv_goto (tgt := 35) hx hb dB_36_3_50.1.1.2.1 (by decide) ?_
            exact JOIN_48 (0 : Int32) _ _ _ (by first | with_reducible assumption | assumption | omega) ⟨hP, hD⟩ hS (lv_sub hl [0, 1, 2] rfl)
        · have e_ := e_.symm
          subst e_
          refine lv_if_eq (tgt := 33) hx hb dB_36_3_50.1.1.1.1 (by decide) (fun c_91 => ?_) (fun c_91 => ?_)
          · have _ := c_91
            refine lv_bipush (v := (-11)) hx hb dB_36_3_50.1.1.2.2 (by decide) ?_
            exact JOIN_48 ((-11) : Int32) _ _ _ (by first | with_reducible assumption | assumption | omega) ⟨hP, hD⟩ hS (lv_sub hl [0, 1, 2] rfl)
          · exact absurd c_91 (by decide)
      · refine lv_aload_n hx hb dB_36_3_49.2.1.1.1 rfl (lv_at hl 0 rfl) ?_
        refine va_get (ci := 11) (v := .ref xm) (C := RX11) (T := TX11) (N := 12) hx hb hts (fun _ h => List.mem_cons_of_mem _ (List.mem_append_left _ (List.mem_append_left _ (List.mem_append_right _ h)))) hown hK.1 hP 0 rfl rfl 6 (by decide) (hts (.fieldLink RX11 72 "CutAtlas" "maps" "[LCutAtlas$NumberMap;") (List.mem_of_getElem? (i := 2) rfl)) (fun _ h9 => h9) rfl dB_36_3_49.2.1.1.2 ?_
        refine lv_iload_n hx hb dB_36_3_49.2.1.2.1 rfl (lv_at hl 1 rfl) ?_
        refine va_aldq hx hb hK.1 hP 13 4 rfl rfl (i := 2) (by unfold vp_in; decide) dB_36_3_49.2.1.2.2 ?_
        refine lv_topv (v' := .ref m2) (by simp [va_up, va_rf, mf_, cl_0, cl_1, cl_2, cl_3, cl_4]) ?_
        refine lv_astore_n (lv' := [(2, .ref m2), (0, .ref xo), (1, .int 2)]) hx hb dB_36_3_49.2.2.1.1 rfl hl (by decide) rfl (fun ls hl => ?_)
        refine lv_aload_n hx hb dB_36_3_49.2.2.1.2 rfl (lv_at hl 1 rfl) ?_
        have JOIN_92 : ∀ (u0_92 : Int32) (H : Heap) (locs : List Loc) (ls : Array Slot), (u0_92.toInt = 0 ∧ mr2.toInt ≠ -9 ∨ u0_92.toInt = -11 ∧ mr2.toInt = -9) → pd_2 D vwCl A (([ob11_0_ xo xk xn xc xh xt xw xm xp pf ph tr fi, ob3_0_ xn vp vn n1 n2 n3 n4 n5, ai_ cy n1 40 fk, ai_ cy n2 40 fs, ai_ cy n3 40 fe, ai_ cy n4 40 fw, ai_ cy n5 40 fp, aq_ cy 3 xk 5 (kf_ k0 k1 k2 k3 k4), ob6_0_ k0, ob5_0_ k1, ob9_0_ k2, ob2_0_ k3, ob8_0_ k4, aq_ cy 4 xm 4 (mf_ m0 m1 m2 m3), ob4_0_ m0 mk0 mr0 l0 u0, ob4_0_ m1 mk1 mr1 l1 u1, ob4_0_ m2 mk2 mr2 l2 u2, ob4_0_ m3 mk3 mr3 l3 u3, ai_ cy l0 6 fl0, ai_ cy l1 6 fl1, ai_ cy l2 6 fl2, ai_ cy l3 6 fl3, aj_ cy u0 30 fn0, aj_ cy u1 30 fn1, aj_ cy u2 30 fn2, aj_ cy u3 30 fn3, aq_ cy 5 xp 30 (pst pa pm)] : va_W) ++ (pool cy pa pv pg pm)) H → va_S A s.heap H locs → lv_has ls 5 [(2, .ref m2), (0, .ref xo), (1, .int 2)] → W p l e ({ frames := 4, cells := 6, slots := 207, locals := 98 } : Room) s m (([.ref xo, .int (2 : Int32)] : List Value).toArray) below meth c H locs 0 0 Q (F0 m 35 ls [.int u0_92, .ref xo]) := by
          intro u0_92 H locs ls v0_92 hPD hS hl; obtain ⟨hP, hD⟩ := hPD
          have z35_ := v0_92
          refine va_put (ci := 11) (v := .int u0_92) (ty := .int) (C := RX11) (T := TX11) (N := 12) hx hb hts (fun _ h => List.mem_cons_of_mem _ (List.mem_append_left _ (List.mem_append_left _ (List.mem_append_right _ h)))) tyX11 tyX11_ok nmX11 hown hK.1 hP hD hS 0 rfl rfl 11 (by decide) (hts (.fieldLink RX11 91 "CutAtlas" "finding" "I") (List.mem_of_getElem? (i := 1) rfl)) (fun _ h9 => h9) rfl (by decide +kernel) rfl rfl (Nat.le_of_ble_eq_true rfl) dB_36_3_50.1.2.1.1 (fun H locs hP hD hS => ?_)
          refine pd_K (([ob11_0_ xo xk xn xc xh xt xw xm xp pf ph tr u0_92, ob3_0_ xn vp vn n1 n2 n3 n4 n5, ai_ cy n1 40 fk, ai_ cy n2 40 fs, ai_ cy n3 40 fe, ai_ cy n4 40 fw, ai_ cy n5 40 fp, aq_ cy 3 xk 5 (kf_ k0 k1 k2 k3 k4), ob6_0_ k0, ob5_0_ k1, ob9_0_ k2, ob2_0_ k3, ob8_0_ k4, aq_ cy 4 xm 4 (mf_ m0 m1 m2 m3), ob4_0_ m0 mk0 mr0 l0 u0, ob4_0_ m1 mk1 mr1 l1 u1, ob4_0_ m2 mk2 mr2 l2 u2, ob4_0_ m3 mk3 mr3 l3 u3, ai_ cy l0 6 fl0, ai_ cy l1 6 fl1, ai_ cy l2 6 fl2, ai_ cy l3 6 fl3, aj_ cy u0 30 fn0, aj_ cy u1 30 fn1, aj_ cy u2 30 fn2, aj_ cy u3 30 fn3, aq_ cy 5 xp 30 (pst pa pm)] : va_W) ++ (pool cy pa pv pg pm)) hP hD (fun hP hD => ?_)
          refine lv_iconst (v := 0) hx hb dB_36_3_50.1.2.1.2 (by decide) ?_
          refine lv_istore_n (lv' := [(3, .int 0), (2, .ref m2), (0, .ref xo), (1, .int 2)]) hx hb dB_36_3_50.1.2.2.1 rfl hl (by decide) rfl (fun ls hl => ?_)
          refine lv_iconst (v := 0) hx hb dB_36_3_50.1.2.2.2 (by decide) ?_
          refine lv_istore (lv' := [(4, .int 0), (3, .int 0), (2, .ref m2), (0, .ref xo), (1, .int 2)]) hx hb dB_36_3_50.2.1.1.1 hl (by decide) rfl (fun ls hl => ?_)
          have hr0_ : rdl (rwC fl2 fn2 vp.toInt) vn.toInt mr2.toInt (0 : Int32).toInt (0 : Int32).toInt u0_92.toInt := rdl_s (by omega) (by omega)
          suffices LOOP_93 : ∀ (n_93 : Nat) (x4_93 : Int32) (x3_93 : Int32) (p0_93 : Nat → Nat → Nat) (p1_93 : Nat → Nat → Int32) (p2_93 : Nat → Nat → Nat → Int32) (p3_93 : Nat) (o8_93 : Int32) (o9_93 : Int32) (o11_93 : Int32) (o1_93 : Int32) (c_n1_93 : Nat → Int32) (c_n2_93 : Nat → Int32) (c_n3_93 : Nat → Int32) (c_n4_93 : Nat → Int32) (c_n5_93 : Nat → Int32) (kc_93 : Nat) (ks_93 : Nat) (H : Heap) (locs : List Loc) (ls : Array Slot), 6 - x4_93.toInt < (n_93 : Int) → (0 ≤ x4_93.toInt) → (x4_93.toInt ≤ 6) → (0 ≤ x3_93.toInt) → (x3_93.toInt ≤ x4_93.toInt) → (nok vp o1_93 c_n1_93 c_n2_93 c_n3_93 c_n4_93 c_n5_93) → (pok p1_93 p2_93 p3_93) → (rok o8_93 o9_93 p3_93) → (prng c_n2_93 c_n3_93 40) → (kc_93 ≤ 6 ∧ ks_93 ≤ 207 ∧ (x3_93.toInt = 0 → kc_93 = 0 ∧ ks_93 = 0)) → (rdl (rwC fl2 fn2 vp.toInt) vn.toInt mr2.toInt x3_93.toInt x4_93.toInt o11_93.toInt) → (apC vn.toInt x3_93.toInt fk fs fe fw fp c_n1_93 c_n2_93 c_n3_93 c_n4_93 c_n5_93 fn2) → (chn x3_93.toInt pf ph pv pg vp vn fk fs fe fw fp o8_93 o9_93 p1_93 p2_93 o1_93 c_n1_93 c_n2_93 c_n3_93 c_n4_93 c_n5_93) → (o1_93.toInt = vn.toInt + x3_93.toInt) → (rng c_n1_93 40 (0) (4)) → (rng c_n4_93 40 (0) (2000)) → (rng c_n5_93 40 (0) (100)) → pd_2 D vwCl A (([ob11_0_ xo xk xn xc xh xt xw xm xp o8_93 o9_93 tr o11_93, ob3_0_ xn vp o1_93 n1 n2 n3 n4 n5, ai_ cy n1 40 c_n1_93, ai_ cy n2 40 c_n2_93, ai_ cy n3 40 c_n3_93, ai_ cy n4 40 c_n4_93, ai_ cy n5 40 c_n5_93, aq_ cy 3 xk 5 (kf_ k0 k1 k2 k3 k4), ob6_0_ k0, ob5_0_ k1, ob9_0_ k2, ob2_0_ k3, ob8_0_ k4, aq_ cy 4 xm 4 (mf_ m0 m1 m2 m3), ob4_0_ m0 mk0 mr0 l0 u0, ob4_0_ m1 mk1 mr1 l1 u1, ob4_0_ m2 mk2 mr2 l2 u2, ob4_0_ m3 mk3 mr3 l3 u3, ai_ cy l0 6 fl0, ai_ cy l1 6 fl1, ai_ cy l2 6 fl2, ai_ cy l3 6 fl3, aj_ cy u0 30 fn0, aj_ cy u1 30 fn1, aj_ cy u2 30 fn2, aj_ cy u3 30 fn3, aq_ cy 5 xp 30 (pst p0_93 p3_93)] : va_W) ++ (pool cy p0_93 p1_93 p2_93 p3_93)) H → va_S A s.heap H locs → lv_has ls 5 [(4, .int x4_93), (3, .int x3_93), (2, .ref m2), (0, .ref xo), (1, .int 2)] → W p l e ({ frames := 4, cells := 6, slots := 207, locals := 98 } : Room) s m (([.ref xo, .int (2 : Int32)] : List Value).toArray) below meth c H locs kc_93 ks_93 Q (F0 m 43 ls []) from LOOP_93 ((6 - (0 : Int32).toInt).toNat + 1) (0 : Int32) (0 : Int32) pa pv pg pm pf ph u0_92 vn fk fs fe fw fp _ _ _ _ _ (by omega) (by first | with_reducible assumption | omega | assumption) (by first | with_reducible assumption | omega | assumption) (by first | with_reducible assumption | omega | assumption) (by first | with_reducible assumption | omega | assumption) (by first | exact hnn_ | assumption) (by first | with_reducible assumption | assumption | omega) (by first | with_reducible assumption | assumption | omega) (by first | with_reducible assumption | assumption | omega) (by first | with_reducible assumption | assumption | omega) (by first | exact hr0_ | exact rdl_ok v_none (by omega) (by omega) (hrc_.symm.trans (by omega)) (by omega) (by omega) (by omega) | exact rdl_no v_none (by omega) (by omega) hrc_.symm (by omega) (by omega)) (by first | exact apC_0 | exact hap_ _ (by omega) | assumption) (by first | exact chn_0 | exact chn_p (by omega) hrm_ | assumption) (by first | with_reducible assumption | omega | assumption) (by first | with_reducible assumption | assumption | exact rng_zero (by omega) (by omega) | exact orng_zero) (by first | with_reducible assumption | assumption | exact rng_zero (by omega) (by omega) | exact orng_zero) (by first | with_reducible assumption | assumption | exact rng_zero (by omega) (by omega) | exact orng_zero) ⟨hP, hD⟩ hS (lv_sub hl [0, 1, 2, 3, 4] rfl)
          intro n_93
          induction n_93 with
          | zero =>
            intro x4_93 x3_93 p0_93 p1_93 p2_93 p3_93 o8_93 o9_93 o11_93 o1_93 c_n1_93 c_n2_93 c_n3_93 c_n4_93 c_n5_93 kc_93 ks_93 H locs ls hm v0_93 v1_93 v2_93 v3_93 v4_93 v5_93 v6_93 v7_93 v8_93 v9_93 v10_93 v11_93 v12_93 rc_n1_93 rc_n4_93 rc_n5_93 hPD hS hl; obtain ⟨hP, hD⟩ := hPD
            exact absurd hm (by omega)
          | succ n_93 ih_93 =>
            intro x4_93 x3_93 p0_93 p1_93 p2_93 p3_93 o8_93 o9_93 o11_93 o1_93 c_n1_93 c_n2_93 c_n3_93 c_n4_93 c_n5_93 kc_93 ks_93 H locs ls hm v0_93 v1_93 v2_93 v3_93 v4_93 v5_93 v6_93 v7_93 v8_93 v9_93 v10_93 v11_93 v12_93 rc_n1_93 rc_n4_93 rc_n5_93 hPD hS hl; obtain ⟨hP, hD⟩ := hPD
            refine lv_iload hx hb dB_36_3_50.2.1.1.2 (lv_at hl 0 rfl) ?_
            refine lv_aload_n hx hb dB_36_3_50.2.1.2.1 rfl (lv_at hl 2 rfl) ?_
            refine va_get (ci := 4) (v := .int mr2) (C := RX4) (T := TX4) (N := 4) hx hb hts (fun _ h => List.mem_cons_of_mem _ (List.mem_append_left _ (List.mem_append_right _ h))) hown hK.1 hP 16 rfl rfl 1 (by decide) (hts (.fieldLink RX11 284 "CutAtlas$NumberMap" "rows" "I") (List.mem_of_getElem? (i := 3) rfl)) (fun _ h9 => h9) rfl dB_36_3_50.2.1.2.2 ?_
            refine lv_icmp_ge (tgt := 134) hx hb dB_36_3_50.2.2.1.1 (by decide) (fun c_94 => ?_) (fun c_94 => ?_)
            · have t_94 : mr2.toInt ≤ x4_93.toInt := Int32.le_iff_toInt_le.mp c_94
              have hq9_ := (v9_93).2
              refine lv_iload_n hx hb dB_36_3_53.2.2.2.1 rfl (lv_at hl 1 rfl) ?_
              refine W.widen (k := 6) (n := 207) (by omega) (by omega) ?_
              rw [hQ]
              exact W.iret (v := x3_93) hx hb hr (fun t ht hW => ⟨⟨x3_93, (), rfl, (by first | exact ⟨fun _ => by decide, fun h => absurd h (by omega), fun h => absurd h (by omega)⟩ | (refine ⟨fun h => absurd (by decide) h, ?_, ?_⟩ <;> rw [f4_c0] <;> first | exact fun _ h => absurd h (by omega) | exact fun _ h => by omega | (rw [f4_c0, f4_c0]; exact fun _ _ => ⟨_, rdl_end v9_93 (by omega) (by omega)⟩)) | (refine ⟨fun h => absurd (by decide) h, ?_, ?_⟩ <;> rw [f4_c1] <;> first | exact fun _ h => absurd h (by omega) | exact fun _ h => by omega | (rw [f4_c1, f4_c1]; exact fun _ _ => ⟨_, rdl_end v9_93 (by omega) (by omega)⟩)) | (refine ⟨fun h => absurd (by decide) h, ?_, ?_⟩ <;> rw [f4_c2] <;> first | exact fun _ h => absurd h (by omega) | exact fun _ h => by omega | (rw [f4_c2, f4_c2]; exact fun _ _ => ⟨_, rdl_end v9_93 (by omega) (by omega)⟩)) | (refine ⟨fun h => absurd (by decide) h, ?_, ?_⟩ <;> rw [f4_c3] <;> first | exact fun _ h => absurd h (by omega) | exact fun _ h => by omega | (rw [f4_c3, f4_c3]; exact fun _ _ => ⟨_, rdl_end v9_93 (by omega) (by omega)⟩))), o8_93, o9_93, o11_93, o1_93, c_n1_93, c_n2_93, c_n3_93, c_n4_93, c_n5_93, p0_93, p1_93, p2_93, p3_93, (by first | exact hnk | assumption), (by assumption), (by assumption), (by first | exact ⟨fun _ => ⟨by decide, chn_0⟩, fun h => absurd h (by omega), fun h => absurd h (by omega)⟩ | (refine ⟨fun h => absurd (by decide) h, ?_, ?_⟩ <;> rw [f4_c0] <;> first | exact fun _ h => absurd h (by omega) | exact fun _ h => ⟨by omega, chn_s v11_93 (by omega)⟩ | (rw [f4_c0, f4_c0]; exact fun _ _ => ⟨_, rdl_end v9_93 (by omega) (by omega), v11_93, v10_93, by omega⟩)) | (refine ⟨fun h => absurd (by decide) h, ?_, ?_⟩ <;> rw [f4_c1] <;> first | exact fun _ h => absurd h (by omega) | exact fun _ h => ⟨by omega, chn_s v11_93 (by omega)⟩ | (rw [f4_c1, f4_c1]; exact fun _ _ => ⟨_, rdl_end v9_93 (by omega) (by omega), v11_93, v10_93, by omega⟩)) | (refine ⟨fun h => absurd (by decide) h, ?_, ?_⟩ <;> rw [f4_c2] <;> first | exact fun _ h => absurd h (by omega) | exact fun _ h => ⟨by omega, chn_s v11_93 (by omega)⟩ | (rw [f4_c2, f4_c2]; exact fun _ _ => ⟨_, rdl_end v9_93 (by omega) (by omega), v11_93, v10_93, by omega⟩)) | (refine ⟨fun h => absurd (by decide) h, ?_, ?_⟩ <;> rw [f4_c3] <;> first | exact fun _ h => absurd h (by omega) | exact fun _ h => ⟨by omega, chn_s v11_93 (by omega)⟩ | (rw [f4_c3, f4_c3]; exact fun _ _ => ⟨_, rdl_end v9_93 (by omega) (by omega), v11_93, v10_93, by omega⟩))), by rw [ht]; exact hP, hD⟩, hS.F ht⟩) hS.2.2 dB_36_3_53.2.2.2.2
            · have t_94 : ¬ mr2.toInt ≤ x4_93.toInt := fun h => c_94 (Int32.le_iff_toInt_le.mpr h)
              have hnl_ := v4_93.2.1
              refine lv_aload_n hx hb dB_36_3_50.2.2.1.2 rfl (lv_at hl 3 rfl) ?_
              refine va_get (ci := 11) (v := .int o11_93) (C := RX11) (T := TX11) (N := 12) hx hb hts (fun _ h => List.mem_cons_of_mem _ (List.mem_append_left _ (List.mem_append_left _ (List.mem_append_right _ h)))) hown hK.1 hP 0 rfl rfl 11 (by decide) (hts (.fieldLink RX11 91 "CutAtlas" "finding" "I") (List.mem_of_getElem? (i := 1) rfl)) (fun _ h9 => h9) rfl dB_36_3_50.2.2.2.1 ?_
              refine lv_if_ne (tgt := 134) hx hb dB_36_3_50.2.2.2.2 (by decide) (fun c_95 => ?_) (fun c_95 => ?_)
              · have t_95 : ¬ o11_93.toInt = (0 : Int32).toInt := fun h => c_95 (Int32.toInt_inj.mp h)
                have hq9_ := (v9_93).2
                refine lv_iload_n hx hb dB_36_3_53.2.2.2.1 rfl (lv_at hl 1 rfl) ?_
                refine W.widen (k := 6) (n := 207) (by omega) (by omega) ?_
                rw [hQ]
                exact W.iret (v := x3_93) hx hb hr (fun t ht hW => ⟨⟨x3_93, (), rfl, (by first | exact ⟨fun _ => by decide, fun h => absurd h (by omega), fun h => absurd h (by omega)⟩ | (refine ⟨fun h => absurd (by decide) h, ?_, ?_⟩ <;> rw [f4_c0] <;> first | exact fun _ h => absurd h (by omega) | exact fun _ h => by omega | (rw [f4_c0, f4_c0]; exact fun _ _ => ⟨_, rdl_end v9_93 (by omega) (by omega)⟩)) | (refine ⟨fun h => absurd (by decide) h, ?_, ?_⟩ <;> rw [f4_c1] <;> first | exact fun _ h => absurd h (by omega) | exact fun _ h => by omega | (rw [f4_c1, f4_c1]; exact fun _ _ => ⟨_, rdl_end v9_93 (by omega) (by omega)⟩)) | (refine ⟨fun h => absurd (by decide) h, ?_, ?_⟩ <;> rw [f4_c2] <;> first | exact fun _ h => absurd h (by omega) | exact fun _ h => by omega | (rw [f4_c2, f4_c2]; exact fun _ _ => ⟨_, rdl_end v9_93 (by omega) (by omega)⟩)) | (refine ⟨fun h => absurd (by decide) h, ?_, ?_⟩ <;> rw [f4_c3] <;> first | exact fun _ h => absurd h (by omega) | exact fun _ h => by omega | (rw [f4_c3, f4_c3]; exact fun _ _ => ⟨_, rdl_end v9_93 (by omega) (by omega)⟩))), o8_93, o9_93, o11_93, o1_93, c_n1_93, c_n2_93, c_n3_93, c_n4_93, c_n5_93, p0_93, p1_93, p2_93, p3_93, (by first | exact hnk | assumption), (by assumption), (by assumption), (by first | exact ⟨fun _ => ⟨by decide, chn_0⟩, fun h => absurd h (by omega), fun h => absurd h (by omega)⟩ | (refine ⟨fun h => absurd (by decide) h, ?_, ?_⟩ <;> rw [f4_c0] <;> first | exact fun _ h => absurd h (by omega) | exact fun _ h => ⟨by omega, chn_s v11_93 (by omega)⟩ | (rw [f4_c0, f4_c0]; exact fun _ _ => ⟨_, rdl_end v9_93 (by omega) (by omega), v11_93, v10_93, by omega⟩)) | (refine ⟨fun h => absurd (by decide) h, ?_, ?_⟩ <;> rw [f4_c1] <;> first | exact fun _ h => absurd h (by omega) | exact fun _ h => ⟨by omega, chn_s v11_93 (by omega)⟩ | (rw [f4_c1, f4_c1]; exact fun _ _ => ⟨_, rdl_end v9_93 (by omega) (by omega), v11_93, v10_93, by omega⟩)) | (refine ⟨fun h => absurd (by decide) h, ?_, ?_⟩ <;> rw [f4_c2] <;> first | exact fun _ h => absurd h (by omega) | exact fun _ h => ⟨by omega, chn_s v11_93 (by omega)⟩ | (rw [f4_c2, f4_c2]; exact fun _ _ => ⟨_, rdl_end v9_93 (by omega) (by omega), v11_93, v10_93, by omega⟩)) | (refine ⟨fun h => absurd (by decide) h, ?_, ?_⟩ <;> rw [f4_c3] <;> first | exact fun _ h => absurd h (by omega) | exact fun _ h => ⟨by omega, chn_s v11_93 (by omega)⟩ | (rw [f4_c3, f4_c3]; exact fun _ _ => ⟨_, rdl_end v9_93 (by omega) (by omega), v11_93, v10_93, by omega⟩))), by rw [ht]; exact hP, hD⟩, hS.F ht⟩) hS.2.2 dB_36_3_53.2.2.2.2
              · have t_95 : o11_93.toInt = (0 : Int32).toInt := congrArg Int32.toInt c_95
                have hlt3_ : x3_93.toInt = x4_93.toInt ∧ x4_93.toInt < mr2.toInt := by have h9 := v9_93.2; omega
                refine lv_aload_n hx hb dB_36_3_51.1.1.1.1 rfl (lv_at hl 3 rfl) ?_
                refine lv_aload_n hx hb dB_36_3_51.1.1.1.2 rfl (lv_at hl 3 rfl) ?_
                refine lv_aload_n hx hb dB_36_3_51.1.1.2.1 rfl (lv_at hl 2 rfl) ?_
                refine lv_iload hx hb dB_36_3_51.1.1.2.2 (lv_at hl 0 rfl) ?_
                have hPx := pp_left hP
                have hDx := dd_left hD
                refine ct_R hPx hDx [ob11_0_ xo xk xn xc xh xt xw xm xp o8_93 o9_93 tr o11_93, ob3_0_ xn vp o1_93 n1 n2 n3 n4 n5, ob4_0_ m2 mk2 mr2 l2 u2, ai_ cy l2 6 fl2, aj_ cy u2 30 fn2] [0, 1, 16, 20, 24] (by decide) rfl (fun hPc hDw => ?_)
                have hFc := va_free (wc := []) hD hS hA [] rfl
                refine va_calli (va_runV (As := [.ref m2, .int x4_93]) (rest := [.ref xo]) ⟨hx, hb, hml, hown, hts⟩ (c_X11_readRefusal2 l D cy H.size xo xk xn xc xh xt xw xm xp o8_93 o9_93 tr o11_93 n1 n2 n3 n4 n5 vp o1_93 m2 l2 u2 mk2 mr2 fl2 fn2 x4_93 (by first | with_reducible assumption | omega | assumption) (by first | with_reducible assumption | omega | assumption) (by first | with_reducible assumption | omega | assumption) (by first | with_reducible assumption | assumption | omega)) (cwV 2 hts gX11_read_X11_readRefusal rfl rfl rfl ⟨rfl, hd_X11_readRefusal⟩ ⟨Nat.le_of_ble_eq_true rfl, Nat.le_of_ble_eq_true rfl⟩) ⟨bl_, va_recvX hK.1 hPx (ci := 11) (q0 := 0) rfl rfl, fun U hU hW => ⟨rfl, by rw [hU], by rw [hU]; exact hPc, kk_mv hW hK, hDw⟩⟩ rfl rfl hl.1 rfl (lv_room (Nat.le_of_ble_eq_true rfl)) dB_36_3_51.1.2.1.1 ⟨(by show _ ≤ 6; omega), (by show _ ≤ 207; omega)⟩) hS (fun q _ h => hFc q h) hFc (fun r_96 u t H locs ht hvm hw hB hz1 hk1 hS => ?_)
                have hP : va_P D vwCl _ H := ro_keep hP hk1
                obtain ⟨f0_r_96, f1_r_96⟩ := hw
                have hrc_ : r_96.toInt = rwC fl2 fn2 vp.toInt x3_93.toInt.toNat (vn.toInt + x3_93.toInt) := by rw [f1_r_96, show x4_93.toNatClampNeg = x3_93.toInt.toNat from (by rw [hlt3_.1]; rfl), v12_93]
                refine va_put (ci := 11) (v := .int r_96) (ty := .int) (C := RX11) (T := TX11) (N := 12) hx hb hts (fun _ h => List.mem_cons_of_mem _ (List.mem_append_left _ (List.mem_append_left _ (List.mem_append_right _ h)))) tyX11 tyX11_ok nmX11 hown hK.1 hP hD hS 0 rfl rfl 11 (by decide) (hts (.fieldLink RX11 91 "CutAtlas" "finding" "I") (List.mem_of_getElem? (i := 1) rfl)) (fun _ h9 => h9) rfl (by decide +kernel) rfl rfl (Nat.le_of_ble_eq_true rfl) dB_36_3_51.1.2.1.2 (fun H locs hP hD hS => ?_)
                refine pd_K (([ob11_0_ xo xk xn xc xh xt xw xm xp o8_93 o9_93 tr r_96, ob3_0_ xn vp o1_93 n1 n2 n3 n4 n5, ai_ cy n1 40 c_n1_93, ai_ cy n2 40 c_n2_93, ai_ cy n3 40 c_n3_93, ai_ cy n4 40 c_n4_93, ai_ cy n5 40 c_n5_93, aq_ cy 3 xk 5 (kf_ k0 k1 k2 k3 k4), ob6_0_ k0, ob5_0_ k1, ob9_0_ k2, ob2_0_ k3, ob8_0_ k4, aq_ cy 4 xm 4 (mf_ m0 m1 m2 m3), ob4_0_ m0 mk0 mr0 l0 u0, ob4_0_ m1 mk1 mr1 l1 u1, ob4_0_ m2 mk2 mr2 l2 u2, ob4_0_ m3 mk3 mr3 l3 u3, ai_ cy l0 6 fl0, ai_ cy l1 6 fl1, ai_ cy l2 6 fl2, ai_ cy l3 6 fl3, aj_ cy u0 30 fn0, aj_ cy u1 30 fn1, aj_ cy u2 30 fn2, aj_ cy u3 30 fn3, aq_ cy 5 xp 30 (pst p0_93 p3_93)] : va_W) ++ (pool cy p0_93 p1_93 p2_93 p3_93)) hP hD (fun hP hD => ?_)
                refine lv_aload_n hx hb dB_36_3_51.1.2.2.1 rfl (lv_at hl 3 rfl) ?_
                refine va_get (ci := 11) (v := .int r_96) (C := RX11) (T := TX11) (N := 12) hx hb hts (fun _ h => List.mem_cons_of_mem _ (List.mem_append_left _ (List.mem_append_left _ (List.mem_append_right _ h)))) hown hK.1 hP 0 rfl rfl 11 (by decide) (hts (.fieldLink RX11 91 "CutAtlas" "finding" "I") (List.mem_of_getElem? (i := 1) rfl)) (fun _ h9 => h9) rfl dB_36_3_51.1.2.2.2 ?_
                refine lv_if_ne (tgt := 128) hx hb dB_36_3_51.2.1.1.1 (by decide) (fun c_97 => ?_) (fun c_97 => ?_)
                · have t_97 : ¬ r_96.toInt = (0 : Int32).toInt := fun h => c_97 (Int32.toInt_inj.mp h)
                  obtain ⟨y_98, ey_98⟩ : ∃ y : Int32, y = x4_93 + 1 := ⟨_, rfl⟩
                  have ty_98 : y_98.toInt = x4_93.toInt + (1 : Int32).toInt := by rw [ey_98]; exact addI (by omega) (by omega)
                  refine lv_iinc (v := y_98) (lv' := [(4, .int y_98), (3, .int x3_93), (2, .ref m2), (0, .ref xo), (1, .int 2)]) hx hb dB_36_3_53.2.1.2 hl (k := 0) rfl (by rw [ey_98]; rfl) (by decide) rfl (fun ls hl => ?_)
                  refine lv_goto (tgt := 43) hx hb dB_36_3_53.2.2.1 (by decide) ?_
                  exact ih_93 y_98 x3_93 p0_93 p1_93 p2_93 p3_93 o8_93 o9_93 r_96 o1_93 c_n1_93 c_n2_93 c_n3_93 c_n4_93 c_n5_93 _ _ _ _ _ (by omega) (by first | with_reducible assumption | omega | assumption) (by first | with_reducible assumption | omega | assumption) (by first | with_reducible assumption | omega | assumption) (by first | with_reducible assumption | omega | assumption) (by first | exact hnn_ | assumption) (by first | with_reducible assumption | assumption | omega) (by first | with_reducible assumption | assumption | omega) (by first | with_reducible assumption | assumption | omega) (by first | with_reducible assumption | assumption | omega) (by first | exact hr0_ | exact rdl_ok v9_93 (by omega) (by omega) (hrc_.symm.trans (by omega)) (by omega) (by omega) (by omega) | exact rdl_no v9_93 (by omega) (by omega) hrc_.symm (by omega) (by omega)) (by first | exact apC_0 | exact hap_ _ (by omega) | assumption) (by first | exact chn_0 | exact chn_p (by omega) hrm_ | assumption) (by first | with_reducible assumption | omega | assumption) (by first | with_reducible assumption | assumption | exact rng_zero (by omega) (by omega) | exact orng_zero) (by first | with_reducible assumption | assumption | exact rng_zero (by omega) (by omega) | exact orng_zero) (by first | with_reducible assumption | assumption | exact rng_zero (by omega) (by omega) | exact orng_zero) ⟨hP, hD⟩ hS (lv_sub hl [0, 1, 2, 3, 4] rfl)
                · have t_97 : r_96.toInt = (0 : Int32).toInt := congrArg Int32.toInt c_97
                  have JOIN_99 : ∀ (p0_99 : Nat → Nat → Nat) (p1_99 : Nat → Nat → Int32) (p2_99 : Nat → Nat → Nat → Int32) (p3_99 : Nat) (o8_99 : Int32) (o9_99 : Int32) (H : Heap) (locs : List Loc) (ls : Array Slot), (pok p1_99 p2_99 p3_99) → (rok o8_99 o9_99 p3_99) → (remd pf ph pv pg vp vn fk fs fe fw fp o8_99 o9_99 p1_99 p2_99) → pd_2 D vwCl A (([ob11_0_ xo xk xn xc xh xt xw xm xp o8_99 o9_99 tr r_96, ob3_0_ xn vp o1_93 n1 n2 n3 n4 n5, ai_ cy n1 40 c_n1_93, ai_ cy n2 40 c_n2_93, ai_ cy n3 40 c_n3_93, ai_ cy n4 40 c_n4_93, ai_ cy n5 40 c_n5_93, aq_ cy 3 xk 5 (kf_ k0 k1 k2 k3 k4), ob6_0_ k0, ob5_0_ k1, ob9_0_ k2, ob2_0_ k3, ob8_0_ k4, aq_ cy 4 xm 4 (mf_ m0 m1 m2 m3), ob4_0_ m0 mk0 mr0 l0 u0, ob4_0_ m1 mk1 mr1 l1 u1, ob4_0_ m2 mk2 mr2 l2 u2, ob4_0_ m3 mk3 mr3 l3 u3, ai_ cy l0 6 fl0, ai_ cy l1 6 fl1, ai_ cy l2 6 fl2, ai_ cy l3 6 fl3, aj_ cy u0 30 fn0, aj_ cy u1 30 fn1, aj_ cy u2 30 fn2, aj_ cy u3 30 fn3, aq_ cy 5 xp 30 (pst p0_99 p3_99)] : va_W) ++ (pool cy p0_99 p1_99 p2_99 p3_99)) H → va_S A s.heap H locs → lv_has ls 5 [(4, .int x4_93), (3, .int x3_93), (2, .ref m2), (0, .ref xo), (1, .int 2)] → W p l e ({ frames := 4, cells := 6, slots := 207, locals := 98 } : Room) s m (([.ref xo, .int (2 : Int32)] : List Value).toArray) below meth c H locs 6 207 Q (F0 m 85 ls []) := by
                    intro p0_99 p1_99 p2_99 p3_99 o8_99 o9_99 H locs ls v0_99 v1_99 v2_99 hPD hS hl; obtain ⟨hP, hD⟩ := hPD
                    have hrm_ := v2_99
                    refine lv_aload_n hx hb dB_36_3_51.2.2.1.2 rfl (lv_at hl 3 rfl) ?_
                    refine lv_aload_n hx hb dB_36_3_51.2.2.2.1 rfl (lv_at hl 2 rfl) ?_
                    refine lv_iload hx hb dB_36_3_51.2.2.2.2 (lv_at hl 0 rfl) ?_
                    refine lv_iconst (v := 0) hx hb dB_36_3_52.1.1.1.1 (by decide) ?_
                    have hPx := pp_left hP
                    have hDx := dd_left hD
                    refine ct_R hPx hDx [ob4_0_ m2 mk2 mr2 l2 u2, aj_ cy u2 30 fn2] [16, 24] (by decide) rfl (fun hPc hDw => ?_)
                    have hFc := va_free (wc := []) hD hS hA [] rfl
                    refine va_calli (va_runV (As := [.int x4_93, .int 0]) (rest := [.ref xo]) ⟨hx, hb, hml, hown, hts⟩ (c_X4_whole l D cy H.size m2 l2 u2 mk2 mr2 fn2 x4_93 (0 : Int32) (by first | with_reducible assumption | omega | assumption) (by first | with_reducible assumption | omega | assumption)) (cwV 2 hts gX11_read_X4_whole rfl rfl rfl ⟨rfl, hd_X4_whole⟩ ⟨Nat.le_of_ble_eq_true rfl, Nat.le_of_ble_eq_true rfl⟩) ⟨bl_, va_recvX hK.1 hPx (ci := 4) (q0 := 16) rfl rfl, fun U hU hW => ⟨rfl, by rw [hU], by rw [hU]; exact hPc, kk_mv hW hK, hDw⟩⟩ rfl rfl hl.1 rfl (lv_room (Nat.le_of_ble_eq_true rfl)) dB_36_3_52.1.1.1.2 ⟨Nat.le_of_ble_eq_true rfl, Nat.le_of_ble_eq_true rfl⟩) hS (fun q _ h => hFc q h) hFc (fun r_100 u t H locs ht hvm hw hB hz1 hk1 hS => ?_)
                    have hP : va_P D vwCl _ H := ro_keep hP hk1
                    have f0_r_100 := hw
                    have v0_ : r_100 = (fn2 (5 * x4_93.toNatClampNeg + 0)).toInt32 := num32 f0_r_100 (by omega) (by omega)
                    have w0_ : r_100.toInt = (fn2 (5 * x4_93.toNatClampNeg + 0)).toInt := by rw [v0_]; exact l2iI (by omega) (by omega)
                    refine lv_aload_n hx hb dB_36_3_52.1.1.2.1 rfl (lv_at hl 2 rfl) ?_
                    refine lv_iload hx hb dB_36_3_52.1.1.2.2 (lv_at hl 0 rfl) ?_
                    refine lv_iconst (v := 1) hx hb dB_36_3_52.1.2.1.1 (by decide) ?_
                    have hPx := pp_left hP
                    have hDx := dd_left hD
                    refine ct_R hPx hDx [ob4_0_ m2 mk2 mr2 l2 u2, aj_ cy u2 30 fn2] [16, 24] (by decide) rfl (fun hPc hDw => ?_)
                    have hFc := va_free (wc := []) hD hS hA [] rfl
                    refine va_calli (va_runV (As := [.int x4_93, .int 1]) (rest := [.int r_100, .ref xo]) ⟨hx, hb, hml, hown, hts⟩ (c_X4_whole l D cy H.size m2 l2 u2 mk2 mr2 fn2 x4_93 (1 : Int32) (by first | with_reducible assumption | omega | assumption) (by first | with_reducible assumption | omega | assumption)) (cwV 2 hts gX11_read_X4_whole rfl rfl rfl ⟨rfl, hd_X4_whole⟩ ⟨Nat.le_of_ble_eq_true rfl, Nat.le_of_ble_eq_true rfl⟩) ⟨bl_, va_recvX hK.1 hPx (ci := 4) (q0 := 16) rfl rfl, fun U hU hW => ⟨rfl, by rw [hU], by rw [hU]; exact hPc, kk_mv hW hK, hDw⟩⟩ rfl rfl hl.1 rfl (lv_room (Nat.le_of_ble_eq_true rfl)) dB_36_3_52.1.2.1.2 ⟨Nat.le_of_ble_eq_true rfl, Nat.le_of_ble_eq_true rfl⟩) hS (fun q _ h => hFc q h) hFc (fun r_101 u t H locs ht hvm hw hB hz1 hk1 hS => ?_)
                    have hP : va_P D vwCl _ H := ro_keep hP hk1
                    have f0_r_101 := hw
                    have v1_ : r_101 = (fn2 (5 * x4_93.toNatClampNeg + 1)).toInt32 := num32 f0_r_101 (by omega) (by omega)
                    have w1_ : r_101.toInt = (fn2 (5 * x4_93.toNatClampNeg + 1)).toInt := by rw [v1_]; exact l2iI (by omega) (by omega)
                    refine lv_aload_n hx hb dB_36_3_52.1.2.2.1 rfl (lv_at hl 2 rfl) ?_
                    refine lv_iload hx hb dB_36_3_52.1.2.2.2 (lv_at hl 0 rfl) ?_
                    refine lv_iconst (v := 2) hx hb dB_36_3_52.2.1.1.1 (by decide) ?_
                    have hPx := pp_left hP
                    have hDx := dd_left hD
                    refine ct_R hPx hDx [ob4_0_ m2 mk2 mr2 l2 u2, aj_ cy u2 30 fn2] [16, 24] (by decide) rfl (fun hPc hDw => ?_)
                    have hFc := va_free (wc := []) hD hS hA [] rfl
                    refine va_calli (va_runV (As := [.int x4_93, .int 2]) (rest := [.int r_101, .int r_100, .ref xo]) ⟨hx, hb, hml, hown, hts⟩ (c_X4_whole l D cy H.size m2 l2 u2 mk2 mr2 fn2 x4_93 (2 : Int32) (by first | with_reducible assumption | omega | assumption) (by first | with_reducible assumption | omega | assumption)) (cwV 2 hts gX11_read_X4_whole rfl rfl rfl ⟨rfl, hd_X4_whole⟩ ⟨Nat.le_of_ble_eq_true rfl, Nat.le_of_ble_eq_true rfl⟩) ⟨bl_, va_recvX hK.1 hPx (ci := 4) (q0 := 16) rfl rfl, fun U hU hW => ⟨rfl, by rw [hU], by rw [hU]; exact hPc, kk_mv hW hK, hDw⟩⟩ rfl rfl hl.1 rfl (lv_room (Nat.le_of_ble_eq_true rfl)) dB_36_3_52.2.1.1.2 ⟨Nat.le_of_ble_eq_true rfl, Nat.le_of_ble_eq_true rfl⟩) hS (fun q _ h => hFc q h) hFc (fun r_102 u t H locs ht hvm hw hB hz1 hk1 hS => ?_)
                    have hP : va_P D vwCl _ H := ro_keep hP hk1
                    have f0_r_102 := hw
                    have v2_ : r_102 = (fn2 (5 * x4_93.toNatClampNeg + 2)).toInt32 := num32 f0_r_102 (by omega) (by omega)
                    have w2_ : r_102.toInt = (fn2 (5 * x4_93.toNatClampNeg + 2)).toInt := by rw [v2_]; exact l2iI (by omega) (by omega)
                    refine lv_aload_n hx hb dB_36_3_52.2.1.2.1 rfl (lv_at hl 2 rfl) ?_
                    refine lv_iload hx hb dB_36_3_52.2.1.2.2 (lv_at hl 0 rfl) ?_
                    refine lv_iconst (v := 3) hx hb dB_36_3_52.2.2.1.1 (by decide) ?_
                    have hPx := pp_left hP
                    have hDx := dd_left hD
                    refine ct_R hPx hDx [ob4_0_ m2 mk2 mr2 l2 u2, aj_ cy u2 30 fn2] [16, 24] (by decide) rfl (fun hPc hDw => ?_)
                    have hFc := va_free (wc := []) hD hS hA [] rfl
                    refine va_calli (va_runV (As := [.int x4_93, .int 3]) (rest := [.int r_102, .int r_101, .int r_100, .ref xo]) ⟨hx, hb, hml, hown, hts⟩ (c_X4_whole l D cy H.size m2 l2 u2 mk2 mr2 fn2 x4_93 (3 : Int32) (by first | with_reducible assumption | omega | assumption) (by first | with_reducible assumption | omega | assumption)) (cwV 2 hts gX11_read_X4_whole rfl rfl rfl ⟨rfl, hd_X4_whole⟩ ⟨Nat.le_of_ble_eq_true rfl, Nat.le_of_ble_eq_true rfl⟩) ⟨bl_, va_recvX hK.1 hPx (ci := 4) (q0 := 16) rfl rfl, fun U hU hW => ⟨rfl, by rw [hU], by rw [hU]; exact hPc, kk_mv hW hK, hDw⟩⟩ rfl rfl hl.1 rfl (lv_room (Nat.le_of_ble_eq_true rfl)) dB_36_3_52.2.2.1.2 ⟨Nat.le_of_ble_eq_true rfl, Nat.le_of_ble_eq_true rfl⟩) hS (fun q _ h => hFc q h) hFc (fun r_103 u t H locs ht hvm hw hB hz1 hk1 hS => ?_)
                    have hP : va_P D vwCl _ H := ro_keep hP hk1
                    have f0_r_103 := hw
                    have v3_ : r_103 = (fn2 (5 * x4_93.toNatClampNeg + 3)).toInt32 := num32 f0_r_103 (by omega) (by omega)
                    have w3_ : r_103.toInt = (fn2 (5 * x4_93.toNatClampNeg + 3)).toInt := by rw [v3_]; exact l2iI (by omega) (by omega)
                    refine lv_aload_n hx hb dB_36_3_52.2.2.2.1 rfl (lv_at hl 2 rfl) ?_
                    refine lv_iload hx hb dB_36_3_52.2.2.2.2 (lv_at hl 0 rfl) ?_
                    refine lv_iconst (v := 4) hx hb dB_36_3_53.1.1.1 (by decide) ?_
                    have hPx := pp_left hP
                    have hDx := dd_left hD
                    refine ct_R hPx hDx [ob4_0_ m2 mk2 mr2 l2 u2, aj_ cy u2 30 fn2] [16, 24] (by decide) rfl (fun hPc hDw => ?_)
                    have hFc := va_free (wc := []) hD hS hA [] rfl
                    refine va_calli (va_runV (As := [.int x4_93, .int 4]) (rest := [.int r_103, .int r_102, .int r_101, .int r_100, .ref xo]) ⟨hx, hb, hml, hown, hts⟩ (c_X4_whole l D cy H.size m2 l2 u2 mk2 mr2 fn2 x4_93 (4 : Int32) (by first | with_reducible assumption | omega | assumption) (by first | with_reducible assumption | omega | assumption)) (cwV 2 hts gX11_read_X4_whole rfl rfl rfl ⟨rfl, hd_X4_whole⟩ ⟨Nat.le_of_ble_eq_true rfl, Nat.le_of_ble_eq_true rfl⟩) ⟨bl_, va_recvX hK.1 hPx (ci := 4) (q0 := 16) rfl rfl, fun U hU hW => ⟨rfl, by rw [hU], by rw [hU]; exact hPc, kk_mv hW hK, hDw⟩⟩ rfl rfl hl.1 rfl (lv_room (Nat.le_of_ble_eq_true rfl)) dB_36_3_53.1.1.2 ⟨Nat.le_of_ble_eq_true rfl, Nat.le_of_ble_eq_true rfl⟩) hS (fun q _ h => hFc q h) hFc (fun r_104 u t H locs ht hvm hw hB hz1 hk1 hS => ?_)
                    have hP : va_P D vwCl _ H := ro_keep hP hk1
                    have f0_r_104 := hw
                    have v4_ : r_104 = (fn2 (5 * x4_93.toNatClampNeg + 4)).toInt32 := num32 f0_r_104 (by omega) (by omega)
                    have w4_ : r_104.toInt = (fn2 (5 * x4_93.toNatClampNeg + 4)).toInt := by rw [v4_]; exact l2iI (by omega) (by omega)
                    have hPx := pp_left hP
                    have hDx := dd_left hD
                    refine ct_S hPx hDx hS hA [ob11_0_ xo xk xn xc xh xt xw xm xp o8_99 o9_99 tr r_96, ob3_0_ xn vp o1_93 n1 n2 n3 n4 n5, ai_ cy n1 40 c_n1_93, ai_ cy n2 40 c_n2_93, ai_ cy n3 40 c_n3_93, ai_ cy n4 40 c_n4_93, ai_ cy n5 40 c_n5_93, aq_ cy 3 xk 5 (kf_ k0 k1 k2 k3 k4), ob6_0_ k0, ob5_0_ k1, ob9_0_ k2, ob2_0_ k3, ob8_0_ k4] [0, 1, 2, 3, 4, 5, 6, 7, 8, 9, 10, 11, 12] (by decide +kernel) rfl (fun hPc hDw hFc hC_ => ?_)
                    refine va_calli (va_runV (As := [.int r_100, .int r_101, .int r_102, .int r_103, .int r_104]) (rest := []) ⟨hx, hb, hml, hown, hts⟩ (c_X11_addLine2 l D cy H.size xo xk xn xc xh xt xw xm xp o8_99 o9_99 tr r_96 n1 n2 n3 n4 n5 vp o1_93 c_n1_93 c_n2_93 c_n3_93 c_n4_93 c_n5_93 k0 k1 k2 k3 k4 r_100 r_101 r_102 r_103 r_104 (by first | with_reducible assumption | omega | assumption) (by first | with_reducible assumption | omega | assumption) (by first | with_reducible assumption | omega | assumption) (by first | with_reducible assumption | omega | assumption) (by first | with_reducible assumption | omega | assumption) (by first | with_reducible assumption | omega | assumption) (by first | with_reducible assumption | assumption | omega) (by first | with_reducible assumption | assumption | omega) (by first | with_reducible assumption | assumption | omega) (by first | with_reducible assumption | assumption | omega)) (cwV 5 hts gX11_read_X11_addLine rfl rfl rfl ⟨rfl, hd_X11_addLine⟩ ⟨Nat.le_of_ble_eq_true rfl, Nat.le_of_ble_eq_true rfl⟩) ⟨bl_, va_recvX hK.1 hPx (ci := 11) (q0 := 0) rfl rfl, fun U hU hW => ⟨rfl, by rw [hU], by rw [hU]; exact hPc, kk_mv hW hK, hDw⟩⟩ rfl rfl hl.1 rfl (lv_room (Nat.le_of_ble_eq_true rfl)) dB_36_3_53.1.2.1 ⟨Nat.le_of_ble_eq_true rfl, Nat.le_of_ble_eq_true rfl⟩) hS (fun q _ h => hFc q h) hFc (fun r_105 u t H locs ht hvm hw hB hz1 hk1 hS => ?_)
                    obtain ⟨evn_106, efk_107, efs_108, efe_109, efw_110, efp_111, g_112, g_113, g_114, g_115, g_116, g_117, hP1, hD1⟩ := hB
                    rw [ht] at hP1
                    obtain ⟨hP, hD⟩ := va_joinQ (wr := [aq_ cy 4 xm 4 (mf_ m0 m1 m2 m3), ob4_0_ m0 mk0 mr0 l0 u0, ob4_0_ m1 mk1 mr1 l1 u1, ob4_0_ m2 mk2 mr2 l2 u2, ob4_0_ m3 mk3 mr3 l3 u3, ai_ cy l0 6 fl0, ai_ cy l1 6 fl1, ai_ cy l2 6 fl2, ai_ cy l3 6 fl3, aj_ cy u0 30 fn0, aj_ cy u1 30 fn1, aj_ cy u2 30 fn2, aj_ cy u3 30 fn3, aq_ cy 5 xp 30 (pst p0_99 p3_99)]) (w1 := [ob11_0_ xo xk xn xc xh xt xw xm xp o8_99 o9_99 tr r_96, ob3_0_ xn vp evn_106 n1 n2 n3 n4 n5, ai_ cy n1 40 efk_107, ai_ cy n2 40 efs_108, ai_ cy n3 40 efe_109, ai_ cy n4 40 efw_110, ai_ cy n5 40 efp_111, aq_ cy 3 xk 5 (kf_ k0 k1 k2 k3 k4), ob6_0_ k0, ob5_0_ k1, ob9_0_ k2, ob2_0_ k3, ob8_0_ k4]) hP hD [0, 1, 2, 3, 4, 5, 6, 7, 8, 9, 10, 11, 12] [13, 14, 15, 16, 17, 18, 19, 20, 21, 22, 23, 24, 25, 26] hC_ rfl (by decide +kernel) (by decide +kernel) hk1 hFc hP1 hD1
                    refine pd_K (([aq_ cy 4 xm 4 (mf_ m0 m1 m2 m3), ob4_0_ m0 mk0 mr0 l0 u0, ob4_0_ m1 mk1 mr1 l1 u1, ob4_0_ m2 mk2 mr2 l2 u2, ob4_0_ m3 mk3 mr3 l3 u3, ai_ cy l0 6 fl0, ai_ cy l1 6 fl1, ai_ cy l2 6 fl2, ai_ cy l3 6 fl3, aj_ cy u0 30 fn0, aj_ cy u1 30 fn1, aj_ cy u2 30 fn2, aj_ cy u3 30 fn3, aq_ cy 5 xp 30 (pst p0_99 p3_99), ob11_0_ xo xk xn xc xh xt xw xm xp o8_99 o9_99 tr r_96, ob3_0_ xn vp evn_106 n1 n2 n3 n4 n5, ai_ cy n1 40 efk_107, ai_ cy n2 40 efs_108, ai_ cy n3 40 efe_109, ai_ cy n4 40 efw_110, ai_ cy n5 40 efp_111, aq_ cy 3 xk 5 (kf_ k0 k1 k2 k3 k4), ob6_0_ k0, ob5_0_ k1, ob9_0_ k2, ob2_0_ k3, ob8_0_ k4] : va_W) ++ (pool cy p0_99 p1_99 p2_99 p3_99)) hP hD (fun hP hD => ?_)
                    refine pd_P hP hD [ob11_0_ xo xk xn xc xh xt xw xm xp o8_99 o9_99 tr r_96, ob3_0_ xn vp evn_106 n1 n2 n3 n4 n5, ai_ cy n1 40 efk_107, ai_ cy n2 40 efs_108, ai_ cy n3 40 efe_109, ai_ cy n4 40 efw_110, ai_ cy n5 40 efp_111, aq_ cy 3 xk 5 (kf_ k0 k1 k2 k3 k4), ob6_0_ k0, ob5_0_ k1, ob9_0_ k2, ob2_0_ k3, ob8_0_ k4, aq_ cy 4 xm 4 (mf_ m0 m1 m2 m3), ob4_0_ m0 mk0 mr0 l0 u0, ob4_0_ m1 mk1 mr1 l1 u1, ob4_0_ m2 mk2 mr2 l2 u2, ob4_0_ m3 mk3 mr3 l3 u3, ai_ cy l0 6 fl0, ai_ cy l1 6 fl1, ai_ cy l2 6 fl2, ai_ cy l3 6 fl3, aj_ cy u0 30 fn0, aj_ cy u1 30 fn1, aj_ cy u2 30 fn2, aj_ cy u3 30 fn3, aq_ cy 5 xp 30 (pst p0_99 p3_99)] [14, 15, 16, 17, 18, 19, 20, 21, 22, 23, 24, 25, 26, 0, 1, 2, 3, 4, 5, 6, 7, 8, 9, 10, 11, 12, 13] (by decide +kernel) rfl (fun hP hD => ?_)
                    have f0_r_105 := hw
                    refine lv_pop hx hb dB_36_3_53.1.2.2 rfl ?_
                    have hnn_ : nok vp evn_106 efk_107 efs_108 efe_109 efw_110 efp_111 := ⟨hnk.1, by omega, g_115, g_113, g_116, g_117⟩
                    have hap_ : ∀ c2 : Int, c2 = x3_93.toInt + 1 → apC vn.toInt c2 fk fs fe fw fp efk_107 efs_108 efe_109 efw_110 efp_111 fn2 := fun c2 e2 => apC_st v10_93 v12_93 (by omega) (i := x4_93.toNatClampNeg) (by rw [clI (by omega)]; exact hlt3_.1) g_114 v0_ v1_ v2_ v3_ v4_ e2
                    obtain ⟨y_118, ey_118⟩ : ∃ y : Int32, y = x3_93 + 1 := ⟨_, rfl⟩
                    have ty_118 : y_118.toInt = x3_93.toInt + (1 : Int32).toInt := by rw [ey_118]; exact addI (by omega) (by omega)
                    refine lv_iinc (v := y_118) (lv' := [(3, .int y_118), (4, .int x4_93), (2, .ref m2), (0, .ref xo), (1, .int 2)]) hx hb dB_36_3_53.2.1.1 hl (k := 1) rfl (by rw [ey_118]; rfl) (by decide) rfl (fun ls hl => ?_)
                    obtain ⟨y_119, ey_119⟩ : ∃ y : Int32, y = x4_93 + 1 := ⟨_, rfl⟩
                    have ty_119 : y_119.toInt = x4_93.toInt + (1 : Int32).toInt := by rw [ey_119]; exact addI (by omega) (by omega)
                    refine lv_iinc (v := y_119) (lv' := [(4, .int y_119), (3, .int y_118), (2, .ref m2), (0, .ref xo), (1, .int 2)]) hx hb dB_36_3_53.2.1.2 hl (k := 1) rfl (by rw [ey_119]; rfl) (by decide) rfl (fun ls hl => ?_)
                    refine lv_goto (tgt := 43) hx hb dB_36_3_53.2.2.1 (by decide) ?_
                    exact ih_93 y_119 y_118 p0_99 p1_99 p2_99 p3_99 o8_99 o9_99 r_96 evn_106 efk_107 efs_108 efe_109 efw_110 efp_111 _ _ _ _ _ (by omega) (by first | with_reducible assumption | omega | assumption) (by first | with_reducible assumption | omega | assumption) (by first | with_reducible assumption | omega | assumption) (by first | with_reducible assumption | omega | assumption) (by first | exact hnn_ | assumption) (by first | with_reducible assumption | assumption | omega) (by first | with_reducible assumption | assumption | omega) (by first | with_reducible assumption | assumption | omega) (by first | with_reducible assumption | assumption | omega) (by first | exact hr0_ | exact rdl_ok v9_93 (by omega) (by omega) (hrc_.symm.trans (by omega)) (by omega) (by omega) (by omega) | exact rdl_no v9_93 (by omega) (by omega) hrc_.symm (by omega) (by omega)) (by first | exact apC_0 | exact hap_ _ (by omega) | assumption) (by first | exact chn_0 | exact chn_p (by omega) hrm_ | assumption) (by first | with_reducible assumption | omega | assumption) (by first | with_reducible assumption | assumption | exact rng_zero (by omega) (by omega) | exact orng_zero) (by first | with_reducible assumption | assumption | exact rng_zero (by omega) (by omega) | exact orng_zero) (by first | with_reducible assumption | assumption | exact rng_zero (by omega) (by omega) | exact orng_zero) ⟨hP, hD⟩ hS (lv_sub hl [0, 1, 2, 3, 4] rfl)
                  refine lv_iload_n hx hb dB_36_3_51.2.1.1.2 rfl (lv_at hl 1 rfl) ?_
                  refine lv_if_ne (tgt := 85) hx hb dB_36_3_51.2.1.2.1 (by decide) (fun c_120 => ?_) (fun c_120 => ?_)
                  · have t_120 : ¬ x3_93.toInt = (0 : Int32).toInt := fun h => c_120 (Int32.toInt_inj.mp h)
                    refine W.widen (k := 6) (n := 207) (by omega) (by omega) ?_
                    exact JOIN_99 p0_93 p1_93 p2_93 p3_93 o8_93 o9_93 _ _ _ (by first | with_reducible assumption | assumption | omega) (by first | with_reducible assumption | assumption | omega) (by first | exact (v11_93).2 (by omega) | exact chn_z v11_93 (by omega) of_none) ⟨hP, hD⟩ hS (lv_sub hl [0, 1, 2, 3, 4] rfl)
                  · have t_120 : x3_93.toInt = (0 : Int32).toInt := congrArg Int32.toInt c_120
                    refine lv_aload_n hx hb dB_36_3_51.2.1.2.2 rfl (lv_at hl 3 rfl) ?_
                    refine ct_P hP hD hS hA [ob11_0_ xo xk xn xc xh xt xw xm xp o8_93 o9_93 tr r_96, ob3_0_ xn vp o1_93 n1 n2 n3 n4 n5, ai_ cy n1 40 c_n1_93, ai_ cy n2 40 c_n2_93, ai_ cy n3 40 c_n3_93, ai_ cy n4 40 c_n4_93, ai_ cy n5 40 c_n5_93, aq_ cy 5 xp 30 (pst p0_93 p3_93)] [0, 1, 2, 3, 4, 5, 6, 26] (by decide) rfl (fun hPc hDw hFc hC_ => ?_)
                    have hPx := pp_left hP
                    refine va_callv (va_runV (As := []) (rest := []) ⟨hx, hb, hml, hown, hts⟩ (c_X11_remember2 l D cy H.size xo xk xn xc xh xt xw xm xp o8_93 o9_93 tr r_96 n1 n2 n3 n4 n5 vp o1_93 c_n1_93 c_n2_93 c_n3_93 c_n4_93 c_n5_93 p0_93 p1_93 p2_93 p3_93 (by first | with_reducible assumption | assumption | omega) (by first | with_reducible assumption | assumption | omega) (by first | with_reducible assumption | assumption | omega) (by first | with_reducible assumption | assumption | omega) (by first | with_reducible assumption | assumption | omega) (by first | with_reducible assumption | assumption | omega) (by first | with_reducible assumption | assumption | omega)) (cwV 0 hts gX11_read_X11_remember rfl rfl rfl ⟨rfl, hd_X11_remember⟩ ⟨Nat.le_of_ble_eq_true rfl, Nat.le_of_ble_eq_true rfl⟩) ⟨bl_, va_recvX hK.1 hPx (ci := 11) (q0 := 0) rfl rfl, fun U hU hW => ⟨rfl, by rw [hU], by rw [hU]; exact hPc, kk_mv hW hK, hDw⟩⟩ rfl rfl hl.1 rfl (lv_room (Nat.le_of_ble_eq_true rfl)) dB_36_3_51.2.2.1.1 ⟨(by show _ ≤ 6; omega), (by show _ ≤ 207; omega)⟩) hS (fun q _ h => hFc q h) hFc (fun u t H locs ht hvm hw hB hz1 hk1 hS => ?_)
                    obtain ⟨epf_122, eph_123, epa_124, epv_125, epg_126, epm_127, g_128, g_129, g_130, g_131, hP1, hD1⟩ := hB
                    rw [ht] at hP1
                    obtain ⟨hP, hD⟩ := va_joinP (wr := [aq_ cy 3 xk 5 (kf_ k0 k1 k2 k3 k4), ob6_0_ k0, ob5_0_ k1, ob9_0_ k2, ob2_0_ k3, ob8_0_ k4, aq_ cy 4 xm 4 (mf_ m0 m1 m2 m3), ob4_0_ m0 mk0 mr0 l0 u0, ob4_0_ m1 mk1 mr1 l1 u1, ob4_0_ m2 mk2 mr2 l2 u2, ob4_0_ m3 mk3 mr3 l3 u3, ai_ cy l0 6 fl0, ai_ cy l1 6 fl1, ai_ cy l2 6 fl2, ai_ cy l3 6 fl3, aj_ cy u0 30 fn0, aj_ cy u1 30 fn1, aj_ cy u2 30 fn2, aj_ cy u3 30 fn3]) (rx := [ob11_0_ xo xk xn xc xh xt xw xm xp epf_122 eph_123 tr r_96, ob3_0_ xn vp o1_93 n1 n2 n3 n4 n5, ai_ cy n1 40 c_n1_93, ai_ cy n2 40 c_n2_93, ai_ cy n3 40 c_n3_93, ai_ cy n4 40 c_n4_93, ai_ cy n5 40 c_n5_93, aq_ cy 5 xp 30 (pst epa_124 epm_127)]) (pl1 := (pool cy epa_124 epv_125 epg_126 epm_127)) hP hD [0, 1, 2, 3, 4, 5, 6, 26] [7, 8, 9, 10, 11, 12, 13, 14, 15, 16, 17, 18, 19, 20, 21, 22, 23, 24, 25] hC_ rfl (by decide +kernel) (by decide +kernel) hk1 hFc hP1 hD1
                    refine pd_K (([aq_ cy 3 xk 5 (kf_ k0 k1 k2 k3 k4), ob6_0_ k0, ob5_0_ k1, ob9_0_ k2, ob2_0_ k3, ob8_0_ k4, aq_ cy 4 xm 4 (mf_ m0 m1 m2 m3), ob4_0_ m0 mk0 mr0 l0 u0, ob4_0_ m1 mk1 mr1 l1 u1, ob4_0_ m2 mk2 mr2 l2 u2, ob4_0_ m3 mk3 mr3 l3 u3, ai_ cy l0 6 fl0, ai_ cy l1 6 fl1, ai_ cy l2 6 fl2, ai_ cy l3 6 fl3, aj_ cy u0 30 fn0, aj_ cy u1 30 fn1, aj_ cy u2 30 fn2, aj_ cy u3 30 fn3, ob11_0_ xo xk xn xc xh xt xw xm xp epf_122 eph_123 tr r_96, ob3_0_ xn vp o1_93 n1 n2 n3 n4 n5, ai_ cy n1 40 c_n1_93, ai_ cy n2 40 c_n2_93, ai_ cy n3 40 c_n3_93, ai_ cy n4 40 c_n4_93, ai_ cy n5 40 c_n5_93, aq_ cy 5 xp 30 (pst epa_124 epm_127)] : va_W) ++ (pool cy epa_124 epv_125 epg_126 epm_127)) hP hD (fun hP hD => ?_)
                    refine pd_P hP hD [ob11_0_ xo xk xn xc xh xt xw xm xp epf_122 eph_123 tr r_96, ob3_0_ xn vp o1_93 n1 n2 n3 n4 n5, ai_ cy n1 40 c_n1_93, ai_ cy n2 40 c_n2_93, ai_ cy n3 40 c_n3_93, ai_ cy n4 40 c_n4_93, ai_ cy n5 40 c_n5_93, aq_ cy 3 xk 5 (kf_ k0 k1 k2 k3 k4), ob6_0_ k0, ob5_0_ k1, ob9_0_ k2, ob2_0_ k3, ob8_0_ k4, aq_ cy 4 xm 4 (mf_ m0 m1 m2 m3), ob4_0_ m0 mk0 mr0 l0 u0, ob4_0_ m1 mk1 mr1 l1 u1, ob4_0_ m2 mk2 mr2 l2 u2, ob4_0_ m3 mk3 mr3 l3 u3, ai_ cy l0 6 fl0, ai_ cy l1 6 fl1, ai_ cy l2 6 fl2, ai_ cy l3 6 fl3, aj_ cy u0 30 fn0, aj_ cy u1 30 fn1, aj_ cy u2 30 fn2, aj_ cy u3 30 fn3, aq_ cy 5 xp 30 (pst epa_124 epm_127)] [19, 20, 21, 22, 23, 24, 25, 0, 1, 2, 3, 4, 5, 6, 7, 8, 9, 10, 11, 12, 13, 14, 15, 16, 17, 18, 26] (by decide +kernel) rfl (fun hP hD => ?_)
                    refine W.widen (k := 6) (n := 207) (by omega) (by omega) ?_
                    exact JOIN_99 epa_124 epv_125 epg_126 epm_127 epf_122 eph_123 _ _ _ (by first | with_reducible assumption | assumption | omega) (by first | with_reducible assumption | assumption | omega) (by first | exact (v11_93).2 (by omega) | exact chn_z v11_93 (by omega) g_131) ⟨hP, hD⟩ hS (lv_sub hl [0, 1, 2, 3, 4] rfl)
        refine lv_aload_n hx hb dB_36_3_49.2.2.2.1 rfl (lv_at hl 0 rfl) ?_
        have hPx := pp_left hP
        have hDx := dd_left hD
        refine ct_R hPx hDx [ob4_0_ m2 mk2 mr2 l2 u2] [16] (by decide) rfl (fun hPc hDw => ?_)
        have hFc := va_free (wc := []) hD hS hA [] rfl
        refine va_calli (va_runV (As := []) (rest := [.ref xo]) ⟨hx, hb, hml, hown, hts⟩ (c_X4_isThere l D cy H.size m2 l2 u2 mk2 mr2) (cwV 0 hts gX11_read_X4_isThere rfl rfl rfl ⟨rfl, hd_X4_isThere⟩ ⟨Nat.le_of_ble_eq_true rfl, Nat.le_of_ble_eq_true rfl⟩) ⟨bl_, va_recvX hK.1 hPx (ci := 4) (q0 := 16) rfl rfl, fun U hU hW => ⟨rfl, by rw [hU], by rw [hU]; exact hPc, kk_mv hW hK, hDw⟩⟩ rfl rfl hl.1 rfl (lv_room (Nat.le_of_ble_eq_true rfl)) dB_36_3_49.2.2.2.2 ⟨Nat.le_of_ble_eq_true rfl, Nat.le_of_ble_eq_true rfl⟩) hS (fun q _ h => hFc q h) hFc (fun r_132 u t H locs ht hvm hw hB hz1 hk1 hS => ?_)
        have hP : va_P D vwCl _ H := ro_keep hP hk1
        rcases hw with ⟨w_133, e_⟩ | ⟨w_133, e_⟩
        · have e_ := e_.symm
          subst e_
          refine lv_if_eq (tgt := 33) hx hb dB_36_3_50.1.1.1.1 (by decide) (fun c_134 => ?_) (fun c_134 => ?_)
          · exact absurd c_134 (by decide)
          · have _ := c_134
            refine lv_iconst (v := 0) hx hb dB_36_3_50.1.1.1.2 (by decide) ?_
            refine lv_goto (tgt := 35) hx hb dB_36_3_50.1.1.2.1 (by decide) ?_
            exact JOIN_92 (0 : Int32) _ _ _ (by first | with_reducible assumption | assumption | omega) ⟨hP, hD⟩ hS (lv_sub hl [0, 1, 2] rfl)
        · have e_ := e_.symm
          subst e_
          refine lv_if_eq (tgt := 33) hx hb dB_36_3_50.1.1.1.1 (by decide) (fun c_135 => ?_) (fun c_135 => ?_)
          · have _ := c_135
            refine lv_bipush (v := (-11)) hx hb dB_36_3_50.1.1.2.2 (by decide) ?_
            exact JOIN_92 ((-11) : Int32) _ _ _ (by first | with_reducible assumption | assumption | omega) ⟨hP, hD⟩ hS (lv_sub hl [0, 1, 2] rfl)
          · exact absurd c_135 (by decide)
      · refine lv_aload_n hx hb dB_36_3_49.2.1.1.1 rfl (lv_at hl 0 rfl) ?_
        refine va_get (ci := 11) (v := .ref xm) (C := RX11) (T := TX11) (N := 12) hx hb hts (fun _ h => List.mem_cons_of_mem _ (List.mem_append_left _ (List.mem_append_left _ (List.mem_append_right _ h)))) hown hK.1 hP 0 rfl rfl 6 (by decide) (hts (.fieldLink RX11 72 "CutAtlas" "maps" "[LCutAtlas$NumberMap;") (List.mem_of_getElem? (i := 2) rfl)) (fun _ h9 => h9) rfl dB_36_3_49.2.1.1.2 ?_
        refine lv_iload_n hx hb dB_36_3_49.2.1.2.1 rfl (lv_at hl 1 rfl) ?_
        refine va_aldq hx hb hK.1 hP 13 4 rfl rfl (i := 3) (by unfold vp_in; decide) dB_36_3_49.2.1.2.2 ?_
        refine lv_topv (v' := .ref m3) (by simp [va_up, va_rf, mf_, cl_0, cl_1, cl_2, cl_3, cl_4]) ?_
        refine lv_astore_n (lv' := [(2, .ref m3), (0, .ref xo), (1, .int 3)]) hx hb dB_36_3_49.2.2.1.1 rfl hl (by decide) rfl (fun ls hl => ?_)
        refine lv_aload_n hx hb dB_36_3_49.2.2.1.2 rfl (lv_at hl 1 rfl) ?_
        have JOIN_136 : ∀ (u0_136 : Int32) (H : Heap) (locs : List Loc) (ls : Array Slot), (u0_136.toInt = 0 ∧ mr3.toInt ≠ -9 ∨ u0_136.toInt = -11 ∧ mr3.toInt = -9) → pd_2 D vwCl A (([ob11_0_ xo xk xn xc xh xt xw xm xp pf ph tr fi, ob3_0_ xn vp vn n1 n2 n3 n4 n5, ai_ cy n1 40 fk, ai_ cy n2 40 fs, ai_ cy n3 40 fe, ai_ cy n4 40 fw, ai_ cy n5 40 fp, aq_ cy 3 xk 5 (kf_ k0 k1 k2 k3 k4), ob6_0_ k0, ob5_0_ k1, ob9_0_ k2, ob2_0_ k3, ob8_0_ k4, aq_ cy 4 xm 4 (mf_ m0 m1 m2 m3), ob4_0_ m0 mk0 mr0 l0 u0, ob4_0_ m1 mk1 mr1 l1 u1, ob4_0_ m2 mk2 mr2 l2 u2, ob4_0_ m3 mk3 mr3 l3 u3, ai_ cy l0 6 fl0, ai_ cy l1 6 fl1, ai_ cy l2 6 fl2, ai_ cy l3 6 fl3, aj_ cy u0 30 fn0, aj_ cy u1 30 fn1, aj_ cy u2 30 fn2, aj_ cy u3 30 fn3, aq_ cy 5 xp 30 (pst pa pm)] : va_W) ++ (pool cy pa pv pg pm)) H → va_S A s.heap H locs → lv_has ls 5 [(2, .ref m3), (0, .ref xo), (1, .int 3)] → W p l e ({ frames := 4, cells := 6, slots := 207, locals := 98 } : Room) s m (([.ref xo, .int (3 : Int32)] : List Value).toArray) below meth c H locs 0 0 Q (F0 m 35 ls [.int u0_136, .ref xo]) := by
          intro u0_136 H locs ls v0_136 hPD hS hl; obtain ⟨hP, hD⟩ := hPD
          have z35_ := v0_136
          refine va_put (ci := 11) (v := .int u0_136) (ty := .int) (C := RX11) (T := TX11) (N := 12) hx hb hts (fun _ h => List.mem_cons_of_mem _ (List.mem_append_left _ (List.mem_append_left _ (List.mem_append_right _ h)))) tyX11 tyX11_ok nmX11 hown hK.1 hP hD hS 0 rfl rfl 11 (by decide) (hts (.fieldLink RX11 91 "CutAtlas" "finding" "I") (List.mem_of_getElem? (i := 1) rfl)) (fun _ h9 => h9) rfl (by decide +kernel) rfl rfl (Nat.le_of_ble_eq_true rfl) dB_36_3_50.1.2.1.1 (fun H locs hP hD hS => ?_)
          refine pd_K (([ob11_0_ xo xk xn xc xh xt xw xm xp pf ph tr u0_136, ob3_0_ xn vp vn n1 n2 n3 n4 n5, ai_ cy n1 40 fk, ai_ cy n2 40 fs, ai_ cy n3 40 fe, ai_ cy n4 40 fw, ai_ cy n5 40 fp, aq_ cy 3 xk 5 (kf_ k0 k1 k2 k3 k4), ob6_0_ k0, ob5_0_ k1, ob9_0_ k2, ob2_0_ k3, ob8_0_ k4, aq_ cy 4 xm 4 (mf_ m0 m1 m2 m3), ob4_0_ m0 mk0 mr0 l0 u0, ob4_0_ m1 mk1 mr1 l1 u1, ob4_0_ m2 mk2 mr2 l2 u2, ob4_0_ m3 mk3 mr3 l3 u3, ai_ cy l0 6 fl0, ai_ cy l1 6 fl1, ai_ cy l2 6 fl2, ai_ cy l3 6 fl3, aj_ cy u0 30 fn0, aj_ cy u1 30 fn1, aj_ cy u2 30 fn2, aj_ cy u3 30 fn3, aq_ cy 5 xp 30 (pst pa pm)] : va_W) ++ (pool cy pa pv pg pm)) hP hD (fun hP hD => ?_)
          refine lv_iconst (v := 0) hx hb dB_36_3_50.1.2.1.2 (by decide) ?_
          refine lv_istore_n (lv' := [(3, .int 0), (2, .ref m3), (0, .ref xo), (1, .int 3)]) hx hb dB_36_3_50.1.2.2.1 rfl hl (by decide) rfl (fun ls hl => ?_)
          refine lv_iconst (v := 0) hx hb dB_36_3_50.1.2.2.2 (by decide) ?_
          refine lv_istore (lv' := [(4, .int 0), (3, .int 0), (2, .ref m3), (0, .ref xo), (1, .int 3)]) hx hb dB_36_3_50.2.1.1.1 hl (by decide) rfl (fun ls hl => ?_)
          have hr0_ : rdl (rwC fl3 fn3 vp.toInt) vn.toInt mr3.toInt (0 : Int32).toInt (0 : Int32).toInt u0_136.toInt := rdl_s (by omega) (by omega)
          suffices LOOP_137 : ∀ (n_137 : Nat) (x4_137 : Int32) (x3_137 : Int32) (p0_137 : Nat → Nat → Nat) (p1_137 : Nat → Nat → Int32) (p2_137 : Nat → Nat → Nat → Int32) (p3_137 : Nat) (o8_137 : Int32) (o9_137 : Int32) (o11_137 : Int32) (o1_137 : Int32) (c_n1_137 : Nat → Int32) (c_n2_137 : Nat → Int32) (c_n3_137 : Nat → Int32) (c_n4_137 : Nat → Int32) (c_n5_137 : Nat → Int32) (kc_137 : Nat) (ks_137 : Nat) (H : Heap) (locs : List Loc) (ls : Array Slot), 6 - x4_137.toInt < (n_137 : Int) → (0 ≤ x4_137.toInt) → (x4_137.toInt ≤ 6) → (0 ≤ x3_137.toInt) → (x3_137.toInt ≤ x4_137.toInt) → (nok vp o1_137 c_n1_137 c_n2_137 c_n3_137 c_n4_137 c_n5_137) → (pok p1_137 p2_137 p3_137) → (rok o8_137 o9_137 p3_137) → (prng c_n2_137 c_n3_137 40) → (kc_137 ≤ 6 ∧ ks_137 ≤ 207 ∧ (x3_137.toInt = 0 → kc_137 = 0 ∧ ks_137 = 0)) → (rdl (rwC fl3 fn3 vp.toInt) vn.toInt mr3.toInt x3_137.toInt x4_137.toInt o11_137.toInt) → (apC vn.toInt x3_137.toInt fk fs fe fw fp c_n1_137 c_n2_137 c_n3_137 c_n4_137 c_n5_137 fn3) → (chn x3_137.toInt pf ph pv pg vp vn fk fs fe fw fp o8_137 o9_137 p1_137 p2_137 o1_137 c_n1_137 c_n2_137 c_n3_137 c_n4_137 c_n5_137) → (o1_137.toInt = vn.toInt + x3_137.toInt) → (rng c_n1_137 40 (0) (4)) → (rng c_n4_137 40 (0) (2000)) → (rng c_n5_137 40 (0) (100)) → pd_2 D vwCl A (([ob11_0_ xo xk xn xc xh xt xw xm xp o8_137 o9_137 tr o11_137, ob3_0_ xn vp o1_137 n1 n2 n3 n4 n5, ai_ cy n1 40 c_n1_137, ai_ cy n2 40 c_n2_137, ai_ cy n3 40 c_n3_137, ai_ cy n4 40 c_n4_137, ai_ cy n5 40 c_n5_137, aq_ cy 3 xk 5 (kf_ k0 k1 k2 k3 k4), ob6_0_ k0, ob5_0_ k1, ob9_0_ k2, ob2_0_ k3, ob8_0_ k4, aq_ cy 4 xm 4 (mf_ m0 m1 m2 m3), ob4_0_ m0 mk0 mr0 l0 u0, ob4_0_ m1 mk1 mr1 l1 u1, ob4_0_ m2 mk2 mr2 l2 u2, ob4_0_ m3 mk3 mr3 l3 u3, ai_ cy l0 6 fl0, ai_ cy l1 6 fl1, ai_ cy l2 6 fl2, ai_ cy l3 6 fl3, aj_ cy u0 30 fn0, aj_ cy u1 30 fn1, aj_ cy u2 30 fn2, aj_ cy u3 30 fn3, aq_ cy 5 xp 30 (pst p0_137 p3_137)] : va_W) ++ (pool cy p0_137 p1_137 p2_137 p3_137)) H → va_S A s.heap H locs → lv_has ls 5 [(4, .int x4_137), (3, .int x3_137), (2, .ref m3), (0, .ref xo), (1, .int 3)] → W p l e ({ frames := 4, cells := 6, slots := 207, locals := 98 } : Room) s m (([.ref xo, .int (3 : Int32)] : List Value).toArray) below meth c H locs kc_137 ks_137 Q (F0 m 43 ls []) from LOOP_137 ((6 - (0 : Int32).toInt).toNat + 1) (0 : Int32) (0 : Int32) pa pv pg pm pf ph u0_136 vn fk fs fe fw fp _ _ _ _ _ (by omega) (by first | with_reducible assumption | omega | assumption) (by first | with_reducible assumption | omega | assumption) (by first | with_reducible assumption | omega | assumption) (by first | with_reducible assumption | omega | assumption) (by first | exact hnn_ | assumption) (by first | with_reducible assumption | assumption | omega) (by first | with_reducible assumption | assumption | omega) (by first | with_reducible assumption | assumption | omega) (by first | with_reducible assumption | assumption | omega) (by first | exact hr0_ | exact rdl_ok v_none (by omega) (by omega) (hrc_.symm.trans (by omega)) (by omega) (by omega) (by omega) | exact rdl_no v_none (by omega) (by omega) hrc_.symm (by omega) (by omega)) (by first | exact apC_0 | exact hap_ _ (by omega) | assumption) (by first | exact chn_0 | exact chn_p (by omega) hrm_ | assumption) (by first | with_reducible assumption | omega | assumption) (by first | with_reducible assumption | assumption | exact rng_zero (by omega) (by omega) | exact orng_zero) (by first | with_reducible assumption | assumption | exact rng_zero (by omega) (by omega) | exact orng_zero) (by first | with_reducible assumption | assumption | exact rng_zero (by omega) (by omega) | exact orng_zero) ⟨hP, hD⟩ hS (lv_sub hl [0, 1, 2, 3, 4] rfl)
          intro n_137
          induction n_137 with
          | zero =>
            intro x4_137 x3_137 p0_137 p1_137 p2_137 p3_137 o8_137 o9_137 o11_137 o1_137 c_n1_137 c_n2_137 c_n3_137 c_n4_137 c_n5_137 kc_137 ks_137 H locs ls hm v0_137 v1_137 v2_137 v3_137 v4_137 v5_137 v6_137 v7_137 v8_137 v9_137 v10_137 v11_137 v12_137 rc_n1_137 rc_n4_137 rc_n5_137 hPD hS hl; obtain ⟨hP, hD⟩ := hPD
            exact absurd hm (by omega)
          | succ n_137 ih_137 =>
            intro x4_137 x3_137 p0_137 p1_137 p2_137 p3_137 o8_137 o9_137 o11_137 o1_137 c_n1_137 c_n2_137 c_n3_137 c_n4_137 c_n5_137 kc_137 ks_137 H locs ls hm v0_137 v1_137 v2_137 v3_137 v4_137 v5_137 v6_137 v7_137 v8_137 v9_137 v10_137 v11_137 v12_137 rc_n1_137 rc_n4_137 rc_n5_137 hPD hS hl; obtain ⟨hP, hD⟩ := hPD
            refine lv_iload hx hb dB_36_3_50.2.1.1.2 (lv_at hl 0 rfl) ?_
            refine lv_aload_n hx hb dB_36_3_50.2.1.2.1 rfl (lv_at hl 2 rfl) ?_
            refine va_get (ci := 4) (v := .int mr3) (C := RX4) (T := TX4) (N := 4) hx hb hts (fun _ h => List.mem_cons_of_mem _ (List.mem_append_left _ (List.mem_append_right _ h))) hown hK.1 hP 17 rfl rfl 1 (by decide) (hts (.fieldLink RX11 284 "CutAtlas$NumberMap" "rows" "I") (List.mem_of_getElem? (i := 3) rfl)) (fun _ h9 => h9) rfl dB_36_3_50.2.1.2.2 ?_
            refine lv_icmp_ge (tgt := 134) hx hb dB_36_3_50.2.2.1.1 (by decide) (fun c_138 => ?_) (fun c_138 => ?_)
            · have t_138 : mr3.toInt ≤ x4_137.toInt := Int32.le_iff_toInt_le.mp c_138
              have hq9_ := (v9_137).2
              refine lv_iload_n hx hb dB_36_3_53.2.2.2.1 rfl (lv_at hl 1 rfl) ?_
              refine W.widen (k := 6) (n := 207) (by omega) (by omega) ?_
              rw [hQ]
              exact W.iret (v := x3_137) hx hb hr (fun t ht hW => ⟨⟨x3_137, (), rfl, (by first | exact ⟨fun _ => by decide, fun h => absurd h (by omega), fun h => absurd h (by omega)⟩ | (refine ⟨fun h => absurd (by decide) h, ?_, ?_⟩ <;> rw [f4_c0] <;> first | exact fun _ h => absurd h (by omega) | exact fun _ h => by omega | (rw [f4_c0, f4_c0]; exact fun _ _ => ⟨_, rdl_end v9_137 (by omega) (by omega)⟩)) | (refine ⟨fun h => absurd (by decide) h, ?_, ?_⟩ <;> rw [f4_c1] <;> first | exact fun _ h => absurd h (by omega) | exact fun _ h => by omega | (rw [f4_c1, f4_c1]; exact fun _ _ => ⟨_, rdl_end v9_137 (by omega) (by omega)⟩)) | (refine ⟨fun h => absurd (by decide) h, ?_, ?_⟩ <;> rw [f4_c2] <;> first | exact fun _ h => absurd h (by omega) | exact fun _ h => by omega | (rw [f4_c2, f4_c2]; exact fun _ _ => ⟨_, rdl_end v9_137 (by omega) (by omega)⟩)) | (refine ⟨fun h => absurd (by decide) h, ?_, ?_⟩ <;> rw [f4_c3] <;> first | exact fun _ h => absurd h (by omega) | exact fun _ h => by omega | (rw [f4_c3, f4_c3]; exact fun _ _ => ⟨_, rdl_end v9_137 (by omega) (by omega)⟩))), o8_137, o9_137, o11_137, o1_137, c_n1_137, c_n2_137, c_n3_137, c_n4_137, c_n5_137, p0_137, p1_137, p2_137, p3_137, (by first | exact hnk | assumption), (by assumption), (by assumption), (by first | exact ⟨fun _ => ⟨by decide, chn_0⟩, fun h => absurd h (by omega), fun h => absurd h (by omega)⟩ | (refine ⟨fun h => absurd (by decide) h, ?_, ?_⟩ <;> rw [f4_c0] <;> first | exact fun _ h => absurd h (by omega) | exact fun _ h => ⟨by omega, chn_s v11_137 (by omega)⟩ | (rw [f4_c0, f4_c0]; exact fun _ _ => ⟨_, rdl_end v9_137 (by omega) (by omega), v11_137, v10_137, by omega⟩)) | (refine ⟨fun h => absurd (by decide) h, ?_, ?_⟩ <;> rw [f4_c1] <;> first | exact fun _ h => absurd h (by omega) | exact fun _ h => ⟨by omega, chn_s v11_137 (by omega)⟩ | (rw [f4_c1, f4_c1]; exact fun _ _ => ⟨_, rdl_end v9_137 (by omega) (by omega), v11_137, v10_137, by omega⟩)) | (refine ⟨fun h => absurd (by decide) h, ?_, ?_⟩ <;> rw [f4_c2] <;> first | exact fun _ h => absurd h (by omega) | exact fun _ h => ⟨by omega, chn_s v11_137 (by omega)⟩ | (rw [f4_c2, f4_c2]; exact fun _ _ => ⟨_, rdl_end v9_137 (by omega) (by omega), v11_137, v10_137, by omega⟩)) | (refine ⟨fun h => absurd (by decide) h, ?_, ?_⟩ <;> rw [f4_c3] <;> first | exact fun _ h => absurd h (by omega) | exact fun _ h => ⟨by omega, chn_s v11_137 (by omega)⟩ | (rw [f4_c3, f4_c3]; exact fun _ _ => ⟨_, rdl_end v9_137 (by omega) (by omega), v11_137, v10_137, by omega⟩))), by rw [ht]; exact hP, hD⟩, hS.F ht⟩) hS.2.2 dB_36_3_53.2.2.2.2
            · have t_138 : ¬ mr3.toInt ≤ x4_137.toInt := fun h => c_138 (Int32.le_iff_toInt_le.mpr h)
              have hnl_ := v4_137.2.1
              refine lv_aload_n hx hb dB_36_3_50.2.2.1.2 rfl (lv_at hl 3 rfl) ?_
              refine va_get (ci := 11) (v := .int o11_137) (C := RX11) (T := TX11) (N := 12) hx hb hts (fun _ h => List.mem_cons_of_mem _ (List.mem_append_left _ (List.mem_append_left _ (List.mem_append_right _ h)))) hown hK.1 hP 0 rfl rfl 11 (by decide) (hts (.fieldLink RX11 91 "CutAtlas" "finding" "I") (List.mem_of_getElem? (i := 1) rfl)) (fun _ h9 => h9) rfl dB_36_3_50.2.2.2.1 ?_
              refine lv_if_ne (tgt := 134) hx hb dB_36_3_50.2.2.2.2 (by decide) (fun c_139 => ?_) (fun c_139 => ?_)
              · have t_139 : ¬ o11_137.toInt = (0 : Int32).toInt := fun h => c_139 (Int32.toInt_inj.mp h)
                have hq9_ := (v9_137).2
                refine lv_iload_n hx hb dB_36_3_53.2.2.2.1 rfl (lv_at hl 1 rfl) ?_
                refine W.widen (k := 6) (n := 207) (by omega) (by omega) ?_
                rw [hQ]
                exact W.iret (v := x3_137) hx hb hr (fun t ht hW => ⟨⟨x3_137, (), rfl, (by first | exact ⟨fun _ => by decide, fun h => absurd h (by omega), fun h => absurd h (by omega)⟩ | (refine ⟨fun h => absurd (by decide) h, ?_, ?_⟩ <;> rw [f4_c0] <;> first | exact fun _ h => absurd h (by omega) | exact fun _ h => by omega | (rw [f4_c0, f4_c0]; exact fun _ _ => ⟨_, rdl_end v9_137 (by omega) (by omega)⟩)) | (refine ⟨fun h => absurd (by decide) h, ?_, ?_⟩ <;> rw [f4_c1] <;> first | exact fun _ h => absurd h (by omega) | exact fun _ h => by omega | (rw [f4_c1, f4_c1]; exact fun _ _ => ⟨_, rdl_end v9_137 (by omega) (by omega)⟩)) | (refine ⟨fun h => absurd (by decide) h, ?_, ?_⟩ <;> rw [f4_c2] <;> first | exact fun _ h => absurd h (by omega) | exact fun _ h => by omega | (rw [f4_c2, f4_c2]; exact fun _ _ => ⟨_, rdl_end v9_137 (by omega) (by omega)⟩)) | (refine ⟨fun h => absurd (by decide) h, ?_, ?_⟩ <;> rw [f4_c3] <;> first | exact fun _ h => absurd h (by omega) | exact fun _ h => by omega | (rw [f4_c3, f4_c3]; exact fun _ _ => ⟨_, rdl_end v9_137 (by omega) (by omega)⟩))), o8_137, o9_137, o11_137, o1_137, c_n1_137, c_n2_137, c_n3_137, c_n4_137, c_n5_137, p0_137, p1_137, p2_137, p3_137, (by first | exact hnk | assumption), (by assumption), (by assumption), (by first | exact ⟨fun _ => ⟨by decide, chn_0⟩, fun h => absurd h (by omega), fun h => absurd h (by omega)⟩ | (refine ⟨fun h => absurd (by decide) h, ?_, ?_⟩ <;> rw [f4_c0] <;> first | exact fun _ h => absurd h (by omega) | exact fun _ h => ⟨by omega, chn_s v11_137 (by omega)⟩ | (rw [f4_c0, f4_c0]; exact fun _ _ => ⟨_, rdl_end v9_137 (by omega) (by omega), v11_137, v10_137, by omega⟩)) | (refine ⟨fun h => absurd (by decide) h, ?_, ?_⟩ <;> rw [f4_c1] <;> first | exact fun _ h => absurd h (by omega) | exact fun _ h => ⟨by omega, chn_s v11_137 (by omega)⟩ | (rw [f4_c1, f4_c1]; exact fun _ _ => ⟨_, rdl_end v9_137 (by omega) (by omega), v11_137, v10_137, by omega⟩)) | (refine ⟨fun h => absurd (by decide) h, ?_, ?_⟩ <;> rw [f4_c2] <;> first | exact fun _ h => absurd h (by omega) | exact fun _ h => ⟨by omega, chn_s v11_137 (by omega)⟩ | (rw [f4_c2, f4_c2]; exact fun _ _ => ⟨_, rdl_end v9_137 (by omega) (by omega), v11_137, v10_137, by omega⟩)) | (refine ⟨fun h => absurd (by decide) h, ?_, ?_⟩ <;> rw [f4_c3] <;> first | exact fun _ h => absurd h (by omega) | exact fun _ h => ⟨by omega, chn_s v11_137 (by omega)⟩ | (rw [f4_c3, f4_c3]; exact fun _ _ => ⟨_, rdl_end v9_137 (by omega) (by omega), v11_137, v10_137, by omega⟩))), by rw [ht]; exact hP, hD⟩, hS.F ht⟩) hS.2.2 dB_36_3_53.2.2.2.2
              · have t_139 : o11_137.toInt = (0 : Int32).toInt := congrArg Int32.toInt c_139
                have hlt3_ : x3_137.toInt = x4_137.toInt ∧ x4_137.toInt < mr3.toInt := by have h9 := v9_137.2; omega
                refine lv_aload_n hx hb dB_36_3_51.1.1.1.1 rfl (lv_at hl 3 rfl) ?_
                refine lv_aload_n hx hb dB_36_3_51.1.1.1.2 rfl (lv_at hl 3 rfl) ?_
                refine lv_aload_n hx hb dB_36_3_51.1.1.2.1 rfl (lv_at hl 2 rfl) ?_
                refine lv_iload hx hb dB_36_3_51.1.1.2.2 (lv_at hl 0 rfl) ?_
                have hPx := pp_left hP
                have hDx := dd_left hD
                refine ct_R hPx hDx [ob11_0_ xo xk xn xc xh xt xw xm xp o8_137 o9_137 tr o11_137, ob3_0_ xn vp o1_137 n1 n2 n3 n4 n5, ob4_0_ m3 mk3 mr3 l3 u3, ai_ cy l3 6 fl3, aj_ cy u3 30 fn3] [0, 1, 17, 21, 25] (by decide) rfl (fun hPc hDw => ?_)
                have hFc := va_free (wc := []) hD hS hA [] rfl
                refine va_calli (va_runV (As := [.ref m3, .int x4_137]) (rest := [.ref xo]) ⟨hx, hb, hml, hown, hts⟩ (c_X11_readRefusal2 l D cy H.size xo xk xn xc xh xt xw xm xp o8_137 o9_137 tr o11_137 n1 n2 n3 n4 n5 vp o1_137 m3 l3 u3 mk3 mr3 fl3 fn3 x4_137 (by first | with_reducible assumption | omega | assumption) (by first | with_reducible assumption | omega | assumption) (by first | with_reducible assumption | omega | assumption) (by first | with_reducible assumption | assumption | omega)) (cwV 2 hts gX11_read_X11_readRefusal rfl rfl rfl ⟨rfl, hd_X11_readRefusal⟩ ⟨Nat.le_of_ble_eq_true rfl, Nat.le_of_ble_eq_true rfl⟩) ⟨bl_, va_recvX hK.1 hPx (ci := 11) (q0 := 0) rfl rfl, fun U hU hW => ⟨rfl, by rw [hU], by rw [hU]; exact hPc, kk_mv hW hK, hDw⟩⟩ rfl rfl hl.1 rfl (lv_room (Nat.le_of_ble_eq_true rfl)) dB_36_3_51.1.2.1.1 ⟨(by show _ ≤ 6; omega), (by show _ ≤ 207; omega)⟩) hS (fun q _ h => hFc q h) hFc (fun r_140 u t H locs ht hvm hw hB hz1 hk1 hS => ?_)
                have hP : va_P D vwCl _ H := ro_keep hP hk1
                obtain ⟨f0_r_140, f1_r_140⟩ := hw
                have hrc_ : r_140.toInt = rwC fl3 fn3 vp.toInt x3_137.toInt.toNat (vn.toInt + x3_137.toInt) := by rw [f1_r_140, show x4_137.toNatClampNeg = x3_137.toInt.toNat from (by rw [hlt3_.1]; rfl), v12_137]
                refine va_put (ci := 11) (v := .int r_140) (ty := .int) (C := RX11) (T := TX11) (N := 12) hx hb hts (fun _ h => List.mem_cons_of_mem _ (List.mem_append_left _ (List.mem_append_left _ (List.mem_append_right _ h)))) tyX11 tyX11_ok nmX11 hown hK.1 hP hD hS 0 rfl rfl 11 (by decide) (hts (.fieldLink RX11 91 "CutAtlas" "finding" "I") (List.mem_of_getElem? (i := 1) rfl)) (fun _ h9 => h9) rfl (by decide +kernel) rfl rfl (Nat.le_of_ble_eq_true rfl) dB_36_3_51.1.2.1.2 (fun H locs hP hD hS => ?_)
                refine pd_K (([ob11_0_ xo xk xn xc xh xt xw xm xp o8_137 o9_137 tr r_140, ob3_0_ xn vp o1_137 n1 n2 n3 n4 n5, ai_ cy n1 40 c_n1_137, ai_ cy n2 40 c_n2_137, ai_ cy n3 40 c_n3_137, ai_ cy n4 40 c_n4_137, ai_ cy n5 40 c_n5_137, aq_ cy 3 xk 5 (kf_ k0 k1 k2 k3 k4), ob6_0_ k0, ob5_0_ k1, ob9_0_ k2, ob2_0_ k3, ob8_0_ k4, aq_ cy 4 xm 4 (mf_ m0 m1 m2 m3), ob4_0_ m0 mk0 mr0 l0 u0, ob4_0_ m1 mk1 mr1 l1 u1, ob4_0_ m2 mk2 mr2 l2 u2, ob4_0_ m3 mk3 mr3 l3 u3, ai_ cy l0 6 fl0, ai_ cy l1 6 fl1, ai_ cy l2 6 fl2, ai_ cy l3 6 fl3, aj_ cy u0 30 fn0, aj_ cy u1 30 fn1, aj_ cy u2 30 fn2, aj_ cy u3 30 fn3, aq_ cy 5 xp 30 (pst p0_137 p3_137)] : va_W) ++ (pool cy p0_137 p1_137 p2_137 p3_137)) hP hD (fun hP hD => ?_)
                refine lv_aload_n hx hb dB_36_3_51.1.2.2.1 rfl (lv_at hl 3 rfl) ?_
                refine va_get (ci := 11) (v := .int r_140) (C := RX11) (T := TX11) (N := 12) hx hb hts (fun _ h => List.mem_cons_of_mem _ (List.mem_append_left _ (List.mem_append_left _ (List.mem_append_right _ h)))) hown hK.1 hP 0 rfl rfl 11 (by decide) (hts (.fieldLink RX11 91 "CutAtlas" "finding" "I") (List.mem_of_getElem? (i := 1) rfl)) (fun _ h9 => h9) rfl dB_36_3_51.1.2.2.2 ?_
                refine lv_if_ne (tgt := 128) hx hb dB_36_3_51.2.1.1.1 (by decide) (fun c_141 => ?_) (fun c_141 => ?_)
                · have t_141 : ¬ r_140.toInt = (0 : Int32).toInt := fun h => c_141 (Int32.toInt_inj.mp h)
                  obtain ⟨y_142, ey_142⟩ : ∃ y : Int32, y = x4_137 + 1 := ⟨_, rfl⟩
                  have ty_142 : y_142.toInt = x4_137.toInt + (1 : Int32).toInt := by rw [ey_142]; exact addI (by omega) (by omega)
                  refine lv_iinc (v := y_142) (lv' := [(4, .int y_142), (3, .int x3_137), (2, .ref m3), (0, .ref xo), (1, .int 3)]) hx hb dB_36_3_53.2.1.2 hl (k := 0) rfl (by rw [ey_142]; rfl) (by decide) rfl (fun ls hl => ?_)
                  refine lv_goto (tgt := 43) hx hb dB_36_3_53.2.2.1 (by decide) ?_
                  exact ih_137 y_142 x3_137 p0_137 p1_137 p2_137 p3_137 o8_137 o9_137 r_140 o1_137 c_n1_137 c_n2_137 c_n3_137 c_n4_137 c_n5_137 _ _ _ _ _ (by omega) (by first | with_reducible assumption | omega | assumption) (by first | with_reducible assumption | omega | assumption) (by first | with_reducible assumption | omega | assumption) (by first | with_reducible assumption | omega | assumption) (by first | exact hnn_ | assumption) (by first | with_reducible assumption | assumption | omega) (by first | with_reducible assumption | assumption | omega) (by first | with_reducible assumption | assumption | omega) (by first | with_reducible assumption | assumption | omega) (by first | exact hr0_ | exact rdl_ok v9_137 (by omega) (by omega) (hrc_.symm.trans (by omega)) (by omega) (by omega) (by omega) | exact rdl_no v9_137 (by omega) (by omega) hrc_.symm (by omega) (by omega)) (by first | exact apC_0 | exact hap_ _ (by omega) | assumption) (by first | exact chn_0 | exact chn_p (by omega) hrm_ | assumption) (by first | with_reducible assumption | omega | assumption) (by first | with_reducible assumption | assumption | exact rng_zero (by omega) (by omega) | exact orng_zero) (by first | with_reducible assumption | assumption | exact rng_zero (by omega) (by omega) | exact orng_zero) (by first | with_reducible assumption | assumption | exact rng_zero (by omega) (by omega) | exact orng_zero) ⟨hP, hD⟩ hS (lv_sub hl [0, 1, 2, 3, 4] rfl)
                · have t_141 : r_140.toInt = (0 : Int32).toInt := congrArg Int32.toInt c_141
                  have JOIN_143 : ∀ (p0_143 : Nat → Nat → Nat) (p1_143 : Nat → Nat → Int32) (p2_143 : Nat → Nat → Nat → Int32) (p3_143 : Nat) (o8_143 : Int32) (o9_143 : Int32) (H : Heap) (locs : List Loc) (ls : Array Slot), (pok p1_143 p2_143 p3_143) → (rok o8_143 o9_143 p3_143) → (remd pf ph pv pg vp vn fk fs fe fw fp o8_143 o9_143 p1_143 p2_143) → pd_2 D vwCl A (([ob11_0_ xo xk xn xc xh xt xw xm xp o8_143 o9_143 tr r_140, ob3_0_ xn vp o1_137 n1 n2 n3 n4 n5, ai_ cy n1 40 c_n1_137, ai_ cy n2 40 c_n2_137, ai_ cy n3 40 c_n3_137, ai_ cy n4 40 c_n4_137, ai_ cy n5 40 c_n5_137, aq_ cy 3 xk 5 (kf_ k0 k1 k2 k3 k4), ob6_0_ k0, ob5_0_ k1, ob9_0_ k2, ob2_0_ k3, ob8_0_ k4, aq_ cy 4 xm 4 (mf_ m0 m1 m2 m3), ob4_0_ m0 mk0 mr0 l0 u0, ob4_0_ m1 mk1 mr1 l1 u1, ob4_0_ m2 mk2 mr2 l2 u2, ob4_0_ m3 mk3 mr3 l3 u3, ai_ cy l0 6 fl0, ai_ cy l1 6 fl1, ai_ cy l2 6 fl2, ai_ cy l3 6 fl3, aj_ cy u0 30 fn0, aj_ cy u1 30 fn1, aj_ cy u2 30 fn2, aj_ cy u3 30 fn3, aq_ cy 5 xp 30 (pst p0_143 p3_143)] : va_W) ++ (pool cy p0_143 p1_143 p2_143 p3_143)) H → va_S A s.heap H locs → lv_has ls 5 [(4, .int x4_137), (3, .int x3_137), (2, .ref m3), (0, .ref xo), (1, .int 3)] → W p l e ({ frames := 4, cells := 6, slots := 207, locals := 98 } : Room) s m (([.ref xo, .int (3 : Int32)] : List Value).toArray) below meth c H locs 6 207 Q (F0 m 85 ls []) := by
                    intro p0_143 p1_143 p2_143 p3_143 o8_143 o9_143 H locs ls v0_143 v1_143 v2_143 hPD hS hl; obtain ⟨hP, hD⟩ := hPD
                    have hrm_ := v2_143
                    refine lv_aload_n hx hb dB_36_3_51.2.2.1.2 rfl (lv_at hl 3 rfl) ?_
                    refine lv_aload_n hx hb dB_36_3_51.2.2.2.1 rfl (lv_at hl 2 rfl) ?_
                    refine lv_iload hx hb dB_36_3_51.2.2.2.2 (lv_at hl 0 rfl) ?_
                    refine lv_iconst (v := 0) hx hb dB_36_3_52.1.1.1.1 (by decide) ?_
                    have hPx := pp_left hP
                    have hDx := dd_left hD
                    refine ct_R hPx hDx [ob4_0_ m3 mk3 mr3 l3 u3, aj_ cy u3 30 fn3] [17, 25] (by decide) rfl (fun hPc hDw => ?_)
                    have hFc := va_free (wc := []) hD hS hA [] rfl
                    refine va_calli (va_runV (As := [.int x4_137, .int 0]) (rest := [.ref xo]) ⟨hx, hb, hml, hown, hts⟩ (c_X4_whole l D cy H.size m3 l3 u3 mk3 mr3 fn3 x4_137 (0 : Int32) (by first | with_reducible assumption | omega | assumption) (by first | with_reducible assumption | omega | assumption)) (cwV 2 hts gX11_read_X4_whole rfl rfl rfl ⟨rfl, hd_X4_whole⟩ ⟨Nat.le_of_ble_eq_true rfl, Nat.le_of_ble_eq_true rfl⟩) ⟨bl_, va_recvX hK.1 hPx (ci := 4) (q0 := 17) rfl rfl, fun U hU hW => ⟨rfl, by rw [hU], by rw [hU]; exact hPc, kk_mv hW hK, hDw⟩⟩ rfl rfl hl.1 rfl (lv_room (Nat.le_of_ble_eq_true rfl)) dB_36_3_52.1.1.1.2 ⟨Nat.le_of_ble_eq_true rfl, Nat.le_of_ble_eq_true rfl⟩) hS (fun q _ h => hFc q h) hFc (fun r_144 u t H locs ht hvm hw hB hz1 hk1 hS => ?_)
                    have hP : va_P D vwCl _ H := ro_keep hP hk1
                    have f0_r_144 := hw
                    have v0_ : r_144 = (fn3 (5 * x4_137.toNatClampNeg + 0)).toInt32 := num32 f0_r_144 (by omega) (by omega)
                    have w0_ : r_144.toInt = (fn3 (5 * x4_137.toNatClampNeg + 0)).toInt := by rw [v0_]; exact l2iI (by omega) (by omega)
                    refine lv_aload_n hx hb dB_36_3_52.1.1.2.1 rfl (lv_at hl 2 rfl) ?_
                    refine lv_iload hx hb dB_36_3_52.1.1.2.2 (lv_at hl 0 rfl) ?_
                    refine lv_iconst (v := 1) hx hb dB_36_3_52.1.2.1.1 (by decide) ?_
                    have hPx := pp_left hP
                    have hDx := dd_left hD
                    refine ct_R hPx hDx [ob4_0_ m3 mk3 mr3 l3 u3, aj_ cy u3 30 fn3] [17, 25] (by decide) rfl (fun hPc hDw => ?_)
                    have hFc := va_free (wc := []) hD hS hA [] rfl
                    refine va_calli (va_runV (As := [.int x4_137, .int 1]) (rest := [.int r_144, .ref xo]) ⟨hx, hb, hml, hown, hts⟩ (c_X4_whole l D cy H.size m3 l3 u3 mk3 mr3 fn3 x4_137 (1 : Int32) (by first | with_reducible assumption | omega | assumption) (by first | with_reducible assumption | omega | assumption)) (cwV 2 hts gX11_read_X4_whole rfl rfl rfl ⟨rfl, hd_X4_whole⟩ ⟨Nat.le_of_ble_eq_true rfl, Nat.le_of_ble_eq_true rfl⟩) ⟨bl_, va_recvX hK.1 hPx (ci := 4) (q0 := 17) rfl rfl, fun U hU hW => ⟨rfl, by rw [hU], by rw [hU]; exact hPc, kk_mv hW hK, hDw⟩⟩ rfl rfl hl.1 rfl (lv_room (Nat.le_of_ble_eq_true rfl)) dB_36_3_52.1.2.1.2 ⟨Nat.le_of_ble_eq_true rfl, Nat.le_of_ble_eq_true rfl⟩) hS (fun q _ h => hFc q h) hFc (fun r_145 u t H locs ht hvm hw hB hz1 hk1 hS => ?_)
                    have hP : va_P D vwCl _ H := ro_keep hP hk1
                    have f0_r_145 := hw
                    have v1_ : r_145 = (fn3 (5 * x4_137.toNatClampNeg + 1)).toInt32 := num32 f0_r_145 (by omega) (by omega)
                    have w1_ : r_145.toInt = (fn3 (5 * x4_137.toNatClampNeg + 1)).toInt := by rw [v1_]; exact l2iI (by omega) (by omega)
                    refine lv_aload_n hx hb dB_36_3_52.1.2.2.1 rfl (lv_at hl 2 rfl) ?_
                    refine lv_iload hx hb dB_36_3_52.1.2.2.2 (lv_at hl 0 rfl) ?_
                    refine lv_iconst (v := 2) hx hb dB_36_3_52.2.1.1.1 (by decide) ?_
                    have hPx := pp_left hP
                    have hDx := dd_left hD
                    refine ct_R hPx hDx [ob4_0_ m3 mk3 mr3 l3 u3, aj_ cy u3 30 fn3] [17, 25] (by decide) rfl (fun hPc hDw => ?_)
                    have hFc := va_free (wc := []) hD hS hA [] rfl
                    refine va_calli (va_runV (As := [.int x4_137, .int 2]) (rest := [.int r_145, .int r_144, .ref xo]) ⟨hx, hb, hml, hown, hts⟩ (c_X4_whole l D cy H.size m3 l3 u3 mk3 mr3 fn3 x4_137 (2 : Int32) (by first | with_reducible assumption | omega | assumption) (by first | with_reducible assumption | omega | assumption)) (cwV 2 hts gX11_read_X4_whole rfl rfl rfl ⟨rfl, hd_X4_whole⟩ ⟨Nat.le_of_ble_eq_true rfl, Nat.le_of_ble_eq_true rfl⟩) ⟨bl_, va_recvX hK.1 hPx (ci := 4) (q0 := 17) rfl rfl, fun U hU hW => ⟨rfl, by rw [hU], by rw [hU]; exact hPc, kk_mv hW hK, hDw⟩⟩ rfl rfl hl.1 rfl (lv_room (Nat.le_of_ble_eq_true rfl)) dB_36_3_52.2.1.1.2 ⟨Nat.le_of_ble_eq_true rfl, Nat.le_of_ble_eq_true rfl⟩) hS (fun q _ h => hFc q h) hFc (fun r_146 u t H locs ht hvm hw hB hz1 hk1 hS => ?_)
                    have hP : va_P D vwCl _ H := ro_keep hP hk1
                    have f0_r_146 := hw
                    have v2_ : r_146 = (fn3 (5 * x4_137.toNatClampNeg + 2)).toInt32 := num32 f0_r_146 (by omega) (by omega)
                    have w2_ : r_146.toInt = (fn3 (5 * x4_137.toNatClampNeg + 2)).toInt := by rw [v2_]; exact l2iI (by omega) (by omega)
                    refine lv_aload_n hx hb dB_36_3_52.2.1.2.1 rfl (lv_at hl 2 rfl) ?_
                    refine lv_iload hx hb dB_36_3_52.2.1.2.2 (lv_at hl 0 rfl) ?_
                    refine lv_iconst (v := 3) hx hb dB_36_3_52.2.2.1.1 (by decide) ?_
                    have hPx := pp_left hP
                    have hDx := dd_left hD
                    refine ct_R hPx hDx [ob4_0_ m3 mk3 mr3 l3 u3, aj_ cy u3 30 fn3] [17, 25] (by decide) rfl (fun hPc hDw => ?_)
                    have hFc := va_free (wc := []) hD hS hA [] rfl
                    refine va_calli (va_runV (As := [.int x4_137, .int 3]) (rest := [.int r_146, .int r_145, .int r_144, .ref xo]) ⟨hx, hb, hml, hown, hts⟩ (c_X4_whole l D cy H.size m3 l3 u3 mk3 mr3 fn3 x4_137 (3 : Int32) (by first | with_reducible assumption | omega | assumption) (by first | with_reducible assumption | omega | assumption)) (cwV 2 hts gX11_read_X4_whole rfl rfl rfl ⟨rfl, hd_X4_whole⟩ ⟨Nat.le_of_ble_eq_true rfl, Nat.le_of_ble_eq_true rfl⟩) ⟨bl_, va_recvX hK.1 hPx (ci := 4) (q0 := 17) rfl rfl, fun U hU hW => ⟨rfl, by rw [hU], by rw [hU]; exact hPc, kk_mv hW hK, hDw⟩⟩ rfl rfl hl.1 rfl (lv_room (Nat.le_of_ble_eq_true rfl)) dB_36_3_52.2.2.1.2 ⟨Nat.le_of_ble_eq_true rfl, Nat.le_of_ble_eq_true rfl⟩) hS (fun q _ h => hFc q h) hFc (fun r_147 u t H locs ht hvm hw hB hz1 hk1 hS => ?_)
                    have hP : va_P D vwCl _ H := ro_keep hP hk1
                    have f0_r_147 := hw
                    have v3_ : r_147 = (fn3 (5 * x4_137.toNatClampNeg + 3)).toInt32 := num32 f0_r_147 (by omega) (by omega)
                    have w3_ : r_147.toInt = (fn3 (5 * x4_137.toNatClampNeg + 3)).toInt := by rw [v3_]; exact l2iI (by omega) (by omega)
                    refine lv_aload_n hx hb dB_36_3_52.2.2.2.1 rfl (lv_at hl 2 rfl) ?_
                    refine lv_iload hx hb dB_36_3_52.2.2.2.2 (lv_at hl 0 rfl) ?_
                    refine lv_iconst (v := 4) hx hb dB_36_3_53.1.1.1 (by decide) ?_
                    have hPx := pp_left hP
                    have hDx := dd_left hD
                    refine ct_R hPx hDx [ob4_0_ m3 mk3 mr3 l3 u3, aj_ cy u3 30 fn3] [17, 25] (by decide) rfl (fun hPc hDw => ?_)
                    have hFc := va_free (wc := []) hD hS hA [] rfl
                    refine va_calli (va_runV (As := [.int x4_137, .int 4]) (rest := [.int r_147, .int r_146, .int r_145, .int r_144, .ref xo]) ⟨hx, hb, hml, hown, hts⟩ (c_X4_whole l D cy H.size m3 l3 u3 mk3 mr3 fn3 x4_137 (4 : Int32) (by first | with_reducible assumption | omega | assumption) (by first | with_reducible assumption | omega | assumption)) (cwV 2 hts gX11_read_X4_whole rfl rfl rfl ⟨rfl, hd_X4_whole⟩ ⟨Nat.le_of_ble_eq_true rfl, Nat.le_of_ble_eq_true rfl⟩) ⟨bl_, va_recvX hK.1 hPx (ci := 4) (q0 := 17) rfl rfl, fun U hU hW => ⟨rfl, by rw [hU], by rw [hU]; exact hPc, kk_mv hW hK, hDw⟩⟩ rfl rfl hl.1 rfl (lv_room (Nat.le_of_ble_eq_true rfl)) dB_36_3_53.1.1.2 ⟨Nat.le_of_ble_eq_true rfl, Nat.le_of_ble_eq_true rfl⟩) hS (fun q _ h => hFc q h) hFc (fun r_148 u t H locs ht hvm hw hB hz1 hk1 hS => ?_)
                    have hP : va_P D vwCl _ H := ro_keep hP hk1
                    have f0_r_148 := hw
                    have v4_ : r_148 = (fn3 (5 * x4_137.toNatClampNeg + 4)).toInt32 := num32 f0_r_148 (by omega) (by omega)
                    have w4_ : r_148.toInt = (fn3 (5 * x4_137.toNatClampNeg + 4)).toInt := by rw [v4_]; exact l2iI (by omega) (by omega)
                    have hPx := pp_left hP
                    have hDx := dd_left hD
                    refine ct_S hPx hDx hS hA [ob11_0_ xo xk xn xc xh xt xw xm xp o8_143 o9_143 tr r_140, ob3_0_ xn vp o1_137 n1 n2 n3 n4 n5, ai_ cy n1 40 c_n1_137, ai_ cy n2 40 c_n2_137, ai_ cy n3 40 c_n3_137, ai_ cy n4 40 c_n4_137, ai_ cy n5 40 c_n5_137, aq_ cy 3 xk 5 (kf_ k0 k1 k2 k3 k4), ob6_0_ k0, ob5_0_ k1, ob9_0_ k2, ob2_0_ k3, ob8_0_ k4] [0, 1, 2, 3, 4, 5, 6, 7, 8, 9, 10, 11, 12] (by decide +kernel) rfl (fun hPc hDw hFc hC_ => ?_)
                    refine va_calli (va_runV (As := [.int r_144, .int r_145, .int r_146, .int r_147, .int r_148]) (rest := []) ⟨hx, hb, hml, hown, hts⟩ (c_X11_addLine2 l D cy H.size xo xk xn xc xh xt xw xm xp o8_143 o9_143 tr r_140 n1 n2 n3 n4 n5 vp o1_137 c_n1_137 c_n2_137 c_n3_137 c_n4_137 c_n5_137 k0 k1 k2 k3 k4 r_144 r_145 r_146 r_147 r_148 (by first | with_reducible assumption | omega | assumption) (by first | with_reducible assumption | omega | assumption) (by first | with_reducible assumption | omega | assumption) (by first | with_reducible assumption | omega | assumption) (by first | with_reducible assumption | omega | assumption) (by first | with_reducible assumption | omega | assumption) (by first | with_reducible assumption | assumption | omega) (by first | with_reducible assumption | assumption | omega) (by first | with_reducible assumption | assumption | omega) (by first | with_reducible assumption | assumption | omega)) (cwV 5 hts gX11_read_X11_addLine rfl rfl rfl ⟨rfl, hd_X11_addLine⟩ ⟨Nat.le_of_ble_eq_true rfl, Nat.le_of_ble_eq_true rfl⟩) ⟨bl_, va_recvX hK.1 hPx (ci := 11) (q0 := 0) rfl rfl, fun U hU hW => ⟨rfl, by rw [hU], by rw [hU]; exact hPc, kk_mv hW hK, hDw⟩⟩ rfl rfl hl.1 rfl (lv_room (Nat.le_of_ble_eq_true rfl)) dB_36_3_53.1.2.1 ⟨Nat.le_of_ble_eq_true rfl, Nat.le_of_ble_eq_true rfl⟩) hS (fun q _ h => hFc q h) hFc (fun r_149 u t H locs ht hvm hw hB hz1 hk1 hS => ?_)
                    obtain ⟨evn_150, efk_151, efs_152, efe_153, efw_154, efp_155, g_156, g_157, g_158, g_159, g_160, g_161, hP1, hD1⟩ := hB
                    rw [ht] at hP1
                    obtain ⟨hP, hD⟩ := va_joinQ (wr := [aq_ cy 4 xm 4 (mf_ m0 m1 m2 m3), ob4_0_ m0 mk0 mr0 l0 u0, ob4_0_ m1 mk1 mr1 l1 u1, ob4_0_ m2 mk2 mr2 l2 u2, ob4_0_ m3 mk3 mr3 l3 u3, ai_ cy l0 6 fl0, ai_ cy l1 6 fl1, ai_ cy l2 6 fl2, ai_ cy l3 6 fl3, aj_ cy u0 30 fn0, aj_ cy u1 30 fn1, aj_ cy u2 30 fn2, aj_ cy u3 30 fn3, aq_ cy 5 xp 30 (pst p0_143 p3_143)]) (w1 := [ob11_0_ xo xk xn xc xh xt xw xm xp o8_143 o9_143 tr r_140, ob3_0_ xn vp evn_150 n1 n2 n3 n4 n5, ai_ cy n1 40 efk_151, ai_ cy n2 40 efs_152, ai_ cy n3 40 efe_153, ai_ cy n4 40 efw_154, ai_ cy n5 40 efp_155, aq_ cy 3 xk 5 (kf_ k0 k1 k2 k3 k4), ob6_0_ k0, ob5_0_ k1, ob9_0_ k2, ob2_0_ k3, ob8_0_ k4]) hP hD [0, 1, 2, 3, 4, 5, 6, 7, 8, 9, 10, 11, 12] [13, 14, 15, 16, 17, 18, 19, 20, 21, 22, 23, 24, 25, 26] hC_ rfl (by decide +kernel) (by decide +kernel) hk1 hFc hP1 hD1
                    refine pd_K (([aq_ cy 4 xm 4 (mf_ m0 m1 m2 m3), ob4_0_ m0 mk0 mr0 l0 u0, ob4_0_ m1 mk1 mr1 l1 u1, ob4_0_ m2 mk2 mr2 l2 u2, ob4_0_ m3 mk3 mr3 l3 u3, ai_ cy l0 6 fl0, ai_ cy l1 6 fl1, ai_ cy l2 6 fl2, ai_ cy l3 6 fl3, aj_ cy u0 30 fn0, aj_ cy u1 30 fn1, aj_ cy u2 30 fn2, aj_ cy u3 30 fn3, aq_ cy 5 xp 30 (pst p0_143 p3_143), ob11_0_ xo xk xn xc xh xt xw xm xp o8_143 o9_143 tr r_140, ob3_0_ xn vp evn_150 n1 n2 n3 n4 n5, ai_ cy n1 40 efk_151, ai_ cy n2 40 efs_152, ai_ cy n3 40 efe_153, ai_ cy n4 40 efw_154, ai_ cy n5 40 efp_155, aq_ cy 3 xk 5 (kf_ k0 k1 k2 k3 k4), ob6_0_ k0, ob5_0_ k1, ob9_0_ k2, ob2_0_ k3, ob8_0_ k4] : va_W) ++ (pool cy p0_143 p1_143 p2_143 p3_143)) hP hD (fun hP hD => ?_)
                    refine pd_P hP hD [ob11_0_ xo xk xn xc xh xt xw xm xp o8_143 o9_143 tr r_140, ob3_0_ xn vp evn_150 n1 n2 n3 n4 n5, ai_ cy n1 40 efk_151, ai_ cy n2 40 efs_152, ai_ cy n3 40 efe_153, ai_ cy n4 40 efw_154, ai_ cy n5 40 efp_155, aq_ cy 3 xk 5 (kf_ k0 k1 k2 k3 k4), ob6_0_ k0, ob5_0_ k1, ob9_0_ k2, ob2_0_ k3, ob8_0_ k4, aq_ cy 4 xm 4 (mf_ m0 m1 m2 m3), ob4_0_ m0 mk0 mr0 l0 u0, ob4_0_ m1 mk1 mr1 l1 u1, ob4_0_ m2 mk2 mr2 l2 u2, ob4_0_ m3 mk3 mr3 l3 u3, ai_ cy l0 6 fl0, ai_ cy l1 6 fl1, ai_ cy l2 6 fl2, ai_ cy l3 6 fl3, aj_ cy u0 30 fn0, aj_ cy u1 30 fn1, aj_ cy u2 30 fn2, aj_ cy u3 30 fn3, aq_ cy 5 xp 30 (pst p0_143 p3_143)] [14, 15, 16, 17, 18, 19, 20, 21, 22, 23, 24, 25, 26, 0, 1, 2, 3, 4, 5, 6, 7, 8, 9, 10, 11, 12, 13] (by decide +kernel) rfl (fun hP hD => ?_)
                    have f0_r_149 := hw
                    refine lv_pop hx hb dB_36_3_53.1.2.2 rfl ?_
                    have hnn_ : nok vp evn_150 efk_151 efs_152 efe_153 efw_154 efp_155 := ⟨hnk.1, by omega, g_159, g_157, g_160, g_161⟩
                    have hap_ : ∀ c2 : Int, c2 = x3_137.toInt + 1 → apC vn.toInt c2 fk fs fe fw fp efk_151 efs_152 efe_153 efw_154 efp_155 fn3 := fun c2 e2 => apC_st v10_137 v12_137 (by omega) (i := x4_137.toNatClampNeg) (by rw [clI (by omega)]; exact hlt3_.1) g_158 v0_ v1_ v2_ v3_ v4_ e2
                    obtain ⟨y_162, ey_162⟩ : ∃ y : Int32, y = x3_137 + 1 := ⟨_, rfl⟩
                    have ty_162 : y_162.toInt = x3_137.toInt + (1 : Int32).toInt := by rw [ey_162]; exact addI (by omega) (by omega)
                    refine lv_iinc (v := y_162) (lv' := [(3, .int y_162), (4, .int x4_137), (2, .ref m3), (0, .ref xo), (1, .int 3)]) hx hb dB_36_3_53.2.1.1 hl (k := 1) rfl (by rw [ey_162]; rfl) (by decide) rfl (fun ls hl => ?_)
                    obtain ⟨y_163, ey_163⟩ : ∃ y : Int32, y = x4_137 + 1 := ⟨_, rfl⟩
                    have ty_163 : y_163.toInt = x4_137.toInt + (1 : Int32).toInt := by rw [ey_163]; exact addI (by omega) (by omega)
                    refine lv_iinc (v := y_163) (lv' := [(4, .int y_163), (3, .int y_162), (2, .ref m3), (0, .ref xo), (1, .int 3)]) hx hb dB_36_3_53.2.1.2 hl (k := 1) rfl (by rw [ey_163]; rfl) (by decide) rfl (fun ls hl => ?_)
                    refine lv_goto (tgt := 43) hx hb dB_36_3_53.2.2.1 (by decide) ?_
                    exact ih_137 y_163 y_162 p0_143 p1_143 p2_143 p3_143 o8_143 o9_143 r_140 evn_150 efk_151 efs_152 efe_153 efw_154 efp_155 _ _ _ _ _ (by omega) (by first | with_reducible assumption | omega | assumption) (by first | with_reducible assumption | omega | assumption) (by first | with_reducible assumption | omega | assumption) (by first | with_reducible assumption | omega | assumption) (by first | exact hnn_ | assumption) (by first | with_reducible assumption | assumption | omega) (by first | with_reducible assumption | assumption | omega) (by first | with_reducible assumption | assumption | omega) (by first | with_reducible assumption | assumption | omega) (by first | exact hr0_ | exact rdl_ok v9_137 (by omega) (by omega) (hrc_.symm.trans (by omega)) (by omega) (by omega) (by omega) | exact rdl_no v9_137 (by omega) (by omega) hrc_.symm (by omega) (by omega)) (by first | exact apC_0 | exact hap_ _ (by omega) | assumption) (by first | exact chn_0 | exact chn_p (by omega) hrm_ | assumption) (by first | with_reducible assumption | omega | assumption) (by first | with_reducible assumption | assumption | exact rng_zero (by omega) (by omega) | exact orng_zero) (by first | with_reducible assumption | assumption | exact rng_zero (by omega) (by omega) | exact orng_zero) (by first | with_reducible assumption | assumption | exact rng_zero (by omega) (by omega) | exact orng_zero) ⟨hP, hD⟩ hS (lv_sub hl [0, 1, 2, 3, 4] rfl)
                  refine lv_iload_n hx hb dB_36_3_51.2.1.1.2 rfl (lv_at hl 1 rfl) ?_
                  refine lv_if_ne (tgt := 85) hx hb dB_36_3_51.2.1.2.1 (by decide) (fun c_164 => ?_) (fun c_164 => ?_)
                  · have t_164 : ¬ x3_137.toInt = (0 : Int32).toInt := fun h => c_164 (Int32.toInt_inj.mp h)
                    refine W.widen (k := 6) (n := 207) (by omega) (by omega) ?_
                    exact JOIN_143 p0_137 p1_137 p2_137 p3_137 o8_137 o9_137 _ _ _ (by first | with_reducible assumption | assumption | omega) (by first | with_reducible assumption | assumption | omega) (by first | exact (v11_137).2 (by omega) | exact chn_z v11_137 (by omega) of_none) ⟨hP, hD⟩ hS (lv_sub hl [0, 1, 2, 3, 4] rfl)
                  · have t_164 : x3_137.toInt = (0 : Int32).toInt := congrArg Int32.toInt c_164
                    refine lv_aload_n hx hb dB_36_3_51.2.1.2.2 rfl (lv_at hl 3 rfl) ?_
                    refine ct_P hP hD hS hA [ob11_0_ xo xk xn xc xh xt xw xm xp o8_137 o9_137 tr r_140, ob3_0_ xn vp o1_137 n1 n2 n3 n4 n5, ai_ cy n1 40 c_n1_137, ai_ cy n2 40 c_n2_137, ai_ cy n3 40 c_n3_137, ai_ cy n4 40 c_n4_137, ai_ cy n5 40 c_n5_137, aq_ cy 5 xp 30 (pst p0_137 p3_137)] [0, 1, 2, 3, 4, 5, 6, 26] (by decide) rfl (fun hPc hDw hFc hC_ => ?_)
                    have hPx := pp_left hP
                    refine va_callv (va_runV (As := []) (rest := []) ⟨hx, hb, hml, hown, hts⟩ (c_X11_remember2 l D cy H.size xo xk xn xc xh xt xw xm xp o8_137 o9_137 tr r_140 n1 n2 n3 n4 n5 vp o1_137 c_n1_137 c_n2_137 c_n3_137 c_n4_137 c_n5_137 p0_137 p1_137 p2_137 p3_137 (by first | with_reducible assumption | assumption | omega) (by first | with_reducible assumption | assumption | omega) (by first | with_reducible assumption | assumption | omega) (by first | with_reducible assumption | assumption | omega) (by first | with_reducible assumption | assumption | omega) (by first | with_reducible assumption | assumption | omega) (by first | with_reducible assumption | assumption | omega)) (cwV 0 hts gX11_read_X11_remember rfl rfl rfl ⟨rfl, hd_X11_remember⟩ ⟨Nat.le_of_ble_eq_true rfl, Nat.le_of_ble_eq_true rfl⟩) ⟨bl_, va_recvX hK.1 hPx (ci := 11) (q0 := 0) rfl rfl, fun U hU hW => ⟨rfl, by rw [hU], by rw [hU]; exact hPc, kk_mv hW hK, hDw⟩⟩ rfl rfl hl.1 rfl (lv_room (Nat.le_of_ble_eq_true rfl)) dB_36_3_51.2.2.1.1 ⟨(by show _ ≤ 6; omega), (by show _ ≤ 207; omega)⟩) hS (fun q _ h => hFc q h) hFc (fun u t H locs ht hvm hw hB hz1 hk1 hS => ?_)
                    obtain ⟨epf_166, eph_167, epa_168, epv_169, epg_170, epm_171, g_172, g_173, g_174, g_175, hP1, hD1⟩ := hB
                    rw [ht] at hP1
                    obtain ⟨hP, hD⟩ := va_joinP (wr := [aq_ cy 3 xk 5 (kf_ k0 k1 k2 k3 k4), ob6_0_ k0, ob5_0_ k1, ob9_0_ k2, ob2_0_ k3, ob8_0_ k4, aq_ cy 4 xm 4 (mf_ m0 m1 m2 m3), ob4_0_ m0 mk0 mr0 l0 u0, ob4_0_ m1 mk1 mr1 l1 u1, ob4_0_ m2 mk2 mr2 l2 u2, ob4_0_ m3 mk3 mr3 l3 u3, ai_ cy l0 6 fl0, ai_ cy l1 6 fl1, ai_ cy l2 6 fl2, ai_ cy l3 6 fl3, aj_ cy u0 30 fn0, aj_ cy u1 30 fn1, aj_ cy u2 30 fn2, aj_ cy u3 30 fn3]) (rx := [ob11_0_ xo xk xn xc xh xt xw xm xp epf_166 eph_167 tr r_140, ob3_0_ xn vp o1_137 n1 n2 n3 n4 n5, ai_ cy n1 40 c_n1_137, ai_ cy n2 40 c_n2_137, ai_ cy n3 40 c_n3_137, ai_ cy n4 40 c_n4_137, ai_ cy n5 40 c_n5_137, aq_ cy 5 xp 30 (pst epa_168 epm_171)]) (pl1 := (pool cy epa_168 epv_169 epg_170 epm_171)) hP hD [0, 1, 2, 3, 4, 5, 6, 26] [7, 8, 9, 10, 11, 12, 13, 14, 15, 16, 17, 18, 19, 20, 21, 22, 23, 24, 25] hC_ rfl (by decide +kernel) (by decide +kernel) hk1 hFc hP1 hD1
                    refine pd_K (([aq_ cy 3 xk 5 (kf_ k0 k1 k2 k3 k4), ob6_0_ k0, ob5_0_ k1, ob9_0_ k2, ob2_0_ k3, ob8_0_ k4, aq_ cy 4 xm 4 (mf_ m0 m1 m2 m3), ob4_0_ m0 mk0 mr0 l0 u0, ob4_0_ m1 mk1 mr1 l1 u1, ob4_0_ m2 mk2 mr2 l2 u2, ob4_0_ m3 mk3 mr3 l3 u3, ai_ cy l0 6 fl0, ai_ cy l1 6 fl1, ai_ cy l2 6 fl2, ai_ cy l3 6 fl3, aj_ cy u0 30 fn0, aj_ cy u1 30 fn1, aj_ cy u2 30 fn2, aj_ cy u3 30 fn3, ob11_0_ xo xk xn xc xh xt xw xm xp epf_166 eph_167 tr r_140, ob3_0_ xn vp o1_137 n1 n2 n3 n4 n5, ai_ cy n1 40 c_n1_137, ai_ cy n2 40 c_n2_137, ai_ cy n3 40 c_n3_137, ai_ cy n4 40 c_n4_137, ai_ cy n5 40 c_n5_137, aq_ cy 5 xp 30 (pst epa_168 epm_171)] : va_W) ++ (pool cy epa_168 epv_169 epg_170 epm_171)) hP hD (fun hP hD => ?_)
                    refine pd_P hP hD [ob11_0_ xo xk xn xc xh xt xw xm xp epf_166 eph_167 tr r_140, ob3_0_ xn vp o1_137 n1 n2 n3 n4 n5, ai_ cy n1 40 c_n1_137, ai_ cy n2 40 c_n2_137, ai_ cy n3 40 c_n3_137, ai_ cy n4 40 c_n4_137, ai_ cy n5 40 c_n5_137, aq_ cy 3 xk 5 (kf_ k0 k1 k2 k3 k4), ob6_0_ k0, ob5_0_ k1, ob9_0_ k2, ob2_0_ k3, ob8_0_ k4, aq_ cy 4 xm 4 (mf_ m0 m1 m2 m3), ob4_0_ m0 mk0 mr0 l0 u0, ob4_0_ m1 mk1 mr1 l1 u1, ob4_0_ m2 mk2 mr2 l2 u2, ob4_0_ m3 mk3 mr3 l3 u3, ai_ cy l0 6 fl0, ai_ cy l1 6 fl1, ai_ cy l2 6 fl2, ai_ cy l3 6 fl3, aj_ cy u0 30 fn0, aj_ cy u1 30 fn1, aj_ cy u2 30 fn2, aj_ cy u3 30 fn3, aq_ cy 5 xp 30 (pst epa_168 epm_171)] [19, 20, 21, 22, 23, 24, 25, 0, 1, 2, 3, 4, 5, 6, 7, 8, 9, 10, 11, 12, 13, 14, 15, 16, 17, 18, 26] (by decide +kernel) rfl (fun hP hD => ?_)
                    refine W.widen (k := 6) (n := 207) (by omega) (by omega) ?_
                    exact JOIN_143 epa_168 epv_169 epg_170 epm_171 epf_166 eph_167 _ _ _ (by first | with_reducible assumption | assumption | omega) (by first | with_reducible assumption | assumption | omega) (by first | exact (v11_137).2 (by omega) | exact chn_z v11_137 (by omega) g_175) ⟨hP, hD⟩ hS (lv_sub hl [0, 1, 2, 3, 4] rfl)
        refine lv_aload_n hx hb dB_36_3_49.2.2.2.1 rfl (lv_at hl 0 rfl) ?_
        have hPx := pp_left hP
        have hDx := dd_left hD
        refine ct_R hPx hDx [ob4_0_ m3 mk3 mr3 l3 u3] [17] (by decide) rfl (fun hPc hDw => ?_)
        have hFc := va_free (wc := []) hD hS hA [] rfl
        refine va_calli (va_runV (As := []) (rest := [.ref xo]) ⟨hx, hb, hml, hown, hts⟩ (c_X4_isThere l D cy H.size m3 l3 u3 mk3 mr3) (cwV 0 hts gX11_read_X4_isThere rfl rfl rfl ⟨rfl, hd_X4_isThere⟩ ⟨Nat.le_of_ble_eq_true rfl, Nat.le_of_ble_eq_true rfl⟩) ⟨bl_, va_recvX hK.1 hPx (ci := 4) (q0 := 17) rfl rfl, fun U hU hW => ⟨rfl, by rw [hU], by rw [hU]; exact hPc, kk_mv hW hK, hDw⟩⟩ rfl rfl hl.1 rfl (lv_room (Nat.le_of_ble_eq_true rfl)) dB_36_3_49.2.2.2.2 ⟨Nat.le_of_ble_eq_true rfl, Nat.le_of_ble_eq_true rfl⟩) hS (fun q _ h => hFc q h) hFc (fun r_176 u t H locs ht hvm hw hB hz1 hk1 hS => ?_)
        have hP : va_P D vwCl _ H := ro_keep hP hk1
        rcases hw with ⟨w_177, e_⟩ | ⟨w_177, e_⟩
        · have e_ := e_.symm
          subst e_
          refine lv_if_eq (tgt := 33) hx hb dB_36_3_50.1.1.1.1 (by decide) (fun c_178 => ?_) (fun c_178 => ?_)
          · exact absurd c_178 (by decide)
          · have _ := c_178
            refine lv_iconst (v := 0) hx hb dB_36_3_50.1.1.1.2 (by decide) ?_
            refine lv_goto (tgt := 35) hx hb dB_36_3_50.1.1.2.1 (by decide) ?_
            exact JOIN_136 (0 : Int32) _ _ _ (by first | with_reducible assumption | assumption | omega) ⟨hP, hD⟩ hS (lv_sub hl [0, 1, 2] rfl)
        · have e_ := e_.symm
          subst e_
          refine lv_if_eq (tgt := 33) hx hb dB_36_3_50.1.1.1.1 (by decide) (fun c_179 => ?_) (fun c_179 => ?_)
          · have _ := c_179
            refine lv_bipush (v := (-11)) hx hb dB_36_3_50.1.1.2.2 (by decide) ?_
            exact JOIN_136 ((-11) : Int32) _ _ _ (by first | with_reducible assumption | assumption | omega) ⟨hP, hD⟩ hS (lv_sub hl [0, 1, 2] rfl)
          · exact absurd c_179 (by decide)
    · exact absurd c_3 (by decide)
  · have e_ := e_.symm
    subst e_
    refine lv_if_ne (tgt := 14) hx hb dB_36_3_49.1.1.2.1 (by decide) (fun c_180 => ?_) (fun c_180 => ?_)
    · exact absurd c_180 (by decide)
    · have _ := c_180
      refine lv_aload_n hx hb dB_36_3_49.1.1.2.2 rfl (lv_at hl 0 rfl) ?_
      refine lv_iconst (v := (-1)) hx hb dB_36_3_49.1.2.1.1 (by decide) ?_
      refine va_put (ci := 11) (v := .int (-1)) (ty := .int) (C := RX11) (T := TX11) (N := 12) hx hb hts (fun _ h => List.mem_cons_of_mem _ (List.mem_append_left _ (List.mem_append_left _ (List.mem_append_right _ h)))) tyX11 tyX11_ok nmX11 hown hK.1 hP hD hS 0 rfl rfl 11 (by decide) (hts (.fieldLink RX11 91 "CutAtlas" "finding" "I") (List.mem_of_getElem? (i := 1) rfl)) (fun _ h9 => h9) rfl (by decide +kernel) rfl rfl (Nat.le_of_ble_eq_true rfl) dB_36_3_49.1.2.1.2 (fun H locs hP hD hS => ?_)
      refine pd_K (([ob11_0_ xo xk xn xc xh xt xw xm xp pf ph tr (-1), ob3_0_ xn vp vn n1 n2 n3 n4 n5, ai_ cy n1 40 fk, ai_ cy n2 40 fs, ai_ cy n3 40 fe, ai_ cy n4 40 fw, ai_ cy n5 40 fp, aq_ cy 3 xk 5 (kf_ k0 k1 k2 k3 k4), ob6_0_ k0, ob5_0_ k1, ob9_0_ k2, ob2_0_ k3, ob8_0_ k4, aq_ cy 4 xm 4 (mf_ m0 m1 m2 m3), ob4_0_ m0 mk0 mr0 l0 u0, ob4_0_ m1 mk1 mr1 l1 u1, ob4_0_ m2 mk2 mr2 l2 u2, ob4_0_ m3 mk3 mr3 l3 u3, ai_ cy l0 6 fl0, ai_ cy l1 6 fl1, ai_ cy l2 6 fl2, ai_ cy l3 6 fl3, aj_ cy u0 30 fn0, aj_ cy u1 30 fn1, aj_ cy u2 30 fn2, aj_ cy u3 30 fn3, aq_ cy 5 xp 30 (pst pa pm)] : va_W) ++ (pool cy pa pv pg pm)) hP hD (fun hP hD => ?_)
      refine lv_iconst (v := (-1)) hx hb dB_36_3_49.1.2.2.1 (by decide) ?_
      refine W.widen (k := 6) (n := 207) (Nat.le_of_ble_eq_true rfl) (Nat.le_of_ble_eq_true rfl) ?_
      rw [hQ]
      exact W.iret (v := (-1)) hx hb hr (fun t ht hW => ⟨⟨(-1), (), rfl, (by first | exact ⟨fun _ => by decide, fun h => absurd h (by omega), fun h => absurd h (by omega)⟩ | (refine ⟨fun h => absurd (by decide) h, ?_, ?_⟩ <;> rw [f4_c0] <;> first | exact fun _ h => absurd h (by omega) | exact fun _ h => by omega | (rw [f4_c0, f4_c0]; exact fun _ _ => ⟨_, rdl_end v_none (by omega) (by omega)⟩)) | (refine ⟨fun h => absurd (by decide) h, ?_, ?_⟩ <;> rw [f4_c1] <;> first | exact fun _ h => absurd h (by omega) | exact fun _ h => by omega | (rw [f4_c1, f4_c1]; exact fun _ _ => ⟨_, rdl_end v_none (by omega) (by omega)⟩)) | (refine ⟨fun h => absurd (by decide) h, ?_, ?_⟩ <;> rw [f4_c2] <;> first | exact fun _ h => absurd h (by omega) | exact fun _ h => by omega | (rw [f4_c2, f4_c2]; exact fun _ _ => ⟨_, rdl_end v_none (by omega) (by omega)⟩)) | (refine ⟨fun h => absurd (by decide) h, ?_, ?_⟩ <;> rw [f4_c3] <;> first | exact fun _ h => absurd h (by omega) | exact fun _ h => by omega | (rw [f4_c3, f4_c3]; exact fun _ _ => ⟨_, rdl_end v_none (by omega) (by omega)⟩))), pf, ph, ((-1) : Int32), vn, fk, fs, fe, fw, fp, pa, pv, pg, pm, (by first | exact hnk | assumption), (by assumption), (by assumption), (by first | exact ⟨fun _ => ⟨by decide, chn_0⟩, fun h => absurd h (by omega), fun h => absurd h (by omega)⟩ | (refine ⟨fun h => absurd (by decide) h, ?_, ?_⟩ <;> rw [f4_c0] <;> first | exact fun _ h => absurd h (by omega) | exact fun _ h => ⟨by omega, chn_s v_none (by omega)⟩ | (rw [f4_c0, f4_c0]; exact fun _ _ => ⟨_, rdl_end v_none (by omega) (by omega), v_none, v_none, by omega⟩)) | (refine ⟨fun h => absurd (by decide) h, ?_, ?_⟩ <;> rw [f4_c1] <;> first | exact fun _ h => absurd h (by omega) | exact fun _ h => ⟨by omega, chn_s v_none (by omega)⟩ | (rw [f4_c1, f4_c1]; exact fun _ _ => ⟨_, rdl_end v_none (by omega) (by omega), v_none, v_none, by omega⟩)) | (refine ⟨fun h => absurd (by decide) h, ?_, ?_⟩ <;> rw [f4_c2] <;> first | exact fun _ h => absurd h (by omega) | exact fun _ h => ⟨by omega, chn_s v_none (by omega)⟩ | (rw [f4_c2, f4_c2]; exact fun _ _ => ⟨_, rdl_end v_none (by omega) (by omega), v_none, v_none, by omega⟩)) | (refine ⟨fun h => absurd (by decide) h, ?_, ?_⟩ <;> rw [f4_c3] <;> first | exact fun _ h => absurd h (by omega) | exact fun _ h => ⟨by omega, chn_s v_none (by omega)⟩ | (rw [f4_c3, f4_c3]; exact fun _ _ => ⟨_, rdl_end v_none (by omega) (by omega), v_none, v_none, by omega⟩))), by rw [ht]; exact hP, hD⟩, hS.F ht⟩) hS.2.2 dB_36_3_49.1.2.2.2
end
