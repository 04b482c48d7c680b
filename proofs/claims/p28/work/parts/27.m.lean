set_option maxHeartbeats 4000000 in
set_option maxRecDepth 100000 in
theorem c_X12_refused (l : Launch) (D : va_G) (cy : Nat → ClassId) (sz : Nat) (mo : Nat) (g5 : Nat) (g6 : Nat) (g7 : Nat) (g8 : Nat) (g9 : Nat) (g10 : Nat) (g12 : Nat) (g13 : Nat) (g14 : Nat) (g15 : Nat) (g16 : Nat) (g17 : Nat) (g18 : Nat) (g19 : Nat) (g20 : Nat) (g22 : Nat) (g23 : Nat) (g24 : Nat) (g29 : Nat) (g30 : Nat) (g31 : Nat) (g32 : Nat) (g33 : Nat) (s0 : Int32) (s1 : Int32) (s3 : Int32) (s4 : Int32) (s11 : Int32) (s21 : Int32) (s25 : Int32) (s26 : Int32) (s27 : Int32) (s28 : Int32) (t2 : Int64) (a1 : Int64) (a2 : Int64) (a3 : Int64) (a4 : Int64) (a5 : Int64) (hN : 0 ≤ s4.toInt ∧ s4.toInt ≤ 40) (hPl : 0 ≤ s3.toInt ∧ s3.toInt ≤ 12) : Met l yX12_refused wsX12_refused ({ frames := 1, cells := 0, slots := 0, locals := 25 }) (va_Pc [.ref mo, .long a1, .long a2, .long a3, .long a4, .long a5] (fun U => U.heap.size = sz ∧ va_P D vwCl [(mo, .inr (12, [.int s0, .int s1, .long t2, .int s3, .int s4, .ref g5, .ref g6, .ref g7, .ref g8, .ref g9, .ref g10, .int s11, .ref g12, .ref g13, .ref g14, .ref g15, .ref g16, .ref g17, .ref g18, .ref g19, .ref g20, .int s21, .ref g22, .ref g23, .ref g24, .int s25, .int s26, .int s27, .int s28, .ref g29, .ref g30, .ref g31, .ref g32, .ref g33]))] U.heap ∧ kk_ D cy U ∧ va_D (fun _ => True) [(mo, .inr (12, [.int s0, .int s1, .long t2, .int s3, .int s4, .ref g5, .ref g6, .ref g7, .ref g8, .ref g9, .ref g10, .int s11, .ref g12, .ref g13, .ref g14, .ref g15, .ref g16, .ref g17, .ref g18, .ref g19, .ref g20, .int s21, .ref g22, .ref g23, .ref g24, .int s25, .int s26, .int s27, .int s28, .ref g29, .ref g30, .ref g31, .ref g32, .ref g33]))])) (va_Qi (fun (r : Int32) (_ : Unit) => ((¬ ((0 ≤ a1.toInt ∧ a1.toInt ≤ 4) ∧ (0 ≤ a2.toInt ∧ a2.toInt < s3.toInt) ∧ (0 ≤ a3.toInt ∧ a3.toInt < s3.toInt) ∧ a2.toInt ≠ a3.toInt ∧ (0 ≤ a4.toInt ∧ a4.toInt ≤ 1000) ∧ (0 ≤ a5.toInt ∧ a5.toInt ≤ 100))) ∧ r = (-1)) ∨ ((((0 ≤ a1.toInt ∧ a1.toInt ≤ 4) ∧ (0 ≤ a2.toInt ∧ a2.toInt < s3.toInt) ∧ (0 ≤ a3.toInt ∧ a3.toInt < s3.toInt) ∧ a2.toInt ≠ a3.toInt ∧ (0 ≤ a4.toInt ∧ a4.toInt ≤ 1000) ∧ (0 ≤ a5.toInt ∧ a5.toInt ≤ 100)) ∧ s4.toInt = 40) ∧ r = (-3)) ∨ ((((0 ≤ a1.toInt ∧ a1.toInt ≤ 4) ∧ (0 ≤ a2.toInt ∧ a2.toInt < s3.toInt) ∧ (0 ≤ a3.toInt ∧ a3.toInt < s3.toInt) ∧ a2.toInt ≠ a3.toInt ∧ (0 ≤ a4.toInt ∧ a4.toInt ≤ 1000) ∧ (0 ≤ a5.toInt ∧ a5.toInt ≤ 100)) ∧ s4.toInt < 40) ∧ r = 0)) (fun (_ : Unit) (_ : State) => True) (va_A [] sz)) 0 0 (va_A [] sz) := by
  refine ofQ (cc := cX12_refused) (maxL := 12) (ret := (some .int)) (by decide) rfl ?_
  intro p e s m args below meth c s₁ Q hQ B hml hv
  obtain ⟨rfl, hsz, hP, hK, hD0⟩ := hv
  have hx := B.exec
  have hb := B.bytes
  have hr := B.returns
  have hts := atoms_spec (ws := wsX12_refused) B.pre
  have hown : s.vm.findClass RX12 = some m.cls := by have h_ := findClass_of_methodNamed B.named; exact h_
  have hlocks := B.notSynchronized
  subst hsz
  have hD : va_D (va_A [] s.heap.size) [] := dd_nil
  generalize hAe : va_A [] s.heap.size = A at hD hQ
  have hA : ∀ q : Nat, s.heap.size ≤ q → A q := fun q h => by rw [← hAe]; exact Or.inr h
  have hS : va_S A s.heap s.heap [] := va_S.rf
  have hl := lv_entry ([.ref mo, .long a1, .long a2, .long a3, .long a4, .long a5]) (n := 12) (Nat.le_of_ble_eq_true rfl)
  rw [lg_entry_eq]
  generalize (lg_sl ([.ref mo, .long a1, .long a2, .long a3, .long a4, .long a5]) ++ List.replicate (12 - (lg_sl ([.ref mo, .long a1, .long a2, .long a3, .long a4, .long a5])).length) Slot.unset).toArray = ls at hl ⊢
  have hl : lv_has ls 12 [(0, .ref mo), (1, .long a1), (3, .long a2), (5, .long a3), (7, .long a4), (9, .long a5)] := hl
  have zm3 : ((-3) : Int32).toInt = -3 := by decide
  have zm1 : ((-1) : Int32).toInt = -1 := by decide
  have z0 : (0 : Int32).toInt = 0 := by decide
  have zl0 : (0 : Int64).toInt = 0 := by decide
  have z1 : (1 : Int32).toInt = 1 := by decide
  have zl4 : (4 : Int64).toInt = 4 := by decide
  have z40 : (40 : Int32).toInt = 40 := by decide
  have zl100 : (100 : Int64).toInt = 100 := by decide
  have zl1000 : (1000 : Int64).toInt = 1000 := by decide
  refine lv_lload_n hx hb dX12_refused_0 rfl (lv_at hl 1 rfl) ?_
  refine lv_lconst (v := 0) hx hb dX12_refused_1 (by decide) ?_
  refine lv_ldc2 (v := 4) hx hb hown (hts (.constantLong RX12 108 (4)) (by decide +kernel)) dX12_refused_2 ?_
  refine ct_R hP hD0 [] [] (by decide) rfl (fun hPc hDw => ?_)
  have hFc := va_free (wc := []) hD hS hA [] rfl
  refine va_calli (va_runS (As := [.long a1, .long 0, .long 4]) (rest := []) ⟨hx, hb, hml, hown, hts⟩ (c_X12_in l D cy s.heap.size a1 (0 : Int64) (4 : Int64)) (va_cwS 3 hts gX12_refused_X12_in rfl rfl rfl (by decide +kernel) ⟨Nat.le_of_ble_eq_true rfl, Nat.le_of_ble_eq_true rfl⟩) ⟨bl_, fun U hU hW => ⟨rfl, by rw [hU], by rw [hU]; exact hPc, kk_mv hW hK, hDw⟩⟩ rfl rfl hl.1 rfl (lv_room (Nat.le_of_ble_eq_true rfl)) dX12_refused_5 ⟨Nat.le_of_ble_eq_true rfl, Nat.le_of_ble_eq_true rfl⟩) hS (fun q _ h => hFc q h) hFc (fun r_1 u t H locs ht hvm hw hB hz1 hk1 hS => ?_)
  have hP : va_P D vwCl _ H := ro_keep hP hk1
  rcases hw with ⟨w_2, e_⟩ | ⟨w_2, e_⟩
  · have e_ := e_.symm
    subst e_
    refine lv_if_eq (tgt := 77) hx hb dX12_refused_8 (by decide) (fun c_3 => ?_) (fun c_3 => ?_)
    · exact absurd c_3 (by decide)
    · have _ := c_3
      refine lv_lload_n hx hb dX12_refused_11 rfl (lv_at hl 2 rfl) ?_
      refine lv_lconst (v := 0) hx hb dX12_refused_12 (by decide) ?_
      refine lv_aload_n hx hb dX12_refused_13 rfl (lv_at hl 0 rfl) ?_
      refine va_get (ci := 12) (v := .int s3) (C := RX12) (T := TX12) (N := 34) hx hb hts (fun _ h => List.mem_cons_of_mem _ (List.mem_append_right _ h)) hown hK.1 hP 0 rfl rfl 3 (by decide) (hts (.fieldLink RX12 88 "CutAtlasModel" "places" "I") (by decide +kernel)) (fun _ h9 => h9) rfl dX12_refused_14 ?_
      refine lv_iconst (v := 1) hx hb dX12_refused_17 (by decide) ?_
      refine lv_isub hx hb dX12_refused_18 ?_
      refine lv_topi (fun y_4 ey_4 => ?_)
      have ty_4 : y_4.toInt = s3.toInt - (1 : Int32).toInt := by rw [ey_4]; exact subI (by omega) (by omega)
      refine lv_i2l (v := y_4.toInt64) hx hb dX12_refused_19 rfl ?_
      have q_19 : (y_4.toInt64).toInt = y_4.toInt := Int32.toInt_toInt64 y_4
      refine ct_R hP hD0 [] [] (by decide) rfl (fun hPc hDw => ?_)
      have hFc := va_free (wc := []) hD hS hA [] rfl
      refine va_calli (va_runS (As := [.long a2, .long 0, .long y_4.toInt64]) (rest := []) ⟨hx, hb, hml, hown, hts⟩ (c_X12_in l D cy H.size a2 (0 : Int64) y_4.toInt64) (va_cwS 3 hts gX12_refused_X12_in rfl rfl rfl (by decide +kernel) ⟨Nat.le_of_ble_eq_true rfl, Nat.le_of_ble_eq_true rfl⟩) ⟨bl_, fun U hU hW => ⟨rfl, by rw [hU], by rw [hU]; exact hPc, kk_mv hW hK, hDw⟩⟩ rfl rfl hl.1 rfl (lv_room (Nat.le_of_ble_eq_true rfl)) dX12_refused_20 ⟨Nat.le_of_ble_eq_true rfl, Nat.le_of_ble_eq_true rfl⟩) hS (fun q _ h => hFc q h) hFc (fun r_5 u t H locs ht hvm hw hB hz1 hk1 hS => ?_)
      have hP : va_P D vwCl _ H := ro_keep hP hk1
      rcases hw with ⟨w_6, e_⟩ | ⟨w_6, e_⟩
      · have e_ := e_.symm
        subst e_
        refine lv_if_eq (tgt := 77) hx hb dX12_refused_23 (by decide) (fun c_7 => ?_) (fun c_7 => ?_)
        · exact absurd c_7 (by decide)
        · have _ := c_7
          refine lv_lload hx hb dX12_refused_26 (lv_at hl 3 rfl) ?_
          refine lv_lconst (v := 0) hx hb dX12_refused_28 (by decide) ?_
          refine lv_aload_n hx hb dX12_refused_29 rfl (lv_at hl 0 rfl) ?_
          refine va_get (ci := 12) (v := .int s3) (C := RX12) (T := TX12) (N := 34) hx hb hts (fun _ h => List.mem_cons_of_mem _ (List.mem_append_right _ h)) hown hK.1 hP 0 rfl rfl 3 (by decide) (hts (.fieldLink RX12 88 "CutAtlasModel" "places" "I") (by decide +kernel)) (fun _ h9 => h9) rfl dX12_refused_30 ?_
          refine lv_iconst (v := 1) hx hb dX12_refused_33 (by decide) ?_
          refine lv_isub hx hb dX12_refused_34 ?_
          refine lv_topi (fun y_8 ey_8 => ?_)
          have e_ := (ey_8.trans ey_4.symm).symm
          subst e_
          refine lv_i2l (v := y_4.toInt64) hx hb dX12_refused_35 rfl ?_
          have q_35 : (y_4.toInt64).toInt = y_4.toInt := Int32.toInt_toInt64 y_4
          refine ct_R hP hD0 [] [] (by decide) rfl (fun hPc hDw => ?_)
          have hFc := va_free (wc := []) hD hS hA [] rfl
          refine va_calli (va_runS (As := [.long a3, .long 0, .long y_4.toInt64]) (rest := []) ⟨hx, hb, hml, hown, hts⟩ (c_X12_in l D cy H.size a3 (0 : Int64) y_4.toInt64) (va_cwS 3 hts gX12_refused_X12_in rfl rfl rfl (by decide +kernel) ⟨Nat.le_of_ble_eq_true rfl, Nat.le_of_ble_eq_true rfl⟩) ⟨bl_, fun U hU hW => ⟨rfl, by rw [hU], by rw [hU]; exact hPc, kk_mv hW hK, hDw⟩⟩ rfl rfl hl.1 rfl (lv_room (Nat.le_of_ble_eq_true rfl)) dX12_refused_36 ⟨Nat.le_of_ble_eq_true rfl, Nat.le_of_ble_eq_true rfl⟩) hS (fun q _ h => hFc q h) hFc (fun r_9 u t H locs ht hvm hw hB hz1 hk1 hS => ?_)
          have hP : va_P D vwCl _ H := ro_keep hP hk1
          rcases hw with ⟨w_10, e_⟩ | ⟨w_10, e_⟩
          · have e_ := e_.symm
            subst e_
            refine lv_if_eq (tgt := 77) hx hb dX12_refused_39 (by decide) (fun c_11 => ?_) (fun c_11 => ?_)
            · exact absurd c_11 (by decide)
            · have _ := c_11
              refine lv_lload_n hx hb dX12_refused_42 rfl (lv_at hl 2 rfl) ?_
              refine lv_lload hx hb dX12_refused_43 (lv_at hl 3 rfl) ?_
              refine W.lcmp hx hb dX12_refused_45 ?_
              refine lv_if_eq (tgt := 77) hx hb dX12_refused_46 (by decide) (fun c_12 => ?_) (fun c_12 => ?_)
              · have t_12 : a2.toInt = a3.toInt := congrArg Int64.toInt ((lg_cmp_eq a2 a3).mp c_12)
                refine lv_iconst (v := 0) hx hb dX12_refused_77 (by decide) ?_
                refine lv_istore (lv' := [(11, .int 0), (0, .ref mo), (1, .long a1), (3, .long a2), (5, .long a3), (7, .long a4), (9, .long a5)]) hx hb dX12_refused_78 hl (by decide) rfl (fun ls hl => ?_)
                refine lv_iload hx hb dX12_refused_80 (lv_at hl 0 rfl) ?_
                refine lv_if_ne (tgt := 89) hx hb dX12_refused_82 (by decide) (fun c_13 => ?_) (fun c_13 => ?_)
                · exact absurd c_13 (by decide)
                · have _ := c_13
                  refine lv_iconst (v := (-1)) hx hb dX12_refused_85 (by decide) ?_
                  refine lv_goto (tgt := 104) hx hb dX12_refused_86 (by decide) ?_
                  rw [hQ]
                  exact W.iret (v := (-1)) hx hb hr (fun t ht hW => ⟨⟨(-1), (), rfl, Or.inl (⟨by omega, rfl⟩), trivial⟩, hS.F ht⟩) hS.2.2 dX12_refused_104
              · have t_12 : ¬ a2.toInt = a3.toInt := fun h => c_12 ((lg_cmp_eq a2 a3).mpr (Int64.toInt_inj.mp h))
                refine lv_lload hx hb dX12_refused_49 (lv_at hl 4 rfl) ?_
                refine lv_lconst (v := 0) hx hb dX12_refused_51 (by decide) ?_
                refine lv_ldc2 (v := 1000) hx hb hown (hts (.constantLong RX12 110 (1000)) (by decide +kernel)) dX12_refused_52 ?_
                refine ct_R hP hD0 [] [] (by decide) rfl (fun hPc hDw => ?_)
                have hFc := va_free (wc := []) hD hS hA [] rfl
                refine va_calli (va_runS (As := [.long a4, .long 0, .long 1000]) (rest := []) ⟨hx, hb, hml, hown, hts⟩ (c_X12_in l D cy H.size a4 (0 : Int64) (1000 : Int64)) (va_cwS 3 hts gX12_refused_X12_in rfl rfl rfl (by decide +kernel) ⟨Nat.le_of_ble_eq_true rfl, Nat.le_of_ble_eq_true rfl⟩) ⟨bl_, fun U hU hW => ⟨rfl, by rw [hU], by rw [hU]; exact hPc, kk_mv hW hK, hDw⟩⟩ rfl rfl hl.1 rfl (lv_room (Nat.le_of_ble_eq_true rfl)) dX12_refused_55 ⟨Nat.le_of_ble_eq_true rfl, Nat.le_of_ble_eq_true rfl⟩) hS (fun q _ h => hFc q h) hFc (fun r_14 u t H locs ht hvm hw hB hz1 hk1 hS => ?_)
                have hP : va_P D vwCl _ H := ro_keep hP hk1
                rcases hw with ⟨w_15, e_⟩ | ⟨w_15, e_⟩
                · have e_ := e_.symm
                  subst e_
                  refine lv_if_eq (tgt := 77) hx hb dX12_refused_58 (by decide) (fun c_16 => ?_) (fun c_16 => ?_)
                  · exact absurd c_16 (by decide)
                  · have _ := c_16
                    refine lv_lload hx hb dX12_refused_61 (lv_at hl 5 rfl) ?_
                    refine lv_lconst (v := 0) hx hb dX12_refused_63 (by decide) ?_
                    refine lv_ldc2 (v := 100) hx hb hown (hts (.constantLong RX12 112 (100)) (by decide +kernel)) dX12_refused_64 ?_
                    refine ct_R hP hD0 [] [] (by decide) rfl (fun hPc hDw => ?_)
                    have hFc := va_free (wc := []) hD hS hA [] rfl
                    refine va_calli (va_runS (As := [.long a5, .long 0, .long 100]) (rest := []) ⟨hx, hb, hml, hown, hts⟩ (c_X12_in l D cy H.size a5 (0 : Int64) (100 : Int64)) (va_cwS 3 hts gX12_refused_X12_in rfl rfl rfl (by decide +kernel) ⟨Nat.le_of_ble_eq_true rfl, Nat.le_of_ble_eq_true rfl⟩) ⟨bl_, fun U hU hW => ⟨rfl, by rw [hU], by rw [hU]; exact hPc, kk_mv hW hK, hDw⟩⟩ rfl rfl hl.1 rfl (lv_room (Nat.le_of_ble_eq_true rfl)) dX12_refused_67 ⟨Nat.le_of_ble_eq_true rfl, Nat.le_of_ble_eq_true rfl⟩) hS (fun q _ h => hFc q h) hFc (fun r_17 u t H locs ht hvm hw hB hz1 hk1 hS => ?_)
                    have hP : va_P D vwCl _ H := ro_keep hP hk1
                    rcases hw with ⟨w_18, e_⟩ | ⟨w_18, e_⟩
                    · have e_ := e_.symm
                      subst e_
                      refine lv_if_eq (tgt := 77) hx hb dX12_refused_70 (by decide) (fun c_19 => ?_) (fun c_19 => ?_)
                      · exact absurd c_19 (by decide)
                      · have _ := c_19
                        refine lv_iconst (v := 1) hx hb dX12_refused_73 (by decide) ?_
                        refine lv_goto (tgt := 78) hx hb dX12_refused_74 (by decide) ?_
                        refine lv_istore (lv' := [(11, .int 1), (0, .ref mo), (1, .long a1), (3, .long a2), (5, .long a3), (7, .long a4), (9, .long a5)]) hx hb dX12_refused_78 hl (by decide) rfl (fun ls hl => ?_)
                        refine lv_iload hx hb dX12_refused_80 (lv_at hl 0 rfl) ?_
                        refine lv_if_ne (tgt := 89) hx hb dX12_refused_82 (by decide) (fun c_20 => ?_) (fun c_20 => ?_)
                        · have _ := c_20
                          refine lv_aload_n hx hb dX12_refused_89 rfl (lv_at hl 1 rfl) ?_
                          refine va_get (ci := 12) (v := .int s4) (C := RX12) (T := TX12) (N := 34) hx hb hts (fun _ h => List.mem_cons_of_mem _ (List.mem_append_right _ h)) hown hK.1 hP 0 rfl rfl 4 (by decide) (hts (.fieldLink RX12 95 "CutAtlasModel" "lines" "I") (by decide +kernel)) (fun _ h9 => h9) rfl dX12_refused_90 ?_
                          refine lv_bipush (v := 40) hx hb dX12_refused_93 (by decide) ?_
                          refine lv_icmp_ne (tgt := 103) hx hb dX12_refused_95 (by decide) (fun c_21 => ?_) (fun c_21 => ?_)
                          · have t_21 : ¬ s4.toInt = (40 : Int32).toInt := fun h => c_21 (Int32.toInt_inj.mp h)
                            refine lv_iconst (v := 0) hx hb dX12_refused_103 (by decide) ?_
                            rw [hQ]
                            exact W.iret (v := 0) hx hb hr (fun t ht hW => ⟨⟨0, (), rfl, Or.inr (Or.inr (⟨by omega, rfl⟩)), trivial⟩, hS.F ht⟩) hS.2.2 dX12_refused_104
                          · have t_21 : s4.toInt = (40 : Int32).toInt := congrArg Int32.toInt c_21
                            refine lv_bipush (v := (-3)) hx hb dX12_refused_98 (by decide) ?_
                            refine lv_goto (tgt := 104) hx hb dX12_refused_100 (by decide) ?_
                            rw [hQ]
                            exact W.iret (v := (-3)) hx hb hr (fun t ht hW => ⟨⟨(-3), (), rfl, Or.inr (Or.inl (⟨by omega, rfl⟩)), trivial⟩, hS.F ht⟩) hS.2.2 dX12_refused_104
                        · exact absurd c_20 (by decide)
                    · have e_ := e_.symm
                      subst e_
                      refine lv_if_eq (tgt := 77) hx hb dX12_refused_70 (by decide) (fun c_22 => ?_) (fun c_22 => ?_)
                      · have _ := c_22
                        refine lv_iconst (v := 0) hx hb dX12_refused_77 (by decide) ?_
                        refine lv_istore (lv' := [(11, .int 0), (0, .ref mo), (1, .long a1), (3, .long a2), (5, .long a3), (7, .long a4), (9, .long a5)]) hx hb dX12_refused_78 hl (by decide) rfl (fun ls hl => ?_)
                        refine lv_iload hx hb dX12_refused_80 (lv_at hl 0 rfl) ?_
                        refine lv_if_ne (tgt := 89) hx hb dX12_refused_82 (by decide) (fun c_23 => ?_) (fun c_23 => ?_)
                        · exact absurd c_23 (by decide)
                        · have _ := c_23
                          refine lv_iconst (v := (-1)) hx hb dX12_refused_85 (by decide) ?_
                          refine lv_goto (tgt := 104) hx hb dX12_refused_86 (by decide) ?_
                          rw [hQ]
                          exact W.iret (v := (-1)) hx hb hr (fun t ht hW => ⟨⟨(-1), (), rfl, Or.inl (⟨by omega, rfl⟩), trivial⟩, hS.F ht⟩) hS.2.2 dX12_refused_104
                      · exact absurd c_22 (by decide)
                · have e_ := e_.symm
                  subst e_
                  refine lv_if_eq (tgt := 77) hx hb dX12_refused_58 (by decide) (fun c_24 => ?_) (fun c_24 => ?_)
                  · have _ := c_24
                    refine lv_iconst (v := 0) hx hb dX12_refused_77 (by decide) ?_
                    refine lv_istore (lv' := [(11, .int 0), (0, .ref mo), (1, .long a1), (3, .long a2), (5, .long a3), (7, .long a4), (9, .long a5)]) hx hb dX12_refused_78 hl (by decide) rfl (fun ls hl => ?_)
                    refine lv_iload hx hb dX12_refused_80 (lv_at hl 0 rfl) ?_
                    refine lv_if_ne (tgt := 89) hx hb dX12_refused_82 (by decide) (fun c_25 => ?_) (fun c_25 => ?_)
                    · exact absurd c_25 (by decide)
                    · have _ := c_25
                      refine lv_iconst (v := (-1)) hx hb dX12_refused_85 (by decide) ?_
                      refine lv_goto (tgt := 104) hx hb dX12_refused_86 (by decide) ?_
                      rw [hQ]
                      exact W.iret (v := (-1)) hx hb hr (fun t ht hW => ⟨⟨(-1), (), rfl, Or.inl (⟨by omega, rfl⟩), trivial⟩, hS.F ht⟩) hS.2.2 dX12_refused_104
                  · exact absurd c_24 (by decide)
          · have e_ := e_.symm
            subst e_
            refine lv_if_eq (tgt := 77) hx hb dX12_refused_39 (by decide) (fun c_26 => ?_) (fun c_26 => ?_)
            · have _ := c_26
              refine lv_iconst (v := 0) hx hb dX12_refused_77 (by decide) ?_
              refine lv_istore (lv' := [(11, .int 0), (0, .ref mo), (1, .long a1), (3, .long a2), (5, .long a3), (7, .long a4), (9, .long a5)]) hx hb dX12_refused_78 hl (by decide) rfl (fun ls hl => ?_)
              refine lv_iload hx hb dX12_refused_80 (lv_at hl 0 rfl) ?_
              refine lv_if_ne (tgt := 89) hx hb dX12_refused_82 (by decide) (fun c_27 => ?_) (fun c_27 => ?_)
              · exact absurd c_27 (by decide)
              · have _ := c_27
                refine lv_iconst (v := (-1)) hx hb dX12_refused_85 (by decide) ?_
                refine lv_goto (tgt := 104) hx hb dX12_refused_86 (by decide) ?_
                rw [hQ]
                exact W.iret (v := (-1)) hx hb hr (fun t ht hW => ⟨⟨(-1), (), rfl, Or.inl (⟨by omega, rfl⟩), trivial⟩, hS.F ht⟩) hS.2.2 dX12_refused_104
            · exact absurd c_26 (by decide)
      · have e_ := e_.symm
        subst e_
        refine lv_if_eq (tgt := 77) hx hb dX12_refused_23 (by decide) (fun c_28 => ?_) (fun c_28 => ?_)
        · have _ := c_28
          refine lv_iconst (v := 0) hx hb dX12_refused_77 (by decide) ?_
          refine lv_istore (lv' := [(11, .int 0), (0, .ref mo), (1, .long a1), (3, .long a2), (5, .long a3), (7, .long a4), (9, .long a5)]) hx hb dX12_refused_78 hl (by decide) rfl (fun ls hl => ?_)
          refine lv_iload hx hb dX12_refused_80 (lv_at hl 0 rfl) ?_
          refine lv_if_ne (tgt := 89) hx hb dX12_refused_82 (by decide) (fun c_29 => ?_) (fun c_29 => ?_)
          · exact absurd c_29 (by decide)
          · have _ := c_29
            refine lv_iconst (v := (-1)) hx hb dX12_refused_85 (by decide) ?_
            refine lv_goto (tgt := 104) hx hb dX12_refused_86 (by decide) ?_
            rw [hQ]
            exact W.iret (v := (-1)) hx hb hr (fun t ht hW => ⟨⟨(-1), (), rfl, Or.inl (⟨by omega, rfl⟩), trivial⟩, hS.F ht⟩) hS.2.2 dX12_refused_104
        · exact absurd c_28 (by decide)
  · have e_ := e_.symm
    subst e_
    refine lv_if_eq (tgt := 77) hx hb dX12_refused_8 (by decide) (fun c_30 => ?_) (fun c_30 => ?_)
    · have _ := c_30
      refine lv_iconst (v := 0) hx hb dX12_refused_77 (by decide) ?_
      refine lv_istore (lv' := [(11, .int 0), (0, .ref mo), (1, .long a1), (3, .long a2), (5, .long a3), (7, .long a4), (9, .long a5)]) hx hb dX12_refused_78 hl (by decide) rfl (fun ls hl => ?_)
      refine lv_iload hx hb dX12_refused_80 (lv_at hl 0 rfl) ?_
      refine lv_if_ne (tgt := 89) hx hb dX12_refused_82 (by decide) (fun c_31 => ?_) (fun c_31 => ?_)
      · exact absurd c_31 (by decide)
      · have _ := c_31
        refine lv_iconst (v := (-1)) hx hb dX12_refused_85 (by decide) ?_
        refine lv_goto (tgt := 104) hx hb dX12_refused_86 (by decide) ?_
        rw [hQ]
        exact W.iret (v := (-1)) hx hb hr (fun t ht hW => ⟨⟨(-1), (), rfl, Or.inl (⟨by omega, rfl⟩), trivial⟩, hS.F ht⟩) hS.2.2 dX12_refused_104
    · exact absurd c_30 (by decide)
