set_option maxHeartbeats 4000000 in
set_option maxRecDepth 100000 in
theorem c_X12_no (l : Launch) (D : va_G) (cy : Nat → ClassId) (sz : Nat) (mo : Nat) (g5 : Nat) (g6 : Nat) (g7 : Nat) (g8 : Nat) (g9 : Nat) (g10 : Nat) (g12 : Nat) (g13 : Nat) (g14 : Nat) (g15 : Nat) (g16 : Nat) (g17 : Nat) (g18 : Nat) (g19 : Nat) (g20 : Nat) (g22 : Nat) (g23 : Nat) (g24 : Nat) (g29 : Nat) (g30 : Nat) (g31 : Nat) (g32 : Nat) (g33 : Nat) (a1 : Int32) : Met l yX12_no wsX12_no ({ frames := 0, cells := 0, slots := 0, locals := 0 }) (va_Pc [.ref mo, .int a1] (fun U => U.heap.size = sz ∧ va_P D vwCl [(mo, .inr (12, [.int 0, .int 0, .long 0, .int 0, .int 0, .ref g5, .ref g6, .ref g7, .ref g8, .ref g9, .ref g10, .int 0, .ref g12, .ref g13, .ref g14, .ref g15, .ref g16, .ref g17, .ref g18, .ref g19, .ref g20, .int (-9), .ref g22, .ref g23, .ref g24, .int 0, .int 0, .int 0, .int 0, .ref g29, .ref g30, .ref g31, .ref g32, .ref g33]))] U.heap ∧ kk_ D cy U ∧ va_D (fun _ => True) [(mo, .inr (12, [.int 0, .int 0, .long 0, .int 0, .int 0, .ref g5, .ref g6, .ref g7, .ref g8, .ref g9, .ref g10, .int 0, .ref g12, .ref g13, .ref g14, .ref g15, .ref g16, .ref g17, .ref g18, .ref g19, .ref g20, .int (-9), .ref g22, .ref g23, .ref g24, .int 0, .int 0, .int 0, .int 0, .ref g29, .ref g30, .ref g31, .ref g32, .ref g33]))])) (va_Qi (fun (r : Int32) (_ : Unit) => r = a1) (fun (_ : Unit) (_ : State) => True) (va_A [(mo, .inr (12, [.int 0, .int 0, .long 0, .int 0, .int 0, .ref g5, .ref g6, .ref g7, .ref g8, .ref g9, .ref g10, .int 0, .ref g12, .ref g13, .ref g14, .ref g15, .ref g16, .ref g17, .ref g18, .ref g19, .ref g20, .int (-9), .ref g22, .ref g23, .ref g24, .int 0, .int 0, .int 0, .int 0, .ref g29, .ref g30, .ref g31, .ref g32, .ref g33]))] sz)) 0 0 (va_A [(mo, .inr (12, [.int 0, .int 0, .long 0, .int 0, .int 0, .ref g5, .ref g6, .ref g7, .ref g8, .ref g9, .ref g10, .int 0, .ref g12, .ref g13, .ref g14, .ref g15, .ref g16, .ref g17, .ref g18, .ref g19, .ref g20, .int (-9), .ref g22, .ref g23, .ref g24, .int 0, .int 0, .int 0, .int 0, .ref g29, .ref g30, .ref g31, .ref g32, .ref g33]))] sz) := by
  refine Met.ofW (cc := cX12_no) (maxL := 2) (ret := (some .int)) (by decide) rfl ?_
  intro p e s m args below meth c s₁ B hml hv
  obtain ⟨rfl, hsz, hP, hK, hD0⟩ := hv
  have hx := B.exec
  have hb := B.bytes
  have hr := B.returns
  have hts := atoms_spec (ws := wsX12_no) B.pre
  have hown : s.vm.findClass RX12 = some m.cls := findClass_of_methodNamed B.named
  have hlocks := B.notSynchronized
  subst hsz
  have hD := hD0.self (sz := s.heap.size)
  generalize hAe : va_A [(mo, .inr (12, [.int 0, .int 0, .long 0, .int 0, .int 0, .ref g5, .ref g6, .ref g7, .ref g8, .ref g9, .ref g10, .int 0, .ref g12, .ref g13, .ref g14, .ref g15, .ref g16, .ref g17, .ref g18, .ref g19, .ref g20, .int (-9), .ref g22, .ref g23, .ref g24, .int 0, .int 0, .int 0, .int 0, .ref g29, .ref g30, .ref g31, .ref g32, .ref g33]))] s.heap.size = A at hD ⊢
  have hA : ∀ q : Nat, s.heap.size ≤ q → A q := fun q h => by rw [← hAe]; exact Or.inr h
  have hS : va_S A s.heap s.heap [] := va_S.rf
  have hl := lv_entry ([.ref mo, .int a1]) (n := 2) (Nat.le_of_ble_eq_true rfl)
  rw [lg_entry_eq]
  generalize (lg_sl ([.ref mo, .int a1]) ++ List.replicate (2 - (lg_sl ([.ref mo, .int a1])).length) Slot.unset).toArray = ls at hl ⊢
  have hl : lv_has ls 2 [(0, .ref mo), (1, .int a1)] := hl
  refine lv_aload_n hx hb dX12_no_0 rfl (lv_at hl 0 rfl) ?_
  refine lv_iload_n hx hb dX12_no_1 rfl (lv_at hl 1 rfl) ?_
  refine va_put (ci := 12) (v := .int a1) (ty := .int) (C := RX12) (T := TX12) (N := 34) hx hb hts (fun _ h => List.mem_cons_of_mem _ (List.mem_append_right _ h)) tyX12 tyX12_ok nmX12 hown hK.1 hP hD hS 0 rfl rfl 1 (by decide) (hts (.fieldLink RX12 240 "CutAtlasModel" "status" "I") (by decide +kernel)) (fun _ h9 => h9) rfl (by decide +kernel) rfl rfl (Nat.le_of_ble_eq_true rfl) dX12_no_2 (fun H locs hP hD hS => ?_)
  have hP : va_P D vwCl [(mo, .inr (12, [.int 0, .int a1, .long 0, .int 0, .int 0, .ref g5, .ref g6, .ref g7, .ref g8, .ref g9, .ref g10, .int 0, .ref g12, .ref g13, .ref g14, .ref g15, .ref g16, .ref g17, .ref g18, .ref g19, .ref g20, .int (-9), .ref g22, .ref g23, .ref g24, .int 0, .int 0, .int 0, .int 0, .ref g29, .ref g30, .ref g31, .ref g32, .ref g33]))] H := hP
  have hD : va_D A [(mo, .inr (12, [.int 0, .int a1, .long 0, .int 0, .int 0, .ref g5, .ref g6, .ref g7, .ref g8, .ref g9, .ref g10, .int 0, .ref g12, .ref g13, .ref g14, .ref g15, .ref g16, .ref g17, .ref g18, .ref g19, .ref g20, .int (-9), .ref g22, .ref g23, .ref g24, .int 0, .int 0, .int 0, .int 0, .ref g29, .ref g30, .ref g31, .ref g32, .ref g33]))] := hD
  refine lv_iload_n hx hb dX12_no_5 rfl (lv_at hl 1 rfl) ?_
  exact W.iret (v := a1) hx hb hr (fun t ht hW => ⟨⟨a1, (), rfl, rfl, trivial⟩, hS.F ht⟩) hS.2.2 dX12_no_6

set_option maxHeartbeats 4000000 in
set_option maxRecDepth 100000 in
theorem c_X12_wrong (l : Launch) (D : va_G) (cy : Nat → ClassId) (sz : Nat) (mo : Nat) (g5 : Nat) (g6 : Nat) (g7 : Nat) (g8 : Nat) (g9 : Nat) (g10 : Nat) (g12 : Nat) (g13 : Nat) (g14 : Nat) (g15 : Nat) (g16 : Nat) (g17 : Nat) (g18 : Nat) (g19 : Nat) (g20 : Nat) (g22 : Nat) (g23 : Nat) (g24 : Nat) (g29 : Nat) (g30 : Nat) (g31 : Nat) (g32 : Nat) (g33 : Nat) (a1 : Int32) (a2 : Int32) (a3 : Int32) (a4 : Int32) : Met l yX12_wrong wsX12_wrong ({ frames := 1, cells := 0, slots := 0, locals := 25 }) (va_Pc [.ref mo, .int a1, .int a2, .int a3, .int a4] (fun U => U.heap.size = sz ∧ va_P D vwCl [(mo, .inr (12, [.int 0, .int 0, .long 0, .int 0, .int 0, .ref g5, .ref g6, .ref g7, .ref g8, .ref g9, .ref g10, .int 0, .ref g12, .ref g13, .ref g14, .ref g15, .ref g16, .ref g17, .ref g18, .ref g19, .ref g20, .int (-9), .ref g22, .ref g23, .ref g24, .int 0, .int 0, .int 0, .int 0, .ref g29, .ref g30, .ref g31, .ref g32, .ref g33])), (g15, .inl (cy 2, 4, .inl (fun _ => 0)))] U.heap ∧ kk_ D cy U ∧ va_D (fun _ => True) [(mo, .inr (12, [.int 0, .int 0, .long 0, .int 0, .int 0, .ref g5, .ref g6, .ref g7, .ref g8, .ref g9, .ref g10, .int 0, .ref g12, .ref g13, .ref g14, .ref g15, .ref g16, .ref g17, .ref g18, .ref g19, .ref g20, .int (-9), .ref g22, .ref g23, .ref g24, .int 0, .int 0, .int 0, .int 0, .ref g29, .ref g30, .ref g31, .ref g32, .ref g33])), (g15, .inl (cy 2, 4, .inl (fun _ => 0)))])) (va_Qi (fun (r : Int32) (_ : Unit) => ((¬ ((0 ≤ a1.toInt ∧ a1.toInt < 4) ∧ (0 ≤ a2.toInt ∧ a2.toInt < 3))) ∧ r = (-1)) ∨ (((0 ≤ a1.toInt ∧ a1.toInt < 4) ∧ (0 ≤ a2.toInt ∧ a2.toInt < 3)) ∧ r = (-11))) (fun (_ : Unit) (_ : State) => True) (va_A [] sz)) 0 0 (va_A [] sz) := by
  refine Met.ofW (cc := cX12_wrong) (maxL := 6) (ret := (some .int)) (by decide) rfl ?_
  intro p e s m args below meth c s₁ B hml hv
  obtain ⟨rfl, hsz, hP, hK, hD0⟩ := hv
  have hx := B.exec
  have hb := B.bytes
  have hr := B.returns
  have hts := atoms_spec (ws := wsX12_wrong) B.pre
  have hown : s.vm.findClass RX12 = some m.cls := findClass_of_methodNamed B.named
  have hlocks := B.notSynchronized
  subst hsz
  have hD : va_D (va_A [] s.heap.size) [] := dd_nil
  generalize hAe : va_A [] s.heap.size = A at hD ⊢
  have hA : ∀ q : Nat, s.heap.size ≤ q → A q := fun q h => by rw [← hAe]; exact Or.inr h
  have hS : va_S A s.heap s.heap [] := va_S.rf
  have hl := lv_entry ([.ref mo, .int a1, .int a2, .int a3, .int a4]) (n := 6) (Nat.le_of_ble_eq_true rfl)
  rw [lg_entry_eq]
  generalize (lg_sl ([.ref mo, .int a1, .int a2, .int a3, .int a4]) ++ List.replicate (6 - (lg_sl ([.ref mo, .int a1, .int a2, .int a3, .int a4])).length) Slot.unset).toArray = ls at hl ⊢
  have hl : lv_has ls 6 [(0, .ref mo), (1, .int a1), (2, .int a2), (3, .int a3), (4, .int a4)] := hl
  have zl0 : (0 : Int64).toInt = 0 := by decide
  have zl2 : (2 : Int64).toInt = 2 := by decide
  have zl3 : (3 : Int64).toInt = 3 := by decide
  refine lv_iload_n hx hb dX12_wrong_0 rfl (lv_at hl 1 rfl) ?_
  refine lv_i2l (v := a1.toInt64) hx hb dX12_wrong_1 rfl ?_
  have q_1 : (a1.toInt64).toInt = a1.toInt := Int32.toInt_toInt64 a1
  refine lv_lconst (v := 0) hx hb dX12_wrong_2 (by decide) ?_
  refine lv_ldc2 (v := 3) hx hb hown (hts (.constantLong RX12 243 (3)) (by decide +kernel)) dX12_wrong_3 ?_
  have hPc := hP.sub (ws' := []) [] rfl
  have hDw : va_D (fun _ => True) [] := hD0.sub [] (by decide) rfl
  have hFc := va_free (wc := []) hD hS hA [] rfl
  refine va_calli (va_runS (As := [.long a1.toInt64, .long 0, .long 3]) (rest := []) ⟨hx, hb, hml, hown, hts⟩ (c_X12_in l D cy s.heap.size a1.toInt64 (0 : Int64) (3 : Int64)) (va_cwS 3 hts gX12_wrong_X12_in rfl rfl rfl (by decide +kernel) ⟨Nat.le_of_ble_eq_true rfl, Nat.le_of_ble_eq_true rfl⟩) ⟨bl_, fun U hU hW => ⟨rfl, by rw [hU], by rw [hU]; exact hPc, kk_mv hW hK, hDw⟩⟩ rfl rfl hl.1 rfl (lv_room (Nat.le_of_ble_eq_true rfl)) dX12_wrong_6 ⟨Nat.le_of_ble_eq_true rfl, Nat.le_of_ble_eq_true rfl⟩) hS (fun q _ h => hFc q h) hFc (fun r_1 u t H locs ht hvm hw hB hz1 hk1 hS => ?_)
  have hP := ro_keep hP hk1
  have hP : va_P D vwCl [(mo, .inr (12, [.int 0, .int 0, .long 0, .int 0, .int 0, .ref g5, .ref g6, .ref g7, .ref g8, .ref g9, .ref g10, .int 0, .ref g12, .ref g13, .ref g14, .ref g15, .ref g16, .ref g17, .ref g18, .ref g19, .ref g20, .int (-9), .ref g22, .ref g23, .ref g24, .int 0, .int 0, .int 0, .int 0, .ref g29, .ref g30, .ref g31, .ref g32, .ref g33])), (g15, .inl (cy 2, 4, .inl (fun _ => 0)))] H := hP
  rcases hw with ⟨w_2, e_⟩ | ⟨w_2, e_⟩
  · have e_ := e_.symm
    subst e_
    refine lv_if_eq (tgt := 24) hx hb dX12_wrong_9 (by decide) (fun c_3 => ?_) (fun c_3 => ?_)
    · exact absurd c_3 (by decide)
    · have _ := c_3
      refine lv_iload_n hx hb dX12_wrong_12 rfl (lv_at hl 2 rfl) ?_
      refine lv_i2l (v := a2.toInt64) hx hb dX12_wrong_13 rfl ?_
      have q_13 : (a2.toInt64).toInt = a2.toInt := Int32.toInt_toInt64 a2
      refine lv_lconst (v := 0) hx hb dX12_wrong_14 (by decide) ?_
      refine lv_ldc2 (v := 2) hx hb hown (hts (.constantLong RX12 149 (2)) (by decide +kernel)) dX12_wrong_15 ?_
      have hPc := hP.sub (ws' := []) [] rfl
      have hDw : va_D (fun _ => True) [] := hD0.sub [] (by decide) rfl
      have hFc := va_free (wc := []) hD hS hA [] rfl
      refine va_calli (va_runS (As := [.long a2.toInt64, .long 0, .long 2]) (rest := []) ⟨hx, hb, hml, hown, hts⟩ (c_X12_in l D cy H.size a2.toInt64 (0 : Int64) (2 : Int64)) (va_cwS 3 hts gX12_wrong_X12_in rfl rfl rfl (by decide +kernel) ⟨Nat.le_of_ble_eq_true rfl, Nat.le_of_ble_eq_true rfl⟩) ⟨bl_, fun U hU hW => ⟨rfl, by rw [hU], by rw [hU]; exact hPc, kk_mv hW hK, hDw⟩⟩ rfl rfl hl.1 rfl (lv_room (Nat.le_of_ble_eq_true rfl)) dX12_wrong_18 ⟨Nat.le_of_ble_eq_true rfl, Nat.le_of_ble_eq_true rfl⟩) hS (fun q _ h => hFc q h) hFc (fun r_4 u t H locs ht hvm hw hB hz1 hk1 hS => ?_)
      have hP := ro_keep hP hk1
      have hP : va_P D vwCl [(mo, .inr (12, [.int 0, .int 0, .long 0, .int 0, .int 0, .ref g5, .ref g6, .ref g7, .ref g8, .ref g9, .ref g10, .int 0, .ref g12, .ref g13, .ref g14, .ref g15, .ref g16, .ref g17, .ref g18, .ref g19, .ref g20, .int (-9), .ref g22, .ref g23, .ref g24, .int 0, .int 0, .int 0, .int 0, .ref g29, .ref g30, .ref g31, .ref g32, .ref g33])), (g15, .inl (cy 2, 4, .inl (fun _ => 0)))] H := hP
      rcases hw with ⟨w_5, e_⟩ | ⟨w_5, e_⟩
      · have e_ := e_.symm
        subst e_
        refine lv_if_ne (tgt := 26) hx hb dX12_wrong_21 (by decide) (fun c_6 => ?_) (fun c_6 => ?_)
        · have _ := c_6
          rcases sp_4 (x := a1) (by omega) with rfl | rfl | rfl | rfl
          · refine lv_aload_n hx hb dX12_wrong_26 rfl (lv_at hl 0 rfl) ?_
            refine va_get (ci := 12) (v := .ref g15) (C := RX12) (T := TX12) (N := 34) hx hb hts (fun _ h => List.mem_cons_of_mem _ (List.mem_append_right _ h)) hown hK.1 hP 0 rfl rfl 15 (by decide) (hts (.fieldLink RX12 38 "CutAtlasModel" "hasMap" "[Z") (by decide +kernel)) (fun _ h9 => h9) rfl dX12_wrong_27 ?_
            refine lv_iload_n hx hb dX12_wrong_30 rfl (lv_at hl 1 rfl) ?_
            refine va_zald hx hb hK.1 hP 1 2 rfl rfl (i := 0) (by unfold vp_in; decide) dX12_wrong_31 ?_
            refine lv_topv (v' := .int 0) rfl ?_
            refine lv_if_ne (tgt := 38) hx hb dX12_wrong_32 (by decide) (fun c_7 => ?_) (fun c_7 => ?_)
            · exact absurd c_7 (by decide)
            · have _ := c_7
              refine lv_bipush (v := (-11)) hx hb dX12_wrong_35 (by decide) ?_
              exact W.iret (v := (-11)) hx hb hr (fun t ht hW => ⟨⟨(-11), (), rfl, Or.inr (⟨by omega, rfl⟩), trivial⟩, hS.F ht⟩) hS.2.2 dX12_wrong_37
          · refine lv_aload_n hx hb dX12_wrong_26 rfl (lv_at hl 0 rfl) ?_
            refine va_get (ci := 12) (v := .ref g15) (C := RX12) (T := TX12) (N := 34) hx hb hts (fun _ h => List.mem_cons_of_mem _ (List.mem_append_right _ h)) hown hK.1 hP 0 rfl rfl 15 (by decide) (hts (.fieldLink RX12 38 "CutAtlasModel" "hasMap" "[Z") (by decide +kernel)) (fun _ h9 => h9) rfl dX12_wrong_27 ?_
            refine lv_iload_n hx hb dX12_wrong_30 rfl (lv_at hl 1 rfl) ?_
            refine va_zald hx hb hK.1 hP 1 2 rfl rfl (i := 1) (by unfold vp_in; decide) dX12_wrong_31 ?_
            refine lv_topv (v' := .int 0) rfl ?_
            refine lv_if_ne (tgt := 38) hx hb dX12_wrong_32 (by decide) (fun c_8 => ?_) (fun c_8 => ?_)
            · exact absurd c_8 (by decide)
            · have _ := c_8
              refine lv_bipush (v := (-11)) hx hb dX12_wrong_35 (by decide) ?_
              exact W.iret (v := (-11)) hx hb hr (fun t ht hW => ⟨⟨(-11), (), rfl, Or.inr (⟨by omega, rfl⟩), trivial⟩, hS.F ht⟩) hS.2.2 dX12_wrong_37
          · refine lv_aload_n hx hb dX12_wrong_26 rfl (lv_at hl 0 rfl) ?_
            refine va_get (ci := 12) (v := .ref g15) (C := RX12) (T := TX12) (N := 34) hx hb hts (fun _ h => List.mem_cons_of_mem _ (List.mem_append_right _ h)) hown hK.1 hP 0 rfl rfl 15 (by decide) (hts (.fieldLink RX12 38 "CutAtlasModel" "hasMap" "[Z") (by decide +kernel)) (fun _ h9 => h9) rfl dX12_wrong_27 ?_
            refine lv_iload_n hx hb dX12_wrong_30 rfl (lv_at hl 1 rfl) ?_
            refine va_zald hx hb hK.1 hP 1 2 rfl rfl (i := 2) (by unfold vp_in; decide) dX12_wrong_31 ?_
            refine lv_topv (v' := .int 0) rfl ?_
            refine lv_if_ne (tgt := 38) hx hb dX12_wrong_32 (by decide) (fun c_9 => ?_) (fun c_9 => ?_)
            · exact absurd c_9 (by decide)
            · have _ := c_9
              refine lv_bipush (v := (-11)) hx hb dX12_wrong_35 (by decide) ?_
              exact W.iret (v := (-11)) hx hb hr (fun t ht hW => ⟨⟨(-11), (), rfl, Or.inr (⟨by omega, rfl⟩), trivial⟩, hS.F ht⟩) hS.2.2 dX12_wrong_37
          · refine lv_aload_n hx hb dX12_wrong_26 rfl (lv_at hl 0 rfl) ?_
            refine va_get (ci := 12) (v := .ref g15) (C := RX12) (T := TX12) (N := 34) hx hb hts (fun _ h => List.mem_cons_of_mem _ (List.mem_append_right _ h)) hown hK.1 hP 0 rfl rfl 15 (by decide) (hts (.fieldLink RX12 38 "CutAtlasModel" "hasMap" "[Z") (by decide +kernel)) (fun _ h9 => h9) rfl dX12_wrong_27 ?_
            refine lv_iload_n hx hb dX12_wrong_30 rfl (lv_at hl 1 rfl) ?_
            refine va_zald hx hb hK.1 hP 1 2 rfl rfl (i := 3) (by unfold vp_in; decide) dX12_wrong_31 ?_
            refine lv_topv (v' := .int 0) rfl ?_
            refine lv_if_ne (tgt := 38) hx hb dX12_wrong_32 (by decide) (fun c_10 => ?_) (fun c_10 => ?_)
            · exact absurd c_10 (by decide)
            · have _ := c_10
              refine lv_bipush (v := (-11)) hx hb dX12_wrong_35 (by decide) ?_
              exact W.iret (v := (-11)) hx hb hr (fun t ht hW => ⟨⟨(-11), (), rfl, Or.inr (⟨by omega, rfl⟩), trivial⟩, hS.F ht⟩) hS.2.2 dX12_wrong_37
        · exact absurd c_6 (by decide)
      · have e_ := e_.symm
        subst e_
        refine lv_if_ne (tgt := 26) hx hb dX12_wrong_21 (by decide) (fun c_11 => ?_) (fun c_11 => ?_)
        · exact absurd c_11 (by decide)
        · have _ := c_11
          refine lv_iconst (v := (-1)) hx hb dX12_wrong_24 (by decide) ?_
          exact W.iret (v := (-1)) hx hb hr (fun t ht hW => ⟨⟨(-1), (), rfl, Or.inl (⟨by omega, rfl⟩), trivial⟩, hS.F ht⟩) hS.2.2 dX12_wrong_25
  · have e_ := e_.symm
    subst e_
    refine lv_if_eq (tgt := 24) hx hb dX12_wrong_9 (by decide) (fun c_12 => ?_) (fun c_12 => ?_)
    · have _ := c_12
      refine lv_iconst (v := (-1)) hx hb dX12_wrong_24 (by decide) ?_
      exact W.iret (v := (-1)) hx hb hr (fun t ht hW => ⟨⟨(-1), (), rfl, Or.inl (⟨by omega, rfl⟩), trivial⟩, hS.F ht⟩) hS.2.2 dX12_wrong_25
    · exact absurd c_12 (by decide)

set_option maxHeartbeats 4000000 in
set_option maxRecDepth 100000 in
theorem c_X12_map (l : Launch) (D : va_G) (cy : Nat → ClassId) (sz : Nat) (mo : Nat) (g5 : Nat) (g6 : Nat) (g7 : Nat) (g8 : Nat) (g9 : Nat) (g10 : Nat) (g12 : Nat) (g13 : Nat) (g14 : Nat) (g15 : Nat) (g16 : Nat) (g17 : Nat) (g18 : Nat) (g19 : Nat) (g20 : Nat) (g22 : Nat) (g23 : Nat) (g24 : Nat) (g29 : Nat) (g30 : Nat) (g31 : Nat) (g32 : Nat) (g33 : Nat) (a1 : Int32) (a2 : Int32) (a3 : Int32) : Met l yX12_map wsX12_map ({ frames := 1, cells := 0, slots := 0, locals := 25 }) (va_Pc [.ref mo, .int a1, .int a2, .int a3] (fun U => U.heap.size = sz ∧ va_P D vwCl [(mo, .inr (12, [.int 0, .int 0, .long 0, .int 0, .int 0, .ref g5, .ref g6, .ref g7, .ref g8, .ref g9, .ref g10, .int 0, .ref g12, .ref g13, .ref g14, .ref g15, .ref g16, .ref g17, .ref g18, .ref g19, .ref g20, .int (-9), .ref g22, .ref g23, .ref g24, .int 0, .int 0, .int 0, .int 0, .ref g29, .ref g30, .ref g31, .ref g32, .ref g33])), (g15, .inl (cy 2, 4, .inl (fun _ => 0))), (g16, .inl (cy 0, 4, .inl (fun _ => 0))), (g17, .inl (cy 0, 4, .inl (fun _ => 0))), (g18, .inl (cy 0, 24, .inl (fun _ => 0)))] U.heap ∧ kk_ D cy U ∧ va_D (fun _ => True) [(mo, .inr (12, [.int 0, .int 0, .long 0, .int 0, .int 0, .ref g5, .ref g6, .ref g7, .ref g8, .ref g9, .ref g10, .int 0, .ref g12, .ref g13, .ref g14, .ref g15, .ref g16, .ref g17, .ref g18, .ref g19, .ref g20, .int (-9), .ref g22, .ref g23, .ref g24, .int 0, .int 0, .int 0, .int 0, .ref g29, .ref g30, .ref g31, .ref g32, .ref g33])), (g15, .inl (cy 2, 4, .inl (fun _ => 0))), (g16, .inl (cy 0, 4, .inl (fun _ => 0))), (g17, .inl (cy 0, 4, .inl (fun _ => 0))), (g18, .inl (cy 0, 24, .inl (fun _ => 0)))])) (va_Qi (fun (r : Int32) (_ : Unit) => ((¬ ((0 ≤ a1.toInt ∧ a1.toInt < 4) ∧ (0 ≤ a2.toInt ∧ a2.toInt < 3) ∧ a3.toInt ≤ 6)) ∧ r = (-1)) ∨ ((((0 ≤ a1.toInt ∧ a1.toInt < 4) ∧ (0 ≤ a2.toInt ∧ a2.toInt < 3) ∧ a3.toInt ≤ 6) ∧ a3.toInt < 0) ∧ r = (-15)) ∨ ((((0 ≤ a1.toInt ∧ a1.toInt < 4) ∧ (0 ≤ a2.toInt ∧ a2.toInt < 3) ∧ a3.toInt ≤ 6) ∧ 0 ≤ a3.toInt) ∧ r = 1)) (fun (_ : Unit) (_ : State) => True) (va_A [(mo, .inr (12, [.int 0, .int 0, .long 0, .int 0, .int 0, .ref g5, .ref g6, .ref g7, .ref g8, .ref g9, .ref g10, .int 0, .ref g12, .ref g13, .ref g14, .ref g15, .ref g16, .ref g17, .ref g18, .ref g19, .ref g20, .int (-9), .ref g22, .ref g23, .ref g24, .int 0, .int 0, .int 0, .int 0, .ref g29, .ref g30, .ref g31, .ref g32, .ref g33])), (g15, .inl (cy 2, 4, .inl (fun _ => 0))), (g16, .inl (cy 0, 4, .inl (fun _ => 0))), (g17, .inl (cy 0, 4, .inl (fun _ => 0))), (g18, .inl (cy 0, 24, .inl (fun _ => 0)))] sz)) 0 0 (va_A [(mo, .inr (12, [.int 0, .int 0, .long 0, .int 0, .int 0, .ref g5, .ref g6, .ref g7, .ref g8, .ref g9, .ref g10, .int 0, .ref g12, .ref g13, .ref g14, .ref g15, .ref g16, .ref g17, .ref g18, .ref g19, .ref g20, .int (-9), .ref g22, .ref g23, .ref g24, .int 0, .int 0, .int 0, .int 0, .ref g29, .ref g30, .ref g31, .ref g32, .ref g33])), (g15, .inl (cy 2, 4, .inl (fun _ => 0))), (g16, .inl (cy 0, 4, .inl (fun _ => 0))), (g17, .inl (cy 0, 4, .inl (fun _ => 0))), (g18, .inl (cy 0, 24, .inl (fun _ => 0)))] sz) := by
  refine Met.ofW (cc := cX12_map) (maxL := 5) (ret := (some .int)) (by decide) rfl ?_
  intro p e s m args below meth c s₁ B hml hv
  obtain ⟨rfl, hsz, hP, hK, hD0⟩ := hv
  have hx := B.exec
  have hb := B.bytes
  have hr := B.returns
  have hts := atoms_spec (ws := wsX12_map) B.pre
  have hown : s.vm.findClass RX12 = some m.cls := findClass_of_methodNamed B.named
  have hlocks := B.notSynchronized
  subst hsz
  have hD := hD0.self (sz := s.heap.size)
  generalize hAe : va_A [(mo, .inr (12, [.int 0, .int 0, .long 0, .int 0, .int 0, .ref g5, .ref g6, .ref g7, .ref g8, .ref g9, .ref g10, .int 0, .ref g12, .ref g13, .ref g14, .ref g15, .ref g16, .ref g17, .ref g18, .ref g19, .ref g20, .int (-9), .ref g22, .ref g23, .ref g24, .int 0, .int 0, .int 0, .int 0, .ref g29, .ref g30, .ref g31, .ref g32, .ref g33])), (g15, .inl (cy 2, 4, .inl (fun _ => 0))), (g16, .inl (cy 0, 4, .inl (fun _ => 0))), (g17, .inl (cy 0, 4, .inl (fun _ => 0))), (g18, .inl (cy 0, 24, .inl (fun _ => 0)))] s.heap.size = A at hD ⊢
  have hA : ∀ q : Nat, s.heap.size ≤ q → A q := fun q h => by rw [← hAe]; exact Or.inr h
  have hS : va_S A s.heap s.heap [] := va_S.rf
  have hl := lv_entry ([.ref mo, .int a1, .int a2, .int a3]) (n := 5) (Nat.le_of_ble_eq_true rfl)
  rw [lg_entry_eq]
  generalize (lg_sl ([.ref mo, .int a1, .int a2, .int a3]) ++ List.replicate (5 - (lg_sl ([.ref mo, .int a1, .int a2, .int a3])).length) Slot.unset).toArray = ls at hl ⊢
  have hl : lv_has ls 5 [(0, .ref mo), (1, .int a1), (2, .int a2), (3, .int a3)] := hl
  have z0 : (0 : Int32).toInt = 0 := by decide
  have zl0 : (0 : Int64).toInt = 0 := by decide
  have zl2 : (2 : Int64).toInt = 2 := by decide
  have zl3 : (3 : Int64).toInt = 3 := by decide
  have z6 : (6 : Int32).toInt = 6 := by decide
  refine lv_aload_n hx hb dX12_map_0 rfl (lv_at hl 0 rfl) ?_
  refine lv_iconst (v := 0) hx hb dX12_map_1 (by decide) ?_
  refine va_put (ci := 12) (v := .int 0) (ty := .int) (C := RX12) (T := TX12) (N := 34) hx hb hts (fun _ h => List.mem_cons_of_mem _ (List.mem_append_right _ h)) tyX12 tyX12_ok nmX12 hown hK.1 hP hD hS 0 rfl rfl 0 (by decide) (hts (.fieldLink RX12 85 "CutAtlasModel" "thrown" "I") (by decide +kernel)) (fun _ h9 => h9) rfl (by decide +kernel) rfl rfl (Nat.le_of_ble_eq_true rfl) dX12_map_2 (fun H locs hP hD hS => ?_)
  have hP : va_P D vwCl [(mo, .inr (12, [.int 0, .int 0, .long 0, .int 0, .int 0, .ref g5, .ref g6, .ref g7, .ref g8, .ref g9, .ref g10, .int 0, .ref g12, .ref g13, .ref g14, .ref g15, .ref g16, .ref g17, .ref g18, .ref g19, .ref g20, .int (-9), .ref g22, .ref g23, .ref g24, .int 0, .int 0, .int 0, .int 0, .ref g29, .ref g30, .ref g31, .ref g32, .ref g33])), (g15, .inl (cy 2, 4, .inl (fun _ => 0))), (g16, .inl (cy 0, 4, .inl (fun _ => 0))), (g17, .inl (cy 0, 4, .inl (fun _ => 0))), (g18, .inl (cy 0, 24, .inl (fun _ => 0)))] H := hP
  have hD : va_D A [(mo, .inr (12, [.int 0, .int 0, .long 0, .int 0, .int 0, .ref g5, .ref g6, .ref g7, .ref g8, .ref g9, .ref g10, .int 0, .ref g12, .ref g13, .ref g14, .ref g15, .ref g16, .ref g17, .ref g18, .ref g19, .ref g20, .int (-9), .ref g22, .ref g23, .ref g24, .int 0, .int 0, .int 0, .int 0, .ref g29, .ref g30, .ref g31, .ref g32, .ref g33])), (g15, .inl (cy 2, 4, .inl (fun _ => 0))), (g16, .inl (cy 0, 4, .inl (fun _ => 0))), (g17, .inl (cy 0, 4, .inl (fun _ => 0))), (g18, .inl (cy 0, 24, .inl (fun _ => 0)))] := hD
  refine lv_aload_n hx hb dX12_map_5 rfl (lv_at hl 0 rfl) ?_
  refine lv_iconst (v := 0) hx hb dX12_map_6 (by decide) ?_
  refine va_put (ci := 12) (v := .int 0) (ty := .int) (C := RX12) (T := TX12) (N := 34) hx hb hts (fun _ h => List.mem_cons_of_mem _ (List.mem_append_right _ h)) tyX12 tyX12_ok nmX12 hown hK.1 hP hD hS 0 rfl rfl 1 (by decide) (hts (.fieldLink RX12 240 "CutAtlasModel" "status" "I") (by decide +kernel)) (fun _ h9 => h9) rfl (by decide +kernel) rfl rfl (Nat.le_of_ble_eq_true rfl) dX12_map_7 (fun H locs hP hD hS => ?_)
  have hP : va_P D vwCl [(mo, .inr (12, [.int 0, .int 0, .long 0, .int 0, .int 0, .ref g5, .ref g6, .ref g7, .ref g8, .ref g9, .ref g10, .int 0, .ref g12, .ref g13, .ref g14, .ref g15, .ref g16, .ref g17, .ref g18, .ref g19, .ref g20, .int (-9), .ref g22, .ref g23, .ref g24, .int 0, .int 0, .int 0, .int 0, .ref g29, .ref g30, .ref g31, .ref g32, .ref g33])), (g15, .inl (cy 2, 4, .inl (fun _ => 0))), (g16, .inl (cy 0, 4, .inl (fun _ => 0))), (g17, .inl (cy 0, 4, .inl (fun _ => 0))), (g18, .inl (cy 0, 24, .inl (fun _ => 0)))] H := hP
  have hD : va_D A [(mo, .inr (12, [.int 0, .int 0, .long 0, .int 0, .int 0, .ref g5, .ref g6, .ref g7, .ref g8, .ref g9, .ref g10, .int 0, .ref g12, .ref g13, .ref g14, .ref g15, .ref g16, .ref g17, .ref g18, .ref g19, .ref g20, .int (-9), .ref g22, .ref g23, .ref g24, .int 0, .int 0, .int 0, .int 0, .ref g29, .ref g30, .ref g31, .ref g32, .ref g33])), (g15, .inl (cy 2, 4, .inl (fun _ => 0))), (g16, .inl (cy 0, 4, .inl (fun _ => 0))), (g17, .inl (cy 0, 4, .inl (fun _ => 0))), (g18, .inl (cy 0, 24, .inl (fun _ => 0)))] := hD
  refine lv_iload_n hx hb dX12_map_10 rfl (lv_at hl 1 rfl) ?_
  refine lv_i2l (v := a1.toInt64) hx hb dX12_map_11 rfl ?_
  have q_11 : (a1.toInt64).toInt = a1.toInt := Int32.toInt_toInt64 a1
  refine lv_lconst (v := 0) hx hb dX12_map_12 (by decide) ?_
  refine lv_ldc2 (v := 3) hx hb hown (hts (.constantLong RX12 243 (3)) (by decide +kernel)) dX12_map_13 ?_
  have hPc := hP.sub (ws' := []) [] rfl
  have hDc := hD.sub (ws' := []) [] (by decide) rfl
  have hDw : va_D (fun _ => True) [] := hDc.weaken (fun _ _ _ _ => trivial)
  have hFc := va_free (wc := []) hD hS hA [] rfl
  refine va_calli (va_runS (As := [.long a1.toInt64, .long 0, .long 3]) (rest := []) ⟨hx, hb, hml, hown, hts⟩ (c_X12_in l D cy H.size a1.toInt64 (0 : Int64) (3 : Int64)) (va_cwS 3 hts gX12_map_X12_in rfl rfl rfl (by decide +kernel) ⟨Nat.le_of_ble_eq_true rfl, Nat.le_of_ble_eq_true rfl⟩) ⟨bl_, fun U hU hW => ⟨rfl, by rw [hU], by rw [hU]; exact hPc, kk_mv hW hK, hDw⟩⟩ rfl rfl hl.1 rfl (lv_room (Nat.le_of_ble_eq_true rfl)) dX12_map_16 ⟨Nat.le_of_ble_eq_true rfl, Nat.le_of_ble_eq_true rfl⟩) hS (fun q _ h => hFc q h) hFc (fun r_1 u t H locs ht hvm hw hB hz1 hk1 hS => ?_)
  have hP := ro_keep hP hk1
  have hP : va_P D vwCl [(mo, .inr (12, [.int 0, .int 0, .long 0, .int 0, .int 0, .ref g5, .ref g6, .ref g7, .ref g8, .ref g9, .ref g10, .int 0, .ref g12, .ref g13, .ref g14, .ref g15, .ref g16, .ref g17, .ref g18, .ref g19, .ref g20, .int (-9), .ref g22, .ref g23, .ref g24, .int 0, .int 0, .int 0, .int 0, .ref g29, .ref g30, .ref g31, .ref g32, .ref g33])), (g15, .inl (cy 2, 4, .inl (fun _ => 0))), (g16, .inl (cy 0, 4, .inl (fun _ => 0))), (g17, .inl (cy 0, 4, .inl (fun _ => 0))), (g18, .inl (cy 0, 24, .inl (fun _ => 0)))] H := hP
  rcases hw with ⟨w_2, e_⟩ | ⟨w_2, e_⟩
  · have e_ := e_.symm
    subst e_
    refine lv_if_eq (tgt := 40) hx hb dX12_map_19 (by decide) (fun c_3 => ?_) (fun c_3 => ?_)
    · exact absurd c_3 (by decide)
    · have _ := c_3
      refine lv_iload_n hx hb dX12_map_22 rfl (lv_at hl 2 rfl) ?_
      refine lv_i2l (v := a2.toInt64) hx hb dX12_map_23 rfl ?_
      have q_23 : (a2.toInt64).toInt = a2.toInt := Int32.toInt_toInt64 a2
      refine lv_lconst (v := 0) hx hb dX12_map_24 (by decide) ?_
      refine lv_ldc2 (v := 2) hx hb hown (hts (.constantLong RX12 149 (2)) (by decide +kernel)) dX12_map_25 ?_
      have hPc := hP.sub (ws' := []) [] rfl
      have hDc := hD.sub (ws' := []) [] (by decide) rfl
      have hDw : va_D (fun _ => True) [] := hDc.weaken (fun _ _ _ _ => trivial)
      have hFc := va_free (wc := []) hD hS hA [] rfl
      refine va_calli (va_runS (As := [.long a2.toInt64, .long 0, .long 2]) (rest := []) ⟨hx, hb, hml, hown, hts⟩ (c_X12_in l D cy H.size a2.toInt64 (0 : Int64) (2 : Int64)) (va_cwS 3 hts gX12_map_X12_in rfl rfl rfl (by decide +kernel) ⟨Nat.le_of_ble_eq_true rfl, Nat.le_of_ble_eq_true rfl⟩) ⟨bl_, fun U hU hW => ⟨rfl, by rw [hU], by rw [hU]; exact hPc, kk_mv hW hK, hDw⟩⟩ rfl rfl hl.1 rfl (lv_room (Nat.le_of_ble_eq_true rfl)) dX12_map_28 ⟨Nat.le_of_ble_eq_true rfl, Nat.le_of_ble_eq_true rfl⟩) hS (fun q _ h => hFc q h) hFc (fun r_4 u t H locs ht hvm hw hB hz1 hk1 hS => ?_)
      have hP := ro_keep hP hk1
      have hP : va_P D vwCl [(mo, .inr (12, [.int 0, .int 0, .long 0, .int 0, .int 0, .ref g5, .ref g6, .ref g7, .ref g8, .ref g9, .ref g10, .int 0, .ref g12, .ref g13, .ref g14, .ref g15, .ref g16, .ref g17, .ref g18, .ref g19, .ref g20, .int (-9), .ref g22, .ref g23, .ref g24, .int 0, .int 0, .int 0, .int 0, .ref g29, .ref g30, .ref g31, .ref g32, .ref g33])), (g15, .inl (cy 2, 4, .inl (fun _ => 0))), (g16, .inl (cy 0, 4, .inl (fun _ => 0))), (g17, .inl (cy 0, 4, .inl (fun _ => 0))), (g18, .inl (cy 0, 24, .inl (fun _ => 0)))] H := hP
      rcases hw with ⟨w_5, e_⟩ | ⟨w_5, e_⟩
      · have e_ := e_.symm
        subst e_
        refine lv_if_eq (tgt := 40) hx hb dX12_map_31 (by decide) (fun c_6 => ?_) (fun c_6 => ?_)
        · exact absurd c_6 (by decide)
        · have _ := c_6
          refine lv_iload_n hx hb dX12_map_34 rfl (lv_at hl 3 rfl) ?_
          refine lv_bipush (v := 6) hx hb dX12_map_35 (by decide) ?_
          refine lv_icmp_le (tgt := 46) hx hb dX12_map_37 (by decide) (fun c_7 => ?_) (fun c_7 => ?_)
          · have t_7 : a3.toInt ≤ (6 : Int32).toInt := Int32.le_iff_toInt_le.mp c_7
            refine lv_iload_n hx hb dX12_map_46 rfl (lv_at hl 3 rfl) ?_
            refine lv_if_ge (tgt := 57) hx hb dX12_map_47 (by decide) (fun c_8 => ?_) (fun c_8 => ?_)
            · have t_8 : (0 : Int32).toInt ≤ a3.toInt := Int32.le_iff_toInt_le.mp c_8
              rcases sp_4 (x := a1) (by omega) with rfl | rfl | rfl | rfl
              · refine lv_aload_n hx hb dX12_map_57 rfl (lv_at hl 0 rfl) ?_
                refine va_get (ci := 12) (v := .ref g15) (C := RX12) (T := TX12) (N := 34) hx hb hts (fun _ h => List.mem_cons_of_mem _ (List.mem_append_right _ h)) hown hK.1 hP 0 rfl rfl 15 (by decide) (hts (.fieldLink RX12 38 "CutAtlasModel" "hasMap" "[Z") (by decide +kernel)) (fun _ h9 => h9) rfl dX12_map_58 ?_
                refine lv_iload_n hx hb dX12_map_61 rfl (lv_at hl 1 rfl) ?_
                refine lv_iconst (v := 1) hx hb dX12_map_62 (by decide) ?_
                refine va_zast hx hb hK.1 hP hD hS 1 2 rfl rfl (i := 0) (by unfold vp_in; decide) dX12_map_63 (fun H locs hP hD hS => ?_)
                have hP : va_P D vwCl [(mo, .inr (12, [.int 0, .int 0, .long 0, .int 0, .int 0, .ref g5, .ref g6, .ref g7, .ref g8, .ref g9, .ref g10, .int 0, .ref g12, .ref g13, .ref g14, .ref g15, .ref g16, .ref g17, .ref g18, .ref g19, .ref g20, .int (-9), .ref g22, .ref g23, .ref g24, .int 0, .int 0, .int 0, .int 0, .ref g29, .ref g30, .ref g31, .ref g32, .ref g33])), (g15, .inl (cy 2, 4, .inl (upd (fun _ => 0) (0 : Int32).toNatClampNeg (vp_nar .boolean 1)))), (g16, .inl (cy 0, 4, .inl (fun _ => 0))), (g17, .inl (cy 0, 4, .inl (fun _ => 0))), (g18, .inl (cy 0, 24, .inl (fun _ => 0)))] H := hP
                have hD : va_D A [(mo, .inr (12, [.int 0, .int 0, .long 0, .int 0, .int 0, .ref g5, .ref g6, .ref g7, .ref g8, .ref g9, .ref g10, .int 0, .ref g12, .ref g13, .ref g14, .ref g15, .ref g16, .ref g17, .ref g18, .ref g19, .ref g20, .int (-9), .ref g22, .ref g23, .ref g24, .int 0, .int 0, .int 0, .int 0, .ref g29, .ref g30, .ref g31, .ref g32, .ref g33])), (g15, .inl (cy 2, 4, .inl (upd (fun _ => 0) (0 : Int32).toNatClampNeg (vp_nar .boolean 1)))), (g16, .inl (cy 0, 4, .inl (fun _ => 0))), (g17, .inl (cy 0, 4, .inl (fun _ => 0))), (g18, .inl (cy 0, 24, .inl (fun _ => 0)))] := hD
                refine lv_aload_n hx hb dX12_map_64 rfl (lv_at hl 0 rfl) ?_
                refine va_get (ci := 12) (v := .ref g16) (C := RX12) (T := TX12) (N := 34) hx hb hts (fun _ h => List.mem_cons_of_mem _ (List.mem_append_right _ h)) hown hK.1 hP 0 rfl rfl 16 (by decide) (hts (.fieldLink RX12 41 "CutAtlasModel" "mapKind" "[I") (by decide +kernel)) (fun _ h9 => h9) rfl dX12_map_65 ?_
                refine lv_iload_n hx hb dX12_map_68 rfl (lv_at hl 1 rfl) ?_
                refine lv_iload_n hx hb dX12_map_69 rfl (lv_at hl 2 rfl) ?_
                refine va_iast hx hb hK.1 hP hD hS 2 0 rfl rfl (i := 0) (by unfold vp_in; decide) dX12_map_70 (fun H locs hP hD hS => ?_)
                have hP : va_P D vwCl [(mo, .inr (12, [.int 0, .int 0, .long 0, .int 0, .int 0, .ref g5, .ref g6, .ref g7, .ref g8, .ref g9, .ref g10, .int 0, .ref g12, .ref g13, .ref g14, .ref g15, .ref g16, .ref g17, .ref g18, .ref g19, .ref g20, .int (-9), .ref g22, .ref g23, .ref g24, .int 0, .int 0, .int 0, .int 0, .ref g29, .ref g30, .ref g31, .ref g32, .ref g33])), (g15, .inl (cy 2, 4, .inl (upd (fun _ => 0) (0 : Int32).toNatClampNeg (vp_nar .boolean 1)))), (g16, .inl (cy 0, 4, .inl (upd (fun _ => 0) (0 : Int32).toNatClampNeg a2))), (g17, .inl (cy 0, 4, .inl (fun _ => 0))), (g18, .inl (cy 0, 24, .inl (fun _ => 0)))] H := hP
                have hD : va_D A [(mo, .inr (12, [.int 0, .int 0, .long 0, .int 0, .int 0, .ref g5, .ref g6, .ref g7, .ref g8, .ref g9, .ref g10, .int 0, .ref g12, .ref g13, .ref g14, .ref g15, .ref g16, .ref g17, .ref g18, .ref g19, .ref g20, .int (-9), .ref g22, .ref g23, .ref g24, .int 0, .int 0, .int 0, .int 0, .ref g29, .ref g30, .ref g31, .ref g32, .ref g33])), (g15, .inl (cy 2, 4, .inl (upd (fun _ => 0) (0 : Int32).toNatClampNeg (vp_nar .boolean 1)))), (g16, .inl (cy 0, 4, .inl (upd (fun _ => 0) (0 : Int32).toNatClampNeg a2))), (g17, .inl (cy 0, 4, .inl (fun _ => 0))), (g18, .inl (cy 0, 24, .inl (fun _ => 0)))] := hD
                refine lv_aload_n hx hb dX12_map_71 rfl (lv_at hl 0 rfl) ?_
                refine va_get (ci := 12) (v := .ref g17) (C := RX12) (T := TX12) (N := 34) hx hb hts (fun _ h => List.mem_cons_of_mem _ (List.mem_append_right _ h)) hown hK.1 hP 0 rfl rfl 17 (by decide) (hts (.fieldLink RX12 44 "CutAtlasModel" "mapRows" "[I") (by decide +kernel)) (fun _ h9 => h9) rfl dX12_map_72 ?_
                refine lv_iload_n hx hb dX12_map_75 rfl (lv_at hl 1 rfl) ?_
                refine lv_iload_n hx hb dX12_map_76 rfl (lv_at hl 3 rfl) ?_
                refine va_iast hx hb hK.1 hP hD hS 3 0 rfl rfl (i := 0) (by unfold vp_in; decide) dX12_map_77 (fun H locs hP hD hS => ?_)
                have hP : va_P D vwCl [(mo, .inr (12, [.int 0, .int 0, .long 0, .int 0, .int 0, .ref g5, .ref g6, .ref g7, .ref g8, .ref g9, .ref g10, .int 0, .ref g12, .ref g13, .ref g14, .ref g15, .ref g16, .ref g17, .ref g18, .ref g19, .ref g20, .int (-9), .ref g22, .ref g23, .ref g24, .int 0, .int 0, .int 0, .int 0, .ref g29, .ref g30, .ref g31, .ref g32, .ref g33])), (g15, .inl (cy 2, 4, .inl (upd (fun _ => 0) (0 : Int32).toNatClampNeg (vp_nar .boolean 1)))), (g16, .inl (cy 0, 4, .inl (upd (fun _ => 0) (0 : Int32).toNatClampNeg a2))), (g17, .inl (cy 0, 4, .inl (upd (fun _ => 0) (0 : Int32).toNatClampNeg a3))), (g18, .inl (cy 0, 24, .inl (fun _ => 0)))] H := hP
                have hD : va_D A [(mo, .inr (12, [.int 0, .int 0, .long 0, .int 0, .int 0, .ref g5, .ref g6, .ref g7, .ref g8, .ref g9, .ref g10, .int 0, .ref g12, .ref g13, .ref g14, .ref g15, .ref g16, .ref g17, .ref g18, .ref g19, .ref g20, .int (-9), .ref g22, .ref g23, .ref g24, .int 0, .int 0, .int 0, .int 0, .ref g29, .ref g30, .ref g31, .ref g32, .ref g33])), (g15, .inl (cy 2, 4, .inl (upd (fun _ => 0) (0 : Int32).toNatClampNeg (vp_nar .boolean 1)))), (g16, .inl (cy 0, 4, .inl (upd (fun _ => 0) (0 : Int32).toNatClampNeg a2))), (g17, .inl (cy 0, 4, .inl (upd (fun _ => 0) (0 : Int32).toNatClampNeg a3))), (g18, .inl (cy 0, 24, .inl (fun _ => 0)))] := hD
                refine lv_iconst (v := 0) hx hb dX12_map_78 (by decide) ?_
                refine lv_istore (lv' := [(4, .int 0), (0, .ref mo), (1, .int 0), (2, .int a2), (3, .int a3)]) hx hb dX12_map_79 hl (by decide) rfl (fun ls hl => ?_)
                refine lv_iload hx hb dX12_map_81 (lv_at hl 0 rfl) ?_
                refine lv_bipush (v := 6) hx hb dX12_map_83 (by decide) ?_
                refine lv_icmp_ge (tgt := 108) hx hb dX12_map_85 (by decide) (fun c_9 => ?_) (fun c_9 => ?_)
                · exact absurd c_9 (by decide)
                · have _ := c_9
                  refine lv_aload_n hx hb dX12_map_88 rfl (lv_at hl 1 rfl) ?_
                  refine va_get (ci := 12) (v := .ref g18) (C := RX12) (T := TX12) (N := 34) hx hb hts (fun _ h => List.mem_cons_of_mem _ (List.mem_append_right _ h)) hown hK.1 hP 0 rfl rfl 18 (by decide) (hts (.fieldLink RX12 47 "CutAtlasModel" "rowSize" "[I") (by decide +kernel)) (fun _ h9 => h9) rfl dX12_map_89 ?_
                  refine lv_bipush (v := 6) hx hb dX12_map_92 (by decide) ?_
                  refine lv_iload_n hx hb dX12_map_94 rfl (lv_at hl 2 rfl) ?_
                  refine lv_imul hx hb dX12_map_95 ?_
                  refine lv_topi (fun y_ ey_ => ?_)
                  have ey_ := (ey_.trans (show _ = (0 : Int32) by decide)).symm
                  subst ey_
                  refine lv_iload hx hb dX12_map_96 (lv_at hl 0 rfl) ?_
                  refine lv_iadd hx hb dX12_map_98 ?_
                  refine lv_topi (fun y_ ey_ => ?_)
                  have ey_ := (ey_.trans (show _ = (0 : Int32) by decide)).symm
                  subst ey_
                  refine lv_bipush (v := (-9)) hx hb dX12_map_99 (by decide) ?_
                  refine va_iast hx hb hK.1 hP hD hS 4 0 rfl rfl (i := 0) (by unfold vp_in; decide) dX12_map_101 (fun H locs hP hD hS => ?_)
                  have hP : va_P D vwCl [(mo, .inr (12, [.int 0, .int 0, .long 0, .int 0, .int 0, .ref g5, .ref g6, .ref g7, .ref g8, .ref g9, .ref g10, .int 0, .ref g12, .ref g13, .ref g14, .ref g15, .ref g16, .ref g17, .ref g18, .ref g19, .ref g20, .int (-9), .ref g22, .ref g23, .ref g24, .int 0, .int 0, .int 0, .int 0, .ref g29, .ref g30, .ref g31, .ref g32, .ref g33])), (g15, .inl (cy 2, 4, .inl (upd (fun _ => 0) (0 : Int32).toNatClampNeg (vp_nar .boolean 1)))), (g16, .inl (cy 0, 4, .inl (upd (fun _ => 0) (0 : Int32).toNatClampNeg a2))), (g17, .inl (cy 0, 4, .inl (upd (fun _ => 0) (0 : Int32).toNatClampNeg a3))), (g18, .inl (cy 0, 24, .inl (upd (fun _ => 0) (0 : Int32).toNatClampNeg (-9))))] H := hP
                  have hD : va_D A [(mo, .inr (12, [.int 0, .int 0, .long 0, .int 0, .int 0, .ref g5, .ref g6, .ref g7, .ref g8, .ref g9, .ref g10, .int 0, .ref g12, .ref g13, .ref g14, .ref g15, .ref g16, .ref g17, .ref g18, .ref g19, .ref g20, .int (-9), .ref g22, .ref g23, .ref g24, .int 0, .int 0, .int 0, .int 0, .ref g29, .ref g30, .ref g31, .ref g32, .ref g33])), (g15, .inl (cy 2, 4, .inl (upd (fun _ => 0) (0 : Int32).toNatClampNeg (vp_nar .boolean 1)))), (g16, .inl (cy 0, 4, .inl (upd (fun _ => 0) (0 : Int32).toNatClampNeg a2))), (g17, .inl (cy 0, 4, .inl (upd (fun _ => 0) (0 : Int32).toNatClampNeg a3))), (g18, .inl (cy 0, 24, .inl (upd (fun _ => 0) (0 : Int32).toNatClampNeg (-9))))] := hD
                  refine lv_iinc (v := 1) (lv' := [(4, .int 1), (0, .ref mo), (1, .int 0), (2, .int a2), (3, .int a3)]) hx hb dX12_map_102 hl (k := 0) rfl (by decide) (by decide) rfl (fun ls hl => ?_)
                  refine lv_goto (tgt := 81) hx hb dX12_map_105 (by decide) ?_
                  refine lv_iload hx hb dX12_map_81 (lv_at hl 0 rfl) ?_
                  refine lv_bipush (v := 6) hx hb dX12_map_83 (by decide) ?_
                  refine lv_icmp_ge (tgt := 108) hx hb dX12_map_85 (by decide) (fun c_10 => ?_) (fun c_10 => ?_)
                  · exact absurd c_10 (by decide)
                  · have _ := c_10
                    refine lv_aload_n hx hb dX12_map_88 rfl (lv_at hl 1 rfl) ?_
                    refine va_get (ci := 12) (v := .ref g18) (C := RX12) (T := TX12) (N := 34) hx hb hts (fun _ h => List.mem_cons_of_mem _ (List.mem_append_right _ h)) hown hK.1 hP 0 rfl rfl 18 (by decide) (hts (.fieldLink RX12 47 "CutAtlasModel" "rowSize" "[I") (by decide +kernel)) (fun _ h9 => h9) rfl dX12_map_89 ?_
                    refine lv_bipush (v := 6) hx hb dX12_map_92 (by decide) ?_
                    refine lv_iload_n hx hb dX12_map_94 rfl (lv_at hl 2 rfl) ?_
                    refine lv_imul hx hb dX12_map_95 ?_
                    refine lv_topi (fun y_ ey_ => ?_)
                    have ey_ := (ey_.trans (show _ = (0 : Int32) by decide)).symm
                    subst ey_
                    refine lv_iload hx hb dX12_map_96 (lv_at hl 0 rfl) ?_
                    refine lv_iadd hx hb dX12_map_98 ?_
                    refine lv_topi (fun y_ ey_ => ?_)
                    have ey_ := (ey_.trans (show _ = (1 : Int32) by decide)).symm
                    subst ey_
                    refine lv_bipush (v := (-9)) hx hb dX12_map_99 (by decide) ?_
                    refine va_iast hx hb hK.1 hP hD hS 4 0 rfl rfl (i := 1) (by unfold vp_in; decide) dX12_map_101 (fun H locs hP hD hS => ?_)
                    have hP : va_P D vwCl [(mo, .inr (12, [.int 0, .int 0, .long 0, .int 0, .int 0, .ref g5, .ref g6, .ref g7, .ref g8, .ref g9, .ref g10, .int 0, .ref g12, .ref g13, .ref g14, .ref g15, .ref g16, .ref g17, .ref g18, .ref g19, .ref g20, .int (-9), .ref g22, .ref g23, .ref g24, .int 0, .int 0, .int 0, .int 0, .ref g29, .ref g30, .ref g31, .ref g32, .ref g33])), (g15, .inl (cy 2, 4, .inl (upd (fun _ => 0) (0 : Int32).toNatClampNeg (vp_nar .boolean 1)))), (g16, .inl (cy 0, 4, .inl (upd (fun _ => 0) (0 : Int32).toNatClampNeg a2))), (g17, .inl (cy 0, 4, .inl (upd (fun _ => 0) (0 : Int32).toNatClampNeg a3))), (g18, .inl (cy 0, 24, .inl (upd (upd (fun _ => 0) (0 : Int32).toNatClampNeg (-9)) (1 : Int32).toNatClampNeg (-9))))] H := hP
                    have hD : va_D A [(mo, .inr (12, [.int 0, .int 0, .long 0, .int 0, .int 0, .ref g5, .ref g6, .ref g7, .ref g8, .ref g9, .ref g10, .int 0, .ref g12, .ref g13, .ref g14, .ref g15, .ref g16, .ref g17, .ref g18, .ref g19, .ref g20, .int (-9), .ref g22, .ref g23, .ref g24, .int 0, .int 0, .int 0, .int 0, .ref g29, .ref g30, .ref g31, .ref g32, .ref g33])), (g15, .inl (cy 2, 4, .inl (upd (fun _ => 0) (0 : Int32).toNatClampNeg (vp_nar .boolean 1)))), (g16, .inl (cy 0, 4, .inl (upd (fun _ => 0) (0 : Int32).toNatClampNeg a2))), (g17, .inl (cy 0, 4, .inl (upd (fun _ => 0) (0 : Int32).toNatClampNeg a3))), (g18, .inl (cy 0, 24, .inl (upd (upd (fun _ => 0) (0 : Int32).toNatClampNeg (-9)) (1 : Int32).toNatClampNeg (-9))))] := hD
                    refine lv_iinc (v := 2) (lv' := [(4, .int 2), (0, .ref mo), (1, .int 0), (2, .int a2), (3, .int a3)]) hx hb dX12_map_102 hl (k := 0) rfl (by decide) (by decide) rfl (fun ls hl => ?_)
                    refine lv_goto (tgt := 81) hx hb dX12_map_105 (by decide) ?_
                    refine lv_iload hx hb dX12_map_81 (lv_at hl 0 rfl) ?_
                    refine lv_bipush (v := 6) hx hb dX12_map_83 (by decide) ?_
                    refine lv_icmp_ge (tgt := 108) hx hb dX12_map_85 (by decide) (fun c_11 => ?_) (fun c_11 => ?_)
                    · exact absurd c_11 (by decide)
                    · have _ := c_11
                      refine lv_aload_n hx hb dX12_map_88 rfl (lv_at hl 1 rfl) ?_
                      refine va_get (ci := 12) (v := .ref g18) (C := RX12) (T := TX12) (N := 34) hx hb hts (fun _ h => List.mem_cons_of_mem _ (List.mem_append_right _ h)) hown hK.1 hP 0 rfl rfl 18 (by decide) (hts (.fieldLink RX12 47 "CutAtlasModel" "rowSize" "[I") (by decide +kernel)) (fun _ h9 => h9) rfl dX12_map_89 ?_
                      refine lv_bipush (v := 6) hx hb dX12_map_92 (by decide) ?_
                      refine lv_iload_n hx hb dX12_map_94 rfl (lv_at hl 2 rfl) ?_
                      refine lv_imul hx hb dX12_map_95 ?_
                      refine lv_topi (fun y_ ey_ => ?_)
                      have ey_ := (ey_.trans (show _ = (0 : Int32) by decide)).symm
                      subst ey_
                      refine lv_iload hx hb dX12_map_96 (lv_at hl 0 rfl) ?_
                      refine lv_iadd hx hb dX12_map_98 ?_
                      refine lv_topi (fun y_ ey_ => ?_)
                      have ey_ := (ey_.trans (show _ = (2 : Int32) by decide)).symm
                      subst ey_
                      refine lv_bipush (v := (-9)) hx hb dX12_map_99 (by decide) ?_
                      refine va_iast hx hb hK.1 hP hD hS 4 0 rfl rfl (i := 2) (by unfold vp_in; decide) dX12_map_101 (fun H locs hP hD hS => ?_)
                      have hP : va_P D vwCl [(mo, .inr (12, [.int 0, .int 0, .long 0, .int 0, .int 0, .ref g5, .ref g6, .ref g7, .ref g8, .ref g9, .ref g10, .int 0, .ref g12, .ref g13, .ref g14, .ref g15, .ref g16, .ref g17, .ref g18, .ref g19, .ref g20, .int (-9), .ref g22, .ref g23, .ref g24, .int 0, .int 0, .int 0, .int 0, .ref g29, .ref g30, .ref g31, .ref g32, .ref g33])), (g15, .inl (cy 2, 4, .inl (upd (fun _ => 0) (0 : Int32).toNatClampNeg (vp_nar .boolean 1)))), (g16, .inl (cy 0, 4, .inl (upd (fun _ => 0) (0 : Int32).toNatClampNeg a2))), (g17, .inl (cy 0, 4, .inl (upd (fun _ => 0) (0 : Int32).toNatClampNeg a3))), (g18, .inl (cy 0, 24, .inl (upd (upd (upd (fun _ => 0) (0 : Int32).toNatClampNeg (-9)) (1 : Int32).toNatClampNeg (-9)) (2 : Int32).toNatClampNeg (-9))))] H := hP
                      have hD : va_D A [(mo, .inr (12, [.int 0, .int 0, .long 0, .int 0, .int 0, .ref g5, .ref g6, .ref g7, .ref g8, .ref g9, .ref g10, .int 0, .ref g12, .ref g13, .ref g14, .ref g15, .ref g16, .ref g17, .ref g18, .ref g19, .ref g20, .int (-9), .ref g22, .ref g23, .ref g24, .int 0, .int 0, .int 0, .int 0, .ref g29, .ref g30, .ref g31, .ref g32, .ref g33])), (g15, .inl (cy 2, 4, .inl (upd (fun _ => 0) (0 : Int32).toNatClampNeg (vp_nar .boolean 1)))), (g16, .inl (cy 0, 4, .inl (upd (fun _ => 0) (0 : Int32).toNatClampNeg a2))), (g17, .inl (cy 0, 4, .inl (upd (fun _ => 0) (0 : Int32).toNatClampNeg a3))), (g18, .inl (cy 0, 24, .inl (upd (upd (upd (fun _ => 0) (0 : Int32).toNatClampNeg (-9)) (1 : Int32).toNatClampNeg (-9)) (2 : Int32).toNatClampNeg (-9))))] := hD
                      refine lv_iinc (v := 3) (lv' := [(4, .int 3), (0, .ref mo), (1, .int 0), (2, .int a2), (3, .int a3)]) hx hb dX12_map_102 hl (k := 0) rfl (by decide) (by decide) rfl (fun ls hl => ?_)
                      refine lv_goto (tgt := 81) hx hb dX12_map_105 (by decide) ?_
                      refine lv_iload hx hb dX12_map_81 (lv_at hl 0 rfl) ?_
                      refine lv_bipush (v := 6) hx hb dX12_map_83 (by decide) ?_
                      refine lv_icmp_ge (tgt := 108) hx hb dX12_map_85 (by decide) (fun c_12 => ?_) (fun c_12 => ?_)
                      · exact absurd c_12 (by decide)
                      · have _ := c_12
                        refine lv_aload_n hx hb dX12_map_88 rfl (lv_at hl 1 rfl) ?_
                        refine va_get (ci := 12) (v := .ref g18) (C := RX12) (T := TX12) (N := 34) hx hb hts (fun _ h => List.mem_cons_of_mem _ (List.mem_append_right _ h)) hown hK.1 hP 0 rfl rfl 18 (by decide) (hts (.fieldLink RX12 47 "CutAtlasModel" "rowSize" "[I") (by decide +kernel)) (fun _ h9 => h9) rfl dX12_map_89 ?_
                        refine lv_bipush (v := 6) hx hb dX12_map_92 (by decide) ?_
                        refine lv_iload_n hx hb dX12_map_94 rfl (lv_at hl 2 rfl) ?_
                        refine lv_imul hx hb dX12_map_95 ?_
                        refine lv_topi (fun y_ ey_ => ?_)
                        have ey_ := (ey_.trans (show _ = (0 : Int32) by decide)).symm
                        subst ey_
                        refine lv_iload hx hb dX12_map_96 (lv_at hl 0 rfl) ?_
                        refine lv_iadd hx hb dX12_map_98 ?_
                        refine lv_topi (fun y_ ey_ => ?_)
                        have ey_ := (ey_.trans (show _ = (3 : Int32) by decide)).symm
                        subst ey_
                        refine lv_bipush (v := (-9)) hx hb dX12_map_99 (by decide) ?_
                        refine va_iast hx hb hK.1 hP hD hS 4 0 rfl rfl (i := 3) (by unfold vp_in; decide) dX12_map_101 (fun H locs hP hD hS => ?_)
                        have hP : va_P D vwCl [(mo, .inr (12, [.int 0, .int 0, .long 0, .int 0, .int 0, .ref g5, .ref g6, .ref g7, .ref g8, .ref g9, .ref g10, .int 0, .ref g12, .ref g13, .ref g14, .ref g15, .ref g16, .ref g17, .ref g18, .ref g19, .ref g20, .int (-9), .ref g22, .ref g23, .ref g24, .int 0, .int 0, .int 0, .int 0, .ref g29, .ref g30, .ref g31, .ref g32, .ref g33])), (g15, .inl (cy 2, 4, .inl (upd (fun _ => 0) (0 : Int32).toNatClampNeg (vp_nar .boolean 1)))), (g16, .inl (cy 0, 4, .inl (upd (fun _ => 0) (0 : Int32).toNatClampNeg a2))), (g17, .inl (cy 0, 4, .inl (upd (fun _ => 0) (0 : Int32).toNatClampNeg a3))), (g18, .inl (cy 0, 24, .inl (upd (upd (upd (upd (fun _ => 0) (0 : Int32).toNatClampNeg (-9)) (1 : Int32).toNatClampNeg (-9)) (2 : Int32).toNatClampNeg (-9)) (3 : Int32).toNatClampNeg (-9))))] H := hP
                        have hD : va_D A [(mo, .inr (12, [.int 0, .int 0, .long 0, .int 0, .int 0, .ref g5, .ref g6, .ref g7, .ref g8, .ref g9, .ref g10, .int 0, .ref g12, .ref g13, .ref g14, .ref g15, .ref g16, .ref g17, .ref g18, .ref g19, .ref g20, .int (-9), .ref g22, .ref g23, .ref g24, .int 0, .int 0, .int 0, .int 0, .ref g29, .ref g30, .ref g31, .ref g32, .ref g33])), (g15, .inl (cy 2, 4, .inl (upd (fun _ => 0) (0 : Int32).toNatClampNeg (vp_nar .boolean 1)))), (g16, .inl (cy 0, 4, .inl (upd (fun _ => 0) (0 : Int32).toNatClampNeg a2))), (g17, .inl (cy 0, 4, .inl (upd (fun _ => 0) (0 : Int32).toNatClampNeg a3))), (g18, .inl (cy 0, 24, .inl (upd (upd (upd (upd (fun _ => 0) (0 : Int32).toNatClampNeg (-9)) (1 : Int32).toNatClampNeg (-9)) (2 : Int32).toNatClampNeg (-9)) (3 : Int32).toNatClampNeg (-9))))] := hD
                        refine lv_iinc (v := 4) (lv' := [(4, .int 4), (0, .ref mo), (1, .int 0), (2, .int a2), (3, .int a3)]) hx hb dX12_map_102 hl (k := 0) rfl (by decide) (by decide) rfl (fun ls hl => ?_)
                        refine lv_goto (tgt := 81) hx hb dX12_map_105 (by decide) ?_
                        refine lv_iload hx hb dX12_map_81 (lv_at hl 0 rfl) ?_
                        refine lv_bipush (v := 6) hx hb dX12_map_83 (by decide) ?_
                        refine lv_icmp_ge (tgt := 108) hx hb dX12_map_85 (by decide) (fun c_13 => ?_) (fun c_13 => ?_)
                        · exact absurd c_13 (by decide)
                        · have _ := c_13
                          refine lv_aload_n hx hb dX12_map_88 rfl (lv_at hl 1 rfl) ?_
                          refine va_get (ci := 12) (v := .ref g18) (C := RX12) (T := TX12) (N := 34) hx hb hts (fun _ h => List.mem_cons_of_mem _ (List.mem_append_right _ h)) hown hK.1 hP 0 rfl rfl 18 (by decide) (hts (.fieldLink RX12 47 "CutAtlasModel" "rowSize" "[I") (by decide +kernel)) (fun _ h9 => h9) rfl dX12_map_89 ?_
                          refine lv_bipush (v := 6) hx hb dX12_map_92 (by decide) ?_
                          refine lv_iload_n hx hb dX12_map_94 rfl (lv_at hl 2 rfl) ?_
                          refine lv_imul hx hb dX12_map_95 ?_
                          refine lv_topi (fun y_ ey_ => ?_)
                          have ey_ := (ey_.trans (show _ = (0 : Int32) by decide)).symm
                          subst ey_
                          refine lv_iload hx hb dX12_map_96 (lv_at hl 0 rfl) ?_
                          refine lv_iadd hx hb dX12_map_98 ?_
                          refine lv_topi (fun y_ ey_ => ?_)
                          have ey_ := (ey_.trans (show _ = (4 : Int32) by decide)).symm
                          subst ey_
                          refine lv_bipush (v := (-9)) hx hb dX12_map_99 (by decide) ?_
                          refine va_iast hx hb hK.1 hP hD hS 4 0 rfl rfl (i := 4) (by unfold vp_in; decide) dX12_map_101 (fun H locs hP hD hS => ?_)
                          have hP : va_P D vwCl [(mo, .inr (12, [.int 0, .int 0, .long 0, .int 0, .int 0, .ref g5, .ref g6, .ref g7, .ref g8, .ref g9, .ref g10, .int 0, .ref g12, .ref g13, .ref g14, .ref g15, .ref g16, .ref g17, .ref g18, .ref g19, .ref g20, .int (-9), .ref g22, .ref g23, .ref g24, .int 0, .int 0, .int 0, .int 0, .ref g29, .ref g30, .ref g31, .ref g32, .ref g33])), (g15, .inl (cy 2, 4, .inl (upd (fun _ => 0) (0 : Int32).toNatClampNeg (vp_nar .boolean 1)))), (g16, .inl (cy 0, 4, .inl (upd (fun _ => 0) (0 : Int32).toNatClampNeg a2))), (g17, .inl (cy 0, 4, .inl (upd (fun _ => 0) (0 : Int32).toNatClampNeg a3))), (g18, .inl (cy 0, 24, .inl (upd (upd (upd (upd (upd (fun _ => 0) (0 : Int32).toNatClampNeg (-9)) (1 : Int32).toNatClampNeg (-9)) (2 : Int32).toNatClampNeg (-9)) (3 : Int32).toNatClampNeg (-9)) (4 : Int32).toNatClampNeg (-9))))] H := hP
                          have hD : va_D A [(mo, .inr (12, [.int 0, .int 0, .long 0, .int 0, .int 0, .ref g5, .ref g6, .ref g7, .ref g8, .ref g9, .ref g10, .int 0, .ref g12, .ref g13, .ref g14, .ref g15, .ref g16, .ref g17, .ref g18, .ref g19, .ref g20, .int (-9), .ref g22, .ref g23, .ref g24, .int 0, .int 0, .int 0, .int 0, .ref g29, .ref g30, .ref g31, .ref g32, .ref g33])), (g15, .inl (cy 2, 4, .inl (upd (fun _ => 0) (0 : Int32).toNatClampNeg (vp_nar .boolean 1)))), (g16, .inl (cy 0, 4, .inl (upd (fun _ => 0) (0 : Int32).toNatClampNeg a2))), (g17, .inl (cy 0, 4, .inl (upd (fun _ => 0) (0 : Int32).toNatClampNeg a3))), (g18, .inl (cy 0, 24, .inl (upd (upd (upd (upd (upd (fun _ => 0) (0 : Int32).toNatClampNeg (-9)) (1 : Int32).toNatClampNeg (-9)) (2 : Int32).toNatClampNeg (-9)) (3 : Int32).toNatClampNeg (-9)) (4 : Int32).toNatClampNeg (-9))))] := hD
                          refine lv_iinc (v := 5) (lv' := [(4, .int 5), (0, .ref mo), (1, .int 0), (2, .int a2), (3, .int a3)]) hx hb dX12_map_102 hl (k := 0) rfl (by decide) (by decide) rfl (fun ls hl => ?_)
                          refine lv_goto (tgt := 81) hx hb dX12_map_105 (by decide) ?_
                          refine lv_iload hx hb dX12_map_81 (lv_at hl 0 rfl) ?_
                          refine lv_bipush (v := 6) hx hb dX12_map_83 (by decide) ?_
                          refine lv_icmp_ge (tgt := 108) hx hb dX12_map_85 (by decide) (fun c_14 => ?_) (fun c_14 => ?_)
                          · exact absurd c_14 (by decide)
                          · have _ := c_14
                            refine lv_aload_n hx hb dX12_map_88 rfl (lv_at hl 1 rfl) ?_
                            refine va_get (ci := 12) (v := .ref g18) (C := RX12) (T := TX12) (N := 34) hx hb hts (fun _ h => List.mem_cons_of_mem _ (List.mem_append_right _ h)) hown hK.1 hP 0 rfl rfl 18 (by decide) (hts (.fieldLink RX12 47 "CutAtlasModel" "rowSize" "[I") (by decide +kernel)) (fun _ h9 => h9) rfl dX12_map_89 ?_
                            refine lv_bipush (v := 6) hx hb dX12_map_92 (by decide) ?_
                            refine lv_iload_n hx hb dX12_map_94 rfl (lv_at hl 2 rfl) ?_
                            refine lv_imul hx hb dX12_map_95 ?_
                            refine lv_topi (fun y_ ey_ => ?_)
                            have ey_ := (ey_.trans (show _ = (0 : Int32) by decide)).symm
                            subst ey_
                            refine lv_iload hx hb dX12_map_96 (lv_at hl 0 rfl) ?_
                            refine lv_iadd hx hb dX12_map_98 ?_
                            refine lv_topi (fun y_ ey_ => ?_)
                            have ey_ := (ey_.trans (show _ = (5 : Int32) by decide)).symm
                            subst ey_
                            refine lv_bipush (v := (-9)) hx hb dX12_map_99 (by decide) ?_
                            refine va_iast hx hb hK.1 hP hD hS 4 0 rfl rfl (i := 5) (by unfold vp_in; decide) dX12_map_101 (fun H locs hP hD hS => ?_)
                            have hP : va_P D vwCl [(mo, .inr (12, [.int 0, .int 0, .long 0, .int 0, .int 0, .ref g5, .ref g6, .ref g7, .ref g8, .ref g9, .ref g10, .int 0, .ref g12, .ref g13, .ref g14, .ref g15, .ref g16, .ref g17, .ref g18, .ref g19, .ref g20, .int (-9), .ref g22, .ref g23, .ref g24, .int 0, .int 0, .int 0, .int 0, .ref g29, .ref g30, .ref g31, .ref g32, .ref g33])), (g15, .inl (cy 2, 4, .inl (upd (fun _ => 0) (0 : Int32).toNatClampNeg (vp_nar .boolean 1)))), (g16, .inl (cy 0, 4, .inl (upd (fun _ => 0) (0 : Int32).toNatClampNeg a2))), (g17, .inl (cy 0, 4, .inl (upd (fun _ => 0) (0 : Int32).toNatClampNeg a3))), (g18, .inl (cy 0, 24, .inl (upd (upd (upd (upd (upd (upd (fun _ => 0) (0 : Int32).toNatClampNeg (-9)) (1 : Int32).toNatClampNeg (-9)) (2 : Int32).toNatClampNeg (-9)) (3 : Int32).toNatClampNeg (-9)) (4 : Int32).toNatClampNeg (-9)) (5 : Int32).toNatClampNeg (-9))))] H := hP
                            have hD : va_D A [(mo, .inr (12, [.int 0, .int 0, .long 0, .int 0, .int 0, .ref g5, .ref g6, .ref g7, .ref g8, .ref g9, .ref g10, .int 0, .ref g12, .ref g13, .ref g14, .ref g15, .ref g16, .ref g17, .ref g18, .ref g19, .ref g20, .int (-9), .ref g22, .ref g23, .ref g24, .int 0, .int 0, .int 0, .int 0, .ref g29, .ref g30, .ref g31, .ref g32, .ref g33])), (g15, .inl (cy 2, 4, .inl (upd (fun _ => 0) (0 : Int32).toNatClampNeg (vp_nar .boolean 1)))), (g16, .inl (cy 0, 4, .inl (upd (fun _ => 0) (0 : Int32).toNatClampNeg a2))), (g17, .inl (cy 0, 4, .inl (upd (fun _ => 0) (0 : Int32).toNatClampNeg a3))), (g18, .inl (cy 0, 24, .inl (upd (upd (upd (upd (upd (upd (fun _ => 0) (0 : Int32).toNatClampNeg (-9)) (1 : Int32).toNatClampNeg (-9)) (2 : Int32).toNatClampNeg (-9)) (3 : Int32).toNatClampNeg (-9)) (4 : Int32).toNatClampNeg (-9)) (5 : Int32).toNatClampNeg (-9))))] := hD
                            refine lv_iinc (v := 6) (lv' := [(4, .int 6), (0, .ref mo), (1, .int 0), (2, .int a2), (3, .int a3)]) hx hb dX12_map_102 hl (k := 0) rfl (by decide) (by decide) rfl (fun ls hl => ?_)
                            refine lv_goto (tgt := 81) hx hb dX12_map_105 (by decide) ?_
                            refine lv_iload hx hb dX12_map_81 (lv_at hl 0 rfl) ?_
                            refine lv_bipush (v := 6) hx hb dX12_map_83 (by decide) ?_
                            refine lv_icmp_ge (tgt := 108) hx hb dX12_map_85 (by decide) (fun c_15 => ?_) (fun c_15 => ?_)
                            · have _ := c_15
                              refine lv_iconst (v := 1) hx hb dX12_map_108 (by decide) ?_
                              exact W.iret (v := 1) hx hb hr (fun t ht hW => ⟨⟨1, (), rfl, Or.inr (Or.inr (⟨by omega, rfl⟩)), trivial⟩, hS.F ht⟩) hS.2.2 dX12_map_109
                            · exact absurd c_15 (by decide)
              · refine lv_aload_n hx hb dX12_map_57 rfl (lv_at hl 0 rfl) ?_
                refine va_get (ci := 12) (v := .ref g15) (C := RX12) (T := TX12) (N := 34) hx hb hts (fun _ h => List.mem_cons_of_mem _ (List.mem_append_right _ h)) hown hK.1 hP 0 rfl rfl 15 (by decide) (hts (.fieldLink RX12 38 "CutAtlasModel" "hasMap" "[Z") (by decide +kernel)) (fun _ h9 => h9) rfl dX12_map_58 ?_
                refine lv_iload_n hx hb dX12_map_61 rfl (lv_at hl 1 rfl) ?_
                refine lv_iconst (v := 1) hx hb dX12_map_62 (by decide) ?_
                refine va_zast hx hb hK.1 hP hD hS 1 2 rfl rfl (i := 1) (by unfold vp_in; decide) dX12_map_63 (fun H locs hP hD hS => ?_)
                have hP : va_P D vwCl [(mo, .inr (12, [.int 0, .int 0, .long 0, .int 0, .int 0, .ref g5, .ref g6, .ref g7, .ref g8, .ref g9, .ref g10, .int 0, .ref g12, .ref g13, .ref g14, .ref g15, .ref g16, .ref g17, .ref g18, .ref g19, .ref g20, .int (-9), .ref g22, .ref g23, .ref g24, .int 0, .int 0, .int 0, .int 0, .ref g29, .ref g30, .ref g31, .ref g32, .ref g33])), (g15, .inl (cy 2, 4, .inl (upd (fun _ => 0) (1 : Int32).toNatClampNeg (vp_nar .boolean 1)))), (g16, .inl (cy 0, 4, .inl (fun _ => 0))), (g17, .inl (cy 0, 4, .inl (fun _ => 0))), (g18, .inl (cy 0, 24, .inl (fun _ => 0)))] H := hP
                have hD : va_D A [(mo, .inr (12, [.int 0, .int 0, .long 0, .int 0, .int 0, .ref g5, .ref g6, .ref g7, .ref g8, .ref g9, .ref g10, .int 0, .ref g12, .ref g13, .ref g14, .ref g15, .ref g16, .ref g17, .ref g18, .ref g19, .ref g20, .int (-9), .ref g22, .ref g23, .ref g24, .int 0, .int 0, .int 0, .int 0, .ref g29, .ref g30, .ref g31, .ref g32, .ref g33])), (g15, .inl (cy 2, 4, .inl (upd (fun _ => 0) (1 : Int32).toNatClampNeg (vp_nar .boolean 1)))), (g16, .inl (cy 0, 4, .inl (fun _ => 0))), (g17, .inl (cy 0, 4, .inl (fun _ => 0))), (g18, .inl (cy 0, 24, .inl (fun _ => 0)))] := hD
                refine lv_aload_n hx hb dX12_map_64 rfl (lv_at hl 0 rfl) ?_
                refine va_get (ci := 12) (v := .ref g16) (C := RX12) (T := TX12) (N := 34) hx hb hts (fun _ h => List.mem_cons_of_mem _ (List.mem_append_right _ h)) hown hK.1 hP 0 rfl rfl 16 (by decide) (hts (.fieldLink RX12 41 "CutAtlasModel" "mapKind" "[I") (by decide +kernel)) (fun _ h9 => h9) rfl dX12_map_65 ?_
                refine lv_iload_n hx hb dX12_map_68 rfl (lv_at hl 1 rfl) ?_
                refine lv_iload_n hx hb dX12_map_69 rfl (lv_at hl 2 rfl) ?_
                refine va_iast hx hb hK.1 hP hD hS 2 0 rfl rfl (i := 1) (by unfold vp_in; decide) dX12_map_70 (fun H locs hP hD hS => ?_)
                have hP : va_P D vwCl [(mo, .inr (12, [.int 0, .int 0, .long 0, .int 0, .int 0, .ref g5, .ref g6, .ref g7, .ref g8, .ref g9, .ref g10, .int 0, .ref g12, .ref g13, .ref g14, .ref g15, .ref g16, .ref g17, .ref g18, .ref g19, .ref g20, .int (-9), .ref g22, .ref g23, .ref g24, .int 0, .int 0, .int 0, .int 0, .ref g29, .ref g30, .ref g31, .ref g32, .ref g33])), (g15, .inl (cy 2, 4, .inl (upd (fun _ => 0) (1 : Int32).toNatClampNeg (vp_nar .boolean 1)))), (g16, .inl (cy 0, 4, .inl (upd (fun _ => 0) (1 : Int32).toNatClampNeg a2))), (g17, .inl (cy 0, 4, .inl (fun _ => 0))), (g18, .inl (cy 0, 24, .inl (fun _ => 0)))] H := hP
                have hD : va_D A [(mo, .inr (12, [.int 0, .int 0, .long 0, .int 0, .int 0, .ref g5, .ref g6, .ref g7, .ref g8, .ref g9, .ref g10, .int 0, .ref g12, .ref g13, .ref g14, .ref g15, .ref g16, .ref g17, .ref g18, .ref g19, .ref g20, .int (-9), .ref g22, .ref g23, .ref g24, .int 0, .int 0, .int 0, .int 0, .ref g29, .ref g30, .ref g31, .ref g32, .ref g33])), (g15, .inl (cy 2, 4, .inl (upd (fun _ => 0) (1 : Int32).toNatClampNeg (vp_nar .boolean 1)))), (g16, .inl (cy 0, 4, .inl (upd (fun _ => 0) (1 : Int32).toNatClampNeg a2))), (g17, .inl (cy 0, 4, .inl (fun _ => 0))), (g18, .inl (cy 0, 24, .inl (fun _ => 0)))] := hD
                refine lv_aload_n hx hb dX12_map_71 rfl (lv_at hl 0 rfl) ?_
                refine va_get (ci := 12) (v := .ref g17) (C := RX12) (T := TX12) (N := 34) hx hb hts (fun _ h => List.mem_cons_of_mem _ (List.mem_append_right _ h)) hown hK.1 hP 0 rfl rfl 17 (by decide) (hts (.fieldLink RX12 44 "CutAtlasModel" "mapRows" "[I") (by decide +kernel)) (fun _ h9 => h9) rfl dX12_map_72 ?_
                refine lv_iload_n hx hb dX12_map_75 rfl (lv_at hl 1 rfl) ?_
                refine lv_iload_n hx hb dX12_map_76 rfl (lv_at hl 3 rfl) ?_
                refine va_iast hx hb hK.1 hP hD hS 3 0 rfl rfl (i := 1) (by unfold vp_in; decide) dX12_map_77 (fun H locs hP hD hS => ?_)
                have hP : va_P D vwCl [(mo, .inr (12, [.int 0, .int 0, .long 0, .int 0, .int 0, .ref g5, .ref g6, .ref g7, .ref g8, .ref g9, .ref g10, .int 0, .ref g12, .ref g13, .ref g14, .ref g15, .ref g16, .ref g17, .ref g18, .ref g19, .ref g20, .int (-9), .ref g22, .ref g23, .ref g24, .int 0, .int 0, .int 0, .int 0, .ref g29, .ref g30, .ref g31, .ref g32, .ref g33])), (g15, .inl (cy 2, 4, .inl (upd (fun _ => 0) (1 : Int32).toNatClampNeg (vp_nar .boolean 1)))), (g16, .inl (cy 0, 4, .inl (upd (fun _ => 0) (1 : Int32).toNatClampNeg a2))), (g17, .inl (cy 0, 4, .inl (upd (fun _ => 0) (1 : Int32).toNatClampNeg a3))), (g18, .inl (cy 0, 24, .inl (fun _ => 0)))] H := hP
                have hD : va_D A [(mo, .inr (12, [.int 0, .int 0, .long 0, .int 0, .int 0, .ref g5, .ref g6, .ref g7, .ref g8, .ref g9, .ref g10, .int 0, .ref g12, .ref g13, .ref g14, .ref g15, .ref g16, .ref g17, .ref g18, .ref g19, .ref g20, .int (-9), .ref g22, .ref g23, .ref g24, .int 0, .int 0, .int 0, .int 0, .ref g29, .ref g30, .ref g31, .ref g32, .ref g33])), (g15, .inl (cy 2, 4, .inl (upd (fun _ => 0) (1 : Int32).toNatClampNeg (vp_nar .boolean 1)))), (g16, .inl (cy 0, 4, .inl (upd (fun _ => 0) (1 : Int32).toNatClampNeg a2))), (g17, .inl (cy 0, 4, .inl (upd (fun _ => 0) (1 : Int32).toNatClampNeg a3))), (g18, .inl (cy 0, 24, .inl (fun _ => 0)))] := hD
                refine lv_iconst (v := 0) hx hb dX12_map_78 (by decide) ?_
                refine lv_istore (lv' := [(4, .int 0), (0, .ref mo), (1, .int 1), (2, .int a2), (3, .int a3)]) hx hb dX12_map_79 hl (by decide) rfl (fun ls hl => ?_)
                refine lv_iload hx hb dX12_map_81 (lv_at hl 0 rfl) ?_
                refine lv_bipush (v := 6) hx hb dX12_map_83 (by decide) ?_
                refine lv_icmp_ge (tgt := 108) hx hb dX12_map_85 (by decide) (fun c_16 => ?_) (fun c_16 => ?_)
                · exact absurd c_16 (by decide)
                · have _ := c_16
                  refine lv_aload_n hx hb dX12_map_88 rfl (lv_at hl 1 rfl) ?_
                  refine va_get (ci := 12) (v := .ref g18) (C := RX12) (T := TX12) (N := 34) hx hb hts (fun _ h => List.mem_cons_of_mem _ (List.mem_append_right _ h)) hown hK.1 hP 0 rfl rfl 18 (by decide) (hts (.fieldLink RX12 47 "CutAtlasModel" "rowSize" "[I") (by decide +kernel)) (fun _ h9 => h9) rfl dX12_map_89 ?_
                  refine lv_bipush (v := 6) hx hb dX12_map_92 (by decide) ?_
                  refine lv_iload_n hx hb dX12_map_94 rfl (lv_at hl 2 rfl) ?_
                  refine lv_imul hx hb dX12_map_95 ?_
                  refine lv_topi (fun y_ ey_ => ?_)
                  have ey_ := (ey_.trans (show _ = (6 : Int32) by decide)).symm
                  subst ey_
                  refine lv_iload hx hb dX12_map_96 (lv_at hl 0 rfl) ?_
                  refine lv_iadd hx hb dX12_map_98 ?_
                  refine lv_topi (fun y_ ey_ => ?_)
                  have ey_ := (ey_.trans (show _ = (6 : Int32) by decide)).symm
                  subst ey_
                  refine lv_bipush (v := (-9)) hx hb dX12_map_99 (by decide) ?_
                  refine va_iast hx hb hK.1 hP hD hS 4 0 rfl rfl (i := 6) (by unfold vp_in; decide) dX12_map_101 (fun H locs hP hD hS => ?_)
                  have hP : va_P D vwCl [(mo, .inr (12, [.int 0, .int 0, .long 0, .int 0, .int 0, .ref g5, .ref g6, .ref g7, .ref g8, .ref g9, .ref g10, .int 0, .ref g12, .ref g13, .ref g14, .ref g15, .ref g16, .ref g17, .ref g18, .ref g19, .ref g20, .int (-9), .ref g22, .ref g23, .ref g24, .int 0, .int 0, .int 0, .int 0, .ref g29, .ref g30, .ref g31, .ref g32, .ref g33])), (g15, .inl (cy 2, 4, .inl (upd (fun _ => 0) (1 : Int32).toNatClampNeg (vp_nar .boolean 1)))), (g16, .inl (cy 0, 4, .inl (upd (fun _ => 0) (1 : Int32).toNatClampNeg a2))), (g17, .inl (cy 0, 4, .inl (upd (fun _ => 0) (1 : Int32).toNatClampNeg a3))), (g18, .inl (cy 0, 24, .inl (upd (fun _ => 0) (6 : Int32).toNatClampNeg (-9))))] H := hP
                  have hD : va_D A [(mo, .inr (12, [.int 0, .int 0, .long 0, .int 0, .int 0, .ref g5, .ref g6, .ref g7, .ref g8, .ref g9, .ref g10, .int 0, .ref g12, .ref g13, .ref g14, .ref g15, .ref g16, .ref g17, .ref g18, .ref g19, .ref g20, .int (-9), .ref g22, .ref g23, .ref g24, .int 0, .int 0, .int 0, .int 0, .ref g29, .ref g30, .ref g31, .ref g32, .ref g33])), (g15, .inl (cy 2, 4, .inl (upd (fun _ => 0) (1 : Int32).toNatClampNeg (vp_nar .boolean 1)))), (g16, .inl (cy 0, 4, .inl (upd (fun _ => 0) (1 : Int32).toNatClampNeg a2))), (g17, .inl (cy 0, 4, .inl (upd (fun _ => 0) (1 : Int32).toNatClampNeg a3))), (g18, .inl (cy 0, 24, .inl (upd (fun _ => 0) (6 : Int32).toNatClampNeg (-9))))] := hD
                  refine lv_iinc (v := 1) (lv' := [(4, .int 1), (0, .ref mo), (1, .int 1), (2, .int a2), (3, .int a3)]) hx hb dX12_map_102 hl (k := 0) rfl (by decide) (by decide) rfl (fun ls hl => ?_)
                  refine lv_goto (tgt := 81) hx hb dX12_map_105 (by decide) ?_
                  refine lv_iload hx hb dX12_map_81 (lv_at hl 0 rfl) ?_
                  refine lv_bipush (v := 6) hx hb dX12_map_83 (by decide) ?_
                  refine lv_icmp_ge (tgt := 108) hx hb dX12_map_85 (by decide) (fun c_17 => ?_) (fun c_17 => ?_)
                  · exact absurd c_17 (by decide)
                  · have _ := c_17
                    refine lv_aload_n hx hb dX12_map_88 rfl (lv_at hl 1 rfl) ?_
                    refine va_get (ci := 12) (v := .ref g18) (C := RX12) (T := TX12) (N := 34) hx hb hts (fun _ h => List.mem_cons_of_mem _ (List.mem_append_right _ h)) hown hK.1 hP 0 rfl rfl 18 (by decide) (hts (.fieldLink RX12 47 "CutAtlasModel" "rowSize" "[I") (by decide +kernel)) (fun _ h9 => h9) rfl dX12_map_89 ?_
                    refine lv_bipush (v := 6) hx hb dX12_map_92 (by decide) ?_
                    refine lv_iload_n hx hb dX12_map_94 rfl (lv_at hl 2 rfl) ?_
                    refine lv_imul hx hb dX12_map_95 ?_
                    refine lv_topi (fun y_ ey_ => ?_)
                    have ey_ := (ey_.trans (show _ = (6 : Int32) by decide)).symm
                    subst ey_
                    refine lv_iload hx hb dX12_map_96 (lv_at hl 0 rfl) ?_
                    refine lv_iadd hx hb dX12_map_98 ?_
                    refine lv_topi (fun y_ ey_ => ?_)
                    have ey_ := (ey_.trans (show _ = (7 : Int32) by decide)).symm
                    subst ey_
                    refine lv_bipush (v := (-9)) hx hb dX12_map_99 (by decide) ?_
                    refine va_iast hx hb hK.1 hP hD hS 4 0 rfl rfl (i := 7) (by unfold vp_in; decide) dX12_map_101 (fun H locs hP hD hS => ?_)
                    have hP : va_P D vwCl [(mo, .inr (12, [.int 0, .int 0, .long 0, .int 0, .int 0, .ref g5, .ref g6, .ref g7, .ref g8, .ref g9, .ref g10, .int 0, .ref g12, .ref g13, .ref g14, .ref g15, .ref g16, .ref g17, .ref g18, .ref g19, .ref g20, .int (-9), .ref g22, .ref g23, .ref g24, .int 0, .int 0, .int 0, .int 0, .ref g29, .ref g30, .ref g31, .ref g32, .ref g33])), (g15, .inl (cy 2, 4, .inl (upd (fun _ => 0) (1 : Int32).toNatClampNeg (vp_nar .boolean 1)))), (g16, .inl (cy 0, 4, .inl (upd (fun _ => 0) (1 : Int32).toNatClampNeg a2))), (g17, .inl (cy 0, 4, .inl (upd (fun _ => 0) (1 : Int32).toNatClampNeg a3))), (g18, .inl (cy 0, 24, .inl (upd (upd (fun _ => 0) (6 : Int32).toNatClampNeg (-9)) (7 : Int32).toNatClampNeg (-9))))] H := hP
                    have hD : va_D A [(mo, .inr (12, [.int 0, .int 0, .long 0, .int 0, .int 0, .ref g5, .ref g6, .ref g7, .ref g8, .ref g9, .ref g10, .int 0, .ref g12, .ref g13, .ref g14, .ref g15, .ref g16, .ref g17, .ref g18, .ref g19, .ref g20, .int (-9), .ref g22, .ref g23, .ref g24, .int 0, .int 0, .int 0, .int 0, .ref g29, .ref g30, .ref g31, .ref g32, .ref g33])), (g15, .inl (cy 2, 4, .inl (upd (fun _ => 0) (1 : Int32).toNatClampNeg (vp_nar .boolean 1)))), (g16, .inl (cy 0, 4, .inl (upd (fun _ => 0) (1 : Int32).toNatClampNeg a2))), (g17, .inl (cy 0, 4, .inl (upd (fun _ => 0) (1 : Int32).toNatClampNeg a3))), (g18, .inl (cy 0, 24, .inl (upd (upd (fun _ => 0) (6 : Int32).toNatClampNeg (-9)) (7 : Int32).toNatClampNeg (-9))))] := hD
                    refine lv_iinc (v := 2) (lv' := [(4, .int 2), (0, .ref mo), (1, .int 1), (2, .int a2), (3, .int a3)]) hx hb dX12_map_102 hl (k := 0) rfl (by decide) (by decide) rfl (fun ls hl => ?_)
                    refine lv_goto (tgt := 81) hx hb dX12_map_105 (by decide) ?_
                    refine lv_iload hx hb dX12_map_81 (lv_at hl 0 rfl) ?_
                    refine lv_bipush (v := 6) hx hb dX12_map_83 (by decide) ?_
                    refine lv_icmp_ge (tgt := 108) hx hb dX12_map_85 (by decide) (fun c_18 => ?_) (fun c_18 => ?_)
                    · exact absurd c_18 (by decide)
                    · have _ := c_18
                      refine lv_aload_n hx hb dX12_map_88 rfl (lv_at hl 1 rfl) ?_
                      refine va_get (ci := 12) (v := .ref g18) (C := RX12) (T := TX12) (N := 34) hx hb hts (fun _ h => List.mem_cons_of_mem _ (List.mem_append_right _ h)) hown hK.1 hP 0 rfl rfl 18 (by decide) (hts (.fieldLink RX12 47 "CutAtlasModel" "rowSize" "[I") (by decide +kernel)) (fun _ h9 => h9) rfl dX12_map_89 ?_
                      refine lv_bipush (v := 6) hx hb dX12_map_92 (by decide) ?_
                      refine lv_iload_n hx hb dX12_map_94 rfl (lv_at hl 2 rfl) ?_
                      refine lv_imul hx hb dX12_map_95 ?_
                      refine lv_topi (fun y_ ey_ => ?_)
                      have ey_ := (ey_.trans (show _ = (6 : Int32) by decide)).symm
                      subst ey_
                      refine lv_iload hx hb dX12_map_96 (lv_at hl 0 rfl) ?_
                      refine lv_iadd hx hb dX12_map_98 ?_
                      refine lv_topi (fun y_ ey_ => ?_)
                      have ey_ := (ey_.trans (show _ = (8 : Int32) by decide)).symm
                      subst ey_
                      refine lv_bipush (v := (-9)) hx hb dX12_map_99 (by decide) ?_
                      refine va_iast hx hb hK.1 hP hD hS 4 0 rfl rfl (i := 8) (by unfold vp_in; decide) dX12_map_101 (fun H locs hP hD hS => ?_)
                      have hP : va_P D vwCl [(mo, .inr (12, [.int 0, .int 0, .long 0, .int 0, .int 0, .ref g5, .ref g6, .ref g7, .ref g8, .ref g9, .ref g10, .int 0, .ref g12, .ref g13, .ref g14, .ref g15, .ref g16, .ref g17, .ref g18, .ref g19, .ref g20, .int (-9), .ref g22, .ref g23, .ref g24, .int 0, .int 0, .int 0, .int 0, .ref g29, .ref g30, .ref g31, .ref g32, .ref g33])), (g15, .inl (cy 2, 4, .inl (upd (fun _ => 0) (1 : Int32).toNatClampNeg (vp_nar .boolean 1)))), (g16, .inl (cy 0, 4, .inl (upd (fun _ => 0) (1 : Int32).toNatClampNeg a2))), (g17, .inl (cy 0, 4, .inl (upd (fun _ => 0) (1 : Int32).toNatClampNeg a3))), (g18, .inl (cy 0, 24, .inl (upd (upd (upd (fun _ => 0) (6 : Int32).toNatClampNeg (-9)) (7 : Int32).toNatClampNeg (-9)) (8 : Int32).toNatClampNeg (-9))))] H := hP
                      have hD : va_D A [(mo, .inr (12, [.int 0, .int 0, .long 0, .int 0, .int 0, .ref g5, .ref g6, .ref g7, .ref g8, .ref g9, .ref g10, .int 0, .ref g12, .ref g13, .ref g14, .ref g15, .ref g16, .ref g17, .ref g18, .ref g19, .ref g20, .int (-9), .ref g22, .ref g23, .ref g24, .int 0, .int 0, .int 0, .int 0, .ref g29, .ref g30, .ref g31, .ref g32, .ref g33])), (g15, .inl (cy 2, 4, .inl (upd (fun _ => 0) (1 : Int32).toNatClampNeg (vp_nar .boolean 1)))), (g16, .inl (cy 0, 4, .inl (upd (fun _ => 0) (1 : Int32).toNatClampNeg a2))), (g17, .inl (cy 0, 4, .inl (upd (fun _ => 0) (1 : Int32).toNatClampNeg a3))), (g18, .inl (cy 0, 24, .inl (upd (upd (upd (fun _ => 0) (6 : Int32).toNatClampNeg (-9)) (7 : Int32).toNatClampNeg (-9)) (8 : Int32).toNatClampNeg (-9))))] := hD
                      refine lv_iinc (v := 3) (lv' := [(4, .int 3), (0, .ref mo), (1, .int 1), (2, .int a2), (3, .int a3)]) hx hb dX12_map_102 hl (k := 0) rfl (by decide) (by decide) rfl (fun ls hl => ?_)
                      refine lv_goto (tgt := 81) hx hb dX12_map_105 (by decide) ?_
                      refine lv_iload hx hb dX12_map_81 (lv_at hl 0 rfl) ?_
                      refine lv_bipush (v := 6) hx hb dX12_map_83 (by decide) ?_
                      refine lv_icmp_ge (tgt := 108) hx hb dX12_map_85 (by decide) (fun c_19 => ?_) (fun c_19 => ?_)
                      · exact absurd c_19 (by decide)
                      · have _ := c_19
                        refine lv_aload_n hx hb dX12_map_88 rfl (lv_at hl 1 rfl) ?_
                        refine va_get (ci := 12) (v := .ref g18) (C := RX12) (T := TX12) (N := 34) hx hb hts (fun _ h => List.mem_cons_of_mem _ (List.mem_append_right _ h)) hown hK.1 hP 0 rfl rfl 18 (by decide) (hts (.fieldLink RX12 47 "CutAtlasModel" "rowSize" "[I") (by decide +kernel)) (fun _ h9 => h9) rfl dX12_map_89 ?_
                        refine lv_bipush (v := 6) hx hb dX12_map_92 (by decide) ?_
                        refine lv_iload_n hx hb dX12_map_94 rfl (lv_at hl 2 rfl) ?_
                        refine lv_imul hx hb dX12_map_95 ?_
                        refine lv_topi (fun y_ ey_ => ?_)
                        have ey_ := (ey_.trans (show _ = (6 : Int32) by decide)).symm
                        subst ey_
                        refine lv_iload hx hb dX12_map_96 (lv_at hl 0 rfl) ?_
                        refine lv_iadd hx hb dX12_map_98 ?_
                        refine lv_topi (fun y_ ey_ => ?_)
                        have ey_ := (ey_.trans (show _ = (9 : Int32) by decide)).symm
                        subst ey_
                        refine lv_bipush (v := (-9)) hx hb dX12_map_99 (by decide) ?_
                        refine va_iast hx hb hK.1 hP hD hS 4 0 rfl rfl (i := 9) (by unfold vp_in; decide) dX12_map_101 (fun H locs hP hD hS => ?_)
                        have hP : va_P D vwCl [(mo, .inr (12, [.int 0, .int 0, .long 0, .int 0, .int 0, .ref g5, .ref g6, .ref g7, .ref g8, .ref g9, .ref g10, .int 0, .ref g12, .ref g13, .ref g14, .ref g15, .ref g16, .ref g17, .ref g18, .ref g19, .ref g20, .int (-9), .ref g22, .ref g23, .ref g24, .int 0, .int 0, .int 0, .int 0, .ref g29, .ref g30, .ref g31, .ref g32, .ref g33])), (g15, .inl (cy 2, 4, .inl (upd (fun _ => 0) (1 : Int32).toNatClampNeg (vp_nar .boolean 1)))), (g16, .inl (cy 0, 4, .inl (upd (fun _ => 0) (1 : Int32).toNatClampNeg a2))), (g17, .inl (cy 0, 4, .inl (upd (fun _ => 0) (1 : Int32).toNatClampNeg a3))), (g18, .inl (cy 0, 24, .inl (upd (upd (upd (upd (fun _ => 0) (6 : Int32).toNatClampNeg (-9)) (7 : Int32).toNatClampNeg (-9)) (8 : Int32).toNatClampNeg (-9)) (9 : Int32).toNatClampNeg (-9))))] H := hP
                        have hD : va_D A [(mo, .inr (12, [.int 0, .int 0, .long 0, .int 0, .int 0, .ref g5, .ref g6, .ref g7, .ref g8, .ref g9, .ref g10, .int 0, .ref g12, .ref g13, .ref g14, .ref g15, .ref g16, .ref g17, .ref g18, .ref g19, .ref g20, .int (-9), .ref g22, .ref g23, .ref g24, .int 0, .int 0, .int 0, .int 0, .ref g29, .ref g30, .ref g31, .ref g32, .ref g33])), (g15, .inl (cy 2, 4, .inl (upd (fun _ => 0) (1 : Int32).toNatClampNeg (vp_nar .boolean 1)))), (g16, .inl (cy 0, 4, .inl (upd (fun _ => 0) (1 : Int32).toNatClampNeg a2))), (g17, .inl (cy 0, 4, .inl (upd (fun _ => 0) (1 : Int32).toNatClampNeg a3))), (g18, .inl (cy 0, 24, .inl (upd (upd (upd (upd (fun _ => 0) (6 : Int32).toNatClampNeg (-9)) (7 : Int32).toNatClampNeg (-9)) (8 : Int32).toNatClampNeg (-9)) (9 : Int32).toNatClampNeg (-9))))] := hD
                        refine lv_iinc (v := 4) (lv' := [(4, .int 4), (0, .ref mo), (1, .int 1), (2, .int a2), (3, .int a3)]) hx hb dX12_map_102 hl (k := 0) rfl (by decide) (by decide) rfl (fun ls hl => ?_)
                        refine lv_goto (tgt := 81) hx hb dX12_map_105 (by decide) ?_
                        refine lv_iload hx hb dX12_map_81 (lv_at hl 0 rfl) ?_
                        refine lv_bipush (v := 6) hx hb dX12_map_83 (by decide) ?_
                        refine lv_icmp_ge (tgt := 108) hx hb dX12_map_85 (by decide) (fun c_20 => ?_) (fun c_20 => ?_)
                        · exact absurd c_20 (by decide)
                        · have _ := c_20
                          refine lv_aload_n hx hb dX12_map_88 rfl (lv_at hl 1 rfl) ?_
                          refine va_get (ci := 12) (v := .ref g18) (C := RX12) (T := TX12) (N := 34) hx hb hts (fun _ h => List.mem_cons_of_mem _ (List.mem_append_right _ h)) hown hK.1 hP 0 rfl rfl 18 (by decide) (hts (.fieldLink RX12 47 "CutAtlasModel" "rowSize" "[I") (by decide +kernel)) (fun _ h9 => h9) rfl dX12_map_89 ?_
                          refine lv_bipush (v := 6) hx hb dX12_map_92 (by decide) ?_
                          refine lv_iload_n hx hb dX12_map_94 rfl (lv_at hl 2 rfl) ?_
                          refine lv_imul hx hb dX12_map_95 ?_
                          refine lv_topi (fun y_ ey_ => ?_)
                          have ey_ := (ey_.trans (show _ = (6 : Int32) by decide)).symm
                          subst ey_
                          refine lv_iload hx hb dX12_map_96 (lv_at hl 0 rfl) ?_
                          refine lv_iadd hx hb dX12_map_98 ?_
                          refine lv_topi (fun y_ ey_ => ?_)
                          have ey_ := (ey_.trans (show _ = (10 : Int32) by decide)).symm
                          subst ey_
                          refine lv_bipush (v := (-9)) hx hb dX12_map_99 (by decide) ?_
                          refine va_iast hx hb hK.1 hP hD hS 4 0 rfl rfl (i := 10) (by unfold vp_in; decide) dX12_map_101 (fun H locs hP hD hS => ?_)
                          have hP : va_P D vwCl [(mo, .inr (12, [.int 0, .int 0, .long 0, .int 0, .int 0, .ref g5, .ref g6, .ref g7, .ref g8, .ref g9, .ref g10, .int 0, .ref g12, .ref g13, .ref g14, .ref g15, .ref g16, .ref g17, .ref g18, .ref g19, .ref g20, .int (-9), .ref g22, .ref g23, .ref g24, .int 0, .int 0, .int 0, .int 0, .ref g29, .ref g30, .ref g31, .ref g32, .ref g33])), (g15, .inl (cy 2, 4, .inl (upd (fun _ => 0) (1 : Int32).toNatClampNeg (vp_nar .boolean 1)))), (g16, .inl (cy 0, 4, .inl (upd (fun _ => 0) (1 : Int32).toNatClampNeg a2))), (g17, .inl (cy 0, 4, .inl (upd (fun _ => 0) (1 : Int32).toNatClampNeg a3))), (g18, .inl (cy 0, 24, .inl (upd (upd (upd (upd (upd (fun _ => 0) (6 : Int32).toNatClampNeg (-9)) (7 : Int32).toNatClampNeg (-9)) (8 : Int32).toNatClampNeg (-9)) (9 : Int32).toNatClampNeg (-9)) (10 : Int32).toNatClampNeg (-9))))] H := hP
                          have hD : va_D A [(mo, .inr (12, [.int 0, .int 0, .long 0, .int 0, .int 0, .ref g5, .ref g6, .ref g7, .ref g8, .ref g9, .ref g10, .int 0, .ref g12, .ref g13, .ref g14, .ref g15, .ref g16, .ref g17, .ref g18, .ref g19, .ref g20, .int (-9), .ref g22, .ref g23, .ref g24, .int 0, .int 0, .int 0, .int 0, .ref g29, .ref g30, .ref g31, .ref g32, .ref g33])), (g15, .inl (cy 2, 4, .inl (upd (fun _ => 0) (1 : Int32).toNatClampNeg (vp_nar .boolean 1)))), (g16, .inl (cy 0, 4, .inl (upd (fun _ => 0) (1 : Int32).toNatClampNeg a2))), (g17, .inl (cy 0, 4, .inl (upd (fun _ => 0) (1 : Int32).toNatClampNeg a3))), (g18, .inl (cy 0, 24, .inl (upd (upd (upd (upd (upd (fun _ => 0) (6 : Int32).toNatClampNeg (-9)) (7 : Int32).toNatClampNeg (-9)) (8 : Int32).toNatClampNeg (-9)) (9 : Int32).toNatClampNeg (-9)) (10 : Int32).toNatClampNeg (-9))))] := hD
                          refine lv_iinc (v := 5) (lv' := [(4, .int 5), (0, .ref mo), (1, .int 1), (2, .int a2), (3, .int a3)]) hx hb dX12_map_102 hl (k := 0) rfl (by decide) (by decide) rfl (fun ls hl => ?_)
                          refine lv_goto (tgt := 81) hx hb dX12_map_105 (by decide) ?_
                          refine lv_iload hx hb dX12_map_81 (lv_at hl 0 rfl) ?_
                          refine lv_bipush (v := 6) hx hb dX12_map_83 (by decide) ?_
                          refine lv_icmp_ge (tgt := 108) hx hb dX12_map_85 (by decide) (fun c_21 => ?_) (fun c_21 => ?_)
                          · exact absurd c_21 (by decide)
                          · have _ := c_21
                            refine lv_aload_n hx hb dX12_map_88 rfl (lv_at hl 1 rfl) ?_
                            refine va_get (ci := 12) (v := .ref g18) (C := RX12) (T := TX12) (N := 34) hx hb hts (fun _ h => List.mem_cons_of_mem _ (List.mem_append_right _ h)) hown hK.1 hP 0 rfl rfl 18 (by decide) (hts (.fieldLink RX12 47 "CutAtlasModel" "rowSize" "[I") (by decide +kernel)) (fun _ h9 => h9) rfl dX12_map_89 ?_
                            refine lv_bipush (v := 6) hx hb dX12_map_92 (by decide) ?_
                            refine lv_iload_n hx hb dX12_map_94 rfl (lv_at hl 2 rfl) ?_
                            refine lv_imul hx hb dX12_map_95 ?_
                            refine lv_topi (fun y_ ey_ => ?_)
                            have ey_ := (ey_.trans (show _ = (6 : Int32) by decide)).symm
                            subst ey_
                            refine lv_iload hx hb dX12_map_96 (lv_at hl 0 rfl) ?_
                            refine lv_iadd hx hb dX12_map_98 ?_
                            refine lv_topi (fun y_ ey_ => ?_)
                            have ey_ := (ey_.trans (show _ = (11 : Int32) by decide)).symm
                            subst ey_
                            refine lv_bipush (v := (-9)) hx hb dX12_map_99 (by decide) ?_
                            refine va_iast hx hb hK.1 hP hD hS 4 0 rfl rfl (i := 11) (by unfold vp_in; decide) dX12_map_101 (fun H locs hP hD hS => ?_)
                            have hP : va_P D vwCl [(mo, .inr (12, [.int 0, .int 0, .long 0, .int 0, .int 0, .ref g5, .ref g6, .ref g7, .ref g8, .ref g9, .ref g10, .int 0, .ref g12, .ref g13, .ref g14, .ref g15, .ref g16, .ref g17, .ref g18, .ref g19, .ref g20, .int (-9), .ref g22, .ref g23, .ref g24, .int 0, .int 0, .int 0, .int 0, .ref g29, .ref g30, .ref g31, .ref g32, .ref g33])), (g15, .inl (cy 2, 4, .inl (upd (fun _ => 0) (1 : Int32).toNatClampNeg (vp_nar .boolean 1)))), (g16, .inl (cy 0, 4, .inl (upd (fun _ => 0) (1 : Int32).toNatClampNeg a2))), (g17, .inl (cy 0, 4, .inl (upd (fun _ => 0) (1 : Int32).toNatClampNeg a3))), (g18, .inl (cy 0, 24, .inl (upd (upd (upd (upd (upd (upd (fun _ => 0) (6 : Int32).toNatClampNeg (-9)) (7 : Int32).toNatClampNeg (-9)) (8 : Int32).toNatClampNeg (-9)) (9 : Int32).toNatClampNeg (-9)) (10 : Int32).toNatClampNeg (-9)) (11 : Int32).toNatClampNeg (-9))))] H := hP
                            have hD : va_D A [(mo, .inr (12, [.int 0, .int 0, .long 0, .int 0, .int 0, .ref g5, .ref g6, .ref g7, .ref g8, .ref g9, .ref g10, .int 0, .ref g12, .ref g13, .ref g14, .ref g15, .ref g16, .ref g17, .ref g18, .ref g19, .ref g20, .int (-9), .ref g22, .ref g23, .ref g24, .int 0, .int 0, .int 0, .int 0, .ref g29, .ref g30, .ref g31, .ref g32, .ref g33])), (g15, .inl (cy 2, 4, .inl (upd (fun _ => 0) (1 : Int32).toNatClampNeg (vp_nar .boolean 1)))), (g16, .inl (cy 0, 4, .inl (upd (fun _ => 0) (1 : Int32).toNatClampNeg a2))), (g17, .inl (cy 0, 4, .inl (upd (fun _ => 0) (1 : Int32).toNatClampNeg a3))), (g18, .inl (cy 0, 24, .inl (upd (upd (upd (upd (upd (upd (fun _ => 0) (6 : Int32).toNatClampNeg (-9)) (7 : Int32).toNatClampNeg (-9)) (8 : Int32).toNatClampNeg (-9)) (9 : Int32).toNatClampNeg (-9)) (10 : Int32).toNatClampNeg (-9)) (11 : Int32).toNatClampNeg (-9))))] := hD
                            refine lv_iinc (v := 6) (lv' := [(4, .int 6), (0, .ref mo), (1, .int 1), (2, .int a2), (3, .int a3)]) hx hb dX12_map_102 hl (k := 0) rfl (by decide) (by decide) rfl (fun ls hl => ?_)
                            refine lv_goto (tgt := 81) hx hb dX12_map_105 (by decide) ?_
                            refine lv_iload hx hb dX12_map_81 (lv_at hl 0 rfl) ?_
                            refine lv_bipush (v := 6) hx hb dX12_map_83 (by decide) ?_
                            refine lv_icmp_ge (tgt := 108) hx hb dX12_map_85 (by decide) (fun c_22 => ?_) (fun c_22 => ?_)
                            · have _ := c_22
                              refine lv_iconst (v := 1) hx hb dX12_map_108 (by decide) ?_
                              exact W.iret (v := 1) hx hb hr (fun t ht hW => ⟨⟨1, (), rfl, Or.inr (Or.inr (⟨by omega, rfl⟩)), trivial⟩, hS.F ht⟩) hS.2.2 dX12_map_109
                            · exact absurd c_22 (by decide)
              · refine lv_aload_n hx hb dX12_map_57 rfl (lv_at hl 0 rfl) ?_
                refine va_get (ci := 12) (v := .ref g15) (C := RX12) (T := TX12) (N := 34) hx hb hts (fun _ h => List.mem_cons_of_mem _ (List.mem_append_right _ h)) hown hK.1 hP 0 rfl rfl 15 (by decide) (hts (.fieldLink RX12 38 "CutAtlasModel" "hasMap" "[Z") (by decide +kernel)) (fun _ h9 => h9) rfl dX12_map_58 ?_
                refine lv_iload_n hx hb dX12_map_61 rfl (lv_at hl 1 rfl) ?_
                refine lv_iconst (v := 1) hx hb dX12_map_62 (by decide) ?_
                refine va_zast hx hb hK.1 hP hD hS 1 2 rfl rfl (i := 2) (by unfold vp_in; decide) dX12_map_63 (fun H locs hP hD hS => ?_)
                have hP : va_P D vwCl [(mo, .inr (12, [.int 0, .int 0, .long 0, .int 0, .int 0, .ref g5, .ref g6, .ref g7, .ref g8, .ref g9, .ref g10, .int 0, .ref g12, .ref g13, .ref g14, .ref g15, .ref g16, .ref g17, .ref g18, .ref g19, .ref g20, .int (-9), .ref g22, .ref g23, .ref g24, .int 0, .int 0, .int 0, .int 0, .ref g29, .ref g30, .ref g31, .ref g32, .ref g33])), (g15, .inl (cy 2, 4, .inl (upd (fun _ => 0) (2 : Int32).toNatClampNeg (vp_nar .boolean 1)))), (g16, .inl (cy 0, 4, .inl (fun _ => 0))), (g17, .inl (cy 0, 4, .inl (fun _ => 0))), (g18, .inl (cy 0, 24, .inl (fun _ => 0)))] H := hP
                have hD : va_D A [(mo, .inr (12, [.int 0, .int 0, .long 0, .int 0, .int 0, .ref g5, .ref g6, .ref g7, .ref g8, .ref g9, .ref g10, .int 0, .ref g12, .ref g13, .ref g14, .ref g15, .ref g16, .ref g17, .ref g18, .ref g19, .ref g20, .int (-9), .ref g22, .ref g23, .ref g24, .int 0, .int 0, .int 0, .int 0, .ref g29, .ref g30, .ref g31, .ref g32, .ref g33])), (g15, .inl (cy 2, 4, .inl (upd (fun _ => 0) (2 : Int32).toNatClampNeg (vp_nar .boolean 1)))), (g16, .inl (cy 0, 4, .inl (fun _ => 0))), (g17, .inl (cy 0, 4, .inl (fun _ => 0))), (g18, .inl (cy 0, 24, .inl (fun _ => 0)))] := hD
                refine lv_aload_n hx hb dX12_map_64 rfl (lv_at hl 0 rfl) ?_
                refine va_get (ci := 12) (v := .ref g16) (C := RX12) (T := TX12) (N := 34) hx hb hts (fun _ h => List.mem_cons_of_mem _ (List.mem_append_right _ h)) hown hK.1 hP 0 rfl rfl 16 (by decide) (hts (.fieldLink RX12 41 "CutAtlasModel" "mapKind" "[I") (by decide +kernel)) (fun _ h9 => h9) rfl dX12_map_65 ?_
                refine lv_iload_n hx hb dX12_map_68 rfl (lv_at hl 1 rfl) ?_
                refine lv_iload_n hx hb dX12_map_69 rfl (lv_at hl 2 rfl) ?_
                refine va_iast hx hb hK.1 hP hD hS 2 0 rfl rfl (i := 2) (by unfold vp_in; decide) dX12_map_70 (fun H locs hP hD hS => ?_)
                have hP : va_P D vwCl [(mo, .inr (12, [.int 0, .int 0, .long 0, .int 0, .int 0, .ref g5, .ref g6, .ref g7, .ref g8, .ref g9, .ref g10, .int 0, .ref g12, .ref g13, .ref g14, .ref g15, .ref g16, .ref g17, .ref g18, .ref g19, .ref g20, .int (-9), .ref g22, .ref g23, .ref g24, .int 0, .int 0, .int 0, .int 0, .ref g29, .ref g30, .ref g31, .ref g32, .ref g33])), (g15, .inl (cy 2, 4, .inl (upd (fun _ => 0) (2 : Int32).toNatClampNeg (vp_nar .boolean 1)))), (g16, .inl (cy 0, 4, .inl (upd (fun _ => 0) (2 : Int32).toNatClampNeg a2))), (g17, .inl (cy 0, 4, .inl (fun _ => 0))), (g18, .inl (cy 0, 24, .inl (fun _ => 0)))] H := hP
                have hD : va_D A [(mo, .inr (12, [.int 0, .int 0, .long 0, .int 0, .int 0, .ref g5, .ref g6, .ref g7, .ref g8, .ref g9, .ref g10, .int 0, .ref g12, .ref g13, .ref g14, .ref g15, .ref g16, .ref g17, .ref g18, .ref g19, .ref g20, .int (-9), .ref g22, .ref g23, .ref g24, .int 0, .int 0, .int 0, .int 0, .ref g29, .ref g30, .ref g31, .ref g32, .ref g33])), (g15, .inl (cy 2, 4, .inl (upd (fun _ => 0) (2 : Int32).toNatClampNeg (vp_nar .boolean 1)))), (g16, .inl (cy 0, 4, .inl (upd (fun _ => 0) (2 : Int32).toNatClampNeg a2))), (g17, .inl (cy 0, 4, .inl (fun _ => 0))), (g18, .inl (cy 0, 24, .inl (fun _ => 0)))] := hD
                refine lv_aload_n hx hb dX12_map_71 rfl (lv_at hl 0 rfl) ?_
                refine va_get (ci := 12) (v := .ref g17) (C := RX12) (T := TX12) (N := 34) hx hb hts (fun _ h => List.mem_cons_of_mem _ (List.mem_append_right _ h)) hown hK.1 hP 0 rfl rfl 17 (by decide) (hts (.fieldLink RX12 44 "CutAtlasModel" "mapRows" "[I") (by decide +kernel)) (fun _ h9 => h9) rfl dX12_map_72 ?_
                refine lv_iload_n hx hb dX12_map_75 rfl (lv_at hl 1 rfl) ?_
                refine lv_iload_n hx hb dX12_map_76 rfl (lv_at hl 3 rfl) ?_
                refine va_iast hx hb hK.1 hP hD hS 3 0 rfl rfl (i := 2) (by unfold vp_in; decide) dX12_map_77 (fun H locs hP hD hS => ?_)
                have hP : va_P D vwCl [(mo, .inr (12, [.int 0, .int 0, .long 0, .int 0, .int 0, .ref g5, .ref g6, .ref g7, .ref g8, .ref g9, .ref g10, .int 0, .ref g12, .ref g13, .ref g14, .ref g15, .ref g16, .ref g17, .ref g18, .ref g19, .ref g20, .int (-9), .ref g22, .ref g23, .ref g24, .int 0, .int 0, .int 0, .int 0, .ref g29, .ref g30, .ref g31, .ref g32, .ref g33])), (g15, .inl (cy 2, 4, .inl (upd (fun _ => 0) (2 : Int32).toNatClampNeg (vp_nar .boolean 1)))), (g16, .inl (cy 0, 4, .inl (upd (fun _ => 0) (2 : Int32).toNatClampNeg a2))), (g17, .inl (cy 0, 4, .inl (upd (fun _ => 0) (2 : Int32).toNatClampNeg a3))), (g18, .inl (cy 0, 24, .inl (fun _ => 0)))] H := hP
                have hD : va_D A [(mo, .inr (12, [.int 0, .int 0, .long 0, .int 0, .int 0, .ref g5, .ref g6, .ref g7, .ref g8, .ref g9, .ref g10, .int 0, .ref g12, .ref g13, .ref g14, .ref g15, .ref g16, .ref g17, .ref g18, .ref g19, .ref g20, .int (-9), .ref g22, .ref g23, .ref g24, .int 0, .int 0, .int 0, .int 0, .ref g29, .ref g30, .ref g31, .ref g32, .ref g33])), (g15, .inl (cy 2, 4, .inl (upd (fun _ => 0) (2 : Int32).toNatClampNeg (vp_nar .boolean 1)))), (g16, .inl (cy 0, 4, .inl (upd (fun _ => 0) (2 : Int32).toNatClampNeg a2))), (g17, .inl (cy 0, 4, .inl (upd (fun _ => 0) (2 : Int32).toNatClampNeg a3))), (g18, .inl (cy 0, 24, .inl (fun _ => 0)))] := hD
                refine lv_iconst (v := 0) hx hb dX12_map_78 (by decide) ?_
                refine lv_istore (lv' := [(4, .int 0), (0, .ref mo), (1, .int 2), (2, .int a2), (3, .int a3)]) hx hb dX12_map_79 hl (by decide) rfl (fun ls hl => ?_)
                refine lv_iload hx hb dX12_map_81 (lv_at hl 0 rfl) ?_
                refine lv_bipush (v := 6) hx hb dX12_map_83 (by decide) ?_
                refine lv_icmp_ge (tgt := 108) hx hb dX12_map_85 (by decide) (fun c_23 => ?_) (fun c_23 => ?_)
                · exact absurd c_23 (by decide)
                · have _ := c_23
                  refine lv_aload_n hx hb dX12_map_88 rfl (lv_at hl 1 rfl) ?_
                  refine va_get (ci := 12) (v := .ref g18) (C := RX12) (T := TX12) (N := 34) hx hb hts (fun _ h => List.mem_cons_of_mem _ (List.mem_append_right _ h)) hown hK.1 hP 0 rfl rfl 18 (by decide) (hts (.fieldLink RX12 47 "CutAtlasModel" "rowSize" "[I") (by decide +kernel)) (fun _ h9 => h9) rfl dX12_map_89 ?_
                  refine lv_bipush (v := 6) hx hb dX12_map_92 (by decide) ?_
                  refine lv_iload_n hx hb dX12_map_94 rfl (lv_at hl 2 rfl) ?_
                  refine lv_imul hx hb dX12_map_95 ?_
                  refine lv_topi (fun y_ ey_ => ?_)
                  have ey_ := (ey_.trans (show _ = (12 : Int32) by decide)).symm
                  subst ey_
                  refine lv_iload hx hb dX12_map_96 (lv_at hl 0 rfl) ?_
                  refine lv_iadd hx hb dX12_map_98 ?_
                  refine lv_topi (fun y_ ey_ => ?_)
                  have ey_ := (ey_.trans (show _ = (12 : Int32) by decide)).symm
                  subst ey_
                  refine lv_bipush (v := (-9)) hx hb dX12_map_99 (by decide) ?_
                  refine va_iast hx hb hK.1 hP hD hS 4 0 rfl rfl (i := 12) (by unfold vp_in; decide) dX12_map_101 (fun H locs hP hD hS => ?_)
                  have hP : va_P D vwCl [(mo, .inr (12, [.int 0, .int 0, .long 0, .int 0, .int 0, .ref g5, .ref g6, .ref g7, .ref g8, .ref g9, .ref g10, .int 0, .ref g12, .ref g13, .ref g14, .ref g15, .ref g16, .ref g17, .ref g18, .ref g19, .ref g20, .int (-9), .ref g22, .ref g23, .ref g24, .int 0, .int 0, .int 0, .int 0, .ref g29, .ref g30, .ref g31, .ref g32, .ref g33])), (g15, .inl (cy 2, 4, .inl (upd (fun _ => 0) (2 : Int32).toNatClampNeg (vp_nar .boolean 1)))), (g16, .inl (cy 0, 4, .inl (upd (fun _ => 0) (2 : Int32).toNatClampNeg a2))), (g17, .inl (cy 0, 4, .inl (upd (fun _ => 0) (2 : Int32).toNatClampNeg a3))), (g18, .inl (cy 0, 24, .inl (upd (fun _ => 0) (12 : Int32).toNatClampNeg (-9))))] H := hP
                  have hD : va_D A [(mo, .inr (12, [.int 0, .int 0, .long 0, .int 0, .int 0, .ref g5, .ref g6, .ref g7, .ref g8, .ref g9, .ref g10, .int 0, .ref g12, .ref g13, .ref g14, .ref g15, .ref g16, .ref g17, .ref g18, .ref g19, .ref g20, .int (-9), .ref g22, .ref g23, .ref g24, .int 0, .int 0, .int 0, .int 0, .ref g29, .ref g30, .ref g31, .ref g32, .ref g33])), (g15, .inl (cy 2, 4, .inl (upd (fun _ => 0) (2 : Int32).toNatClampNeg (vp_nar .boolean 1)))), (g16, .inl (cy 0, 4, .inl (upd (fun _ => 0) (2 : Int32).toNatClampNeg a2))), (g17, .inl (cy 0, 4, .inl (upd (fun _ => 0) (2 : Int32).toNatClampNeg a3))), (g18, .inl (cy 0, 24, .inl (upd (fun _ => 0) (12 : Int32).toNatClampNeg (-9))))] := hD
                  refine lv_iinc (v := 1) (lv' := [(4, .int 1), (0, .ref mo), (1, .int 2), (2, .int a2), (3, .int a3)]) hx hb dX12_map_102 hl (k := 0) rfl (by decide) (by decide) rfl (fun ls hl => ?_)
                  refine lv_goto (tgt := 81) hx hb dX12_map_105 (by decide) ?_
                  refine lv_iload hx hb dX12_map_81 (lv_at hl 0 rfl) ?_
                  refine lv_bipush (v := 6) hx hb dX12_map_83 (by decide) ?_
                  refine lv_icmp_ge (tgt := 108) hx hb dX12_map_85 (by decide) (fun c_24 => ?_) (fun c_24 => ?_)
                  · exact absurd c_24 (by decide)
                  · have _ := c_24
                    refine lv_aload_n hx hb dX12_map_88 rfl (lv_at hl 1 rfl) ?_
                    refine va_get (ci := 12) (v := .ref g18) (C := RX12) (T := TX12) (N := 34) hx hb hts (fun _ h => List.mem_cons_of_mem _ (List.mem_append_right _ h)) hown hK.1 hP 0 rfl rfl 18 (by decide) (hts (.fieldLink RX12 47 "CutAtlasModel" "rowSize" "[I") (by decide +kernel)) (fun _ h9 => h9) rfl dX12_map_89 ?_
                    refine lv_bipush (v := 6) hx hb dX12_map_92 (by decide) ?_
                    refine lv_iload_n hx hb dX12_map_94 rfl (lv_at hl 2 rfl) ?_
                    refine lv_imul hx hb dX12_map_95 ?_
                    refine lv_topi (fun y_ ey_ => ?_)
                    have ey_ := (ey_.trans (show _ = (12 : Int32) by decide)).symm
                    subst ey_
                    refine lv_iload hx hb dX12_map_96 (lv_at hl 0 rfl) ?_
                    refine lv_iadd hx hb dX12_map_98 ?_
                    refine lv_topi (fun y_ ey_ => ?_)
                    have ey_ := (ey_.trans (show _ = (13 : Int32) by decide)).symm
                    subst ey_
                    refine lv_bipush (v := (-9)) hx hb dX12_map_99 (by decide) ?_
                    refine va_iast hx hb hK.1 hP hD hS 4 0 rfl rfl (i := 13) (by unfold vp_in; decide) dX12_map_101 (fun H locs hP hD hS => ?_)
                    have hP : va_P D vwCl [(mo, .inr (12, [.int 0, .int 0, .long 0, .int 0, .int 0, .ref g5, .ref g6, .ref g7, .ref g8, .ref g9, .ref g10, .int 0, .ref g12, .ref g13, .ref g14, .ref g15, .ref g16, .ref g17, .ref g18, .ref g19, .ref g20, .int (-9), .ref g22, .ref g23, .ref g24, .int 0, .int 0, .int 0, .int 0, .ref g29, .ref g30, .ref g31, .ref g32, .ref g33])), (g15, .inl (cy 2, 4, .inl (upd (fun _ => 0) (2 : Int32).toNatClampNeg (vp_nar .boolean 1)))), (g16, .inl (cy 0, 4, .inl (upd (fun _ => 0) (2 : Int32).toNatClampNeg a2))), (g17, .inl (cy 0, 4, .inl (upd (fun _ => 0) (2 : Int32).toNatClampNeg a3))), (g18, .inl (cy 0, 24, .inl (upd (upd (fun _ => 0) (12 : Int32).toNatClampNeg (-9)) (13 : Int32).toNatClampNeg (-9))))] H := hP
                    have hD : va_D A [(mo, .inr (12, [.int 0, .int 0, .long 0, .int 0, .int 0, .ref g5, .ref g6, .ref g7, .ref g8, .ref g9, .ref g10, .int 0, .ref g12, .ref g13, .ref g14, .ref g15, .ref g16, .ref g17, .ref g18, .ref g19, .ref g20, .int (-9), .ref g22, .ref g23, .ref g24, .int 0, .int 0, .int 0, .int 0, .ref g29, .ref g30, .ref g31, .ref g32, .ref g33])), (g15, .inl (cy 2, 4, .inl (upd (fun _ => 0) (2 : Int32).toNatClampNeg (vp_nar .boolean 1)))), (g16, .inl (cy 0, 4, .inl (upd (fun _ => 0) (2 : Int32).toNatClampNeg a2))), (g17, .inl (cy 0, 4, .inl (upd (fun _ => 0) (2 : Int32).toNatClampNeg a3))), (g18, .inl (cy 0, 24, .inl (upd (upd (fun _ => 0) (12 : Int32).toNatClampNeg (-9)) (13 : Int32).toNatClampNeg (-9))))] := hD
                    refine lv_iinc (v := 2) (lv' := [(4, .int 2), (0, .ref mo), (1, .int 2), (2, .int a2), (3, .int a3)]) hx hb dX12_map_102 hl (k := 0) rfl (by decide) (by decide) rfl (fun ls hl => ?_)
                    refine lv_goto (tgt := 81) hx hb dX12_map_105 (by decide) ?_
                    refine lv_iload hx hb dX12_map_81 (lv_at hl 0 rfl) ?_
                    refine lv_bipush (v := 6) hx hb dX12_map_83 (by decide) ?_
                    refine lv_icmp_ge (tgt := 108) hx hb dX12_map_85 (by decide) (fun c_25 => ?_) (fun c_25 => ?_)
                    · exact absurd c_25 (by decide)
                    · have _ := c_25
                      refine lv_aload_n hx hb dX12_map_88 rfl (lv_at hl 1 rfl) ?_
                      refine va_get (ci := 12) (v := .ref g18) (C := RX12) (T := TX12) (N := 34) hx hb hts (fun _ h => List.mem_cons_of_mem _ (List.mem_append_right _ h)) hown hK.1 hP 0 rfl rfl 18 (by decide) (hts (.fieldLink RX12 47 "CutAtlasModel" "rowSize" "[I") (by decide +kernel)) (fun _ h9 => h9) rfl dX12_map_89 ?_
                      refine lv_bipush (v := 6) hx hb dX12_map_92 (by decide) ?_
                      refine lv_iload_n hx hb dX12_map_94 rfl (lv_at hl 2 rfl) ?_
                      refine lv_imul hx hb dX12_map_95 ?_
                      refine lv_topi (fun y_ ey_ => ?_)
                      have ey_ := (ey_.trans (show _ = (12 : Int32) by decide)).symm
                      subst ey_
                      refine lv_iload hx hb dX12_map_96 (lv_at hl 0 rfl) ?_
                      refine lv_iadd hx hb dX12_map_98 ?_
                      refine lv_topi (fun y_ ey_ => ?_)
                      have ey_ := (ey_.trans (show _ = (14 : Int32) by decide)).symm
                      subst ey_
                      refine lv_bipush (v := (-9)) hx hb dX12_map_99 (by decide) ?_
                      refine va_iast hx hb hK.1 hP hD hS 4 0 rfl rfl (i := 14) (by unfold vp_in; decide) dX12_map_101 (fun H locs hP hD hS => ?_)
                      have hP : va_P D vwCl [(mo, .inr (12, [.int 0, .int 0, .long 0, .int 0, .int 0, .ref g5, .ref g6, .ref g7, .ref g8, .ref g9, .ref g10, .int 0, .ref g12, .ref g13, .ref g14, .ref g15, .ref g16, .ref g17, .ref g18, .ref g19, .ref g20, .int (-9), .ref g22, .ref g23, .ref g24, .int 0, .int 0, .int 0, .int 0, .ref g29, .ref g30, .ref g31, .ref g32, .ref g33])), (g15, .inl (cy 2, 4, .inl (upd (fun _ => 0) (2 : Int32).toNatClampNeg (vp_nar .boolean 1)))), (g16, .inl (cy 0, 4, .inl (upd (fun _ => 0) (2 : Int32).toNatClampNeg a2))), (g17, .inl (cy 0, 4, .inl (upd (fun _ => 0) (2 : Int32).toNatClampNeg a3))), (g18, .inl (cy 0, 24, .inl (upd (upd (upd (fun _ => 0) (12 : Int32).toNatClampNeg (-9)) (13 : Int32).toNatClampNeg (-9)) (14 : Int32).toNatClampNeg (-9))))] H := hP
                      have hD : va_D A [(mo, .inr (12, [.int 0, .int 0, .long 0, .int 0, .int 0, .ref g5, .ref g6, .ref g7, .ref g8, .ref g9, .ref g10, .int 0, .ref g12, .ref g13, .ref g14, .ref g15, .ref g16, .ref g17, .ref g18, .ref g19, .ref g20, .int (-9), .ref g22, .ref g23, .ref g24, .int 0, .int 0, .int 0, .int 0, .ref g29, .ref g30, .ref g31, .ref g32, .ref g33])), (g15, .inl (cy 2, 4, .inl (upd (fun _ => 0) (2 : Int32).toNatClampNeg (vp_nar .boolean 1)))), (g16, .inl (cy 0, 4, .inl (upd (fun _ => 0) (2 : Int32).toNatClampNeg a2))), (g17, .inl (cy 0, 4, .inl (upd (fun _ => 0) (2 : Int32).toNatClampNeg a3))), (g18, .inl (cy 0, 24, .inl (upd (upd (upd (fun _ => 0) (12 : Int32).toNatClampNeg (-9)) (13 : Int32).toNatClampNeg (-9)) (14 : Int32).toNatClampNeg (-9))))] := hD
                      refine lv_iinc (v := 3) (lv' := [(4, .int 3), (0, .ref mo), (1, .int 2), (2, .int a2), (3, .int a3)]) hx hb dX12_map_102 hl (k := 0) rfl (by decide) (by decide) rfl (fun ls hl => ?_)
                      refine lv_goto (tgt := 81) hx hb dX12_map_105 (by decide) ?_
                      refine lv_iload hx hb dX12_map_81 (lv_at hl 0 rfl) ?_
                      refine lv_bipush (v := 6) hx hb dX12_map_83 (by decide) ?_
                      refine lv_icmp_ge (tgt := 108) hx hb dX12_map_85 (by decide) (fun c_26 => ?_) (fun c_26 => ?_)
                      · exact absurd c_26 (by decide)
                      · have _ := c_26
                        refine lv_aload_n hx hb dX12_map_88 rfl (lv_at hl 1 rfl) ?_
                        refine va_get (ci := 12) (v := .ref g18) (C := RX12) (T := TX12) (N := 34) hx hb hts (fun _ h => List.mem_cons_of_mem _ (List.mem_append_right _ h)) hown hK.1 hP 0 rfl rfl 18 (by decide) (hts (.fieldLink RX12 47 "CutAtlasModel" "rowSize" "[I") (by decide +kernel)) (fun _ h9 => h9) rfl dX12_map_89 ?_
                        refine lv_bipush (v := 6) hx hb dX12_map_92 (by decide) ?_
                        refine lv_iload_n hx hb dX12_map_94 rfl (lv_at hl 2 rfl) ?_
                        refine lv_imul hx hb dX12_map_95 ?_
                        refine lv_topi (fun y_ ey_ => ?_)
                        have ey_ := (ey_.trans (show _ = (12 : Int32) by decide)).symm
                        subst ey_
                        refine lv_iload hx hb dX12_map_96 (lv_at hl 0 rfl) ?_
                        refine lv_iadd hx hb dX12_map_98 ?_
                        refine lv_topi (fun y_ ey_ => ?_)
                        have ey_ := (ey_.trans (show _ = (15 : Int32) by decide)).symm
                        subst ey_
                        refine lv_bipush (v := (-9)) hx hb dX12_map_99 (by decide) ?_
                        refine va_iast hx hb hK.1 hP hD hS 4 0 rfl rfl (i := 15) (by unfold vp_in; decide) dX12_map_101 (fun H locs hP hD hS => ?_)
                        have hP : va_P D vwCl [(mo, .inr (12, [.int 0, .int 0, .long 0, .int 0, .int 0, .ref g5, .ref g6, .ref g7, .ref g8, .ref g9, .ref g10, .int 0, .ref g12, .ref g13, .ref g14, .ref g15, .ref g16, .ref g17, .ref g18, .ref g19, .ref g20, .int (-9), .ref g22, .ref g23, .ref g24, .int 0, .int 0, .int 0, .int 0, .ref g29, .ref g30, .ref g31, .ref g32, .ref g33])), (g15, .inl (cy 2, 4, .inl (upd (fun _ => 0) (2 : Int32).toNatClampNeg (vp_nar .boolean 1)))), (g16, .inl (cy 0, 4, .inl (upd (fun _ => 0) (2 : Int32).toNatClampNeg a2))), (g17, .inl (cy 0, 4, .inl (upd (fun _ => 0) (2 : Int32).toNatClampNeg a3))), (g18, .inl (cy 0, 24, .inl (upd (upd (upd (upd (fun _ => 0) (12 : Int32).toNatClampNeg (-9)) (13 : Int32).toNatClampNeg (-9)) (14 : Int32).toNatClampNeg (-9)) (15 : Int32).toNatClampNeg (-9))))] H := hP
                        have hD : va_D A [(mo, .inr (12, [.int 0, .int 0, .long 0, .int 0, .int 0, .ref g5, .ref g6, .ref g7, .ref g8, .ref g9, .ref g10, .int 0, .ref g12, .ref g13, .ref g14, .ref g15, .ref g16, .ref g17, .ref g18, .ref g19, .ref g20, .int (-9), .ref g22, .ref g23, .ref g24, .int 0, .int 0, .int 0, .int 0, .ref g29, .ref g30, .ref g31, .ref g32, .ref g33])), (g15, .inl (cy 2, 4, .inl (upd (fun _ => 0) (2 : Int32).toNatClampNeg (vp_nar .boolean 1)))), (g16, .inl (cy 0, 4, .inl (upd (fun _ => 0) (2 : Int32).toNatClampNeg a2))), (g17, .inl (cy 0, 4, .inl (upd (fun _ => 0) (2 : Int32).toNatClampNeg a3))), (g18, .inl (cy 0, 24, .inl (upd (upd (upd (upd (fun _ => 0) (12 : Int32).toNatClampNeg (-9)) (13 : Int32).toNatClampNeg (-9)) (14 : Int32).toNatClampNeg (-9)) (15 : Int32).toNatClampNeg (-9))))] := hD
                        refine lv_iinc (v := 4) (lv' := [(4, .int 4), (0, .ref mo), (1, .int 2), (2, .int a2), (3, .int a3)]) hx hb dX12_map_102 hl (k := 0) rfl (by decide) (by decide) rfl (fun ls hl => ?_)
                        refine lv_goto (tgt := 81) hx hb dX12_map_105 (by decide) ?_
                        refine lv_iload hx hb dX12_map_81 (lv_at hl 0 rfl) ?_
                        refine lv_bipush (v := 6) hx hb dX12_map_83 (by decide) ?_
                        refine lv_icmp_ge (tgt := 108) hx hb dX12_map_85 (by decide) (fun c_27 => ?_) (fun c_27 => ?_)
                        · exact absurd c_27 (by decide)
                        · have _ := c_27
                          refine lv_aload_n hx hb dX12_map_88 rfl (lv_at hl 1 rfl) ?_
                          refine va_get (ci := 12) (v := .ref g18) (C := RX12) (T := TX12) (N := 34) hx hb hts (fun _ h => List.mem_cons_of_mem _ (List.mem_append_right _ h)) hown hK.1 hP 0 rfl rfl 18 (by decide) (hts (.fieldLink RX12 47 "CutAtlasModel" "rowSize" "[I") (by decide +kernel)) (fun _ h9 => h9) rfl dX12_map_89 ?_
                          refine lv_bipush (v := 6) hx hb dX12_map_92 (by decide) ?_
                          refine lv_iload_n hx hb dX12_map_94 rfl (lv_at hl 2 rfl) ?_
                          refine lv_imul hx hb dX12_map_95 ?_
                          refine lv_topi (fun y_ ey_ => ?_)
                          have ey_ := (ey_.trans (show _ = (12 : Int32) by decide)).symm
                          subst ey_
                          refine lv_iload hx hb dX12_map_96 (lv_at hl 0 rfl) ?_
                          refine lv_iadd hx hb dX12_map_98 ?_
                          refine lv_topi (fun y_ ey_ => ?_)
                          have ey_ := (ey_.trans (show _ = (16 : Int32) by decide)).symm
                          subst ey_
                          refine lv_bipush (v := (-9)) hx hb dX12_map_99 (by decide) ?_
                          refine va_iast hx hb hK.1 hP hD hS 4 0 rfl rfl (i := 16) (by unfold vp_in; decide) dX12_map_101 (fun H locs hP hD hS => ?_)
                          have hP : va_P D vwCl [(mo, .inr (12, [.int 0, .int 0, .long 0, .int 0, .int 0, .ref g5, .ref g6, .ref g7, .ref g8, .ref g9, .ref g10, .int 0, .ref g12, .ref g13, .ref g14, .ref g15, .ref g16, .ref g17, .ref g18, .ref g19, .ref g20, .int (-9), .ref g22, .ref g23, .ref g24, .int 0, .int 0, .int 0, .int 0, .ref g29, .ref g30, .ref g31, .ref g32, .ref g33])), (g15, .inl (cy 2, 4, .inl (upd (fun _ => 0) (2 : Int32).toNatClampNeg (vp_nar .boolean 1)))), (g16, .inl (cy 0, 4, .inl (upd (fun _ => 0) (2 : Int32).toNatClampNeg a2))), (g17, .inl (cy 0, 4, .inl (upd (fun _ => 0) (2 : Int32).toNatClampNeg a3))), (g18, .inl (cy 0, 24, .inl (upd (upd (upd (upd (upd (fun _ => 0) (12 : Int32).toNatClampNeg (-9)) (13 : Int32).toNatClampNeg (-9)) (14 : Int32).toNatClampNeg (-9)) (15 : Int32).toNatClampNeg (-9)) (16 : Int32).toNatClampNeg (-9))))] H := hP
                          have hD : va_D A [(mo, .inr (12, [.int 0, .int 0, .long 0, .int 0, .int 0, .ref g5, .ref g6, .ref g7, .ref g8, .ref g9, .ref g10, .int 0, .ref g12, .ref g13, .ref g14, .ref g15, .ref g16, .ref g17, .ref g18, .ref g19, .ref g20, .int (-9), .ref g22, .ref g23, .ref g24, .int 0, .int 0, .int 0, .int 0, .ref g29, .ref g30, .ref g31, .ref g32, .ref g33])), (g15, .inl (cy 2, 4, .inl (upd (fun _ => 0) (2 : Int32).toNatClampNeg (vp_nar .boolean 1)))), (g16, .inl (cy 0, 4, .inl (upd (fun _ => 0) (2 : Int32).toNatClampNeg a2))), (g17, .inl (cy 0, 4, .inl (upd (fun _ => 0) (2 : Int32).toNatClampNeg a3))), (g18, .inl (cy 0, 24, .inl (upd (upd (upd (upd (upd (fun _ => 0) (12 : Int32).toNatClampNeg (-9)) (13 : Int32).toNatClampNeg (-9)) (14 : Int32).toNatClampNeg (-9)) (15 : Int32).toNatClampNeg (-9)) (16 : Int32).toNatClampNeg (-9))))] := hD
                          refine lv_iinc (v := 5) (lv' := [(4, .int 5), (0, .ref mo), (1, .int 2), (2, .int a2), (3, .int a3)]) hx hb dX12_map_102 hl (k := 0) rfl (by decide) (by decide) rfl (fun ls hl => ?_)
                          refine lv_goto (tgt := 81) hx hb dX12_map_105 (by decide) ?_
                          refine lv_iload hx hb dX12_map_81 (lv_at hl 0 rfl) ?_
                          refine lv_bipush (v := 6) hx hb dX12_map_83 (by decide) ?_
                          refine lv_icmp_ge (tgt := 108) hx hb dX12_map_85 (by decide) (fun c_28 => ?_) (fun c_28 => ?_)
                          · exact absurd c_28 (by decide)
                          · have _ := c_28
                            refine lv_aload_n hx hb dX12_map_88 rfl (lv_at hl 1 rfl) ?_
                            refine va_get (ci := 12) (v := .ref g18) (C := RX12) (T := TX12) (N := 34) hx hb hts (fun _ h => List.mem_cons_of_mem _ (List.mem_append_right _ h)) hown hK.1 hP 0 rfl rfl 18 (by decide) (hts (.fieldLink RX12 47 "CutAtlasModel" "rowSize" "[I") (by decide +kernel)) (fun _ h9 => h9) rfl dX12_map_89 ?_
                            refine lv_bipush (v := 6) hx hb dX12_map_92 (by decide) ?_
                            refine lv_iload_n hx hb dX12_map_94 rfl (lv_at hl 2 rfl) ?_
                            refine lv_imul hx hb dX12_map_95 ?_
                            refine lv_topi (fun y_ ey_ => ?_)
                            have ey_ := (ey_.trans (show _ = (12 : Int32) by decide)).symm
                            subst ey_
                            refine lv_iload hx hb dX12_map_96 (lv_at hl 0 rfl) ?_
                            refine lv_iadd hx hb dX12_map_98 ?_
                            refine lv_topi (fun y_ ey_ => ?_)
                            have ey_ := (ey_.trans (show _ = (17 : Int32) by decide)).symm
                            subst ey_
                            refine lv_bipush (v := (-9)) hx hb dX12_map_99 (by decide) ?_
                            refine va_iast hx hb hK.1 hP hD hS 4 0 rfl rfl (i := 17) (by unfold vp_in; decide) dX12_map_101 (fun H locs hP hD hS => ?_)
                            have hP : va_P D vwCl [(mo, .inr (12, [.int 0, .int 0, .long 0, .int 0, .int 0, .ref g5, .ref g6, .ref g7, .ref g8, .ref g9, .ref g10, .int 0, .ref g12, .ref g13, .ref g14, .ref g15, .ref g16, .ref g17, .ref g18, .ref g19, .ref g20, .int (-9), .ref g22, .ref g23, .ref g24, .int 0, .int 0, .int 0, .int 0, .ref g29, .ref g30, .ref g31, .ref g32, .ref g33])), (g15, .inl (cy 2, 4, .inl (upd (fun _ => 0) (2 : Int32).toNatClampNeg (vp_nar .boolean 1)))), (g16, .inl (cy 0, 4, .inl (upd (fun _ => 0) (2 : Int32).toNatClampNeg a2))), (g17, .inl (cy 0, 4, .inl (upd (fun _ => 0) (2 : Int32).toNatClampNeg a3))), (g18, .inl (cy 0, 24, .inl (upd (upd (upd (upd (upd (upd (fun _ => 0) (12 : Int32).toNatClampNeg (-9)) (13 : Int32).toNatClampNeg (-9)) (14 : Int32).toNatClampNeg (-9)) (15 : Int32).toNatClampNeg (-9)) (16 : Int32).toNatClampNeg (-9)) (17 : Int32).toNatClampNeg (-9))))] H := hP
                            have hD : va_D A [(mo, .inr (12, [.int 0, .int 0, .long 0, .int 0, .int 0, .ref g5, .ref g6, .ref g7, .ref g8, .ref g9, .ref g10, .int 0, .ref g12, .ref g13, .ref g14, .ref g15, .ref g16, .ref g17, .ref g18, .ref g19, .ref g20, .int (-9), .ref g22, .ref g23, .ref g24, .int 0, .int 0, .int 0, .int 0, .ref g29, .ref g30, .ref g31, .ref g32, .ref g33])), (g15, .inl (cy 2, 4, .inl (upd (fun _ => 0) (2 : Int32).toNatClampNeg (vp_nar .boolean 1)))), (g16, .inl (cy 0, 4, .inl (upd (fun _ => 0) (2 : Int32).toNatClampNeg a2))), (g17, .inl (cy 0, 4, .inl (upd (fun _ => 0) (2 : Int32).toNatClampNeg a3))), (g18, .inl (cy 0, 24, .inl (upd (upd (upd (upd (upd (upd (fun _ => 0) (12 : Int32).toNatClampNeg (-9)) (13 : Int32).toNatClampNeg (-9)) (14 : Int32).toNatClampNeg (-9)) (15 : Int32).toNatClampNeg (-9)) (16 : Int32).toNatClampNeg (-9)) (17 : Int32).toNatClampNeg (-9))))] := hD
                            refine lv_iinc (v := 6) (lv' := [(4, .int 6), (0, .ref mo), (1, .int 2), (2, .int a2), (3, .int a3)]) hx hb dX12_map_102 hl (k := 0) rfl (by decide) (by decide) rfl (fun ls hl => ?_)
                            refine lv_goto (tgt := 81) hx hb dX12_map_105 (by decide) ?_
                            refine lv_iload hx hb dX12_map_81 (lv_at hl 0 rfl) ?_
                            refine lv_bipush (v := 6) hx hb dX12_map_83 (by decide) ?_
                            refine lv_icmp_ge (tgt := 108) hx hb dX12_map_85 (by decide) (fun c_29 => ?_) (fun c_29 => ?_)
                            · have _ := c_29
                              refine lv_iconst (v := 1) hx hb dX12_map_108 (by decide) ?_
                              exact W.iret (v := 1) hx hb hr (fun t ht hW => ⟨⟨1, (), rfl, Or.inr (Or.inr (⟨by omega, rfl⟩)), trivial⟩, hS.F ht⟩) hS.2.2 dX12_map_109
                            · exact absurd c_29 (by decide)
              · refine lv_aload_n hx hb dX12_map_57 rfl (lv_at hl 0 rfl) ?_
                refine va_get (ci := 12) (v := .ref g15) (C := RX12) (T := TX12) (N := 34) hx hb hts (fun _ h => List.mem_cons_of_mem _ (List.mem_append_right _ h)) hown hK.1 hP 0 rfl rfl 15 (by decide) (hts (.fieldLink RX12 38 "CutAtlasModel" "hasMap" "[Z") (by decide +kernel)) (fun _ h9 => h9) rfl dX12_map_58 ?_
                refine lv_iload_n hx hb dX12_map_61 rfl (lv_at hl 1 rfl) ?_
                refine lv_iconst (v := 1) hx hb dX12_map_62 (by decide) ?_
                refine va_zast hx hb hK.1 hP hD hS 1 2 rfl rfl (i := 3) (by unfold vp_in; decide) dX12_map_63 (fun H locs hP hD hS => ?_)
                have hP : va_P D vwCl [(mo, .inr (12, [.int 0, .int 0, .long 0, .int 0, .int 0, .ref g5, .ref g6, .ref g7, .ref g8, .ref g9, .ref g10, .int 0, .ref g12, .ref g13, .ref g14, .ref g15, .ref g16, .ref g17, .ref g18, .ref g19, .ref g20, .int (-9), .ref g22, .ref g23, .ref g24, .int 0, .int 0, .int 0, .int 0, .ref g29, .ref g30, .ref g31, .ref g32, .ref g33])), (g15, .inl (cy 2, 4, .inl (upd (fun _ => 0) (3 : Int32).toNatClampNeg (vp_nar .boolean 1)))), (g16, .inl (cy 0, 4, .inl (fun _ => 0))), (g17, .inl (cy 0, 4, .inl (fun _ => 0))), (g18, .inl (cy 0, 24, .inl (fun _ => 0)))] H := hP
                have hD : va_D A [(mo, .inr (12, [.int 0, .int 0, .long 0, .int 0, .int 0, .ref g5, .ref g6, .ref g7, .ref g8, .ref g9, .ref g10, .int 0, .ref g12, .ref g13, .ref g14, .ref g15, .ref g16, .ref g17, .ref g18, .ref g19, .ref g20, .int (-9), .ref g22, .ref g23, .ref g24, .int 0, .int 0, .int 0, .int 0, .ref g29, .ref g30, .ref g31, .ref g32, .ref g33])), (g15, .inl (cy 2, 4, .inl (upd (fun _ => 0) (3 : Int32).toNatClampNeg (vp_nar .boolean 1)))), (g16, .inl (cy 0, 4, .inl (fun _ => 0))), (g17, .inl (cy 0, 4, .inl (fun _ => 0))), (g18, .inl (cy 0, 24, .inl (fun _ => 0)))] := hD
                refine lv_aload_n hx hb dX12_map_64 rfl (lv_at hl 0 rfl) ?_
                refine va_get (ci := 12) (v := .ref g16) (C := RX12) (T := TX12) (N := 34) hx hb hts (fun _ h => List.mem_cons_of_mem _ (List.mem_append_right _ h)) hown hK.1 hP 0 rfl rfl 16 (by decide) (hts (.fieldLink RX12 41 "CutAtlasModel" "mapKind" "[I") (by decide +kernel)) (fun _ h9 => h9) rfl dX12_map_65 ?_
                refine lv_iload_n hx hb dX12_map_68 rfl (lv_at hl 1 rfl) ?_
                refine lv_iload_n hx hb dX12_map_69 rfl (lv_at hl 2 rfl) ?_
                refine va_iast hx hb hK.1 hP hD hS 2 0 rfl rfl (i := 3) (by unfold vp_in; decide) dX12_map_70 (fun H locs hP hD hS => ?_)
                have hP : va_P D vwCl [(mo, .inr (12, [.int 0, .int 0, .long 0, .int 0, .int 0, .ref g5, .ref g6, .ref g7, .ref g8, .ref g9, .ref g10, .int 0, .ref g12, .ref g13, .ref g14, .ref g15, .ref g16, .ref g17, .ref g18, .ref g19, .ref g20, .int (-9), .ref g22, .ref g23, .ref g24, .int 0, .int 0, .int 0, .int 0, .ref g29, .ref g30, .ref g31, .ref g32, .ref g33])), (g15, .inl (cy 2, 4, .inl (upd (fun _ => 0) (3 : Int32).toNatClampNeg (vp_nar .boolean 1)))), (g16, .inl (cy 0, 4, .inl (upd (fun _ => 0) (3 : Int32).toNatClampNeg a2))), (g17, .inl (cy 0, 4, .inl (fun _ => 0))), (g18, .inl (cy 0, 24, .inl (fun _ => 0)))] H := hP
                have hD : va_D A [(mo, .inr (12, [.int 0, .int 0, .long 0, .int 0, .int 0, .ref g5, .ref g6, .ref g7, .ref g8, .ref g9, .ref g10, .int 0, .ref g12, .ref g13, .ref g14, .ref g15, .ref g16, .ref g17, .ref g18, .ref g19, .ref g20, .int (-9), .ref g22, .ref g23, .ref g24, .int 0, .int 0, .int 0, .int 0, .ref g29, .ref g30, .ref g31, .ref g32, .ref g33])), (g15, .inl (cy 2, 4, .inl (upd (fun _ => 0) (3 : Int32).toNatClampNeg (vp_nar .boolean 1)))), (g16, .inl (cy 0, 4, .inl (upd (fun _ => 0) (3 : Int32).toNatClampNeg a2))), (g17, .inl (cy 0, 4, .inl (fun _ => 0))), (g18, .inl (cy 0, 24, .inl (fun _ => 0)))] := hD
                refine lv_aload_n hx hb dX12_map_71 rfl (lv_at hl 0 rfl) ?_
                refine va_get (ci := 12) (v := .ref g17) (C := RX12) (T := TX12) (N := 34) hx hb hts (fun _ h => List.mem_cons_of_mem _ (List.mem_append_right _ h)) hown hK.1 hP 0 rfl rfl 17 (by decide) (hts (.fieldLink RX12 44 "CutAtlasModel" "mapRows" "[I") (by decide +kernel)) (fun _ h9 => h9) rfl dX12_map_72 ?_
                refine lv_iload_n hx hb dX12_map_75 rfl (lv_at hl 1 rfl) ?_
                refine lv_iload_n hx hb dX12_map_76 rfl (lv_at hl 3 rfl) ?_
                refine va_iast hx hb hK.1 hP hD hS 3 0 rfl rfl (i := 3) (by unfold vp_in; decide) dX12_map_77 (fun H locs hP hD hS => ?_)
                have hP : va_P D vwCl [(mo, .inr (12, [.int 0, .int 0, .long 0, .int 0, .int 0, .ref g5, .ref g6, .ref g7, .ref g8, .ref g9, .ref g10, .int 0, .ref g12, .ref g13, .ref g14, .ref g15, .ref g16, .ref g17, .ref g18, .ref g19, .ref g20, .int (-9), .ref g22, .ref g23, .ref g24, .int 0, .int 0, .int 0, .int 0, .ref g29, .ref g30, .ref g31, .ref g32, .ref g33])), (g15, .inl (cy 2, 4, .inl (upd (fun _ => 0) (3 : Int32).toNatClampNeg (vp_nar .boolean 1)))), (g16, .inl (cy 0, 4, .inl (upd (fun _ => 0) (3 : Int32).toNatClampNeg a2))), (g17, .inl (cy 0, 4, .inl (upd (fun _ => 0) (3 : Int32).toNatClampNeg a3))), (g18, .inl (cy 0, 24, .inl (fun _ => 0)))] H := hP
                have hD : va_D A [(mo, .inr (12, [.int 0, .int 0, .long 0, .int 0, .int 0, .ref g5, .ref g6, .ref g7, .ref g8, .ref g9, .ref g10, .int 0, .ref g12, .ref g13, .ref g14, .ref g15, .ref g16, .ref g17, .ref g18, .ref g19, .ref g20, .int (-9), .ref g22, .ref g23, .ref g24, .int 0, .int 0, .int 0, .int 0, .ref g29, .ref g30, .ref g31, .ref g32, .ref g33])), (g15, .inl (cy 2, 4, .inl (upd (fun _ => 0) (3 : Int32).toNatClampNeg (vp_nar .boolean 1)))), (g16, .inl (cy 0, 4, .inl (upd (fun _ => 0) (3 : Int32).toNatClampNeg a2))), (g17, .inl (cy 0, 4, .inl (upd (fun _ => 0) (3 : Int32).toNatClampNeg a3))), (g18, .inl (cy 0, 24, .inl (fun _ => 0)))] := hD
                refine lv_iconst (v := 0) hx hb dX12_map_78 (by decide) ?_
                refine lv_istore (lv' := [(4, .int 0), (0, .ref mo), (1, .int 3), (2, .int a2), (3, .int a3)]) hx hb dX12_map_79 hl (by decide) rfl (fun ls hl => ?_)
                refine lv_iload hx hb dX12_map_81 (lv_at hl 0 rfl) ?_
                refine lv_bipush (v := 6) hx hb dX12_map_83 (by decide) ?_
                refine lv_icmp_ge (tgt := 108) hx hb dX12_map_85 (by decide) (fun c_30 => ?_) (fun c_30 => ?_)
                · exact absurd c_30 (by decide)
                · have _ := c_30
                  refine lv_aload_n hx hb dX12_map_88 rfl (lv_at hl 1 rfl) ?_
                  refine va_get (ci := 12) (v := .ref g18) (C := RX12) (T := TX12) (N := 34) hx hb hts (fun _ h => List.mem_cons_of_mem _ (List.mem_append_right _ h)) hown hK.1 hP 0 rfl rfl 18 (by decide) (hts (.fieldLink RX12 47 "CutAtlasModel" "rowSize" "[I") (by decide +kernel)) (fun _ h9 => h9) rfl dX12_map_89 ?_
                  refine lv_bipush (v := 6) hx hb dX12_map_92 (by decide) ?_
                  refine lv_iload_n hx hb dX12_map_94 rfl (lv_at hl 2 rfl) ?_
                  refine lv_imul hx hb dX12_map_95 ?_
                  refine lv_topi (fun y_ ey_ => ?_)
                  have ey_ := (ey_.trans (show _ = (18 : Int32) by decide)).symm
                  subst ey_
                  refine lv_iload hx hb dX12_map_96 (lv_at hl 0 rfl) ?_
                  refine lv_iadd hx hb dX12_map_98 ?_
                  refine lv_topi (fun y_ ey_ => ?_)
                  have ey_ := (ey_.trans (show _ = (18 : Int32) by decide)).symm
                  subst ey_
                  refine lv_bipush (v := (-9)) hx hb dX12_map_99 (by decide) ?_
                  refine va_iast hx hb hK.1 hP hD hS 4 0 rfl rfl (i := 18) (by unfold vp_in; decide) dX12_map_101 (fun H locs hP hD hS => ?_)
                  have hP : va_P D vwCl [(mo, .inr (12, [.int 0, .int 0, .long 0, .int 0, .int 0, .ref g5, .ref g6, .ref g7, .ref g8, .ref g9, .ref g10, .int 0, .ref g12, .ref g13, .ref g14, .ref g15, .ref g16, .ref g17, .ref g18, .ref g19, .ref g20, .int (-9), .ref g22, .ref g23, .ref g24, .int 0, .int 0, .int 0, .int 0, .ref g29, .ref g30, .ref g31, .ref g32, .ref g33])), (g15, .inl (cy 2, 4, .inl (upd (fun _ => 0) (3 : Int32).toNatClampNeg (vp_nar .boolean 1)))), (g16, .inl (cy 0, 4, .inl (upd (fun _ => 0) (3 : Int32).toNatClampNeg a2))), (g17, .inl (cy 0, 4, .inl (upd (fun _ => 0) (3 : Int32).toNatClampNeg a3))), (g18, .inl (cy 0, 24, .inl (upd (fun _ => 0) (18 : Int32).toNatClampNeg (-9))))] H := hP
                  have hD : va_D A [(mo, .inr (12, [.int 0, .int 0, .long 0, .int 0, .int 0, .ref g5, .ref g6, .ref g7, .ref g8, .ref g9, .ref g10, .int 0, .ref g12, .ref g13, .ref g14, .ref g15, .ref g16, .ref g17, .ref g18, .ref g19, .ref g20, .int (-9), .ref g22, .ref g23, .ref g24, .int 0, .int 0, .int 0, .int 0, .ref g29, .ref g30, .ref g31, .ref g32, .ref g33])), (g15, .inl (cy 2, 4, .inl (upd (fun _ => 0) (3 : Int32).toNatClampNeg (vp_nar .boolean 1)))), (g16, .inl (cy 0, 4, .inl (upd (fun _ => 0) (3 : Int32).toNatClampNeg a2))), (g17, .inl (cy 0, 4, .inl (upd (fun _ => 0) (3 : Int32).toNatClampNeg a3))), (g18, .inl (cy 0, 24, .inl (upd (fun _ => 0) (18 : Int32).toNatClampNeg (-9))))] := hD
                  refine lv_iinc (v := 1) (lv' := [(4, .int 1), (0, .ref mo), (1, .int 3), (2, .int a2), (3, .int a3)]) hx hb dX12_map_102 hl (k := 0) rfl (by decide) (by decide) rfl (fun ls hl => ?_)
                  refine lv_goto (tgt := 81) hx hb dX12_map_105 (by decide) ?_
                  refine lv_iload hx hb dX12_map_81 (lv_at hl 0 rfl) ?_
                  refine lv_bipush (v := 6) hx hb dX12_map_83 (by decide) ?_
                  refine lv_icmp_ge (tgt := 108) hx hb dX12_map_85 (by decide) (fun c_31 => ?_) (fun c_31 => ?_)
                  · exact absurd c_31 (by decide)
                  · have _ := c_31
                    refine lv_aload_n hx hb dX12_map_88 rfl (lv_at hl 1 rfl) ?_
                    refine va_get (ci := 12) (v := .ref g18) (C := RX12) (T := TX12) (N := 34) hx hb hts (fun _ h => List.mem_cons_of_mem _ (List.mem_append_right _ h)) hown hK.1 hP 0 rfl rfl 18 (by decide) (hts (.fieldLink RX12 47 "CutAtlasModel" "rowSize" "[I") (by decide +kernel)) (fun _ h9 => h9) rfl dX12_map_89 ?_
                    refine lv_bipush (v := 6) hx hb dX12_map_92 (by decide) ?_
                    refine lv_iload_n hx hb dX12_map_94 rfl (lv_at hl 2 rfl) ?_
                    refine lv_imul hx hb dX12_map_95 ?_
                    refine lv_topi (fun y_ ey_ => ?_)
                    have ey_ := (ey_.trans (show _ = (18 : Int32) by decide)).symm
                    subst ey_
                    refine lv_iload hx hb dX12_map_96 (lv_at hl 0 rfl) ?_
                    refine lv_iadd hx hb dX12_map_98 ?_
                    refine lv_topi (fun y_ ey_ => ?_)
                    have ey_ := (ey_.trans (show _ = (19 : Int32) by decide)).symm
                    subst ey_
                    refine lv_bipush (v := (-9)) hx hb dX12_map_99 (by decide) ?_
                    refine va_iast hx hb hK.1 hP hD hS 4 0 rfl rfl (i := 19) (by unfold vp_in; decide) dX12_map_101 (fun H locs hP hD hS => ?_)
                    have hP : va_P D vwCl [(mo, .inr (12, [.int 0, .int 0, .long 0, .int 0, .int 0, .ref g5, .ref g6, .ref g7, .ref g8, .ref g9, .ref g10, .int 0, .ref g12, .ref g13, .ref g14, .ref g15, .ref g16, .ref g17, .ref g18, .ref g19, .ref g20, .int (-9), .ref g22, .ref g23, .ref g24, .int 0, .int 0, .int 0, .int 0, .ref g29, .ref g30, .ref g31, .ref g32, .ref g33])), (g15, .inl (cy 2, 4, .inl (upd (fun _ => 0) (3 : Int32).toNatClampNeg (vp_nar .boolean 1)))), (g16, .inl (cy 0, 4, .inl (upd (fun _ => 0) (3 : Int32).toNatClampNeg a2))), (g17, .inl (cy 0, 4, .inl (upd (fun _ => 0) (3 : Int32).toNatClampNeg a3))), (g18, .inl (cy 0, 24, .inl (upd (upd (fun _ => 0) (18 : Int32).toNatClampNeg (-9)) (19 : Int32).toNatClampNeg (-9))))] H := hP
                    have hD : va_D A [(mo, .inr (12, [.int 0, .int 0, .long 0, .int 0, .int 0, .ref g5, .ref g6, .ref g7, .ref g8, .ref g9, .ref g10, .int 0, .ref g12, .ref g13, .ref g14, .ref g15, .ref g16, .ref g17, .ref g18, .ref g19, .ref g20, .int (-9), .ref g22, .ref g23, .ref g24, .int 0, .int 0, .int 0, .int 0, .ref g29, .ref g30, .ref g31, .ref g32, .ref g33])), (g15, .inl (cy 2, 4, .inl (upd (fun _ => 0) (3 : Int32).toNatClampNeg (vp_nar .boolean 1)))), (g16, .inl (cy 0, 4, .inl (upd (fun _ => 0) (3 : Int32).toNatClampNeg a2))), (g17, .inl (cy 0, 4, .inl (upd (fun _ => 0) (3 : Int32).toNatClampNeg a3))), (g18, .inl (cy 0, 24, .inl (upd (upd (fun _ => 0) (18 : Int32).toNatClampNeg (-9)) (19 : Int32).toNatClampNeg (-9))))] := hD
                    refine lv_iinc (v := 2) (lv' := [(4, .int 2), (0, .ref mo), (1, .int 3), (2, .int a2), (3, .int a3)]) hx hb dX12_map_102 hl (k := 0) rfl (by decide) (by decide) rfl (fun ls hl => ?_)
                    refine lv_goto (tgt := 81) hx hb dX12_map_105 (by decide) ?_
                    refine lv_iload hx hb dX12_map_81 (lv_at hl 0 rfl) ?_
                    refine lv_bipush (v := 6) hx hb dX12_map_83 (by decide) ?_
                    refine lv_icmp_ge (tgt := 108) hx hb dX12_map_85 (by decide) (fun c_32 => ?_) (fun c_32 => ?_)
                    · exact absurd c_32 (by decide)
                    · have _ := c_32
                      refine lv_aload_n hx hb dX12_map_88 rfl (lv_at hl 1 rfl) ?_
                      refine va_get (ci := 12) (v := .ref g18) (C := RX12) (T := TX12) (N := 34) hx hb hts (fun _ h => List.mem_cons_of_mem _ (List.mem_append_right _ h)) hown hK.1 hP 0 rfl rfl 18 (by decide) (hts (.fieldLink RX12 47 "CutAtlasModel" "rowSize" "[I") (by decide +kernel)) (fun _ h9 => h9) rfl dX12_map_89 ?_
                      refine lv_bipush (v := 6) hx hb dX12_map_92 (by decide) ?_
                      refine lv_iload_n hx hb dX12_map_94 rfl (lv_at hl 2 rfl) ?_
                      refine lv_imul hx hb dX12_map_95 ?_
                      refine lv_topi (fun y_ ey_ => ?_)
                      have ey_ := (ey_.trans (show _ = (18 : Int32) by decide)).symm
                      subst ey_
                      refine lv_iload hx hb dX12_map_96 (lv_at hl 0 rfl) ?_
                      refine lv_iadd hx hb dX12_map_98 ?_
                      refine lv_topi (fun y_ ey_ => ?_)
                      have ey_ := (ey_.trans (show _ = (20 : Int32) by decide)).symm
                      subst ey_
                      refine lv_bipush (v := (-9)) hx hb dX12_map_99 (by decide) ?_
                      refine va_iast hx hb hK.1 hP hD hS 4 0 rfl rfl (i := 20) (by unfold vp_in; decide) dX12_map_101 (fun H locs hP hD hS => ?_)
                      have hP : va_P D vwCl [(mo, .inr (12, [.int 0, .int 0, .long 0, .int 0, .int 0, .ref g5, .ref g6, .ref g7, .ref g8, .ref g9, .ref g10, .int 0, .ref g12, .ref g13, .ref g14, .ref g15, .ref g16, .ref g17, .ref g18, .ref g19, .ref g20, .int (-9), .ref g22, .ref g23, .ref g24, .int 0, .int 0, .int 0, .int 0, .ref g29, .ref g30, .ref g31, .ref g32, .ref g33])), (g15, .inl (cy 2, 4, .inl (upd (fun _ => 0) (3 : Int32).toNatClampNeg (vp_nar .boolean 1)))), (g16, .inl (cy 0, 4, .inl (upd (fun _ => 0) (3 : Int32).toNatClampNeg a2))), (g17, .inl (cy 0, 4, .inl (upd (fun _ => 0) (3 : Int32).toNatClampNeg a3))), (g18, .inl (cy 0, 24, .inl (upd (upd (upd (fun _ => 0) (18 : Int32).toNatClampNeg (-9)) (19 : Int32).toNatClampNeg (-9)) (20 : Int32).toNatClampNeg (-9))))] H := hP
                      have hD : va_D A [(mo, .inr (12, [.int 0, .int 0, .long 0, .int 0, .int 0, .ref g5, .ref g6, .ref g7, .ref g8, .ref g9, .ref g10, .int 0, .ref g12, .ref g13, .ref g14, .ref g15, .ref g16, .ref g17, .ref g18, .ref g19, .ref g20, .int (-9), .ref g22, .ref g23, .ref g24, .int 0, .int 0, .int 0, .int 0, .ref g29, .ref g30, .ref g31, .ref g32, .ref g33])), (g15, .inl (cy 2, 4, .inl (upd (fun _ => 0) (3 : Int32).toNatClampNeg (vp_nar .boolean 1)))), (g16, .inl (cy 0, 4, .inl (upd (fun _ => 0) (3 : Int32).toNatClampNeg a2))), (g17, .inl (cy 0, 4, .inl (upd (fun _ => 0) (3 : Int32).toNatClampNeg a3))), (g18, .inl (cy 0, 24, .inl (upd (upd (upd (fun _ => 0) (18 : Int32).toNatClampNeg (-9)) (19 : Int32).toNatClampNeg (-9)) (20 : Int32).toNatClampNeg (-9))))] := hD
                      refine lv_iinc (v := 3) (lv' := [(4, .int 3), (0, .ref mo), (1, .int 3), (2, .int a2), (3, .int a3)]) hx hb dX12_map_102 hl (k := 0) rfl (by decide) (by decide) rfl (fun ls hl => ?_)
                      refine lv_goto (tgt := 81) hx hb dX12_map_105 (by decide) ?_
                      refine lv_iload hx hb dX12_map_81 (lv_at hl 0 rfl) ?_
                      refine lv_bipush (v := 6) hx hb dX12_map_83 (by decide) ?_
                      refine lv_icmp_ge (tgt := 108) hx hb dX12_map_85 (by decide) (fun c_33 => ?_) (fun c_33 => ?_)
                      · exact absurd c_33 (by decide)
                      · have _ := c_33
                        refine lv_aload_n hx hb dX12_map_88 rfl (lv_at hl 1 rfl) ?_
                        refine va_get (ci := 12) (v := .ref g18) (C := RX12) (T := TX12) (N := 34) hx hb hts (fun _ h => List.mem_cons_of_mem _ (List.mem_append_right _ h)) hown hK.1 hP 0 rfl rfl 18 (by decide) (hts (.fieldLink RX12 47 "CutAtlasModel" "rowSize" "[I") (by decide +kernel)) (fun _ h9 => h9) rfl dX12_map_89 ?_
                        refine lv_bipush (v := 6) hx hb dX12_map_92 (by decide) ?_
                        refine lv_iload_n hx hb dX12_map_94 rfl (lv_at hl 2 rfl) ?_
                        refine lv_imul hx hb dX12_map_95 ?_
                        refine lv_topi (fun y_ ey_ => ?_)
                        have ey_ := (ey_.trans (show _ = (18 : Int32) by decide)).symm
                        subst ey_
                        refine lv_iload hx hb dX12_map_96 (lv_at hl 0 rfl) ?_
                        refine lv_iadd hx hb dX12_map_98 ?_
                        refine lv_topi (fun y_ ey_ => ?_)
                        have ey_ := (ey_.trans (show _ = (21 : Int32) by decide)).symm
                        subst ey_
                        refine lv_bipush (v := (-9)) hx hb dX12_map_99 (by decide) ?_
                        refine va_iast hx hb hK.1 hP hD hS 4 0 rfl rfl (i := 21) (by unfold vp_in; decide) dX12_map_101 (fun H locs hP hD hS => ?_)
                        have hP : va_P D vwCl [(mo, .inr (12, [.int 0, .int 0, .long 0, .int 0, .int 0, .ref g5, .ref g6, .ref g7, .ref g8, .ref g9, .ref g10, .int 0, .ref g12, .ref g13, .ref g14, .ref g15, .ref g16, .ref g17, .ref g18, .ref g19, .ref g20, .int (-9), .ref g22, .ref g23, .ref g24, .int 0, .int 0, .int 0, .int 0, .ref g29, .ref g30, .ref g31, .ref g32, .ref g33])), (g15, .inl (cy 2, 4, .inl (upd (fun _ => 0) (3 : Int32).toNatClampNeg (vp_nar .boolean 1)))), (g16, .inl (cy 0, 4, .inl (upd (fun _ => 0) (3 : Int32).toNatClampNeg a2))), (g17, .inl (cy 0, 4, .inl (upd (fun _ => 0) (3 : Int32).toNatClampNeg a3))), (g18, .inl (cy 0, 24, .inl (upd (upd (upd (upd (fun _ => 0) (18 : Int32).toNatClampNeg (-9)) (19 : Int32).toNatClampNeg (-9)) (20 : Int32).toNatClampNeg (-9)) (21 : Int32).toNatClampNeg (-9))))] H := hP
                        have hD : va_D A [(mo, .inr (12, [.int 0, .int 0, .long 0, .int 0, .int 0, .ref g5, .ref g6, .ref g7, .ref g8, .ref g9, .ref g10, .int 0, .ref g12, .ref g13, .ref g14, .ref g15, .ref g16, .ref g17, .ref g18, .ref g19, .ref g20, .int (-9), .ref g22, .ref g23, .ref g24, .int 0, .int 0, .int 0, .int 0, .ref g29, .ref g30, .ref g31, .ref g32, .ref g33])), (g15, .inl (cy 2, 4, .inl (upd (fun _ => 0) (3 : Int32).toNatClampNeg (vp_nar .boolean 1)))), (g16, .inl (cy 0, 4, .inl (upd (fun _ => 0) (3 : Int32).toNatClampNeg a2))), (g17, .inl (cy 0, 4, .inl (upd (fun _ => 0) (3 : Int32).toNatClampNeg a3))), (g18, .inl (cy 0, 24, .inl (upd (upd (upd (upd (fun _ => 0) (18 : Int32).toNatClampNeg (-9)) (19 : Int32).toNatClampNeg (-9)) (20 : Int32).toNatClampNeg (-9)) (21 : Int32).toNatClampNeg (-9))))] := hD
                        refine lv_iinc (v := 4) (lv' := [(4, .int 4), (0, .ref mo), (1, .int 3), (2, .int a2), (3, .int a3)]) hx hb dX12_map_102 hl (k := 0) rfl (by decide) (by decide) rfl (fun ls hl => ?_)
                        refine lv_goto (tgt := 81) hx hb dX12_map_105 (by decide) ?_
                        refine lv_iload hx hb dX12_map_81 (lv_at hl 0 rfl) ?_
                        refine lv_bipush (v := 6) hx hb dX12_map_83 (by decide) ?_
                        refine lv_icmp_ge (tgt := 108) hx hb dX12_map_85 (by decide) (fun c_34 => ?_) (fun c_34 => ?_)
                        · exact absurd c_34 (by decide)
                        · have _ := c_34
                          refine lv_aload_n hx hb dX12_map_88 rfl (lv_at hl 1 rfl) ?_
                          refine va_get (ci := 12) (v := .ref g18) (C := RX12) (T := TX12) (N := 34) hx hb hts (fun _ h => List.mem_cons_of_mem _ (List.mem_append_right _ h)) hown hK.1 hP 0 rfl rfl 18 (by decide) (hts (.fieldLink RX12 47 "CutAtlasModel" "rowSize" "[I") (by decide +kernel)) (fun _ h9 => h9) rfl dX12_map_89 ?_
                          refine lv_bipush (v := 6) hx hb dX12_map_92 (by decide) ?_
                          refine lv_iload_n hx hb dX12_map_94 rfl (lv_at hl 2 rfl) ?_
                          refine lv_imul hx hb dX12_map_95 ?_
                          refine lv_topi (fun y_ ey_ => ?_)
                          have ey_ := (ey_.trans (show _ = (18 : Int32) by decide)).symm
                          subst ey_
                          refine lv_iload hx hb dX12_map_96 (lv_at hl 0 rfl) ?_
                          refine lv_iadd hx hb dX12_map_98 ?_
                          refine lv_topi (fun y_ ey_ => ?_)
                          have ey_ := (ey_.trans (show _ = (22 : Int32) by decide)).symm
                          subst ey_
                          refine lv_bipush (v := (-9)) hx hb dX12_map_99 (by decide) ?_
                          refine va_iast hx hb hK.1 hP hD hS 4 0 rfl rfl (i := 22) (by unfold vp_in; decide) dX12_map_101 (fun H locs hP hD hS => ?_)
                          have hP : va_P D vwCl [(mo, .inr (12, [.int 0, .int 0, .long 0, .int 0, .int 0, .ref g5, .ref g6, .ref g7, .ref g8, .ref g9, .ref g10, .int 0, .ref g12, .ref g13, .ref g14, .ref g15, .ref g16, .ref g17, .ref g18, .ref g19, .ref g20, .int (-9), .ref g22, .ref g23, .ref g24, .int 0, .int 0, .int 0, .int 0, .ref g29, .ref g30, .ref g31, .ref g32, .ref g33])), (g15, .inl (cy 2, 4, .inl (upd (fun _ => 0) (3 : Int32).toNatClampNeg (vp_nar .boolean 1)))), (g16, .inl (cy 0, 4, .inl (upd (fun _ => 0) (3 : Int32).toNatClampNeg a2))), (g17, .inl (cy 0, 4, .inl (upd (fun _ => 0) (3 : Int32).toNatClampNeg a3))), (g18, .inl (cy 0, 24, .inl (upd (upd (upd (upd (upd (fun _ => 0) (18 : Int32).toNatClampNeg (-9)) (19 : Int32).toNatClampNeg (-9)) (20 : Int32).toNatClampNeg (-9)) (21 : Int32).toNatClampNeg (-9)) (22 : Int32).toNatClampNeg (-9))))] H := hP
                          have hD : va_D A [(mo, .inr (12, [.int 0, .int 0, .long 0, .int 0, .int 0, .ref g5, .ref g6, .ref g7, .ref g8, .ref g9, .ref g10, .int 0, .ref g12, .ref g13, .ref g14, .ref g15, .ref g16, .ref g17, .ref g18, .ref g19, .ref g20, .int (-9), .ref g22, .ref g23, .ref g24, .int 0, .int 0, .int 0, .int 0, .ref g29, .ref g30, .ref g31, .ref g32, .ref g33])), (g15, .inl (cy 2, 4, .inl (upd (fun _ => 0) (3 : Int32).toNatClampNeg (vp_nar .boolean 1)))), (g16, .inl (cy 0, 4, .inl (upd (fun _ => 0) (3 : Int32).toNatClampNeg a2))), (g17, .inl (cy 0, 4, .inl (upd (fun _ => 0) (3 : Int32).toNatClampNeg a3))), (g18, .inl (cy 0, 24, .inl (upd (upd (upd (upd (upd (fun _ => 0) (18 : Int32).toNatClampNeg (-9)) (19 : Int32).toNatClampNeg (-9)) (20 : Int32).toNatClampNeg (-9)) (21 : Int32).toNatClampNeg (-9)) (22 : Int32).toNatClampNeg (-9))))] := hD
                          refine lv_iinc (v := 5) (lv' := [(4, .int 5), (0, .ref mo), (1, .int 3), (2, .int a2), (3, .int a3)]) hx hb dX12_map_102 hl (k := 0) rfl (by decide) (by decide) rfl (fun ls hl => ?_)
                          refine lv_goto (tgt := 81) hx hb dX12_map_105 (by decide) ?_
                          refine lv_iload hx hb dX12_map_81 (lv_at hl 0 rfl) ?_
                          refine lv_bipush (v := 6) hx hb dX12_map_83 (by decide) ?_
                          refine lv_icmp_ge (tgt := 108) hx hb dX12_map_85 (by decide) (fun c_35 => ?_) (fun c_35 => ?_)
                          · exact absurd c_35 (by decide)
                          · have _ := c_35
                            refine lv_aload_n hx hb dX12_map_88 rfl (lv_at hl 1 rfl) ?_
                            refine va_get (ci := 12) (v := .ref g18) (C := RX12) (T := TX12) (N := 34) hx hb hts (fun _ h => List.mem_cons_of_mem _ (List.mem_append_right _ h)) hown hK.1 hP 0 rfl rfl 18 (by decide) (hts (.fieldLink RX12 47 "CutAtlasModel" "rowSize" "[I") (by decide +kernel)) (fun _ h9 => h9) rfl dX12_map_89 ?_
                            refine lv_bipush (v := 6) hx hb dX12_map_92 (by decide) ?_
                            refine lv_iload_n hx hb dX12_map_94 rfl (lv_at hl 2 rfl) ?_
                            refine lv_imul hx hb dX12_map_95 ?_
                            refine lv_topi (fun y_ ey_ => ?_)
                            have ey_ := (ey_.trans (show _ = (18 : Int32) by decide)).symm
                            subst ey_
                            refine lv_iload hx hb dX12_map_96 (lv_at hl 0 rfl) ?_
                            refine lv_iadd hx hb dX12_map_98 ?_
                            refine lv_topi (fun y_ ey_ => ?_)
                            have ey_ := (ey_.trans (show _ = (23 : Int32) by decide)).symm
                            subst ey_
                            refine lv_bipush (v := (-9)) hx hb dX12_map_99 (by decide) ?_
                            refine va_iast hx hb hK.1 hP hD hS 4 0 rfl rfl (i := 23) (by unfold vp_in; decide) dX12_map_101 (fun H locs hP hD hS => ?_)
                            have hP : va_P D vwCl [(mo, .inr (12, [.int 0, .int 0, .long 0, .int 0, .int 0, .ref g5, .ref g6, .ref g7, .ref g8, .ref g9, .ref g10, .int 0, .ref g12, .ref g13, .ref g14, .ref g15, .ref g16, .ref g17, .ref g18, .ref g19, .ref g20, .int (-9), .ref g22, .ref g23, .ref g24, .int 0, .int 0, .int 0, .int 0, .ref g29, .ref g30, .ref g31, .ref g32, .ref g33])), (g15, .inl (cy 2, 4, .inl (upd (fun _ => 0) (3 : Int32).toNatClampNeg (vp_nar .boolean 1)))), (g16, .inl (cy 0, 4, .inl (upd (fun _ => 0) (3 : Int32).toNatClampNeg a2))), (g17, .inl (cy 0, 4, .inl (upd (fun _ => 0) (3 : Int32).toNatClampNeg a3))), (g18, .inl (cy 0, 24, .inl (upd (upd (upd (upd (upd (upd (fun _ => 0) (18 : Int32).toNatClampNeg (-9)) (19 : Int32).toNatClampNeg (-9)) (20 : Int32).toNatClampNeg (-9)) (21 : Int32).toNatClampNeg (-9)) (22 : Int32).toNatClampNeg (-9)) (23 : Int32).toNatClampNeg (-9))))] H := hP
                            have hD : va_D A [(mo, .inr (12, [.int 0, .int 0, .long 0, .int 0, .int 0, .ref g5, .ref g6, .ref g7, .ref g8, .ref g9, .ref g10, .int 0, .ref g12, .ref g13, .ref g14, .ref g15, .ref g16, .ref g17, .ref g18, .ref g19, .ref g20, .int (-9), .ref g22, .ref g23, .ref g24, .int 0, .int 0, .int 0, .int 0, .ref g29, .ref g30, .ref g31, .ref g32, .ref g33])), (g15, .inl (cy 2, 4, .inl (upd (fun _ => 0) (3 : Int32).toNatClampNeg (vp_nar .boolean 1)))), (g16, .inl (cy 0, 4, .inl (upd (fun _ => 0) (3 : Int32).toNatClampNeg a2))), (g17, .inl (cy 0, 4, .inl (upd (fun _ => 0) (3 : Int32).toNatClampNeg a3))), (g18, .inl (cy 0, 24, .inl (upd (upd (upd (upd (upd (upd (fun _ => 0) (18 : Int32).toNatClampNeg (-9)) (19 : Int32).toNatClampNeg (-9)) (20 : Int32).toNatClampNeg (-9)) (21 : Int32).toNatClampNeg (-9)) (22 : Int32).toNatClampNeg (-9)) (23 : Int32).toNatClampNeg (-9))))] := hD
                            refine lv_iinc (v := 6) (lv' := [(4, .int 6), (0, .ref mo), (1, .int 3), (2, .int a2), (3, .int a3)]) hx hb dX12_map_102 hl (k := 0) rfl (by decide) (by decide) rfl (fun ls hl => ?_)
                            refine lv_goto (tgt := 81) hx hb dX12_map_105 (by decide) ?_
                            refine lv_iload hx hb dX12_map_81 (lv_at hl 0 rfl) ?_
                            refine lv_bipush (v := 6) hx hb dX12_map_83 (by decide) ?_
                            refine lv_icmp_ge (tgt := 108) hx hb dX12_map_85 (by decide) (fun c_36 => ?_) (fun c_36 => ?_)
                            · have _ := c_36
                              refine lv_iconst (v := 1) hx hb dX12_map_108 (by decide) ?_
                              exact W.iret (v := 1) hx hb hr (fun t ht hW => ⟨⟨1, (), rfl, Or.inr (Or.inr (⟨by omega, rfl⟩)), trivial⟩, hS.F ht⟩) hS.2.2 dX12_map_109
                            · exact absurd c_36 (by decide)
            · have t_8 : ¬ (0 : Int32).toInt ≤ a3.toInt := fun h => c_8 (Int32.le_iff_toInt_le.mpr h)
              refine lv_aload_n hx hb dX12_map_50 rfl (lv_at hl 0 rfl) ?_
              refine lv_bipush (v := (-15)) hx hb dX12_map_51 (by decide) ?_
              have hPc := hP.sub (ws' := [(mo, .inr (12, [.int 0, .int 0, .long 0, .int 0, .int 0, .ref g5, .ref g6, .ref g7, .ref g8, .ref g9, .ref g10, .int 0, .ref g12, .ref g13, .ref g14, .ref g15, .ref g16, .ref g17, .ref g18, .ref g19, .ref g20, .int (-9), .ref g22, .ref g23, .ref g24, .int 0, .int 0, .int 0, .int 0, .ref g29, .ref g30, .ref g31, .ref g32, .ref g33]))]) [0] rfl
              have hDc := hD.sub (ws' := [(mo, .inr (12, [.int 0, .int 0, .long 0, .int 0, .int 0, .ref g5, .ref g6, .ref g7, .ref g8, .ref g9, .ref g10, .int 0, .ref g12, .ref g13, .ref g14, .ref g15, .ref g16, .ref g17, .ref g18, .ref g19, .ref g20, .int (-9), .ref g22, .ref g23, .ref g24, .int 0, .int 0, .int 0, .int 0, .ref g29, .ref g30, .ref g31, .ref g32, .ref g33]))]) [0] (by decide) rfl
              have hDw : va_D (fun _ => True) [(mo, .inr (12, [.int 0, .int 0, .long 0, .int 0, .int 0, .ref g5, .ref g6, .ref g7, .ref g8, .ref g9, .ref g10, .int 0, .ref g12, .ref g13, .ref g14, .ref g15, .ref g16, .ref g17, .ref g18, .ref g19, .ref g20, .int (-9), .ref g22, .ref g23, .ref g24, .int 0, .int 0, .int 0, .int 0, .ref g29, .ref g30, .ref g31, .ref g32, .ref g33]))] := hDc.weaken (fun _ _ _ _ => trivial)
              have hFc := va_free (wc := [(mo, .inr (12, [.int 0, .int 0, .long 0, .int 0, .int 0, .ref g5, .ref g6, .ref g7, .ref g8, .ref g9, .ref g10, .int 0, .ref g12, .ref g13, .ref g14, .ref g15, .ref g16, .ref g17, .ref g18, .ref g19, .ref g20, .int (-9), .ref g22, .ref g23, .ref g24, .int 0, .int 0, .int 0, .int 0, .ref g29, .ref g30, .ref g31, .ref g32, .ref g33]))]) hD hS hA [0] rfl
              refine va_calli (va_runV (As := [.int (-15)]) (rest := []) ⟨hx, hb, hml, hown, hts⟩ (c_X12_no l D cy H.size mo g5 g6 g7 g8 g9 g10 g12 g13 g14 g15 g16 g17 g18 g19 g20 g22 g23 g24 g29 g30 g31 g32 g33 ((-15) : Int32)) (cwV 1 hts gX12_map_X12_no rfl rfl rfl (by decide +kernel) ⟨Nat.le_of_ble_eq_true rfl, Nat.le_of_ble_eq_true rfl⟩) ⟨bl_, va_recv hK.1 hPc (ci := 12) (q0 := 0) rfl rfl, fun U hU hW => ⟨rfl, by rw [hU], by rw [hU]; exact hPc, kk_mv hW hK, hDw⟩⟩ rfl rfl hl.1 rfl (lv_room (Nat.le_of_ble_eq_true rfl)) dX12_map_53 ⟨Nat.le_of_ble_eq_true rfl, Nat.le_of_ble_eq_true rfl⟩) hS (fun q _ h => hFc q h) hFc (fun r_37 u t H locs ht hvm hw hB hz1 hk1 hS => ?_)
              obtain ⟨hP, hD⟩ := va_join (wr := [(g15, .inl (cy 2, 4, .inl (fun _ => 0))), (g16, .inl (cy 0, 4, .inl (fun _ => 0))), (g17, .inl (cy 0, 4, .inl (fun _ => 0))), (g18, .inl (cy 0, 24, .inl (fun _ => 0)))]) (w1 := []) hP hD [0] [1, 2, 3, 4] rfl rfl (by decide) (by decide) hk1 hFc pp_nil dd_nil
              have hP : va_P D vwCl [(g15, .inl (cy 2, 4, .inl (fun _ => 0))), (g16, .inl (cy 0, 4, .inl (fun _ => 0))), (g17, .inl (cy 0, 4, .inl (fun _ => 0))), (g18, .inl (cy 0, 24, .inl (fun _ => 0)))] H := hP
              have hD : va_D A [(g15, .inl (cy 2, 4, .inl (fun _ => 0))), (g16, .inl (cy 0, 4, .inl (fun _ => 0))), (g17, .inl (cy 0, 4, .inl (fun _ => 0))), (g18, .inl (cy 0, 24, .inl (fun _ => 0)))] := hD
              have e_ := hw.symm
              subst e_
              exact W.iret (v := ((-15) : Int32)) hx hb hr (fun t ht hW => ⟨⟨((-15) : Int32), (), rfl, by first | exact Or.inl (⟨by omega, rfl⟩) | exact Or.inr (Or.inl (⟨by omega, rfl⟩)) | exact Or.inr (Or.inr (⟨by omega, rfl⟩)), trivial⟩, hS.F ht⟩) hS.2.2 dX12_map_56
          · have t_7 : ¬ a3.toInt ≤ (6 : Int32).toInt := fun h => c_7 (Int32.le_iff_toInt_le.mpr h)
            refine lv_aload_n hx hb dX12_map_40 rfl (lv_at hl 0 rfl) ?_
            refine lv_iconst (v := (-1)) hx hb dX12_map_41 (by decide) ?_
            have hPc := hP.sub (ws' := [(mo, .inr (12, [.int 0, .int 0, .long 0, .int 0, .int 0, .ref g5, .ref g6, .ref g7, .ref g8, .ref g9, .ref g10, .int 0, .ref g12, .ref g13, .ref g14, .ref g15, .ref g16, .ref g17, .ref g18, .ref g19, .ref g20, .int (-9), .ref g22, .ref g23, .ref g24, .int 0, .int 0, .int 0, .int 0, .ref g29, .ref g30, .ref g31, .ref g32, .ref g33]))]) [0] rfl
            have hDc := hD.sub (ws' := [(mo, .inr (12, [.int 0, .int 0, .long 0, .int 0, .int 0, .ref g5, .ref g6, .ref g7, .ref g8, .ref g9, .ref g10, .int 0, .ref g12, .ref g13, .ref g14, .ref g15, .ref g16, .ref g17, .ref g18, .ref g19, .ref g20, .int (-9), .ref g22, .ref g23, .ref g24, .int 0, .int 0, .int 0, .int 0, .ref g29, .ref g30, .ref g31, .ref g32, .ref g33]))]) [0] (by decide) rfl
            have hDw : va_D (fun _ => True) [(mo, .inr (12, [.int 0, .int 0, .long 0, .int 0, .int 0, .ref g5, .ref g6, .ref g7, .ref g8, .ref g9, .ref g10, .int 0, .ref g12, .ref g13, .ref g14, .ref g15, .ref g16, .ref g17, .ref g18, .ref g19, .ref g20, .int (-9), .ref g22, .ref g23, .ref g24, .int 0, .int 0, .int 0, .int 0, .ref g29, .ref g30, .ref g31, .ref g32, .ref g33]))] := hDc.weaken (fun _ _ _ _ => trivial)
            have hFc := va_free (wc := [(mo, .inr (12, [.int 0, .int 0, .long 0, .int 0, .int 0, .ref g5, .ref g6, .ref g7, .ref g8, .ref g9, .ref g10, .int 0, .ref g12, .ref g13, .ref g14, .ref g15, .ref g16, .ref g17, .ref g18, .ref g19, .ref g20, .int (-9), .ref g22, .ref g23, .ref g24, .int 0, .int 0, .int 0, .int 0, .ref g29, .ref g30, .ref g31, .ref g32, .ref g33]))]) hD hS hA [0] rfl
            refine va_calli (va_runV (As := [.int (-1)]) (rest := []) ⟨hx, hb, hml, hown, hts⟩ (c_X12_no l D cy H.size mo g5 g6 g7 g8 g9 g10 g12 g13 g14 g15 g16 g17 g18 g19 g20 g22 g23 g24 g29 g30 g31 g32 g33 ((-1) : Int32)) (cwV 1 hts gX12_map_X12_no rfl rfl rfl (by decide +kernel) ⟨Nat.le_of_ble_eq_true rfl, Nat.le_of_ble_eq_true rfl⟩) ⟨bl_, va_recv hK.1 hPc (ci := 12) (q0 := 0) rfl rfl, fun U hU hW => ⟨rfl, by rw [hU], by rw [hU]; exact hPc, kk_mv hW hK, hDw⟩⟩ rfl rfl hl.1 rfl (lv_room (Nat.le_of_ble_eq_true rfl)) dX12_map_42 ⟨Nat.le_of_ble_eq_true rfl, Nat.le_of_ble_eq_true rfl⟩) hS (fun q _ h => hFc q h) hFc (fun r_38 u t H locs ht hvm hw hB hz1 hk1 hS => ?_)
            obtain ⟨hP, hD⟩ := va_join (wr := [(g15, .inl (cy 2, 4, .inl (fun _ => 0))), (g16, .inl (cy 0, 4, .inl (fun _ => 0))), (g17, .inl (cy 0, 4, .inl (fun _ => 0))), (g18, .inl (cy 0, 24, .inl (fun _ => 0)))]) (w1 := []) hP hD [0] [1, 2, 3, 4] rfl rfl (by decide) (by decide) hk1 hFc pp_nil dd_nil
            have hP : va_P D vwCl [(g15, .inl (cy 2, 4, .inl (fun _ => 0))), (g16, .inl (cy 0, 4, .inl (fun _ => 0))), (g17, .inl (cy 0, 4, .inl (fun _ => 0))), (g18, .inl (cy 0, 24, .inl (fun _ => 0)))] H := hP
            have hD : va_D A [(g15, .inl (cy 2, 4, .inl (fun _ => 0))), (g16, .inl (cy 0, 4, .inl (fun _ => 0))), (g17, .inl (cy 0, 4, .inl (fun _ => 0))), (g18, .inl (cy 0, 24, .inl (fun _ => 0)))] := hD
            have e_ := hw.symm
            subst e_
            exact W.iret (v := ((-1) : Int32)) hx hb hr (fun t ht hW => ⟨⟨((-1) : Int32), (), rfl, by first | exact Or.inl (⟨by omega, rfl⟩) | exact Or.inr (Or.inl (⟨by omega, rfl⟩)) | exact Or.inr (Or.inr (⟨by omega, rfl⟩)), trivial⟩, hS.F ht⟩) hS.2.2 dX12_map_45
      · have e_ := e_.symm
        subst e_
        refine lv_if_eq (tgt := 40) hx hb dX12_map_31 (by decide) (fun c_39 => ?_) (fun c_39 => ?_)
        · have _ := c_39
          refine lv_aload_n hx hb dX12_map_40 rfl (lv_at hl 0 rfl) ?_
          refine lv_iconst (v := (-1)) hx hb dX12_map_41 (by decide) ?_
          have hPc := hP.sub (ws' := [(mo, .inr (12, [.int 0, .int 0, .long 0, .int 0, .int 0, .ref g5, .ref g6, .ref g7, .ref g8, .ref g9, .ref g10, .int 0, .ref g12, .ref g13, .ref g14, .ref g15, .ref g16, .ref g17, .ref g18, .ref g19, .ref g20, .int (-9), .ref g22, .ref g23, .ref g24, .int 0, .int 0, .int 0, .int 0, .ref g29, .ref g30, .ref g31, .ref g32, .ref g33]))]) [0] rfl
          have hDc := hD.sub (ws' := [(mo, .inr (12, [.int 0, .int 0, .long 0, .int 0, .int 0, .ref g5, .ref g6, .ref g7, .ref g8, .ref g9, .ref g10, .int 0, .ref g12, .ref g13, .ref g14, .ref g15, .ref g16, .ref g17, .ref g18, .ref g19, .ref g20, .int (-9), .ref g22, .ref g23, .ref g24, .int 0, .int 0, .int 0, .int 0, .ref g29, .ref g30, .ref g31, .ref g32, .ref g33]))]) [0] (by decide) rfl
          have hDw : va_D (fun _ => True) [(mo, .inr (12, [.int 0, .int 0, .long 0, .int 0, .int 0, .ref g5, .ref g6, .ref g7, .ref g8, .ref g9, .ref g10, .int 0, .ref g12, .ref g13, .ref g14, .ref g15, .ref g16, .ref g17, .ref g18, .ref g19, .ref g20, .int (-9), .ref g22, .ref g23, .ref g24, .int 0, .int 0, .int 0, .int 0, .ref g29, .ref g30, .ref g31, .ref g32, .ref g33]))] := hDc.weaken (fun _ _ _ _ => trivial)
          have hFc := va_free (wc := [(mo, .inr (12, [.int 0, .int 0, .long 0, .int 0, .int 0, .ref g5, .ref g6, .ref g7, .ref g8, .ref g9, .ref g10, .int 0, .ref g12, .ref g13, .ref g14, .ref g15, .ref g16, .ref g17, .ref g18, .ref g19, .ref g20, .int (-9), .ref g22, .ref g23, .ref g24, .int 0, .int 0, .int 0, .int 0, .ref g29, .ref g30, .ref g31, .ref g32, .ref g33]))]) hD hS hA [0] rfl
          refine va_calli (va_runV (As := [.int (-1)]) (rest := []) ⟨hx, hb, hml, hown, hts⟩ (c_X12_no l D cy H.size mo g5 g6 g7 g8 g9 g10 g12 g13 g14 g15 g16 g17 g18 g19 g20 g22 g23 g24 g29 g30 g31 g32 g33 ((-1) : Int32)) (cwV 1 hts gX12_map_X12_no rfl rfl rfl (by decide +kernel) ⟨Nat.le_of_ble_eq_true rfl, Nat.le_of_ble_eq_true rfl⟩) ⟨bl_, va_recv hK.1 hPc (ci := 12) (q0 := 0) rfl rfl, fun U hU hW => ⟨rfl, by rw [hU], by rw [hU]; exact hPc, kk_mv hW hK, hDw⟩⟩ rfl rfl hl.1 rfl (lv_room (Nat.le_of_ble_eq_true rfl)) dX12_map_42 ⟨Nat.le_of_ble_eq_true rfl, Nat.le_of_ble_eq_true rfl⟩) hS (fun q _ h => hFc q h) hFc (fun r_40 u t H locs ht hvm hw hB hz1 hk1 hS => ?_)
          obtain ⟨hP, hD⟩ := va_join (wr := [(g15, .inl (cy 2, 4, .inl (fun _ => 0))), (g16, .inl (cy 0, 4, .inl (fun _ => 0))), (g17, .inl (cy 0, 4, .inl (fun _ => 0))), (g18, .inl (cy 0, 24, .inl (fun _ => 0)))]) (w1 := []) hP hD [0] [1, 2, 3, 4] rfl rfl (by decide) (by decide) hk1 hFc pp_nil dd_nil
          have hP : va_P D vwCl [(g15, .inl (cy 2, 4, .inl (fun _ => 0))), (g16, .inl (cy 0, 4, .inl (fun _ => 0))), (g17, .inl (cy 0, 4, .inl (fun _ => 0))), (g18, .inl (cy 0, 24, .inl (fun _ => 0)))] H := hP
          have hD : va_D A [(g15, .inl (cy 2, 4, .inl (fun _ => 0))), (g16, .inl (cy 0, 4, .inl (fun _ => 0))), (g17, .inl (cy 0, 4, .inl (fun _ => 0))), (g18, .inl (cy 0, 24, .inl (fun _ => 0)))] := hD
          have e_ := hw.symm
          subst e_
          exact W.iret (v := ((-1) : Int32)) hx hb hr (fun t ht hW => ⟨⟨((-1) : Int32), (), rfl, by first | exact Or.inl (⟨by omega, rfl⟩) | exact Or.inr (Or.inl (⟨by omega, rfl⟩)) | exact Or.inr (Or.inr (⟨by omega, rfl⟩)), trivial⟩, hS.F ht⟩) hS.2.2 dX12_map_45
        · exact absurd c_39 (by decide)
  · have e_ := e_.symm
    subst e_
    refine lv_if_eq (tgt := 40) hx hb dX12_map_19 (by decide) (fun c_41 => ?_) (fun c_41 => ?_)
    · have _ := c_41
      refine lv_aload_n hx hb dX12_map_40 rfl (lv_at hl 0 rfl) ?_
      refine lv_iconst (v := (-1)) hx hb dX12_map_41 (by decide) ?_
      have hPc := hP.sub (ws' := [(mo, .inr (12, [.int 0, .int 0, .long 0, .int 0, .int 0, .ref g5, .ref g6, .ref g7, .ref g8, .ref g9, .ref g10, .int 0, .ref g12, .ref g13, .ref g14, .ref g15, .ref g16, .ref g17, .ref g18, .ref g19, .ref g20, .int (-9), .ref g22, .ref g23, .ref g24, .int 0, .int 0, .int 0, .int 0, .ref g29, .ref g30, .ref g31, .ref g32, .ref g33]))]) [0] rfl
      have hDc := hD.sub (ws' := [(mo, .inr (12, [.int 0, .int 0, .long 0, .int 0, .int 0, .ref g5, .ref g6, .ref g7, .ref g8, .ref g9, .ref g10, .int 0, .ref g12, .ref g13, .ref g14, .ref g15, .ref g16, .ref g17, .ref g18, .ref g19, .ref g20, .int (-9), .ref g22, .ref g23, .ref g24, .int 0, .int 0, .int 0, .int 0, .ref g29, .ref g30, .ref g31, .ref g32, .ref g33]))]) [0] (by decide) rfl
      have hDw : va_D (fun _ => True) [(mo, .inr (12, [.int 0, .int 0, .long 0, .int 0, .int 0, .ref g5, .ref g6, .ref g7, .ref g8, .ref g9, .ref g10, .int 0, .ref g12, .ref g13, .ref g14, .ref g15, .ref g16, .ref g17, .ref g18, .ref g19, .ref g20, .int (-9), .ref g22, .ref g23, .ref g24, .int 0, .int 0, .int 0, .int 0, .ref g29, .ref g30, .ref g31, .ref g32, .ref g33]))] := hDc.weaken (fun _ _ _ _ => trivial)
      have hFc := va_free (wc := [(mo, .inr (12, [.int 0, .int 0, .long 0, .int 0, .int 0, .ref g5, .ref g6, .ref g7, .ref g8, .ref g9, .ref g10, .int 0, .ref g12, .ref g13, .ref g14, .ref g15, .ref g16, .ref g17, .ref g18, .ref g19, .ref g20, .int (-9), .ref g22, .ref g23, .ref g24, .int 0, .int 0, .int 0, .int 0, .ref g29, .ref g30, .ref g31, .ref g32, .ref g33]))]) hD hS hA [0] rfl
      refine va_calli (va_runV (As := [.int (-1)]) (rest := []) ⟨hx, hb, hml, hown, hts⟩ (c_X12_no l D cy H.size mo g5 g6 g7 g8 g9 g10 g12 g13 g14 g15 g16 g17 g18 g19 g20 g22 g23 g24 g29 g30 g31 g32 g33 ((-1) : Int32)) (cwV 1 hts gX12_map_X12_no rfl rfl rfl (by decide +kernel) ⟨Nat.le_of_ble_eq_true rfl, Nat.le_of_ble_eq_true rfl⟩) ⟨bl_, va_recv hK.1 hPc (ci := 12) (q0 := 0) rfl rfl, fun U hU hW => ⟨rfl, by rw [hU], by rw [hU]; exact hPc, kk_mv hW hK, hDw⟩⟩ rfl rfl hl.1 rfl (lv_room (Nat.le_of_ble_eq_true rfl)) dX12_map_42 ⟨Nat.le_of_ble_eq_true rfl, Nat.le_of_ble_eq_true rfl⟩) hS (fun q _ h => hFc q h) hFc (fun r_42 u t H locs ht hvm hw hB hz1 hk1 hS => ?_)
      obtain ⟨hP, hD⟩ := va_join (wr := [(g15, .inl (cy 2, 4, .inl (fun _ => 0))), (g16, .inl (cy 0, 4, .inl (fun _ => 0))), (g17, .inl (cy 0, 4, .inl (fun _ => 0))), (g18, .inl (cy 0, 24, .inl (fun _ => 0)))]) (w1 := []) hP hD [0] [1, 2, 3, 4] rfl rfl (by decide) (by decide) hk1 hFc pp_nil dd_nil
      have hP : va_P D vwCl [(g15, .inl (cy 2, 4, .inl (fun _ => 0))), (g16, .inl (cy 0, 4, .inl (fun _ => 0))), (g17, .inl (cy 0, 4, .inl (fun _ => 0))), (g18, .inl (cy 0, 24, .inl (fun _ => 0)))] H := hP
      have hD : va_D A [(g15, .inl (cy 2, 4, .inl (fun _ => 0))), (g16, .inl (cy 0, 4, .inl (fun _ => 0))), (g17, .inl (cy 0, 4, .inl (fun _ => 0))), (g18, .inl (cy 0, 24, .inl (fun _ => 0)))] := hD
      have e_ := hw.symm
      subst e_
      exact W.iret (v := ((-1) : Int32)) hx hb hr (fun t ht hW => ⟨⟨((-1) : Int32), (), rfl, by first | exact Or.inl (⟨by omega, rfl⟩) | exact Or.inr (Or.inl (⟨by omega, rfl⟩)) | exact Or.inr (Or.inr (⟨by omega, rfl⟩)), trivial⟩, hS.F ht⟩) hS.2.2 dX12_map_45
    · exact absurd c_41 (by decide)

set_option maxHeartbeats 4000000 in
set_option maxRecDepth 100000 in
theorem c_X12_row (l : Launch) (D : va_G) (cy : Nat → ClassId) (sz : Nat) (mo : Nat) (g5 : Nat) (g6 : Nat) (g7 : Nat) (g8 : Nat) (g9 : Nat) (g10 : Nat) (g12 : Nat) (g13 : Nat) (g14 : Nat) (g15 : Nat) (g16 : Nat) (g17 : Nat) (g18 : Nat) (g19 : Nat) (g20 : Nat) (g22 : Nat) (g23 : Nat) (g24 : Nat) (g29 : Nat) (g30 : Nat) (g31 : Nat) (g32 : Nat) (g33 : Nat) (a1 : Int32) (a2 : Int32) (a3 : Int32) : Met l yX12_row wsX12_row ({ frames := 1, cells := 0, slots := 0, locals := 25 }) (va_Pc [.ref mo, .int a1, .int a2, .int a3] (fun U => U.heap.size = sz ∧ va_P D vwCl [(mo, .inr (12, [.int 0, .int 0, .long 0, .int 0, .int 0, .ref g5, .ref g6, .ref g7, .ref g8, .ref g9, .ref g10, .int 0, .ref g12, .ref g13, .ref g14, .ref g15, .ref g16, .ref g17, .ref g18, .ref g19, .ref g20, .int (-9), .ref g22, .ref g23, .ref g24, .int 0, .int 0, .int 0, .int 0, .ref g29, .ref g30, .ref g31, .ref g32, .ref g33])), (g15, .inl (cy 2, 4, .inl (fun _ => 0)))] U.heap ∧ kk_ D cy U ∧ va_D (fun _ => True) [(mo, .inr (12, [.int 0, .int 0, .long 0, .int 0, .int 0, .ref g5, .ref g6, .ref g7, .ref g8, .ref g9, .ref g10, .int 0, .ref g12, .ref g13, .ref g14, .ref g15, .ref g16, .ref g17, .ref g18, .ref g19, .ref g20, .int (-9), .ref g22, .ref g23, .ref g24, .int 0, .int 0, .int 0, .int 0, .ref g29, .ref g30, .ref g31, .ref g32, .ref g33])), (g15, .inl (cy 2, 4, .inl (fun _ => 0)))])) (va_Qi (fun (r : Int32) (_ : Unit) => ((¬ ((0 ≤ a1.toInt ∧ a1.toInt < 4) ∧ a3.toInt ≤ 5)) ∧ r = (-1)) ∨ (((0 ≤ a1.toInt ∧ a1.toInt < 4) ∧ a3.toInt ≤ 5) ∧ r = (-11))) (fun (_ : Unit) (_ : State) => True) (va_A [(mo, .inr (12, [.int 0, .int 0, .long 0, .int 0, .int 0, .ref g5, .ref g6, .ref g7, .ref g8, .ref g9, .ref g10, .int 0, .ref g12, .ref g13, .ref g14, .ref g15, .ref g16, .ref g17, .ref g18, .ref g19, .ref g20, .int (-9), .ref g22, .ref g23, .ref g24, .int 0, .int 0, .int 0, .int 0, .ref g29, .ref g30, .ref g31, .ref g32, .ref g33])), (g15, .inl (cy 2, 4, .inl (fun _ => 0)))] sz)) 0 0 (va_A [(mo, .inr (12, [.int 0, .int 0, .long 0, .int 0, .int 0, .ref g5, .ref g6, .ref g7, .ref g8, .ref g9, .ref g10, .int 0, .ref g12, .ref g13, .ref g14, .ref g15, .ref g16, .ref g17, .ref g18, .ref g19, .ref g20, .int (-9), .ref g22, .ref g23, .ref g24, .int 0, .int 0, .int 0, .int 0, .ref g29, .ref g30, .ref g31, .ref g32, .ref g33])), (g15, .inl (cy 2, 4, .inl (fun _ => 0)))] sz) := by
  refine Met.ofW (cc := cX12_row) (maxL := 5) (ret := (some .int)) (by decide) rfl ?_
  intro p e s m args below meth c s₁ B hml hv
  obtain ⟨rfl, hsz, hP, hK, hD0⟩ := hv
  have hx := B.exec
  have hb := B.bytes
  have hr := B.returns
  have hts := atoms_spec (ws := wsX12_row) B.pre
  have hown : s.vm.findClass RX12 = some m.cls := findClass_of_methodNamed B.named
  have hlocks := B.notSynchronized
  subst hsz
  have hD := hD0.self (sz := s.heap.size)
  generalize hAe : va_A [(mo, .inr (12, [.int 0, .int 0, .long 0, .int 0, .int 0, .ref g5, .ref g6, .ref g7, .ref g8, .ref g9, .ref g10, .int 0, .ref g12, .ref g13, .ref g14, .ref g15, .ref g16, .ref g17, .ref g18, .ref g19, .ref g20, .int (-9), .ref g22, .ref g23, .ref g24, .int 0, .int 0, .int 0, .int 0, .ref g29, .ref g30, .ref g31, .ref g32, .ref g33])), (g15, .inl (cy 2, 4, .inl (fun _ => 0)))] s.heap.size = A at hD ⊢
  have hA : ∀ q : Nat, s.heap.size ≤ q → A q := fun q h => by rw [← hAe]; exact Or.inr h
  have hS : va_S A s.heap s.heap [] := va_S.rf
  have hl := lv_entry ([.ref mo, .int a1, .int a2, .int a3]) (n := 5) (Nat.le_of_ble_eq_true rfl)
  rw [lg_entry_eq]
  generalize (lg_sl ([.ref mo, .int a1, .int a2, .int a3]) ++ List.replicate (5 - (lg_sl ([.ref mo, .int a1, .int a2, .int a3])).length) Slot.unset).toArray = ls at hl ⊢
  have hl : lv_has ls 5 [(0, .ref mo), (1, .int a1), (2, .int a2), (3, .int a3)] := hl
  have zl0 : (0 : Int64).toInt = 0 := by decide
  have zl3 : (3 : Int64).toInt = 3 := by decide
  have z5 : (5 : Int32).toInt = 5 := by decide
  refine lv_aload_n hx hb dX12_row_0 rfl (lv_at hl 0 rfl) ?_
  refine lv_iconst (v := 0) hx hb dX12_row_1 (by decide) ?_
  refine va_put (ci := 12) (v := .int 0) (ty := .int) (C := RX12) (T := TX12) (N := 34) hx hb hts (fun _ h => List.mem_cons_of_mem _ (List.mem_append_right _ h)) tyX12 tyX12_ok nmX12 hown hK.1 hP hD hS 0 rfl rfl 0 (by decide) (hts (.fieldLink RX12 85 "CutAtlasModel" "thrown" "I") (by decide +kernel)) (fun _ h9 => h9) rfl (by decide +kernel) rfl rfl (Nat.le_of_ble_eq_true rfl) dX12_row_2 (fun H locs hP hD hS => ?_)
  have hP : va_P D vwCl [(mo, .inr (12, [.int 0, .int 0, .long 0, .int 0, .int 0, .ref g5, .ref g6, .ref g7, .ref g8, .ref g9, .ref g10, .int 0, .ref g12, .ref g13, .ref g14, .ref g15, .ref g16, .ref g17, .ref g18, .ref g19, .ref g20, .int (-9), .ref g22, .ref g23, .ref g24, .int 0, .int 0, .int 0, .int 0, .ref g29, .ref g30, .ref g31, .ref g32, .ref g33])), (g15, .inl (cy 2, 4, .inl (fun _ => 0)))] H := hP
  have hD : va_D A [(mo, .inr (12, [.int 0, .int 0, .long 0, .int 0, .int 0, .ref g5, .ref g6, .ref g7, .ref g8, .ref g9, .ref g10, .int 0, .ref g12, .ref g13, .ref g14, .ref g15, .ref g16, .ref g17, .ref g18, .ref g19, .ref g20, .int (-9), .ref g22, .ref g23, .ref g24, .int 0, .int 0, .int 0, .int 0, .ref g29, .ref g30, .ref g31, .ref g32, .ref g33])), (g15, .inl (cy 2, 4, .inl (fun _ => 0)))] := hD
  refine lv_aload_n hx hb dX12_row_5 rfl (lv_at hl 0 rfl) ?_
  refine lv_iconst (v := 0) hx hb dX12_row_6 (by decide) ?_
  refine va_put (ci := 12) (v := .int 0) (ty := .int) (C := RX12) (T := TX12) (N := 34) hx hb hts (fun _ h => List.mem_cons_of_mem _ (List.mem_append_right _ h)) tyX12 tyX12_ok nmX12 hown hK.1 hP hD hS 0 rfl rfl 1 (by decide) (hts (.fieldLink RX12 240 "CutAtlasModel" "status" "I") (by decide +kernel)) (fun _ h9 => h9) rfl (by decide +kernel) rfl rfl (Nat.le_of_ble_eq_true rfl) dX12_row_7 (fun H locs hP hD hS => ?_)
  have hP : va_P D vwCl [(mo, .inr (12, [.int 0, .int 0, .long 0, .int 0, .int 0, .ref g5, .ref g6, .ref g7, .ref g8, .ref g9, .ref g10, .int 0, .ref g12, .ref g13, .ref g14, .ref g15, .ref g16, .ref g17, .ref g18, .ref g19, .ref g20, .int (-9), .ref g22, .ref g23, .ref g24, .int 0, .int 0, .int 0, .int 0, .ref g29, .ref g30, .ref g31, .ref g32, .ref g33])), (g15, .inl (cy 2, 4, .inl (fun _ => 0)))] H := hP
  have hD : va_D A [(mo, .inr (12, [.int 0, .int 0, .long 0, .int 0, .int 0, .ref g5, .ref g6, .ref g7, .ref g8, .ref g9, .ref g10, .int 0, .ref g12, .ref g13, .ref g14, .ref g15, .ref g16, .ref g17, .ref g18, .ref g19, .ref g20, .int (-9), .ref g22, .ref g23, .ref g24, .int 0, .int 0, .int 0, .int 0, .ref g29, .ref g30, .ref g31, .ref g32, .ref g33])), (g15, .inl (cy 2, 4, .inl (fun _ => 0)))] := hD
  refine lv_iload_n hx hb dX12_row_10 rfl (lv_at hl 1 rfl) ?_
  refine lv_i2l (v := a1.toInt64) hx hb dX12_row_11 rfl ?_
  have q_11 : (a1.toInt64).toInt = a1.toInt := Int32.toInt_toInt64 a1
  refine lv_lconst (v := 0) hx hb dX12_row_12 (by decide) ?_
  refine lv_ldc2 (v := 3) hx hb hown (hts (.constantLong RX12 243 (3)) (by decide +kernel)) dX12_row_13 ?_
  have hPc := hP.sub (ws' := []) [] rfl
  have hDc := hD.sub (ws' := []) [] (by decide) rfl
  have hDw : va_D (fun _ => True) [] := hDc.weaken (fun _ _ _ _ => trivial)
  have hFc := va_free (wc := []) hD hS hA [] rfl
  refine va_calli (va_runS (As := [.long a1.toInt64, .long 0, .long 3]) (rest := []) ⟨hx, hb, hml, hown, hts⟩ (c_X12_in l D cy H.size a1.toInt64 (0 : Int64) (3 : Int64)) (va_cwS 3 hts gX12_row_X12_in rfl rfl rfl (by decide +kernel) ⟨Nat.le_of_ble_eq_true rfl, Nat.le_of_ble_eq_true rfl⟩) ⟨bl_, fun U hU hW => ⟨rfl, by rw [hU], by rw [hU]; exact hPc, kk_mv hW hK, hDw⟩⟩ rfl rfl hl.1 rfl (lv_room (Nat.le_of_ble_eq_true rfl)) dX12_row_16 ⟨Nat.le_of_ble_eq_true rfl, Nat.le_of_ble_eq_true rfl⟩) hS (fun q _ h => hFc q h) hFc (fun r_1 u t H locs ht hvm hw hB hz1 hk1 hS => ?_)
  have hP := ro_keep hP hk1
  have hP : va_P D vwCl [(mo, .inr (12, [.int 0, .int 0, .long 0, .int 0, .int 0, .ref g5, .ref g6, .ref g7, .ref g8, .ref g9, .ref g10, .int 0, .ref g12, .ref g13, .ref g14, .ref g15, .ref g16, .ref g17, .ref g18, .ref g19, .ref g20, .int (-9), .ref g22, .ref g23, .ref g24, .int 0, .int 0, .int 0, .int 0, .ref g29, .ref g30, .ref g31, .ref g32, .ref g33])), (g15, .inl (cy 2, 4, .inl (fun _ => 0)))] H := hP
  rcases hw with ⟨w_2, e_⟩ | ⟨w_2, e_⟩
  · have e_ := e_.symm
    subst e_
    refine lv_if_eq (tgt := 27) hx hb dX12_row_19 (by decide) (fun c_3 => ?_) (fun c_3 => ?_)
    · exact absurd c_3 (by decide)
    · have _ := c_3
      refine lv_iload_n hx hb dX12_row_22 rfl (lv_at hl 3 rfl) ?_
      refine lv_iconst (v := 5) hx hb dX12_row_23 (by decide) ?_
      refine lv_icmp_le (tgt := 33) hx hb dX12_row_24 (by decide) (fun c_4 => ?_) (fun c_4 => ?_)
      · have t_4 : a3.toInt ≤ (5 : Int32).toInt := Int32.le_iff_toInt_le.mp c_4
        rcases sp_4 (x := a1) (by omega) with rfl | rfl | rfl | rfl
        · refine lv_aload_n hx hb dX12_row_33 rfl (lv_at hl 0 rfl) ?_
          refine va_get (ci := 12) (v := .ref g15) (C := RX12) (T := TX12) (N := 34) hx hb hts (fun _ h => List.mem_cons_of_mem _ (List.mem_append_right _ h)) hown hK.1 hP 0 rfl rfl 15 (by decide) (hts (.fieldLink RX12 38 "CutAtlasModel" "hasMap" "[Z") (by decide +kernel)) (fun _ h9 => h9) rfl dX12_row_34 ?_
          refine lv_iload_n hx hb dX12_row_37 rfl (lv_at hl 1 rfl) ?_
          refine va_zald hx hb hK.1 hP 1 2 rfl rfl (i := 0) (by unfold vp_in; decide) dX12_row_38 ?_
          refine lv_topv (v' := .int 0) rfl ?_
          refine lv_if_ne (tgt := 49) hx hb dX12_row_39 (by decide) (fun c_5 => ?_) (fun c_5 => ?_)
          · exact absurd c_5 (by decide)
          · have _ := c_5
            refine lv_aload_n hx hb dX12_row_42 rfl (lv_at hl 0 rfl) ?_
            refine lv_bipush (v := (-11)) hx hb dX12_row_43 (by decide) ?_
            have hPc := hP.sub (ws' := [(mo, .inr (12, [.int 0, .int 0, .long 0, .int 0, .int 0, .ref g5, .ref g6, .ref g7, .ref g8, .ref g9, .ref g10, .int 0, .ref g12, .ref g13, .ref g14, .ref g15, .ref g16, .ref g17, .ref g18, .ref g19, .ref g20, .int (-9), .ref g22, .ref g23, .ref g24, .int 0, .int 0, .int 0, .int 0, .ref g29, .ref g30, .ref g31, .ref g32, .ref g33]))]) [0] rfl
            have hDc := hD.sub (ws' := [(mo, .inr (12, [.int 0, .int 0, .long 0, .int 0, .int 0, .ref g5, .ref g6, .ref g7, .ref g8, .ref g9, .ref g10, .int 0, .ref g12, .ref g13, .ref g14, .ref g15, .ref g16, .ref g17, .ref g18, .ref g19, .ref g20, .int (-9), .ref g22, .ref g23, .ref g24, .int 0, .int 0, .int 0, .int 0, .ref g29, .ref g30, .ref g31, .ref g32, .ref g33]))]) [0] (by decide) rfl
            have hDw : va_D (fun _ => True) [(mo, .inr (12, [.int 0, .int 0, .long 0, .int 0, .int 0, .ref g5, .ref g6, .ref g7, .ref g8, .ref g9, .ref g10, .int 0, .ref g12, .ref g13, .ref g14, .ref g15, .ref g16, .ref g17, .ref g18, .ref g19, .ref g20, .int (-9), .ref g22, .ref g23, .ref g24, .int 0, .int 0, .int 0, .int 0, .ref g29, .ref g30, .ref g31, .ref g32, .ref g33]))] := hDc.weaken (fun _ _ _ _ => trivial)
            have hFc := va_free (wc := [(mo, .inr (12, [.int 0, .int 0, .long 0, .int 0, .int 0, .ref g5, .ref g6, .ref g7, .ref g8, .ref g9, .ref g10, .int 0, .ref g12, .ref g13, .ref g14, .ref g15, .ref g16, .ref g17, .ref g18, .ref g19, .ref g20, .int (-9), .ref g22, .ref g23, .ref g24, .int 0, .int 0, .int 0, .int 0, .ref g29, .ref g30, .ref g31, .ref g32, .ref g33]))]) hD hS hA [0] rfl
            refine va_calli (va_runV (As := [.int (-11)]) (rest := []) ⟨hx, hb, hml, hown, hts⟩ (c_X12_no l D cy H.size mo g5 g6 g7 g8 g9 g10 g12 g13 g14 g15 g16 g17 g18 g19 g20 g22 g23 g24 g29 g30 g31 g32 g33 ((-11) : Int32)) (cwV 1 hts gX12_row_X12_no rfl rfl rfl (by decide +kernel) ⟨Nat.le_of_ble_eq_true rfl, Nat.le_of_ble_eq_true rfl⟩) ⟨bl_, va_recv hK.1 hPc (ci := 12) (q0 := 0) rfl rfl, fun U hU hW => ⟨rfl, by rw [hU], by rw [hU]; exact hPc, kk_mv hW hK, hDw⟩⟩ rfl rfl hl.1 rfl (lv_room (Nat.le_of_ble_eq_true rfl)) dX12_row_45 ⟨Nat.le_of_ble_eq_true rfl, Nat.le_of_ble_eq_true rfl⟩) hS (fun q _ h => hFc q h) hFc (fun r_6 u t H locs ht hvm hw hB hz1 hk1 hS => ?_)
            obtain ⟨hP, hD⟩ := va_join (wr := [(g15, .inl (cy 2, 4, .inl (fun _ => 0)))]) (w1 := []) hP hD [0] [1] rfl rfl (by decide) (by decide) hk1 hFc pp_nil dd_nil
            have hP : va_P D vwCl [(g15, .inl (cy 2, 4, .inl (fun _ => 0)))] H := hP
            have hD : va_D A [(g15, .inl (cy 2, 4, .inl (fun _ => 0)))] := hD
            have e_ := hw.symm
            subst e_
            exact W.iret (v := ((-11) : Int32)) hx hb hr (fun t ht hW => ⟨⟨((-11) : Int32), (), rfl, by first | exact Or.inl (⟨by omega, rfl⟩) | exact Or.inr (⟨by omega, rfl⟩), trivial⟩, hS.F ht⟩) hS.2.2 dX12_row_48
        · refine lv_aload_n hx hb dX12_row_33 rfl (lv_at hl 0 rfl) ?_
          refine va_get (ci := 12) (v := .ref g15) (C := RX12) (T := TX12) (N := 34) hx hb hts (fun _ h => List.mem_cons_of_mem _ (List.mem_append_right _ h)) hown hK.1 hP 0 rfl rfl 15 (by decide) (hts (.fieldLink RX12 38 "CutAtlasModel" "hasMap" "[Z") (by decide +kernel)) (fun _ h9 => h9) rfl dX12_row_34 ?_
          refine lv_iload_n hx hb dX12_row_37 rfl (lv_at hl 1 rfl) ?_
          refine va_zald hx hb hK.1 hP 1 2 rfl rfl (i := 1) (by unfold vp_in; decide) dX12_row_38 ?_
          refine lv_topv (v' := .int 0) rfl ?_
          refine lv_if_ne (tgt := 49) hx hb dX12_row_39 (by decide) (fun c_7 => ?_) (fun c_7 => ?_)
          · exact absurd c_7 (by decide)
          · have _ := c_7
            refine lv_aload_n hx hb dX12_row_42 rfl (lv_at hl 0 rfl) ?_
            refine lv_bipush (v := (-11)) hx hb dX12_row_43 (by decide) ?_
            have hPc := hP.sub (ws' := [(mo, .inr (12, [.int 0, .int 0, .long 0, .int 0, .int 0, .ref g5, .ref g6, .ref g7, .ref g8, .ref g9, .ref g10, .int 0, .ref g12, .ref g13, .ref g14, .ref g15, .ref g16, .ref g17, .ref g18, .ref g19, .ref g20, .int (-9), .ref g22, .ref g23, .ref g24, .int 0, .int 0, .int 0, .int 0, .ref g29, .ref g30, .ref g31, .ref g32, .ref g33]))]) [0] rfl
            have hDc := hD.sub (ws' := [(mo, .inr (12, [.int 0, .int 0, .long 0, .int 0, .int 0, .ref g5, .ref g6, .ref g7, .ref g8, .ref g9, .ref g10, .int 0, .ref g12, .ref g13, .ref g14, .ref g15, .ref g16, .ref g17, .ref g18, .ref g19, .ref g20, .int (-9), .ref g22, .ref g23, .ref g24, .int 0, .int 0, .int 0, .int 0, .ref g29, .ref g30, .ref g31, .ref g32, .ref g33]))]) [0] (by decide) rfl
            have hDw : va_D (fun _ => True) [(mo, .inr (12, [.int 0, .int 0, .long 0, .int 0, .int 0, .ref g5, .ref g6, .ref g7, .ref g8, .ref g9, .ref g10, .int 0, .ref g12, .ref g13, .ref g14, .ref g15, .ref g16, .ref g17, .ref g18, .ref g19, .ref g20, .int (-9), .ref g22, .ref g23, .ref g24, .int 0, .int 0, .int 0, .int 0, .ref g29, .ref g30, .ref g31, .ref g32, .ref g33]))] := hDc.weaken (fun _ _ _ _ => trivial)
            have hFc := va_free (wc := [(mo, .inr (12, [.int 0, .int 0, .long 0, .int 0, .int 0, .ref g5, .ref g6, .ref g7, .ref g8, .ref g9, .ref g10, .int 0, .ref g12, .ref g13, .ref g14, .ref g15, .ref g16, .ref g17, .ref g18, .ref g19, .ref g20, .int (-9), .ref g22, .ref g23, .ref g24, .int 0, .int 0, .int 0, .int 0, .ref g29, .ref g30, .ref g31, .ref g32, .ref g33]))]) hD hS hA [0] rfl
            refine va_calli (va_runV (As := [.int (-11)]) (rest := []) ⟨hx, hb, hml, hown, hts⟩ (c_X12_no l D cy H.size mo g5 g6 g7 g8 g9 g10 g12 g13 g14 g15 g16 g17 g18 g19 g20 g22 g23 g24 g29 g30 g31 g32 g33 ((-11) : Int32)) (cwV 1 hts gX12_row_X12_no rfl rfl rfl (by decide +kernel) ⟨Nat.le_of_ble_eq_true rfl, Nat.le_of_ble_eq_true rfl⟩) ⟨bl_, va_recv hK.1 hPc (ci := 12) (q0 := 0) rfl rfl, fun U hU hW => ⟨rfl, by rw [hU], by rw [hU]; exact hPc, kk_mv hW hK, hDw⟩⟩ rfl rfl hl.1 rfl (lv_room (Nat.le_of_ble_eq_true rfl)) dX12_row_45 ⟨Nat.le_of_ble_eq_true rfl, Nat.le_of_ble_eq_true rfl⟩) hS (fun q _ h => hFc q h) hFc (fun r_8 u t H locs ht hvm hw hB hz1 hk1 hS => ?_)
            obtain ⟨hP, hD⟩ := va_join (wr := [(g15, .inl (cy 2, 4, .inl (fun _ => 0)))]) (w1 := []) hP hD [0] [1] rfl rfl (by decide) (by decide) hk1 hFc pp_nil dd_nil
            have hP : va_P D vwCl [(g15, .inl (cy 2, 4, .inl (fun _ => 0)))] H := hP
            have hD : va_D A [(g15, .inl (cy 2, 4, .inl (fun _ => 0)))] := hD
            have e_ := hw.symm
            subst e_
            exact W.iret (v := ((-11) : Int32)) hx hb hr (fun t ht hW => ⟨⟨((-11) : Int32), (), rfl, by first | exact Or.inl (⟨by omega, rfl⟩) | exact Or.inr (⟨by omega, rfl⟩), trivial⟩, hS.F ht⟩) hS.2.2 dX12_row_48
        · refine lv_aload_n hx hb dX12_row_33 rfl (lv_at hl 0 rfl) ?_
          refine va_get (ci := 12) (v := .ref g15) (C := RX12) (T := TX12) (N := 34) hx hb hts (fun _ h => List.mem_cons_of_mem _ (List.mem_append_right _ h)) hown hK.1 hP 0 rfl rfl 15 (by decide) (hts (.fieldLink RX12 38 "CutAtlasModel" "hasMap" "[Z") (by decide +kernel)) (fun _ h9 => h9) rfl dX12_row_34 ?_
          refine lv_iload_n hx hb dX12_row_37 rfl (lv_at hl 1 rfl) ?_
          refine va_zald hx hb hK.1 hP 1 2 rfl rfl (i := 2) (by unfold vp_in; decide) dX12_row_38 ?_
          refine lv_topv (v' := .int 0) rfl ?_
          refine lv_if_ne (tgt := 49) hx hb dX12_row_39 (by decide) (fun c_9 => ?_) (fun c_9 => ?_)
          · exact absurd c_9 (by decide)
          · have _ := c_9
            refine lv_aload_n hx hb dX12_row_42 rfl (lv_at hl 0 rfl) ?_
            refine lv_bipush (v := (-11)) hx hb dX12_row_43 (by decide) ?_
            have hPc := hP.sub (ws' := [(mo, .inr (12, [.int 0, .int 0, .long 0, .int 0, .int 0, .ref g5, .ref g6, .ref g7, .ref g8, .ref g9, .ref g10, .int 0, .ref g12, .ref g13, .ref g14, .ref g15, .ref g16, .ref g17, .ref g18, .ref g19, .ref g20, .int (-9), .ref g22, .ref g23, .ref g24, .int 0, .int 0, .int 0, .int 0, .ref g29, .ref g30, .ref g31, .ref g32, .ref g33]))]) [0] rfl
            have hDc := hD.sub (ws' := [(mo, .inr (12, [.int 0, .int 0, .long 0, .int 0, .int 0, .ref g5, .ref g6, .ref g7, .ref g8, .ref g9, .ref g10, .int 0, .ref g12, .ref g13, .ref g14, .ref g15, .ref g16, .ref g17, .ref g18, .ref g19, .ref g20, .int (-9), .ref g22, .ref g23, .ref g24, .int 0, .int 0, .int 0, .int 0, .ref g29, .ref g30, .ref g31, .ref g32, .ref g33]))]) [0] (by decide) rfl
            have hDw : va_D (fun _ => True) [(mo, .inr (12, [.int 0, .int 0, .long 0, .int 0, .int 0, .ref g5, .ref g6, .ref g7, .ref g8, .ref g9, .ref g10, .int 0, .ref g12, .ref g13, .ref g14, .ref g15, .ref g16, .ref g17, .ref g18, .ref g19, .ref g20, .int (-9), .ref g22, .ref g23, .ref g24, .int 0, .int 0, .int 0, .int 0, .ref g29, .ref g30, .ref g31, .ref g32, .ref g33]))] := hDc.weaken (fun _ _ _ _ => trivial)
            have hFc := va_free (wc := [(mo, .inr (12, [.int 0, .int 0, .long 0, .int 0, .int 0, .ref g5, .ref g6, .ref g7, .ref g8, .ref g9, .ref g10, .int 0, .ref g12, .ref g13, .ref g14, .ref g15, .ref g16, .ref g17, .ref g18, .ref g19, .ref g20, .int (-9), .ref g22, .ref g23, .ref g24, .int 0, .int 0, .int 0, .int 0, .ref g29, .ref g30, .ref g31, .ref g32, .ref g33]))]) hD hS hA [0] rfl
            refine va_calli (va_runV (As := [.int (-11)]) (rest := []) ⟨hx, hb, hml, hown, hts⟩ (c_X12_no l D cy H.size mo g5 g6 g7 g8 g9 g10 g12 g13 g14 g15 g16 g17 g18 g19 g20 g22 g23 g24 g29 g30 g31 g32 g33 ((-11) : Int32)) (cwV 1 hts gX12_row_X12_no rfl rfl rfl (by decide +kernel) ⟨Nat.le_of_ble_eq_true rfl, Nat.le_of_ble_eq_true rfl⟩) ⟨bl_, va_recv hK.1 hPc (ci := 12) (q0 := 0) rfl rfl, fun U hU hW => ⟨rfl, by rw [hU], by rw [hU]; exact hPc, kk_mv hW hK, hDw⟩⟩ rfl rfl hl.1 rfl (lv_room (Nat.le_of_ble_eq_true rfl)) dX12_row_45 ⟨Nat.le_of_ble_eq_true rfl, Nat.le_of_ble_eq_true rfl⟩) hS (fun q _ h => hFc q h) hFc (fun r_10 u t H locs ht hvm hw hB hz1 hk1 hS => ?_)
            obtain ⟨hP, hD⟩ := va_join (wr := [(g15, .inl (cy 2, 4, .inl (fun _ => 0)))]) (w1 := []) hP hD [0] [1] rfl rfl (by decide) (by decide) hk1 hFc pp_nil dd_nil
            have hP : va_P D vwCl [(g15, .inl (cy 2, 4, .inl (fun _ => 0)))] H := hP
            have hD : va_D A [(g15, .inl (cy 2, 4, .inl (fun _ => 0)))] := hD
            have e_ := hw.symm
            subst e_
            exact W.iret (v := ((-11) : Int32)) hx hb hr (fun t ht hW => ⟨⟨((-11) : Int32), (), rfl, by first | exact Or.inl (⟨by omega, rfl⟩) | exact Or.inr (⟨by omega, rfl⟩), trivial⟩, hS.F ht⟩) hS.2.2 dX12_row_48
        · refine lv_aload_n hx hb dX12_row_33 rfl (lv_at hl 0 rfl) ?_
          refine va_get (ci := 12) (v := .ref g15) (C := RX12) (T := TX12) (N := 34) hx hb hts (fun _ h => List.mem_cons_of_mem _ (List.mem_append_right _ h)) hown hK.1 hP 0 rfl rfl 15 (by decide) (hts (.fieldLink RX12 38 "CutAtlasModel" "hasMap" "[Z") (by decide +kernel)) (fun _ h9 => h9) rfl dX12_row_34 ?_
          refine lv_iload_n hx hb dX12_row_37 rfl (lv_at hl 1 rfl) ?_
          refine va_zald hx hb hK.1 hP 1 2 rfl rfl (i := 3) (by unfold vp_in; decide) dX12_row_38 ?_
          refine lv_topv (v' := .int 0) rfl ?_
          refine lv_if_ne (tgt := 49) hx hb dX12_row_39 (by decide) (fun c_11 => ?_) (fun c_11 => ?_)
          · exact absurd c_11 (by decide)
          · have _ := c_11
            refine lv_aload_n hx hb dX12_row_42 rfl (lv_at hl 0 rfl) ?_
            refine lv_bipush (v := (-11)) hx hb dX12_row_43 (by decide) ?_
            have hPc := hP.sub (ws' := [(mo, .inr (12, [.int 0, .int 0, .long 0, .int 0, .int 0, .ref g5, .ref g6, .ref g7, .ref g8, .ref g9, .ref g10, .int 0, .ref g12, .ref g13, .ref g14, .ref g15, .ref g16, .ref g17, .ref g18, .ref g19, .ref g20, .int (-9), .ref g22, .ref g23, .ref g24, .int 0, .int 0, .int 0, .int 0, .ref g29, .ref g30, .ref g31, .ref g32, .ref g33]))]) [0] rfl
            have hDc := hD.sub (ws' := [(mo, .inr (12, [.int 0, .int 0, .long 0, .int 0, .int 0, .ref g5, .ref g6, .ref g7, .ref g8, .ref g9, .ref g10, .int 0, .ref g12, .ref g13, .ref g14, .ref g15, .ref g16, .ref g17, .ref g18, .ref g19, .ref g20, .int (-9), .ref g22, .ref g23, .ref g24, .int 0, .int 0, .int 0, .int 0, .ref g29, .ref g30, .ref g31, .ref g32, .ref g33]))]) [0] (by decide) rfl
            have hDw : va_D (fun _ => True) [(mo, .inr (12, [.int 0, .int 0, .long 0, .int 0, .int 0, .ref g5, .ref g6, .ref g7, .ref g8, .ref g9, .ref g10, .int 0, .ref g12, .ref g13, .ref g14, .ref g15, .ref g16, .ref g17, .ref g18, .ref g19, .ref g20, .int (-9), .ref g22, .ref g23, .ref g24, .int 0, .int 0, .int 0, .int 0, .ref g29, .ref g30, .ref g31, .ref g32, .ref g33]))] := hDc.weaken (fun _ _ _ _ => trivial)
            have hFc := va_free (wc := [(mo, .inr (12, [.int 0, .int 0, .long 0, .int 0, .int 0, .ref g5, .ref g6, .ref g7, .ref g8, .ref g9, .ref g10, .int 0, .ref g12, .ref g13, .ref g14, .ref g15, .ref g16, .ref g17, .ref g18, .ref g19, .ref g20, .int (-9), .ref g22, .ref g23, .ref g24, .int 0, .int 0, .int 0, .int 0, .ref g29, .ref g30, .ref g31, .ref g32, .ref g33]))]) hD hS hA [0] rfl
            refine va_calli (va_runV (As := [.int (-11)]) (rest := []) ⟨hx, hb, hml, hown, hts⟩ (c_X12_no l D cy H.size mo g5 g6 g7 g8 g9 g10 g12 g13 g14 g15 g16 g17 g18 g19 g20 g22 g23 g24 g29 g30 g31 g32 g33 ((-11) : Int32)) (cwV 1 hts gX12_row_X12_no rfl rfl rfl (by decide +kernel) ⟨Nat.le_of_ble_eq_true rfl, Nat.le_of_ble_eq_true rfl⟩) ⟨bl_, va_recv hK.1 hPc (ci := 12) (q0 := 0) rfl rfl, fun U hU hW => ⟨rfl, by rw [hU], by rw [hU]; exact hPc, kk_mv hW hK, hDw⟩⟩ rfl rfl hl.1 rfl (lv_room (Nat.le_of_ble_eq_true rfl)) dX12_row_45 ⟨Nat.le_of_ble_eq_true rfl, Nat.le_of_ble_eq_true rfl⟩) hS (fun q _ h => hFc q h) hFc (fun r_12 u t H locs ht hvm hw hB hz1 hk1 hS => ?_)
            obtain ⟨hP, hD⟩ := va_join (wr := [(g15, .inl (cy 2, 4, .inl (fun _ => 0)))]) (w1 := []) hP hD [0] [1] rfl rfl (by decide) (by decide) hk1 hFc pp_nil dd_nil
            have hP : va_P D vwCl [(g15, .inl (cy 2, 4, .inl (fun _ => 0)))] H := hP
            have hD : va_D A [(g15, .inl (cy 2, 4, .inl (fun _ => 0)))] := hD
            have e_ := hw.symm
            subst e_
            exact W.iret (v := ((-11) : Int32)) hx hb hr (fun t ht hW => ⟨⟨((-11) : Int32), (), rfl, by first | exact Or.inl (⟨by omega, rfl⟩) | exact Or.inr (⟨by omega, rfl⟩), trivial⟩, hS.F ht⟩) hS.2.2 dX12_row_48
      · have t_4 : ¬ a3.toInt ≤ (5 : Int32).toInt := fun h => c_4 (Int32.le_iff_toInt_le.mpr h)
        refine lv_aload_n hx hb dX12_row_27 rfl (lv_at hl 0 rfl) ?_
        refine lv_iconst (v := (-1)) hx hb dX12_row_28 (by decide) ?_
        have hPc := hP.sub (ws' := [(mo, .inr (12, [.int 0, .int 0, .long 0, .int 0, .int 0, .ref g5, .ref g6, .ref g7, .ref g8, .ref g9, .ref g10, .int 0, .ref g12, .ref g13, .ref g14, .ref g15, .ref g16, .ref g17, .ref g18, .ref g19, .ref g20, .int (-9), .ref g22, .ref g23, .ref g24, .int 0, .int 0, .int 0, .int 0, .ref g29, .ref g30, .ref g31, .ref g32, .ref g33]))]) [0] rfl
        have hDc := hD.sub (ws' := [(mo, .inr (12, [.int 0, .int 0, .long 0, .int 0, .int 0, .ref g5, .ref g6, .ref g7, .ref g8, .ref g9, .ref g10, .int 0, .ref g12, .ref g13, .ref g14, .ref g15, .ref g16, .ref g17, .ref g18, .ref g19, .ref g20, .int (-9), .ref g22, .ref g23, .ref g24, .int 0, .int 0, .int 0, .int 0, .ref g29, .ref g30, .ref g31, .ref g32, .ref g33]))]) [0] (by decide) rfl
        have hDw : va_D (fun _ => True) [(mo, .inr (12, [.int 0, .int 0, .long 0, .int 0, .int 0, .ref g5, .ref g6, .ref g7, .ref g8, .ref g9, .ref g10, .int 0, .ref g12, .ref g13, .ref g14, .ref g15, .ref g16, .ref g17, .ref g18, .ref g19, .ref g20, .int (-9), .ref g22, .ref g23, .ref g24, .int 0, .int 0, .int 0, .int 0, .ref g29, .ref g30, .ref g31, .ref g32, .ref g33]))] := hDc.weaken (fun _ _ _ _ => trivial)
        have hFc := va_free (wc := [(mo, .inr (12, [.int 0, .int 0, .long 0, .int 0, .int 0, .ref g5, .ref g6, .ref g7, .ref g8, .ref g9, .ref g10, .int 0, .ref g12, .ref g13, .ref g14, .ref g15, .ref g16, .ref g17, .ref g18, .ref g19, .ref g20, .int (-9), .ref g22, .ref g23, .ref g24, .int 0, .int 0, .int 0, .int 0, .ref g29, .ref g30, .ref g31, .ref g32, .ref g33]))]) hD hS hA [0] rfl
        refine va_calli (va_runV (As := [.int (-1)]) (rest := []) ⟨hx, hb, hml, hown, hts⟩ (c_X12_no l D cy H.size mo g5 g6 g7 g8 g9 g10 g12 g13 g14 g15 g16 g17 g18 g19 g20 g22 g23 g24 g29 g30 g31 g32 g33 ((-1) : Int32)) (cwV 1 hts gX12_row_X12_no rfl rfl rfl (by decide +kernel) ⟨Nat.le_of_ble_eq_true rfl, Nat.le_of_ble_eq_true rfl⟩) ⟨bl_, va_recv hK.1 hPc (ci := 12) (q0 := 0) rfl rfl, fun U hU hW => ⟨rfl, by rw [hU], by rw [hU]; exact hPc, kk_mv hW hK, hDw⟩⟩ rfl rfl hl.1 rfl (lv_room (Nat.le_of_ble_eq_true rfl)) dX12_row_29 ⟨Nat.le_of_ble_eq_true rfl, Nat.le_of_ble_eq_true rfl⟩) hS (fun q _ h => hFc q h) hFc (fun r_13 u t H locs ht hvm hw hB hz1 hk1 hS => ?_)
        obtain ⟨hP, hD⟩ := va_join (wr := [(g15, .inl (cy 2, 4, .inl (fun _ => 0)))]) (w1 := []) hP hD [0] [1] rfl rfl (by decide) (by decide) hk1 hFc pp_nil dd_nil
        have hP : va_P D vwCl [(g15, .inl (cy 2, 4, .inl (fun _ => 0)))] H := hP
        have hD : va_D A [(g15, .inl (cy 2, 4, .inl (fun _ => 0)))] := hD
        have e_ := hw.symm
        subst e_
        exact W.iret (v := ((-1) : Int32)) hx hb hr (fun t ht hW => ⟨⟨((-1) : Int32), (), rfl, by first | exact Or.inl (⟨by omega, rfl⟩) | exact Or.inr (⟨by omega, rfl⟩), trivial⟩, hS.F ht⟩) hS.2.2 dX12_row_32
  · have e_ := e_.symm
    subst e_
    refine lv_if_eq (tgt := 27) hx hb dX12_row_19 (by decide) (fun c_14 => ?_) (fun c_14 => ?_)
    · have _ := c_14
      refine lv_aload_n hx hb dX12_row_27 rfl (lv_at hl 0 rfl) ?_
      refine lv_iconst (v := (-1)) hx hb dX12_row_28 (by decide) ?_
      have hPc := hP.sub (ws' := [(mo, .inr (12, [.int 0, .int 0, .long 0, .int 0, .int 0, .ref g5, .ref g6, .ref g7, .ref g8, .ref g9, .ref g10, .int 0, .ref g12, .ref g13, .ref g14, .ref g15, .ref g16, .ref g17, .ref g18, .ref g19, .ref g20, .int (-9), .ref g22, .ref g23, .ref g24, .int 0, .int 0, .int 0, .int 0, .ref g29, .ref g30, .ref g31, .ref g32, .ref g33]))]) [0] rfl
      have hDc := hD.sub (ws' := [(mo, .inr (12, [.int 0, .int 0, .long 0, .int 0, .int 0, .ref g5, .ref g6, .ref g7, .ref g8, .ref g9, .ref g10, .int 0, .ref g12, .ref g13, .ref g14, .ref g15, .ref g16, .ref g17, .ref g18, .ref g19, .ref g20, .int (-9), .ref g22, .ref g23, .ref g24, .int 0, .int 0, .int 0, .int 0, .ref g29, .ref g30, .ref g31, .ref g32, .ref g33]))]) [0] (by decide) rfl
      have hDw : va_D (fun _ => True) [(mo, .inr (12, [.int 0, .int 0, .long 0, .int 0, .int 0, .ref g5, .ref g6, .ref g7, .ref g8, .ref g9, .ref g10, .int 0, .ref g12, .ref g13, .ref g14, .ref g15, .ref g16, .ref g17, .ref g18, .ref g19, .ref g20, .int (-9), .ref g22, .ref g23, .ref g24, .int 0, .int 0, .int 0, .int 0, .ref g29, .ref g30, .ref g31, .ref g32, .ref g33]))] := hDc.weaken (fun _ _ _ _ => trivial)
      have hFc := va_free (wc := [(mo, .inr (12, [.int 0, .int 0, .long 0, .int 0, .int 0, .ref g5, .ref g6, .ref g7, .ref g8, .ref g9, .ref g10, .int 0, .ref g12, .ref g13, .ref g14, .ref g15, .ref g16, .ref g17, .ref g18, .ref g19, .ref g20, .int (-9), .ref g22, .ref g23, .ref g24, .int 0, .int 0, .int 0, .int 0, .ref g29, .ref g30, .ref g31, .ref g32, .ref g33]))]) hD hS hA [0] rfl
      refine va_calli (va_runV (As := [.int (-1)]) (rest := []) ⟨hx, hb, hml, hown, hts⟩ (c_X12_no l D cy H.size mo g5 g6 g7 g8 g9 g10 g12 g13 g14 g15 g16 g17 g18 g19 g20 g22 g23 g24 g29 g30 g31 g32 g33 ((-1) : Int32)) (cwV 1 hts gX12_row_X12_no rfl rfl rfl (by decide +kernel) ⟨Nat.le_of_ble_eq_true rfl, Nat.le_of_ble_eq_true rfl⟩) ⟨bl_, va_recv hK.1 hPc (ci := 12) (q0 := 0) rfl rfl, fun U hU hW => ⟨rfl, by rw [hU], by rw [hU]; exact hPc, kk_mv hW hK, hDw⟩⟩ rfl rfl hl.1 rfl (lv_room (Nat.le_of_ble_eq_true rfl)) dX12_row_29 ⟨Nat.le_of_ble_eq_true rfl, Nat.le_of_ble_eq_true rfl⟩) hS (fun q _ h => hFc q h) hFc (fun r_15 u t H locs ht hvm hw hB hz1 hk1 hS => ?_)
      obtain ⟨hP, hD⟩ := va_join (wr := [(g15, .inl (cy 2, 4, .inl (fun _ => 0)))]) (w1 := []) hP hD [0] [1] rfl rfl (by decide) (by decide) hk1 hFc pp_nil dd_nil
      have hP : va_P D vwCl [(g15, .inl (cy 2, 4, .inl (fun _ => 0)))] H := hP
      have hD : va_D A [(g15, .inl (cy 2, 4, .inl (fun _ => 0)))] := hD
      have e_ := hw.symm
      subst e_
      exact W.iret (v := ((-1) : Int32)) hx hb hr (fun t ht hW => ⟨⟨((-1) : Int32), (), rfl, by first | exact Or.inl (⟨by omega, rfl⟩) | exact Or.inr (⟨by omega, rfl⟩), trivial⟩, hS.F ht⟩) hS.2.2 dX12_row_32
    · exact absurd c_14 (by decide)

set_option maxHeartbeats 4000000 in
set_option maxRecDepth 100000 in
theorem c_X12_put (l : Launch) (D : va_G) (cy : Nat → ClassId) (sz : Nat) (mo : Nat) (g5 : Nat) (g6 : Nat) (g7 : Nat) (g8 : Nat) (g9 : Nat) (g10 : Nat) (g12 : Nat) (g13 : Nat) (g14 : Nat) (g15 : Nat) (g16 : Nat) (g17 : Nat) (g18 : Nat) (g19 : Nat) (g20 : Nat) (g22 : Nat) (g23 : Nat) (g24 : Nat) (g29 : Nat) (g30 : Nat) (g31 : Nat) (g32 : Nat) (g33 : Nat) (a1 : Int32) (a2 : Int32) (a3 : Int32) (a4 : Int32) (a5 : Int64) : Met l yX12_put wsX12_put ({ frames := 2, cells := 0, slots := 0, locals := 50 }) (va_Pc [.ref mo, .int a1, .int a2, .int a3, .int a4, .long a5] (fun U => U.heap.size = sz ∧ va_P D vwCl [(mo, .inr (12, [.int 0, .int 0, .long 0, .int 0, .int 0, .ref g5, .ref g6, .ref g7, .ref g8, .ref g9, .ref g10, .int 0, .ref g12, .ref g13, .ref g14, .ref g15, .ref g16, .ref g17, .ref g18, .ref g19, .ref g20, .int (-9), .ref g22, .ref g23, .ref g24, .int 0, .int 0, .int 0, .int 0, .ref g29, .ref g30, .ref g31, .ref g32, .ref g33])), (g15, .inl (cy 2, 4, .inl (fun _ => 0)))] U.heap ∧ kk_ D cy U ∧ va_D (fun _ => True) [(mo, .inr (12, [.int 0, .int 0, .long 0, .int 0, .int 0, .ref g5, .ref g6, .ref g7, .ref g8, .ref g9, .ref g10, .int 0, .ref g12, .ref g13, .ref g14, .ref g15, .ref g16, .ref g17, .ref g18, .ref g19, .ref g20, .int (-9), .ref g22, .ref g23, .ref g24, .int 0, .int 0, .int 0, .int 0, .ref g29, .ref g30, .ref g31, .ref g32, .ref g33])), (g15, .inl (cy 2, 4, .inl (fun _ => 0)))])) (va_Qi (fun (r : Int32) (_ : Unit) => ((¬ ((0 ≤ a1.toInt ∧ a1.toInt < 4) ∧ (0 ≤ a2.toInt ∧ a2.toInt < 3))) ∧ r = (-1)) ∨ (((0 ≤ a1.toInt ∧ a1.toInt < 4) ∧ (0 ≤ a2.toInt ∧ a2.toInt < 3)) ∧ r = (-11))) (fun (_ : Unit) (_ : State) => True) (va_A [(mo, .inr (12, [.int 0, .int 0, .long 0, .int 0, .int 0, .ref g5, .ref g6, .ref g7, .ref g8, .ref g9, .ref g10, .int 0, .ref g12, .ref g13, .ref g14, .ref g15, .ref g16, .ref g17, .ref g18, .ref g19, .ref g20, .int (-9), .ref g22, .ref g23, .ref g24, .int 0, .int 0, .int 0, .int 0, .ref g29, .ref g30, .ref g31, .ref g32, .ref g33])), (g15, .inl (cy 2, 4, .inl (fun _ => 0)))] sz)) 0 0 (va_A [(mo, .inr (12, [.int 0, .int 0, .long 0, .int 0, .int 0, .ref g5, .ref g6, .ref g7, .ref g8, .ref g9, .ref g10, .int 0, .ref g12, .ref g13, .ref g14, .ref g15, .ref g16, .ref g17, .ref g18, .ref g19, .ref g20, .int (-9), .ref g22, .ref g23, .ref g24, .int 0, .int 0, .int 0, .int 0, .ref g29, .ref g30, .ref g31, .ref g32, .ref g33])), (g15, .inl (cy 2, 4, .inl (fun _ => 0)))] sz) := by
  refine Met.ofW (cc := cX12_put) (maxL := 8) (ret := (some .int)) (by decide) rfl ?_
  intro p e s m args below meth c s₁ B hml hv
  obtain ⟨rfl, hsz, hP, hK, hD0⟩ := hv
  have hx := B.exec
  have hb := B.bytes
  have hr := B.returns
  have hts := atoms_spec (ws := wsX12_put) B.pre
  have hown : s.vm.findClass RX12 = some m.cls := findClass_of_methodNamed B.named
  have hlocks := B.notSynchronized
  subst hsz
  have hD := hD0.self (sz := s.heap.size)
  generalize hAe : va_A [(mo, .inr (12, [.int 0, .int 0, .long 0, .int 0, .int 0, .ref g5, .ref g6, .ref g7, .ref g8, .ref g9, .ref g10, .int 0, .ref g12, .ref g13, .ref g14, .ref g15, .ref g16, .ref g17, .ref g18, .ref g19, .ref g20, .int (-9), .ref g22, .ref g23, .ref g24, .int 0, .int 0, .int 0, .int 0, .ref g29, .ref g30, .ref g31, .ref g32, .ref g33])), (g15, .inl (cy 2, 4, .inl (fun _ => 0)))] s.heap.size = A at hD ⊢
  have hA : ∀ q : Nat, s.heap.size ≤ q → A q := fun q h => by rw [← hAe]; exact Or.inr h
  have hS : va_S A s.heap s.heap [] := va_S.rf
  have hl := lv_entry ([.ref mo, .int a1, .int a2, .int a3, .int a4, .long a5]) (n := 8) (Nat.le_of_ble_eq_true rfl)
  rw [lg_entry_eq]
  generalize (lg_sl ([.ref mo, .int a1, .int a2, .int a3, .int a4, .long a5]) ++ List.replicate (8 - (lg_sl ([.ref mo, .int a1, .int a2, .int a3, .int a4, .long a5])).length) Slot.unset).toArray = ls at hl ⊢
  have hl : lv_has ls 8 [(0, .ref mo), (1, .int a1), (2, .int a2), (3, .int a3), (4, .int a4), (5, .long a5)] := hl
  refine lv_aload_n hx hb dX12_put_0 rfl (lv_at hl 0 rfl) ?_
  refine lv_iconst (v := 0) hx hb dX12_put_1 (by decide) ?_
  refine va_put (ci := 12) (v := .int 0) (ty := .int) (C := RX12) (T := TX12) (N := 34) hx hb hts (fun _ h => List.mem_cons_of_mem _ (List.mem_append_right _ h)) tyX12 tyX12_ok nmX12 hown hK.1 hP hD hS 0 rfl rfl 0 (by decide) (hts (.fieldLink RX12 85 "CutAtlasModel" "thrown" "I") (by decide +kernel)) (fun _ h9 => h9) rfl (by decide +kernel) rfl rfl (Nat.le_of_ble_eq_true rfl) dX12_put_2 (fun H locs hP hD hS => ?_)
  have hP : va_P D vwCl [(mo, .inr (12, [.int 0, .int 0, .long 0, .int 0, .int 0, .ref g5, .ref g6, .ref g7, .ref g8, .ref g9, .ref g10, .int 0, .ref g12, .ref g13, .ref g14, .ref g15, .ref g16, .ref g17, .ref g18, .ref g19, .ref g20, .int (-9), .ref g22, .ref g23, .ref g24, .int 0, .int 0, .int 0, .int 0, .ref g29, .ref g30, .ref g31, .ref g32, .ref g33])), (g15, .inl (cy 2, 4, .inl (fun _ => 0)))] H := hP
  have hD : va_D A [(mo, .inr (12, [.int 0, .int 0, .long 0, .int 0, .int 0, .ref g5, .ref g6, .ref g7, .ref g8, .ref g9, .ref g10, .int 0, .ref g12, .ref g13, .ref g14, .ref g15, .ref g16, .ref g17, .ref g18, .ref g19, .ref g20, .int (-9), .ref g22, .ref g23, .ref g24, .int 0, .int 0, .int 0, .int 0, .ref g29, .ref g30, .ref g31, .ref g32, .ref g33])), (g15, .inl (cy 2, 4, .inl (fun _ => 0)))] := hD
  refine lv_aload_n hx hb dX12_put_5 rfl (lv_at hl 0 rfl) ?_
  refine lv_iconst (v := 0) hx hb dX12_put_6 (by decide) ?_
  refine va_put (ci := 12) (v := .int 0) (ty := .int) (C := RX12) (T := TX12) (N := 34) hx hb hts (fun _ h => List.mem_cons_of_mem _ (List.mem_append_right _ h)) tyX12 tyX12_ok nmX12 hown hK.1 hP hD hS 0 rfl rfl 1 (by decide) (hts (.fieldLink RX12 240 "CutAtlasModel" "status" "I") (by decide +kernel)) (fun _ h9 => h9) rfl (by decide +kernel) rfl rfl (Nat.le_of_ble_eq_true rfl) dX12_put_7 (fun H locs hP hD hS => ?_)
  have hP : va_P D vwCl [(mo, .inr (12, [.int 0, .int 0, .long 0, .int 0, .int 0, .ref g5, .ref g6, .ref g7, .ref g8, .ref g9, .ref g10, .int 0, .ref g12, .ref g13, .ref g14, .ref g15, .ref g16, .ref g17, .ref g18, .ref g19, .ref g20, .int (-9), .ref g22, .ref g23, .ref g24, .int 0, .int 0, .int 0, .int 0, .ref g29, .ref g30, .ref g31, .ref g32, .ref g33])), (g15, .inl (cy 2, 4, .inl (fun _ => 0)))] H := hP
  have hD : va_D A [(mo, .inr (12, [.int 0, .int 0, .long 0, .int 0, .int 0, .ref g5, .ref g6, .ref g7, .ref g8, .ref g9, .ref g10, .int 0, .ref g12, .ref g13, .ref g14, .ref g15, .ref g16, .ref g17, .ref g18, .ref g19, .ref g20, .int (-9), .ref g22, .ref g23, .ref g24, .int 0, .int 0, .int 0, .int 0, .ref g29, .ref g30, .ref g31, .ref g32, .ref g33])), (g15, .inl (cy 2, 4, .inl (fun _ => 0)))] := hD
  refine lv_aload_n hx hb dX12_put_10 rfl (lv_at hl 0 rfl) ?_
  refine lv_iload_n hx hb dX12_put_11 rfl (lv_at hl 1 rfl) ?_
  refine lv_iload_n hx hb dX12_put_12 rfl (lv_at hl 2 rfl) ?_
  refine lv_iload_n hx hb dX12_put_13 rfl (lv_at hl 3 rfl) ?_
  refine lv_iload hx hb dX12_put_14 (lv_at hl 4 rfl) ?_
  have hPc := hP.sub (ws' := [(mo, .inr (12, [.int 0, .int 0, .long 0, .int 0, .int 0, .ref g5, .ref g6, .ref g7, .ref g8, .ref g9, .ref g10, .int 0, .ref g12, .ref g13, .ref g14, .ref g15, .ref g16, .ref g17, .ref g18, .ref g19, .ref g20, .int (-9), .ref g22, .ref g23, .ref g24, .int 0, .int 0, .int 0, .int 0, .ref g29, .ref g30, .ref g31, .ref g32, .ref g33])), (g15, .inl (cy 2, 4, .inl (fun _ => 0)))]) [0, 1] rfl
  have hDc := hD.sub (ws' := [(mo, .inr (12, [.int 0, .int 0, .long 0, .int 0, .int 0, .ref g5, .ref g6, .ref g7, .ref g8, .ref g9, .ref g10, .int 0, .ref g12, .ref g13, .ref g14, .ref g15, .ref g16, .ref g17, .ref g18, .ref g19, .ref g20, .int (-9), .ref g22, .ref g23, .ref g24, .int 0, .int 0, .int 0, .int 0, .ref g29, .ref g30, .ref g31, .ref g32, .ref g33])), (g15, .inl (cy 2, 4, .inl (fun _ => 0)))]) [0, 1] (by decide) rfl
  have hDw : va_D (fun _ => True) [(mo, .inr (12, [.int 0, .int 0, .long 0, .int 0, .int 0, .ref g5, .ref g6, .ref g7, .ref g8, .ref g9, .ref g10, .int 0, .ref g12, .ref g13, .ref g14, .ref g15, .ref g16, .ref g17, .ref g18, .ref g19, .ref g20, .int (-9), .ref g22, .ref g23, .ref g24, .int 0, .int 0, .int 0, .int 0, .ref g29, .ref g30, .ref g31, .ref g32, .ref g33])), (g15, .inl (cy 2, 4, .inl (fun _ => 0)))] := hDc.weaken (fun _ _ _ _ => trivial)
  have hFc := va_free (wc := []) hD hS hA [] rfl
  refine va_calli (va_runV (As := [.int a1, .int a2, .int a3, .int a4]) (rest := []) ⟨hx, hb, hml, hown, hts⟩ (c_X12_wrong l D cy H.size mo g5 g6 g7 g8 g9 g10 g12 g13 g14 g15 g16 g17 g18 g19 g20 g22 g23 g24 g29 g30 g31 g32 g33 a1 a2 a3 a4) (cwV 4 hts gX12_put_X12_wrong rfl rfl rfl (by decide +kernel) ⟨Nat.le_of_ble_eq_true rfl, Nat.le_of_ble_eq_true rfl⟩) ⟨bl_, va_recv hK.1 hPc (ci := 12) (q0 := 0) rfl rfl, fun U hU hW => ⟨rfl, by rw [hU], by rw [hU]; exact hPc, kk_mv hW hK, hDw⟩⟩ rfl rfl hl.1 rfl (lv_room (Nat.le_of_ble_eq_true rfl)) dX12_put_16 ⟨Nat.le_of_ble_eq_true rfl, Nat.le_of_ble_eq_true rfl⟩) hS (fun q _ h => hFc q h) hFc (fun r_1 u t H locs ht hvm hw hB hz1 hk1 hS => ?_)
  have hP := ro_keep hP hk1
  have hP : va_P D vwCl [(mo, .inr (12, [.int 0, .int 0, .long 0, .int 0, .int 0, .ref g5, .ref g6, .ref g7, .ref g8, .ref g9, .ref g10, .int 0, .ref g12, .ref g13, .ref g14, .ref g15, .ref g16, .ref g17, .ref g18, .ref g19, .ref g20, .int (-9), .ref g22, .ref g23, .ref g24, .int 0, .int 0, .int 0, .int 0, .ref g29, .ref g30, .ref g31, .ref g32, .ref g33])), (g15, .inl (cy 2, 4, .inl (fun _ => 0)))] H := hP
  rcases hw with ⟨w_2, e_⟩ | ⟨w_2, e_⟩
  · have e_ := e_.symm
    subst e_
    refine lv_istore (lv' := [(7, .int (-1)), (0, .ref mo), (1, .int a1), (2, .int a2), (3, .int a3), (4, .int a4), (5, .long a5)]) hx hb dX12_put_19 hl (by decide) rfl (fun ls hl => ?_)
    refine lv_iload hx hb dX12_put_21 (lv_at hl 0 rfl) ?_
    refine lv_if_ge (tgt := 33) hx hb dX12_put_23 (by decide) (fun c_3 => ?_) (fun c_3 => ?_)
    · exact absurd c_3 (by decide)
    · have _ := c_3
      refine lv_aload_n hx hb dX12_put_26 rfl (lv_at hl 1 rfl) ?_
      refine lv_iload hx hb dX12_put_27 (lv_at hl 0 rfl) ?_
      have hPc := hP.sub (ws' := [(mo, .inr (12, [.int 0, .int 0, .long 0, .int 0, .int 0, .ref g5, .ref g6, .ref g7, .ref g8, .ref g9, .ref g10, .int 0, .ref g12, .ref g13, .ref g14, .ref g15, .ref g16, .ref g17, .ref g18, .ref g19, .ref g20, .int (-9), .ref g22, .ref g23, .ref g24, .int 0, .int 0, .int 0, .int 0, .ref g29, .ref g30, .ref g31, .ref g32, .ref g33]))]) [0] rfl
      have hDc := hD.sub (ws' := [(mo, .inr (12, [.int 0, .int 0, .long 0, .int 0, .int 0, .ref g5, .ref g6, .ref g7, .ref g8, .ref g9, .ref g10, .int 0, .ref g12, .ref g13, .ref g14, .ref g15, .ref g16, .ref g17, .ref g18, .ref g19, .ref g20, .int (-9), .ref g22, .ref g23, .ref g24, .int 0, .int 0, .int 0, .int 0, .ref g29, .ref g30, .ref g31, .ref g32, .ref g33]))]) [0] (by decide) rfl
      have hDw : va_D (fun _ => True) [(mo, .inr (12, [.int 0, .int 0, .long 0, .int 0, .int 0, .ref g5, .ref g6, .ref g7, .ref g8, .ref g9, .ref g10, .int 0, .ref g12, .ref g13, .ref g14, .ref g15, .ref g16, .ref g17, .ref g18, .ref g19, .ref g20, .int (-9), .ref g22, .ref g23, .ref g24, .int 0, .int 0, .int 0, .int 0, .ref g29, .ref g30, .ref g31, .ref g32, .ref g33]))] := hDc.weaken (fun _ _ _ _ => trivial)
      have hFc := va_free (wc := [(mo, .inr (12, [.int 0, .int 0, .long 0, .int 0, .int 0, .ref g5, .ref g6, .ref g7, .ref g8, .ref g9, .ref g10, .int 0, .ref g12, .ref g13, .ref g14, .ref g15, .ref g16, .ref g17, .ref g18, .ref g19, .ref g20, .int (-9), .ref g22, .ref g23, .ref g24, .int 0, .int 0, .int 0, .int 0, .ref g29, .ref g30, .ref g31, .ref g32, .ref g33]))]) hD hS hA [0] rfl
      refine va_calli (va_runV (As := [.int (-1)]) (rest := []) ⟨hx, hb, hml, hown, hts⟩ (c_X12_no l D cy H.size mo g5 g6 g7 g8 g9 g10 g12 g13 g14 g15 g16 g17 g18 g19 g20 g22 g23 g24 g29 g30 g31 g32 g33 ((-1) : Int32)) (cwV 1 hts gX12_put_X12_no rfl rfl rfl (by decide +kernel) ⟨Nat.le_of_ble_eq_true rfl, Nat.le_of_ble_eq_true rfl⟩) ⟨bl_, va_recv hK.1 hPc (ci := 12) (q0 := 0) rfl rfl, fun U hU hW => ⟨rfl, by rw [hU], by rw [hU]; exact hPc, kk_mv hW hK, hDw⟩⟩ rfl rfl hl.1 rfl (lv_room (Nat.le_of_ble_eq_true rfl)) dX12_put_29 ⟨Nat.le_of_ble_eq_true rfl, Nat.le_of_ble_eq_true rfl⟩) hS (fun q _ h => hFc q h) hFc (fun r_4 u t H locs ht hvm hw hB hz1 hk1 hS => ?_)
      obtain ⟨hP, hD⟩ := va_join (wr := [(g15, .inl (cy 2, 4, .inl (fun _ => 0)))]) (w1 := []) hP hD [0] [1] rfl rfl (by decide) (by decide) hk1 hFc pp_nil dd_nil
      have hP : va_P D vwCl [(g15, .inl (cy 2, 4, .inl (fun _ => 0)))] H := hP
      have hD : va_D A [(g15, .inl (cy 2, 4, .inl (fun _ => 0)))] := hD
      have e_ := hw.symm
      subst e_
      exact W.iret (v := ((-1) : Int32)) hx hb hr (fun t ht hW => ⟨⟨((-1) : Int32), (), rfl, by first | exact Or.inl (⟨by omega, rfl⟩) | exact Or.inr (⟨by omega, rfl⟩), trivial⟩, hS.F ht⟩) hS.2.2 dX12_put_32
  · have e_ := e_.symm
    subst e_
    refine lv_istore (lv' := [(7, .int (-11)), (0, .ref mo), (1, .int a1), (2, .int a2), (3, .int a3), (4, .int a4), (5, .long a5)]) hx hb dX12_put_19 hl (by decide) rfl (fun ls hl => ?_)
    refine lv_iload hx hb dX12_put_21 (lv_at hl 0 rfl) ?_
    refine lv_if_ge (tgt := 33) hx hb dX12_put_23 (by decide) (fun c_5 => ?_) (fun c_5 => ?_)
    · exact absurd c_5 (by decide)
    · have _ := c_5
      refine lv_aload_n hx hb dX12_put_26 rfl (lv_at hl 1 rfl) ?_
      refine lv_iload hx hb dX12_put_27 (lv_at hl 0 rfl) ?_
      have hPc := hP.sub (ws' := [(mo, .inr (12, [.int 0, .int 0, .long 0, .int 0, .int 0, .ref g5, .ref g6, .ref g7, .ref g8, .ref g9, .ref g10, .int 0, .ref g12, .ref g13, .ref g14, .ref g15, .ref g16, .ref g17, .ref g18, .ref g19, .ref g20, .int (-9), .ref g22, .ref g23, .ref g24, .int 0, .int 0, .int 0, .int 0, .ref g29, .ref g30, .ref g31, .ref g32, .ref g33]))]) [0] rfl
      have hDc := hD.sub (ws' := [(mo, .inr (12, [.int 0, .int 0, .long 0, .int 0, .int 0, .ref g5, .ref g6, .ref g7, .ref g8, .ref g9, .ref g10, .int 0, .ref g12, .ref g13, .ref g14, .ref g15, .ref g16, .ref g17, .ref g18, .ref g19, .ref g20, .int (-9), .ref g22, .ref g23, .ref g24, .int 0, .int 0, .int 0, .int 0, .ref g29, .ref g30, .ref g31, .ref g32, .ref g33]))]) [0] (by decide) rfl
      have hDw : va_D (fun _ => True) [(mo, .inr (12, [.int 0, .int 0, .long 0, .int 0, .int 0, .ref g5, .ref g6, .ref g7, .ref g8, .ref g9, .ref g10, .int 0, .ref g12, .ref g13, .ref g14, .ref g15, .ref g16, .ref g17, .ref g18, .ref g19, .ref g20, .int (-9), .ref g22, .ref g23, .ref g24, .int 0, .int 0, .int 0, .int 0, .ref g29, .ref g30, .ref g31, .ref g32, .ref g33]))] := hDc.weaken (fun _ _ _ _ => trivial)
      have hFc := va_free (wc := [(mo, .inr (12, [.int 0, .int 0, .long 0, .int 0, .int 0, .ref g5, .ref g6, .ref g7, .ref g8, .ref g9, .ref g10, .int 0, .ref g12, .ref g13, .ref g14, .ref g15, .ref g16, .ref g17, .ref g18, .ref g19, .ref g20, .int (-9), .ref g22, .ref g23, .ref g24, .int 0, .int 0, .int 0, .int 0, .ref g29, .ref g30, .ref g31, .ref g32, .ref g33]))]) hD hS hA [0] rfl
      refine va_calli (va_runV (As := [.int (-11)]) (rest := []) ⟨hx, hb, hml, hown, hts⟩ (c_X12_no l D cy H.size mo g5 g6 g7 g8 g9 g10 g12 g13 g14 g15 g16 g17 g18 g19 g20 g22 g23 g24 g29 g30 g31 g32 g33 ((-11) : Int32)) (cwV 1 hts gX12_put_X12_no rfl rfl rfl (by decide +kernel) ⟨Nat.le_of_ble_eq_true rfl, Nat.le_of_ble_eq_true rfl⟩) ⟨bl_, va_recv hK.1 hPc (ci := 12) (q0 := 0) rfl rfl, fun U hU hW => ⟨rfl, by rw [hU], by rw [hU]; exact hPc, kk_mv hW hK, hDw⟩⟩ rfl rfl hl.1 rfl (lv_room (Nat.le_of_ble_eq_true rfl)) dX12_put_29 ⟨Nat.le_of_ble_eq_true rfl, Nat.le_of_ble_eq_true rfl⟩) hS (fun q _ h => hFc q h) hFc (fun r_6 u t H locs ht hvm hw hB hz1 hk1 hS => ?_)
      obtain ⟨hP, hD⟩ := va_join (wr := [(g15, .inl (cy 2, 4, .inl (fun _ => 0)))]) (w1 := []) hP hD [0] [1] rfl rfl (by decide) (by decide) hk1 hFc pp_nil dd_nil
      have hP : va_P D vwCl [(g15, .inl (cy 2, 4, .inl (fun _ => 0)))] H := hP
      have hD : va_D A [(g15, .inl (cy 2, 4, .inl (fun _ => 0)))] := hD
      have e_ := hw.symm
      subst e_
      exact W.iret (v := ((-11) : Int32)) hx hb hr (fun t ht hW => ⟨⟨((-11) : Int32), (), rfl, by first | exact Or.inl (⟨by omega, rfl⟩) | exact Or.inr (⟨by omega, rfl⟩), trivial⟩, hS.F ht⟩) hS.2.2 dX12_put_32

set_option maxHeartbeats 4000000 in
set_option maxRecDepth 100000 in
theorem c_X12_item (l : Launch) (D : va_G) (cy : Nat → ClassId) (sz : Nat) (mo : Nat) (g5 : Nat) (g6 : Nat) (g7 : Nat) (g8 : Nat) (g9 : Nat) (g10 : Nat) (g12 : Nat) (g13 : Nat) (g14 : Nat) (g15 : Nat) (g16 : Nat) (g17 : Nat) (g18 : Nat) (g19 : Nat) (g20 : Nat) (g22 : Nat) (g23 : Nat) (g24 : Nat) (g29 : Nat) (g30 : Nat) (g31 : Nat) (g32 : Nat) (g33 : Nat) (a1 : Int32) (a2 : Int32) (a3 : Int32) (a4 : Int32) : Met l yX12_item wsX12_item ({ frames := 2, cells := 0, slots := 0, locals := 50 }) (va_Pc [.ref mo, .int a1, .int a2, .int a3, .int a4] (fun U => U.heap.size = sz ∧ va_P D vwCl [(mo, .inr (12, [.int 0, .int 0, .long 0, .int 0, .int 0, .ref g5, .ref g6, .ref g7, .ref g8, .ref g9, .ref g10, .int 0, .ref g12, .ref g13, .ref g14, .ref g15, .ref g16, .ref g17, .ref g18, .ref g19, .ref g20, .int (-9), .ref g22, .ref g23, .ref g24, .int 0, .int 0, .int 0, .int 0, .ref g29, .ref g30, .ref g31, .ref g32, .ref g33])), (g15, .inl (cy 2, 4, .inl (fun _ => 0)))] U.heap ∧ kk_ D cy U ∧ va_D (fun _ => True) [(mo, .inr (12, [.int 0, .int 0, .long 0, .int 0, .int 0, .ref g5, .ref g6, .ref g7, .ref g8, .ref g9, .ref g10, .int 0, .ref g12, .ref g13, .ref g14, .ref g15, .ref g16, .ref g17, .ref g18, .ref g19, .ref g20, .int (-9), .ref g22, .ref g23, .ref g24, .int 0, .int 0, .int 0, .int 0, .ref g29, .ref g30, .ref g31, .ref g32, .ref g33])), (g15, .inl (cy 2, 4, .inl (fun _ => 0)))])) (va_Ql (fun (r : Int64) (_ : Unit) => r = 0) (fun (_ : Unit) (_ : State) => True) (va_A [(mo, .inr (12, [.int 0, .int 0, .long 0, .int 0, .int 0, .ref g5, .ref g6, .ref g7, .ref g8, .ref g9, .ref g10, .int 0, .ref g12, .ref g13, .ref g14, .ref g15, .ref g16, .ref g17, .ref g18, .ref g19, .ref g20, .int (-9), .ref g22, .ref g23, .ref g24, .int 0, .int 0, .int 0, .int 0, .ref g29, .ref g30, .ref g31, .ref g32, .ref g33])), (g15, .inl (cy 2, 4, .inl (fun _ => 0)))] sz)) 0 0 (va_A [(mo, .inr (12, [.int 0, .int 0, .long 0, .int 0, .int 0, .ref g5, .ref g6, .ref g7, .ref g8, .ref g9, .ref g10, .int 0, .ref g12, .ref g13, .ref g14, .ref g15, .ref g16, .ref g17, .ref g18, .ref g19, .ref g20, .int (-9), .ref g22, .ref g23, .ref g24, .int 0, .int 0, .int 0, .int 0, .ref g29, .ref g30, .ref g31, .ref g32, .ref g33])), (g15, .inl (cy 2, 4, .inl (fun _ => 0)))] sz) := by
  refine Met.ofW (cc := cX12_item) (maxL := 5) (ret := (some .long)) (by decide) rfl ?_
  intro p e s m args below meth c s₁ B hml hv
  obtain ⟨rfl, hsz, hP, hK, hD0⟩ := hv
  have hx := B.exec
  have hb := B.bytes
  have hr := B.returns
  have hts := atoms_spec (ws := wsX12_item) B.pre
  have hown : s.vm.findClass RX12 = some m.cls := findClass_of_methodNamed B.named
  have hlocks := B.notSynchronized
  subst hsz
  have hD := hD0.self (sz := s.heap.size)
  generalize hAe : va_A [(mo, .inr (12, [.int 0, .int 0, .long 0, .int 0, .int 0, .ref g5, .ref g6, .ref g7, .ref g8, .ref g9, .ref g10, .int 0, .ref g12, .ref g13, .ref g14, .ref g15, .ref g16, .ref g17, .ref g18, .ref g19, .ref g20, .int (-9), .ref g22, .ref g23, .ref g24, .int 0, .int 0, .int 0, .int 0, .ref g29, .ref g30, .ref g31, .ref g32, .ref g33])), (g15, .inl (cy 2, 4, .inl (fun _ => 0)))] s.heap.size = A at hD ⊢
  have hA : ∀ q : Nat, s.heap.size ≤ q → A q := fun q h => by rw [← hAe]; exact Or.inr h
  have hS : va_S A s.heap s.heap [] := va_S.rf
  have hl := lv_entry ([.ref mo, .int a1, .int a2, .int a3, .int a4]) (n := 5) (Nat.le_of_ble_eq_true rfl)
  rw [lg_entry_eq]
  generalize (lg_sl ([.ref mo, .int a1, .int a2, .int a3, .int a4]) ++ List.replicate (5 - (lg_sl ([.ref mo, .int a1, .int a2, .int a3, .int a4])).length) Slot.unset).toArray = ls at hl ⊢
  have hl : lv_has ls 5 [(0, .ref mo), (1, .int a1), (2, .int a2), (3, .int a3), (4, .int a4)] := hl
  refine lv_aload_n hx hb dX12_item_0 rfl (lv_at hl 0 rfl) ?_
  refine lv_iconst (v := 0) hx hb dX12_item_1 (by decide) ?_
  refine va_put (ci := 12) (v := .int 0) (ty := .int) (C := RX12) (T := TX12) (N := 34) hx hb hts (fun _ h => List.mem_cons_of_mem _ (List.mem_append_right _ h)) tyX12 tyX12_ok nmX12 hown hK.1 hP hD hS 0 rfl rfl 0 (by decide) (hts (.fieldLink RX12 85 "CutAtlasModel" "thrown" "I") (by decide +kernel)) (fun _ h9 => h9) rfl (by decide +kernel) rfl rfl (Nat.le_of_ble_eq_true rfl) dX12_item_2 (fun H locs hP hD hS => ?_)
  have hP : va_P D vwCl [(mo, .inr (12, [.int 0, .int 0, .long 0, .int 0, .int 0, .ref g5, .ref g6, .ref g7, .ref g8, .ref g9, .ref g10, .int 0, .ref g12, .ref g13, .ref g14, .ref g15, .ref g16, .ref g17, .ref g18, .ref g19, .ref g20, .int (-9), .ref g22, .ref g23, .ref g24, .int 0, .int 0, .int 0, .int 0, .ref g29, .ref g30, .ref g31, .ref g32, .ref g33])), (g15, .inl (cy 2, 4, .inl (fun _ => 0)))] H := hP
  have hD : va_D A [(mo, .inr (12, [.int 0, .int 0, .long 0, .int 0, .int 0, .ref g5, .ref g6, .ref g7, .ref g8, .ref g9, .ref g10, .int 0, .ref g12, .ref g13, .ref g14, .ref g15, .ref g16, .ref g17, .ref g18, .ref g19, .ref g20, .int (-9), .ref g22, .ref g23, .ref g24, .int 0, .int 0, .int 0, .int 0, .ref g29, .ref g30, .ref g31, .ref g32, .ref g33])), (g15, .inl (cy 2, 4, .inl (fun _ => 0)))] := hD
  refine lv_aload_n hx hb dX12_item_5 rfl (lv_at hl 0 rfl) ?_
  refine lv_aload_n hx hb dX12_item_6 rfl (lv_at hl 0 rfl) ?_
  refine lv_iload_n hx hb dX12_item_7 rfl (lv_at hl 1 rfl) ?_
  refine lv_iload_n hx hb dX12_item_8 rfl (lv_at hl 2 rfl) ?_
  refine lv_iload_n hx hb dX12_item_9 rfl (lv_at hl 3 rfl) ?_
  refine lv_iload hx hb dX12_item_10 (lv_at hl 4 rfl) ?_
  have hPc := hP.sub (ws' := [(mo, .inr (12, [.int 0, .int 0, .long 0, .int 0, .int 0, .ref g5, .ref g6, .ref g7, .ref g8, .ref g9, .ref g10, .int 0, .ref g12, .ref g13, .ref g14, .ref g15, .ref g16, .ref g17, .ref g18, .ref g19, .ref g20, .int (-9), .ref g22, .ref g23, .ref g24, .int 0, .int 0, .int 0, .int 0, .ref g29, .ref g30, .ref g31, .ref g32, .ref g33])), (g15, .inl (cy 2, 4, .inl (fun _ => 0)))]) [0, 1] rfl
  have hDc := hD.sub (ws' := [(mo, .inr (12, [.int 0, .int 0, .long 0, .int 0, .int 0, .ref g5, .ref g6, .ref g7, .ref g8, .ref g9, .ref g10, .int 0, .ref g12, .ref g13, .ref g14, .ref g15, .ref g16, .ref g17, .ref g18, .ref g19, .ref g20, .int (-9), .ref g22, .ref g23, .ref g24, .int 0, .int 0, .int 0, .int 0, .ref g29, .ref g30, .ref g31, .ref g32, .ref g33])), (g15, .inl (cy 2, 4, .inl (fun _ => 0)))]) [0, 1] (by decide) rfl
  have hDw : va_D (fun _ => True) [(mo, .inr (12, [.int 0, .int 0, .long 0, .int 0, .int 0, .ref g5, .ref g6, .ref g7, .ref g8, .ref g9, .ref g10, .int 0, .ref g12, .ref g13, .ref g14, .ref g15, .ref g16, .ref g17, .ref g18, .ref g19, .ref g20, .int (-9), .ref g22, .ref g23, .ref g24, .int 0, .int 0, .int 0, .int 0, .ref g29, .ref g30, .ref g31, .ref g32, .ref g33])), (g15, .inl (cy 2, 4, .inl (fun _ => 0)))] := hDc.weaken (fun _ _ _ _ => trivial)
  have hFc := va_free (wc := []) hD hS hA [] rfl
  refine va_calli (va_runV (As := [.int a1, .int a2, .int a3, .int a4]) (rest := [.ref mo]) ⟨hx, hb, hml, hown, hts⟩ (c_X12_wrong l D cy H.size mo g5 g6 g7 g8 g9 g10 g12 g13 g14 g15 g16 g17 g18 g19 g20 g22 g23 g24 g29 g30 g31 g32 g33 a1 a2 a3 a4) (cwV 4 hts gX12_item_X12_wrong rfl rfl rfl (by decide +kernel) ⟨Nat.le_of_ble_eq_true rfl, Nat.le_of_ble_eq_true rfl⟩) ⟨bl_, va_recv hK.1 hPc (ci := 12) (q0 := 0) rfl rfl, fun U hU hW => ⟨rfl, by rw [hU], by rw [hU]; exact hPc, kk_mv hW hK, hDw⟩⟩ rfl rfl hl.1 rfl (lv_room (Nat.le_of_ble_eq_true rfl)) dX12_item_12 ⟨Nat.le_of_ble_eq_true rfl, Nat.le_of_ble_eq_true rfl⟩) hS (fun q _ h => hFc q h) hFc (fun r_1 u t H locs ht hvm hw hB hz1 hk1 hS => ?_)
  have hP := ro_keep hP hk1
  have hP : va_P D vwCl [(mo, .inr (12, [.int 0, .int 0, .long 0, .int 0, .int 0, .ref g5, .ref g6, .ref g7, .ref g8, .ref g9, .ref g10, .int 0, .ref g12, .ref g13, .ref g14, .ref g15, .ref g16, .ref g17, .ref g18, .ref g19, .ref g20, .int (-9), .ref g22, .ref g23, .ref g24, .int 0, .int 0, .int 0, .int 0, .ref g29, .ref g30, .ref g31, .ref g32, .ref g33])), (g15, .inl (cy 2, 4, .inl (fun _ => 0)))] H := hP
  rcases hw with ⟨w_2, e_⟩ | ⟨w_2, e_⟩
  · have e_ := e_.symm
    subst e_
    refine va_put (ci := 12) (v := .int (-1)) (ty := .int) (C := RX12) (T := TX12) (N := 34) hx hb hts (fun _ h => List.mem_cons_of_mem _ (List.mem_append_right _ h)) tyX12 tyX12_ok nmX12 hown hK.1 hP hD hS 0 rfl rfl 1 (by decide) (hts (.fieldLink RX12 240 "CutAtlasModel" "status" "I") (by decide +kernel)) (fun _ h9 => h9) rfl (by decide +kernel) rfl rfl (Nat.le_of_ble_eq_true rfl) dX12_item_15 (fun H locs hP hD hS => ?_)
    have hP : va_P D vwCl [(mo, .inr (12, [.int 0, .int (-1), .long 0, .int 0, .int 0, .ref g5, .ref g6, .ref g7, .ref g8, .ref g9, .ref g10, .int 0, .ref g12, .ref g13, .ref g14, .ref g15, .ref g16, .ref g17, .ref g18, .ref g19, .ref g20, .int (-9), .ref g22, .ref g23, .ref g24, .int 0, .int 0, .int 0, .int 0, .ref g29, .ref g30, .ref g31, .ref g32, .ref g33])), (g15, .inl (cy 2, 4, .inl (fun _ => 0)))] H := hP
    have hD : va_D A [(mo, .inr (12, [.int 0, .int (-1), .long 0, .int 0, .int 0, .ref g5, .ref g6, .ref g7, .ref g8, .ref g9, .ref g10, .int 0, .ref g12, .ref g13, .ref g14, .ref g15, .ref g16, .ref g17, .ref g18, .ref g19, .ref g20, .int (-9), .ref g22, .ref g23, .ref g24, .int 0, .int 0, .int 0, .int 0, .ref g29, .ref g30, .ref g31, .ref g32, .ref g33])), (g15, .inl (cy 2, 4, .inl (fun _ => 0)))] := hD
    refine lv_aload_n hx hb dX12_item_18 rfl (lv_at hl 0 rfl) ?_
    refine va_get (ci := 12) (v := .int (-1)) (C := RX12) (T := TX12) (N := 34) hx hb hts (fun _ h => List.mem_cons_of_mem _ (List.mem_append_right _ h)) hown hK.1 hP 0 rfl rfl 1 (by decide) (hts (.fieldLink RX12 240 "CutAtlasModel" "status" "I") (by decide +kernel)) (fun _ h9 => h9) rfl dX12_item_19 ?_
    refine lv_if_ge (tgt := 29) hx hb dX12_item_22 (by decide) (fun c_3 => ?_) (fun c_3 => ?_)
    · exact absurd c_3 (by decide)
    · have _ := c_3
      refine lv_lconst (v := 0) hx hb dX12_item_25 (by decide) ?_
      refine lv_goto (tgt := 45) hx hb dX12_item_26 (by decide) ?_
      exact W.lret (v := 0) hx hb hr (fun t ht hW => ⟨⟨0, (), rfl, rfl, trivial⟩, hS.F ht⟩) hS.2.2 dX12_item_45
  · have e_ := e_.symm
    subst e_
    refine va_put (ci := 12) (v := .int (-11)) (ty := .int) (C := RX12) (T := TX12) (N := 34) hx hb hts (fun _ h => List.mem_cons_of_mem _ (List.mem_append_right _ h)) tyX12 tyX12_ok nmX12 hown hK.1 hP hD hS 0 rfl rfl 1 (by decide) (hts (.fieldLink RX12 240 "CutAtlasModel" "status" "I") (by decide +kernel)) (fun _ h9 => h9) rfl (by decide +kernel) rfl rfl (Nat.le_of_ble_eq_true rfl) dX12_item_15 (fun H locs hP hD hS => ?_)
    have hP : va_P D vwCl [(mo, .inr (12, [.int 0, .int (-11), .long 0, .int 0, .int 0, .ref g5, .ref g6, .ref g7, .ref g8, .ref g9, .ref g10, .int 0, .ref g12, .ref g13, .ref g14, .ref g15, .ref g16, .ref g17, .ref g18, .ref g19, .ref g20, .int (-9), .ref g22, .ref g23, .ref g24, .int 0, .int 0, .int 0, .int 0, .ref g29, .ref g30, .ref g31, .ref g32, .ref g33])), (g15, .inl (cy 2, 4, .inl (fun _ => 0)))] H := hP
    have hD : va_D A [(mo, .inr (12, [.int 0, .int (-11), .long 0, .int 0, .int 0, .ref g5, .ref g6, .ref g7, .ref g8, .ref g9, .ref g10, .int 0, .ref g12, .ref g13, .ref g14, .ref g15, .ref g16, .ref g17, .ref g18, .ref g19, .ref g20, .int (-9), .ref g22, .ref g23, .ref g24, .int 0, .int 0, .int 0, .int 0, .ref g29, .ref g30, .ref g31, .ref g32, .ref g33])), (g15, .inl (cy 2, 4, .inl (fun _ => 0)))] := hD
    refine lv_aload_n hx hb dX12_item_18 rfl (lv_at hl 0 rfl) ?_
    refine va_get (ci := 12) (v := .int (-11)) (C := RX12) (T := TX12) (N := 34) hx hb hts (fun _ h => List.mem_cons_of_mem _ (List.mem_append_right _ h)) hown hK.1 hP 0 rfl rfl 1 (by decide) (hts (.fieldLink RX12 240 "CutAtlasModel" "status" "I") (by decide +kernel)) (fun _ h9 => h9) rfl dX12_item_19 ?_
    refine lv_if_ge (tgt := 29) hx hb dX12_item_22 (by decide) (fun c_4 => ?_) (fun c_4 => ?_)
    · exact absurd c_4 (by decide)
    · have _ := c_4
      refine lv_lconst (v := 0) hx hb dX12_item_25 (by decide) ?_
      refine lv_goto (tgt := 45) hx hb dX12_item_26 (by decide) ?_
      exact W.lret (v := 0) hx hb hr (fun t ht hW => ⟨⟨0, (), rfl, rfl, trivial⟩, hS.F ht⟩) hS.2.2 dX12_item_45

set_option maxHeartbeats 4000000 in
set_option maxRecDepth 100000 in
theorem c_X12_copy (l : Launch) (D : va_G) (cy : Nat → ClassId) (sz : Nat) (mo : Nat) (g5 : Nat) (g6 : Nat) (g7 : Nat) (g8 : Nat) (g9 : Nat) (g10 : Nat) (g12 : Nat) (g13 : Nat) (g14 : Nat) (g15 : Nat) (g16 : Nat) (g17 : Nat) (g18 : Nat) (g19 : Nat) (g20 : Nat) (g22 : Nat) (g23 : Nat) (g24 : Nat) (g29 : Nat) (g30 : Nat) (g31 : Nat) (g32 : Nat) (g33 : Nat) (a1 : Int32) (a2 : Int32) (a3 : Int32) (a4 : Int32) (a5 : Int32) (a6 : Int32) : Met l yX12_copy wsX12_copy ({ frames := 1, cells := 0, slots := 0, locals := 25 }) (va_Pc [.ref mo, .int a1, .int a2, .int a3, .int a4, .int a5, .int a6] (fun U => U.heap.size = sz ∧ va_P D vwCl [(mo, .inr (12, [.int 0, .int 0, .long 0, .int 0, .int 0, .ref g5, .ref g6, .ref g7, .ref g8, .ref g9, .ref g10, .int 0, .ref g12, .ref g13, .ref g14, .ref g15, .ref g16, .ref g17, .ref g18, .ref g19, .ref g20, .int (-9), .ref g22, .ref g23, .ref g24, .int 0, .int 0, .int 0, .int 0, .ref g29, .ref g30, .ref g31, .ref g32, .ref g33])), (g15, .inl (cy 2, 4, .inl (fun _ => 0)))] U.heap ∧ kk_ D cy U ∧ va_D (fun _ => True) [(mo, .inr (12, [.int 0, .int 0, .long 0, .int 0, .int 0, .ref g5, .ref g6, .ref g7, .ref g8, .ref g9, .ref g10, .int 0, .ref g12, .ref g13, .ref g14, .ref g15, .ref g16, .ref g17, .ref g18, .ref g19, .ref g20, .int (-9), .ref g22, .ref g23, .ref g24, .int 0, .int 0, .int 0, .int 0, .ref g29, .ref g30, .ref g31, .ref g32, .ref g33])), (g15, .inl (cy 2, 4, .inl (fun _ => 0)))])) (va_Qi (fun (r : Int32) (_ : Unit) => ((¬ (0 ≤ a1.toInt ∧ a1.toInt < 4)) ∧ r = (-1)) ∨ ((0 ≤ a1.toInt ∧ a1.toInt < 4) ∧ r = (-11))) (fun (_ : Unit) (_ : State) => True) (va_A [(mo, .inr (12, [.int 0, .int 0, .long 0, .int 0, .int 0, .ref g5, .ref g6, .ref g7, .ref g8, .ref g9, .ref g10, .int 0, .ref g12, .ref g13, .ref g14, .ref g15, .ref g16, .ref g17, .ref g18, .ref g19, .ref g20, .int (-9), .ref g22, .ref g23, .ref g24, .int 0, .int 0, .int 0, .int 0, .ref g29, .ref g30, .ref g31, .ref g32, .ref g33])), (g15, .inl (cy 2, 4, .inl (fun _ => 0)))] sz)) 0 0 (va_A [(mo, .inr (12, [.int 0, .int 0, .long 0, .int 0, .int 0, .ref g5, .ref g6, .ref g7, .ref g8, .ref g9, .ref g10, .int 0, .ref g12, .ref g13, .ref g14, .ref g15, .ref g16, .ref g17, .ref g18, .ref g19, .ref g20, .int (-9), .ref g22, .ref g23, .ref g24, .int 0, .int 0, .int 0, .int 0, .ref g29, .ref g30, .ref g31, .ref g32, .ref g33])), (g15, .inl (cy 2, 4, .inl (fun _ => 0)))] sz) := by
  refine Met.ofW (cc := cX12_copy) (maxL := 10) (ret := (some .int)) (by decide) rfl ?_
  intro p e s m args below meth c s₁ B hml hv
  obtain ⟨rfl, hsz, hP, hK, hD0⟩ := hv
  have hx := B.exec
  have hb := B.bytes
  have hr := B.returns
  have hts := atoms_spec (ws := wsX12_copy) B.pre
  have hown : s.vm.findClass RX12 = some m.cls := findClass_of_methodNamed B.named
  have hlocks := B.notSynchronized
  subst hsz
  have hD := hD0.self (sz := s.heap.size)
  generalize hAe : va_A [(mo, .inr (12, [.int 0, .int 0, .long 0, .int 0, .int 0, .ref g5, .ref g6, .ref g7, .ref g8, .ref g9, .ref g10, .int 0, .ref g12, .ref g13, .ref g14, .ref g15, .ref g16, .ref g17, .ref g18, .ref g19, .ref g20, .int (-9), .ref g22, .ref g23, .ref g24, .int 0, .int 0, .int 0, .int 0, .ref g29, .ref g30, .ref g31, .ref g32, .ref g33])), (g15, .inl (cy 2, 4, .inl (fun _ => 0)))] s.heap.size = A at hD ⊢
  have hA : ∀ q : Nat, s.heap.size ≤ q → A q := fun q h => by rw [← hAe]; exact Or.inr h
  have hS : va_S A s.heap s.heap [] := va_S.rf
  have hl := lv_entry ([.ref mo, .int a1, .int a2, .int a3, .int a4, .int a5, .int a6]) (n := 10) (Nat.le_of_ble_eq_true rfl)
  rw [lg_entry_eq]
  generalize (lg_sl ([.ref mo, .int a1, .int a2, .int a3, .int a4, .int a5, .int a6]) ++ List.replicate (10 - (lg_sl ([.ref mo, .int a1, .int a2, .int a3, .int a4, .int a5, .int a6])).length) Slot.unset).toArray = ls at hl ⊢
  have hl : lv_has ls 10 [(0, .ref mo), (1, .int a1), (2, .int a2), (3, .int a3), (4, .int a4), (5, .int a5), (6, .int a6)] := hl
  have zl0 : (0 : Int64).toInt = 0 := by decide
  have zl3 : (3 : Int64).toInt = 3 := by decide
  refine lv_aload_n hx hb dX12_copy_0 rfl (lv_at hl 0 rfl) ?_
  refine lv_iconst (v := 0) hx hb dX12_copy_1 (by decide) ?_
  refine va_put (ci := 12) (v := .int 0) (ty := .int) (C := RX12) (T := TX12) (N := 34) hx hb hts (fun _ h => List.mem_cons_of_mem _ (List.mem_append_right _ h)) tyX12 tyX12_ok nmX12 hown hK.1 hP hD hS 0 rfl rfl 0 (by decide) (hts (.fieldLink RX12 85 "CutAtlasModel" "thrown" "I") (by decide +kernel)) (fun _ h9 => h9) rfl (by decide +kernel) rfl rfl (Nat.le_of_ble_eq_true rfl) dX12_copy_2 (fun H locs hP hD hS => ?_)
  have hP : va_P D vwCl [(mo, .inr (12, [.int 0, .int 0, .long 0, .int 0, .int 0, .ref g5, .ref g6, .ref g7, .ref g8, .ref g9, .ref g10, .int 0, .ref g12, .ref g13, .ref g14, .ref g15, .ref g16, .ref g17, .ref g18, .ref g19, .ref g20, .int (-9), .ref g22, .ref g23, .ref g24, .int 0, .int 0, .int 0, .int 0, .ref g29, .ref g30, .ref g31, .ref g32, .ref g33])), (g15, .inl (cy 2, 4, .inl (fun _ => 0)))] H := hP
  have hD : va_D A [(mo, .inr (12, [.int 0, .int 0, .long 0, .int 0, .int 0, .ref g5, .ref g6, .ref g7, .ref g8, .ref g9, .ref g10, .int 0, .ref g12, .ref g13, .ref g14, .ref g15, .ref g16, .ref g17, .ref g18, .ref g19, .ref g20, .int (-9), .ref g22, .ref g23, .ref g24, .int 0, .int 0, .int 0, .int 0, .ref g29, .ref g30, .ref g31, .ref g32, .ref g33])), (g15, .inl (cy 2, 4, .inl (fun _ => 0)))] := hD
  refine lv_aload_n hx hb dX12_copy_5 rfl (lv_at hl 0 rfl) ?_
  refine lv_iconst (v := 0) hx hb dX12_copy_6 (by decide) ?_
  refine va_put (ci := 12) (v := .int 0) (ty := .int) (C := RX12) (T := TX12) (N := 34) hx hb hts (fun _ h => List.mem_cons_of_mem _ (List.mem_append_right _ h)) tyX12 tyX12_ok nmX12 hown hK.1 hP hD hS 0 rfl rfl 1 (by decide) (hts (.fieldLink RX12 240 "CutAtlasModel" "status" "I") (by decide +kernel)) (fun _ h9 => h9) rfl (by decide +kernel) rfl rfl (Nat.le_of_ble_eq_true rfl) dX12_copy_7 (fun H locs hP hD hS => ?_)
  have hP : va_P D vwCl [(mo, .inr (12, [.int 0, .int 0, .long 0, .int 0, .int 0, .ref g5, .ref g6, .ref g7, .ref g8, .ref g9, .ref g10, .int 0, .ref g12, .ref g13, .ref g14, .ref g15, .ref g16, .ref g17, .ref g18, .ref g19, .ref g20, .int (-9), .ref g22, .ref g23, .ref g24, .int 0, .int 0, .int 0, .int 0, .ref g29, .ref g30, .ref g31, .ref g32, .ref g33])), (g15, .inl (cy 2, 4, .inl (fun _ => 0)))] H := hP
  have hD : va_D A [(mo, .inr (12, [.int 0, .int 0, .long 0, .int 0, .int 0, .ref g5, .ref g6, .ref g7, .ref g8, .ref g9, .ref g10, .int 0, .ref g12, .ref g13, .ref g14, .ref g15, .ref g16, .ref g17, .ref g18, .ref g19, .ref g20, .int (-9), .ref g22, .ref g23, .ref g24, .int 0, .int 0, .int 0, .int 0, .ref g29, .ref g30, .ref g31, .ref g32, .ref g33])), (g15, .inl (cy 2, 4, .inl (fun _ => 0)))] := hD
  refine lv_iload_n hx hb dX12_copy_10 rfl (lv_at hl 1 rfl) ?_
  refine lv_i2l (v := a1.toInt64) hx hb dX12_copy_11 rfl ?_
  have q_11 : (a1.toInt64).toInt = a1.toInt := Int32.toInt_toInt64 a1
  refine lv_lconst (v := 0) hx hb dX12_copy_12 (by decide) ?_
  refine lv_ldc2 (v := 3) hx hb hown (hts (.constantLong RX12 243 (3)) (by decide +kernel)) dX12_copy_13 ?_
  have hPc := hP.sub (ws' := []) [] rfl
  have hDc := hD.sub (ws' := []) [] (by decide) rfl
  have hDw : va_D (fun _ => True) [] := hDc.weaken (fun _ _ _ _ => trivial)
  have hFc := va_free (wc := []) hD hS hA [] rfl
  refine va_calli (va_runS (As := [.long a1.toInt64, .long 0, .long 3]) (rest := []) ⟨hx, hb, hml, hown, hts⟩ (c_X12_in l D cy H.size a1.toInt64 (0 : Int64) (3 : Int64)) (va_cwS 3 hts gX12_copy_X12_in rfl rfl rfl (by decide +kernel) ⟨Nat.le_of_ble_eq_true rfl, Nat.le_of_ble_eq_true rfl⟩) ⟨bl_, fun U hU hW => ⟨rfl, by rw [hU], by rw [hU]; exact hPc, kk_mv hW hK, hDw⟩⟩ rfl rfl hl.1 rfl (lv_room (Nat.le_of_ble_eq_true rfl)) dX12_copy_16 ⟨Nat.le_of_ble_eq_true rfl, Nat.le_of_ble_eq_true rfl⟩) hS (fun q _ h => hFc q h) hFc (fun r_1 u t H locs ht hvm hw hB hz1 hk1 hS => ?_)
  have hP := ro_keep hP hk1
  have hP : va_P D vwCl [(mo, .inr (12, [.int 0, .int 0, .long 0, .int 0, .int 0, .ref g5, .ref g6, .ref g7, .ref g8, .ref g9, .ref g10, .int 0, .ref g12, .ref g13, .ref g14, .ref g15, .ref g16, .ref g17, .ref g18, .ref g19, .ref g20, .int (-9), .ref g22, .ref g23, .ref g24, .int 0, .int 0, .int 0, .int 0, .ref g29, .ref g30, .ref g31, .ref g32, .ref g33])), (g15, .inl (cy 2, 4, .inl (fun _ => 0)))] H := hP
  rcases hw with ⟨w_2, e_⟩ | ⟨w_2, e_⟩
  · have e_ := e_.symm
    subst e_
    refine lv_if_ne (tgt := 28) hx hb dX12_copy_19 (by decide) (fun c_3 => ?_) (fun c_3 => ?_)
    · have _ := c_3
      rcases sp_4 (x := a1) (by omega) with rfl | rfl | rfl | rfl
      · refine lv_aload_n hx hb dX12_copy_28 rfl (lv_at hl 0 rfl) ?_
        refine va_get (ci := 12) (v := .ref g15) (C := RX12) (T := TX12) (N := 34) hx hb hts (fun _ h => List.mem_cons_of_mem _ (List.mem_append_right _ h)) hown hK.1 hP 0 rfl rfl 15 (by decide) (hts (.fieldLink RX12 38 "CutAtlasModel" "hasMap" "[Z") (by decide +kernel)) (fun _ h9 => h9) rfl dX12_copy_29 ?_
        refine lv_iload_n hx hb dX12_copy_32 rfl (lv_at hl 1 rfl) ?_
        refine va_zald hx hb hK.1 hP 1 2 rfl rfl (i := 0) (by unfold vp_in; decide) dX12_copy_33 ?_
        refine lv_topv (v' := .int 0) rfl ?_
        refine lv_if_ne (tgt := 44) hx hb dX12_copy_34 (by decide) (fun c_4 => ?_) (fun c_4 => ?_)
        · exact absurd c_4 (by decide)
        · have _ := c_4
          refine lv_aload_n hx hb dX12_copy_37 rfl (lv_at hl 0 rfl) ?_
          refine lv_bipush (v := (-11)) hx hb dX12_copy_38 (by decide) ?_
          have hPc := hP.sub (ws' := [(mo, .inr (12, [.int 0, .int 0, .long 0, .int 0, .int 0, .ref g5, .ref g6, .ref g7, .ref g8, .ref g9, .ref g10, .int 0, .ref g12, .ref g13, .ref g14, .ref g15, .ref g16, .ref g17, .ref g18, .ref g19, .ref g20, .int (-9), .ref g22, .ref g23, .ref g24, .int 0, .int 0, .int 0, .int 0, .ref g29, .ref g30, .ref g31, .ref g32, .ref g33]))]) [0] rfl
          have hDc := hD.sub (ws' := [(mo, .inr (12, [.int 0, .int 0, .long 0, .int 0, .int 0, .ref g5, .ref g6, .ref g7, .ref g8, .ref g9, .ref g10, .int 0, .ref g12, .ref g13, .ref g14, .ref g15, .ref g16, .ref g17, .ref g18, .ref g19, .ref g20, .int (-9), .ref g22, .ref g23, .ref g24, .int 0, .int 0, .int 0, .int 0, .ref g29, .ref g30, .ref g31, .ref g32, .ref g33]))]) [0] (by decide) rfl
          have hDw : va_D (fun _ => True) [(mo, .inr (12, [.int 0, .int 0, .long 0, .int 0, .int 0, .ref g5, .ref g6, .ref g7, .ref g8, .ref g9, .ref g10, .int 0, .ref g12, .ref g13, .ref g14, .ref g15, .ref g16, .ref g17, .ref g18, .ref g19, .ref g20, .int (-9), .ref g22, .ref g23, .ref g24, .int 0, .int 0, .int 0, .int 0, .ref g29, .ref g30, .ref g31, .ref g32, .ref g33]))] := hDc.weaken (fun _ _ _ _ => trivial)
          have hFc := va_free (wc := [(mo, .inr (12, [.int 0, .int 0, .long 0, .int 0, .int 0, .ref g5, .ref g6, .ref g7, .ref g8, .ref g9, .ref g10, .int 0, .ref g12, .ref g13, .ref g14, .ref g15, .ref g16, .ref g17, .ref g18, .ref g19, .ref g20, .int (-9), .ref g22, .ref g23, .ref g24, .int 0, .int 0, .int 0, .int 0, .ref g29, .ref g30, .ref g31, .ref g32, .ref g33]))]) hD hS hA [0] rfl
          refine va_calli (va_runV (As := [.int (-11)]) (rest := []) ⟨hx, hb, hml, hown, hts⟩ (c_X12_no l D cy H.size mo g5 g6 g7 g8 g9 g10 g12 g13 g14 g15 g16 g17 g18 g19 g20 g22 g23 g24 g29 g30 g31 g32 g33 ((-11) : Int32)) (cwV 1 hts gX12_copy_X12_no rfl rfl rfl (by decide +kernel) ⟨Nat.le_of_ble_eq_true rfl, Nat.le_of_ble_eq_true rfl⟩) ⟨bl_, va_recv hK.1 hPc (ci := 12) (q0 := 0) rfl rfl, fun U hU hW => ⟨rfl, by rw [hU], by rw [hU]; exact hPc, kk_mv hW hK, hDw⟩⟩ rfl rfl hl.1 rfl (lv_room (Nat.le_of_ble_eq_true rfl)) dX12_copy_40 ⟨Nat.le_of_ble_eq_true rfl, Nat.le_of_ble_eq_true rfl⟩) hS (fun q _ h => hFc q h) hFc (fun r_5 u t H locs ht hvm hw hB hz1 hk1 hS => ?_)
          obtain ⟨hP, hD⟩ := va_join (wr := [(g15, .inl (cy 2, 4, .inl (fun _ => 0)))]) (w1 := []) hP hD [0] [1] rfl rfl (by decide) (by decide) hk1 hFc pp_nil dd_nil
          have hP : va_P D vwCl [(g15, .inl (cy 2, 4, .inl (fun _ => 0)))] H := hP
          have hD : va_D A [(g15, .inl (cy 2, 4, .inl (fun _ => 0)))] := hD
          have e_ := hw.symm
          subst e_
          exact W.iret (v := ((-11) : Int32)) hx hb hr (fun t ht hW => ⟨⟨((-11) : Int32), (), rfl, by first | exact Or.inl (⟨by omega, rfl⟩) | exact Or.inr (⟨by omega, rfl⟩), trivial⟩, hS.F ht⟩) hS.2.2 dX12_copy_43
      · refine lv_aload_n hx hb dX12_copy_28 rfl (lv_at hl 0 rfl) ?_
        refine va_get (ci := 12) (v := .ref g15) (C := RX12) (T := TX12) (N := 34) hx hb hts (fun _ h => List.mem_cons_of_mem _ (List.mem_append_right _ h)) hown hK.1 hP 0 rfl rfl 15 (by decide) (hts (.fieldLink RX12 38 "CutAtlasModel" "hasMap" "[Z") (by decide +kernel)) (fun _ h9 => h9) rfl dX12_copy_29 ?_
        refine lv_iload_n hx hb dX12_copy_32 rfl (lv_at hl 1 rfl) ?_
        refine va_zald hx hb hK.1 hP 1 2 rfl rfl (i := 1) (by unfold vp_in; decide) dX12_copy_33 ?_
        refine lv_topv (v' := .int 0) rfl ?_
        refine lv_if_ne (tgt := 44) hx hb dX12_copy_34 (by decide) (fun c_6 => ?_) (fun c_6 => ?_)
        · exact absurd c_6 (by decide)
        · have _ := c_6
          refine lv_aload_n hx hb dX12_copy_37 rfl (lv_at hl 0 rfl) ?_
          refine lv_bipush (v := (-11)) hx hb dX12_copy_38 (by decide) ?_
          have hPc := hP.sub (ws' := [(mo, .inr (12, [.int 0, .int 0, .long 0, .int 0, .int 0, .ref g5, .ref g6, .ref g7, .ref g8, .ref g9, .ref g10, .int 0, .ref g12, .ref g13, .ref g14, .ref g15, .ref g16, .ref g17, .ref g18, .ref g19, .ref g20, .int (-9), .ref g22, .ref g23, .ref g24, .int 0, .int 0, .int 0, .int 0, .ref g29, .ref g30, .ref g31, .ref g32, .ref g33]))]) [0] rfl
          have hDc := hD.sub (ws' := [(mo, .inr (12, [.int 0, .int 0, .long 0, .int 0, .int 0, .ref g5, .ref g6, .ref g7, .ref g8, .ref g9, .ref g10, .int 0, .ref g12, .ref g13, .ref g14, .ref g15, .ref g16, .ref g17, .ref g18, .ref g19, .ref g20, .int (-9), .ref g22, .ref g23, .ref g24, .int 0, .int 0, .int 0, .int 0, .ref g29, .ref g30, .ref g31, .ref g32, .ref g33]))]) [0] (by decide) rfl
          have hDw : va_D (fun _ => True) [(mo, .inr (12, [.int 0, .int 0, .long 0, .int 0, .int 0, .ref g5, .ref g6, .ref g7, .ref g8, .ref g9, .ref g10, .int 0, .ref g12, .ref g13, .ref g14, .ref g15, .ref g16, .ref g17, .ref g18, .ref g19, .ref g20, .int (-9), .ref g22, .ref g23, .ref g24, .int 0, .int 0, .int 0, .int 0, .ref g29, .ref g30, .ref g31, .ref g32, .ref g33]))] := hDc.weaken (fun _ _ _ _ => trivial)
          have hFc := va_free (wc := [(mo, .inr (12, [.int 0, .int 0, .long 0, .int 0, .int 0, .ref g5, .ref g6, .ref g7, .ref g8, .ref g9, .ref g10, .int 0, .ref g12, .ref g13, .ref g14, .ref g15, .ref g16, .ref g17, .ref g18, .ref g19, .ref g20, .int (-9), .ref g22, .ref g23, .ref g24, .int 0, .int 0, .int 0, .int 0, .ref g29, .ref g30, .ref g31, .ref g32, .ref g33]))]) hD hS hA [0] rfl
          refine va_calli (va_runV (As := [.int (-11)]) (rest := []) ⟨hx, hb, hml, hown, hts⟩ (c_X12_no l D cy H.size mo g5 g6 g7 g8 g9 g10 g12 g13 g14 g15 g16 g17 g18 g19 g20 g22 g23 g24 g29 g30 g31 g32 g33 ((-11) : Int32)) (cwV 1 hts gX12_copy_X12_no rfl rfl rfl (by decide +kernel) ⟨Nat.le_of_ble_eq_true rfl, Nat.le_of_ble_eq_true rfl⟩) ⟨bl_, va_recv hK.1 hPc (ci := 12) (q0 := 0) rfl rfl, fun U hU hW => ⟨rfl, by rw [hU], by rw [hU]; exact hPc, kk_mv hW hK, hDw⟩⟩ rfl rfl hl.1 rfl (lv_room (Nat.le_of_ble_eq_true rfl)) dX12_copy_40 ⟨Nat.le_of_ble_eq_true rfl, Nat.le_of_ble_eq_true rfl⟩) hS (fun q _ h => hFc q h) hFc (fun r_7 u t H locs ht hvm hw hB hz1 hk1 hS => ?_)
          obtain ⟨hP, hD⟩ := va_join (wr := [(g15, .inl (cy 2, 4, .inl (fun _ => 0)))]) (w1 := []) hP hD [0] [1] rfl rfl (by decide) (by decide) hk1 hFc pp_nil dd_nil
          have hP : va_P D vwCl [(g15, .inl (cy 2, 4, .inl (fun _ => 0)))] H := hP
          have hD : va_D A [(g15, .inl (cy 2, 4, .inl (fun _ => 0)))] := hD
          have e_ := hw.symm
          subst e_
          exact W.iret (v := ((-11) : Int32)) hx hb hr (fun t ht hW => ⟨⟨((-11) : Int32), (), rfl, by first | exact Or.inl (⟨by omega, rfl⟩) | exact Or.inr (⟨by omega, rfl⟩), trivial⟩, hS.F ht⟩) hS.2.2 dX12_copy_43
      · refine lv_aload_n hx hb dX12_copy_28 rfl (lv_at hl 0 rfl) ?_
        refine va_get (ci := 12) (v := .ref g15) (C := RX12) (T := TX12) (N := 34) hx hb hts (fun _ h => List.mem_cons_of_mem _ (List.mem_append_right _ h)) hown hK.1 hP 0 rfl rfl 15 (by decide) (hts (.fieldLink RX12 38 "CutAtlasModel" "hasMap" "[Z") (by decide +kernel)) (fun _ h9 => h9) rfl dX12_copy_29 ?_
        refine lv_iload_n hx hb dX12_copy_32 rfl (lv_at hl 1 rfl) ?_
        refine va_zald hx hb hK.1 hP 1 2 rfl rfl (i := 2) (by unfold vp_in; decide) dX12_copy_33 ?_
        refine lv_topv (v' := .int 0) rfl ?_
        refine lv_if_ne (tgt := 44) hx hb dX12_copy_34 (by decide) (fun c_8 => ?_) (fun c_8 => ?_)
        · exact absurd c_8 (by decide)
        · have _ := c_8
          refine lv_aload_n hx hb dX12_copy_37 rfl (lv_at hl 0 rfl) ?_
          refine lv_bipush (v := (-11)) hx hb dX12_copy_38 (by decide) ?_
          have hPc := hP.sub (ws' := [(mo, .inr (12, [.int 0, .int 0, .long 0, .int 0, .int 0, .ref g5, .ref g6, .ref g7, .ref g8, .ref g9, .ref g10, .int 0, .ref g12, .ref g13, .ref g14, .ref g15, .ref g16, .ref g17, .ref g18, .ref g19, .ref g20, .int (-9), .ref g22, .ref g23, .ref g24, .int 0, .int 0, .int 0, .int 0, .ref g29, .ref g30, .ref g31, .ref g32, .ref g33]))]) [0] rfl
          have hDc := hD.sub (ws' := [(mo, .inr (12, [.int 0, .int 0, .long 0, .int 0, .int 0, .ref g5, .ref g6, .ref g7, .ref g8, .ref g9, .ref g10, .int 0, .ref g12, .ref g13, .ref g14, .ref g15, .ref g16, .ref g17, .ref g18, .ref g19, .ref g20, .int (-9), .ref g22, .ref g23, .ref g24, .int 0, .int 0, .int 0, .int 0, .ref g29, .ref g30, .ref g31, .ref g32, .ref g33]))]) [0] (by decide) rfl
          have hDw : va_D (fun _ => True) [(mo, .inr (12, [.int 0, .int 0, .long 0, .int 0, .int 0, .ref g5, .ref g6, .ref g7, .ref g8, .ref g9, .ref g10, .int 0, .ref g12, .ref g13, .ref g14, .ref g15, .ref g16, .ref g17, .ref g18, .ref g19, .ref g20, .int (-9), .ref g22, .ref g23, .ref g24, .int 0, .int 0, .int 0, .int 0, .ref g29, .ref g30, .ref g31, .ref g32, .ref g33]))] := hDc.weaken (fun _ _ _ _ => trivial)
          have hFc := va_free (wc := [(mo, .inr (12, [.int 0, .int 0, .long 0, .int 0, .int 0, .ref g5, .ref g6, .ref g7, .ref g8, .ref g9, .ref g10, .int 0, .ref g12, .ref g13, .ref g14, .ref g15, .ref g16, .ref g17, .ref g18, .ref g19, .ref g20, .int (-9), .ref g22, .ref g23, .ref g24, .int 0, .int 0, .int 0, .int 0, .ref g29, .ref g30, .ref g31, .ref g32, .ref g33]))]) hD hS hA [0] rfl
          refine va_calli (va_runV (As := [.int (-11)]) (rest := []) ⟨hx, hb, hml, hown, hts⟩ (c_X12_no l D cy H.size mo g5 g6 g7 g8 g9 g10 g12 g13 g14 g15 g16 g17 g18 g19 g20 g22 g23 g24 g29 g30 g31 g32 g33 ((-11) : Int32)) (cwV 1 hts gX12_copy_X12_no rfl rfl rfl (by decide +kernel) ⟨Nat.le_of_ble_eq_true rfl, Nat.le_of_ble_eq_true rfl⟩) ⟨bl_, va_recv hK.1 hPc (ci := 12) (q0 := 0) rfl rfl, fun U hU hW => ⟨rfl, by rw [hU], by rw [hU]; exact hPc, kk_mv hW hK, hDw⟩⟩ rfl rfl hl.1 rfl (lv_room (Nat.le_of_ble_eq_true rfl)) dX12_copy_40 ⟨Nat.le_of_ble_eq_true rfl, Nat.le_of_ble_eq_true rfl⟩) hS (fun q _ h => hFc q h) hFc (fun r_9 u t H locs ht hvm hw hB hz1 hk1 hS => ?_)
          obtain ⟨hP, hD⟩ := va_join (wr := [(g15, .inl (cy 2, 4, .inl (fun _ => 0)))]) (w1 := []) hP hD [0] [1] rfl rfl (by decide) (by decide) hk1 hFc pp_nil dd_nil
          have hP : va_P D vwCl [(g15, .inl (cy 2, 4, .inl (fun _ => 0)))] H := hP
          have hD : va_D A [(g15, .inl (cy 2, 4, .inl (fun _ => 0)))] := hD
          have e_ := hw.symm
          subst e_
          exact W.iret (v := ((-11) : Int32)) hx hb hr (fun t ht hW => ⟨⟨((-11) : Int32), (), rfl, by first | exact Or.inl (⟨by omega, rfl⟩) | exact Or.inr (⟨by omega, rfl⟩), trivial⟩, hS.F ht⟩) hS.2.2 dX12_copy_43
      · refine lv_aload_n hx hb dX12_copy_28 rfl (lv_at hl 0 rfl) ?_
        refine va_get (ci := 12) (v := .ref g15) (C := RX12) (T := TX12) (N := 34) hx hb hts (fun _ h => List.mem_cons_of_mem _ (List.mem_append_right _ h)) hown hK.1 hP 0 rfl rfl 15 (by decide) (hts (.fieldLink RX12 38 "CutAtlasModel" "hasMap" "[Z") (by decide +kernel)) (fun _ h9 => h9) rfl dX12_copy_29 ?_
        refine lv_iload_n hx hb dX12_copy_32 rfl (lv_at hl 1 rfl) ?_
        refine va_zald hx hb hK.1 hP 1 2 rfl rfl (i := 3) (by unfold vp_in; decide) dX12_copy_33 ?_
        refine lv_topv (v' := .int 0) rfl ?_
        refine lv_if_ne (tgt := 44) hx hb dX12_copy_34 (by decide) (fun c_10 => ?_) (fun c_10 => ?_)
        · exact absurd c_10 (by decide)
        · have _ := c_10
          refine lv_aload_n hx hb dX12_copy_37 rfl (lv_at hl 0 rfl) ?_
          refine lv_bipush (v := (-11)) hx hb dX12_copy_38 (by decide) ?_
          have hPc := hP.sub (ws' := [(mo, .inr (12, [.int 0, .int 0, .long 0, .int 0, .int 0, .ref g5, .ref g6, .ref g7, .ref g8, .ref g9, .ref g10, .int 0, .ref g12, .ref g13, .ref g14, .ref g15, .ref g16, .ref g17, .ref g18, .ref g19, .ref g20, .int (-9), .ref g22, .ref g23, .ref g24, .int 0, .int 0, .int 0, .int 0, .ref g29, .ref g30, .ref g31, .ref g32, .ref g33]))]) [0] rfl
          have hDc := hD.sub (ws' := [(mo, .inr (12, [.int 0, .int 0, .long 0, .int 0, .int 0, .ref g5, .ref g6, .ref g7, .ref g8, .ref g9, .ref g10, .int 0, .ref g12, .ref g13, .ref g14, .ref g15, .ref g16, .ref g17, .ref g18, .ref g19, .ref g20, .int (-9), .ref g22, .ref g23, .ref g24, .int 0, .int 0, .int 0, .int 0, .ref g29, .ref g30, .ref g31, .ref g32, .ref g33]))]) [0] (by decide) rfl
          have hDw : va_D (fun _ => True) [(mo, .inr (12, [.int 0, .int 0, .long 0, .int 0, .int 0, .ref g5, .ref g6, .ref g7, .ref g8, .ref g9, .ref g10, .int 0, .ref g12, .ref g13, .ref g14, .ref g15, .ref g16, .ref g17, .ref g18, .ref g19, .ref g20, .int (-9), .ref g22, .ref g23, .ref g24, .int 0, .int 0, .int 0, .int 0, .ref g29, .ref g30, .ref g31, .ref g32, .ref g33]))] := hDc.weaken (fun _ _ _ _ => trivial)
          have hFc := va_free (wc := [(mo, .inr (12, [.int 0, .int 0, .long 0, .int 0, .int 0, .ref g5, .ref g6, .ref g7, .ref g8, .ref g9, .ref g10, .int 0, .ref g12, .ref g13, .ref g14, .ref g15, .ref g16, .ref g17, .ref g18, .ref g19, .ref g20, .int (-9), .ref g22, .ref g23, .ref g24, .int 0, .int 0, .int 0, .int 0, .ref g29, .ref g30, .ref g31, .ref g32, .ref g33]))]) hD hS hA [0] rfl
          refine va_calli (va_runV (As := [.int (-11)]) (rest := []) ⟨hx, hb, hml, hown, hts⟩ (c_X12_no l D cy H.size mo g5 g6 g7 g8 g9 g10 g12 g13 g14 g15 g16 g17 g18 g19 g20 g22 g23 g24 g29 g30 g31 g32 g33 ((-11) : Int32)) (cwV 1 hts gX12_copy_X12_no rfl rfl rfl (by decide +kernel) ⟨Nat.le_of_ble_eq_true rfl, Nat.le_of_ble_eq_true rfl⟩) ⟨bl_, va_recv hK.1 hPc (ci := 12) (q0 := 0) rfl rfl, fun U hU hW => ⟨rfl, by rw [hU], by rw [hU]; exact hPc, kk_mv hW hK, hDw⟩⟩ rfl rfl hl.1 rfl (lv_room (Nat.le_of_ble_eq_true rfl)) dX12_copy_40 ⟨Nat.le_of_ble_eq_true rfl, Nat.le_of_ble_eq_true rfl⟩) hS (fun q _ h => hFc q h) hFc (fun r_11 u t H locs ht hvm hw hB hz1 hk1 hS => ?_)
          obtain ⟨hP, hD⟩ := va_join (wr := [(g15, .inl (cy 2, 4, .inl (fun _ => 0)))]) (w1 := []) hP hD [0] [1] rfl rfl (by decide) (by decide) hk1 hFc pp_nil dd_nil
          have hP : va_P D vwCl [(g15, .inl (cy 2, 4, .inl (fun _ => 0)))] H := hP
          have hD : va_D A [(g15, .inl (cy 2, 4, .inl (fun _ => 0)))] := hD
          have e_ := hw.symm
          subst e_
          exact W.iret (v := ((-11) : Int32)) hx hb hr (fun t ht hW => ⟨⟨((-11) : Int32), (), rfl, by first | exact Or.inl (⟨by omega, rfl⟩) | exact Or.inr (⟨by omega, rfl⟩), trivial⟩, hS.F ht⟩) hS.2.2 dX12_copy_43
    · exact absurd c_3 (by decide)
  · have e_ := e_.symm
    subst e_
    refine lv_if_ne (tgt := 28) hx hb dX12_copy_19 (by decide) (fun c_12 => ?_) (fun c_12 => ?_)
    · exact absurd c_12 (by decide)
    · have _ := c_12
      refine lv_aload_n hx hb dX12_copy_22 rfl (lv_at hl 0 rfl) ?_
      refine lv_iconst (v := (-1)) hx hb dX12_copy_23 (by decide) ?_
      have hPc := hP.sub (ws' := [(mo, .inr (12, [.int 0, .int 0, .long 0, .int 0, .int 0, .ref g5, .ref g6, .ref g7, .ref g8, .ref g9, .ref g10, .int 0, .ref g12, .ref g13, .ref g14, .ref g15, .ref g16, .ref g17, .ref g18, .ref g19, .ref g20, .int (-9), .ref g22, .ref g23, .ref g24, .int 0, .int 0, .int 0, .int 0, .ref g29, .ref g30, .ref g31, .ref g32, .ref g33]))]) [0] rfl
      have hDc := hD.sub (ws' := [(mo, .inr (12, [.int 0, .int 0, .long 0, .int 0, .int 0, .ref g5, .ref g6, .ref g7, .ref g8, .ref g9, .ref g10, .int 0, .ref g12, .ref g13, .ref g14, .ref g15, .ref g16, .ref g17, .ref g18, .ref g19, .ref g20, .int (-9), .ref g22, .ref g23, .ref g24, .int 0, .int 0, .int 0, .int 0, .ref g29, .ref g30, .ref g31, .ref g32, .ref g33]))]) [0] (by decide) rfl
      have hDw : va_D (fun _ => True) [(mo, .inr (12, [.int 0, .int 0, .long 0, .int 0, .int 0, .ref g5, .ref g6, .ref g7, .ref g8, .ref g9, .ref g10, .int 0, .ref g12, .ref g13, .ref g14, .ref g15, .ref g16, .ref g17, .ref g18, .ref g19, .ref g20, .int (-9), .ref g22, .ref g23, .ref g24, .int 0, .int 0, .int 0, .int 0, .ref g29, .ref g30, .ref g31, .ref g32, .ref g33]))] := hDc.weaken (fun _ _ _ _ => trivial)
      have hFc := va_free (wc := [(mo, .inr (12, [.int 0, .int 0, .long 0, .int 0, .int 0, .ref g5, .ref g6, .ref g7, .ref g8, .ref g9, .ref g10, .int 0, .ref g12, .ref g13, .ref g14, .ref g15, .ref g16, .ref g17, .ref g18, .ref g19, .ref g20, .int (-9), .ref g22, .ref g23, .ref g24, .int 0, .int 0, .int 0, .int 0, .ref g29, .ref g30, .ref g31, .ref g32, .ref g33]))]) hD hS hA [0] rfl
      refine va_calli (va_runV (As := [.int (-1)]) (rest := []) ⟨hx, hb, hml, hown, hts⟩ (c_X12_no l D cy H.size mo g5 g6 g7 g8 g9 g10 g12 g13 g14 g15 g16 g17 g18 g19 g20 g22 g23 g24 g29 g30 g31 g32 g33 ((-1) : Int32)) (cwV 1 hts gX12_copy_X12_no rfl rfl rfl (by decide +kernel) ⟨Nat.le_of_ble_eq_true rfl, Nat.le_of_ble_eq_true rfl⟩) ⟨bl_, va_recv hK.1 hPc (ci := 12) (q0 := 0) rfl rfl, fun U hU hW => ⟨rfl, by rw [hU], by rw [hU]; exact hPc, kk_mv hW hK, hDw⟩⟩ rfl rfl hl.1 rfl (lv_room (Nat.le_of_ble_eq_true rfl)) dX12_copy_24 ⟨Nat.le_of_ble_eq_true rfl, Nat.le_of_ble_eq_true rfl⟩) hS (fun q _ h => hFc q h) hFc (fun r_13 u t H locs ht hvm hw hB hz1 hk1 hS => ?_)
      obtain ⟨hP, hD⟩ := va_join (wr := [(g15, .inl (cy 2, 4, .inl (fun _ => 0)))]) (w1 := []) hP hD [0] [1] rfl rfl (by decide) (by decide) hk1 hFc pp_nil dd_nil
      have hP : va_P D vwCl [(g15, .inl (cy 2, 4, .inl (fun _ => 0)))] H := hP
      have hD : va_D A [(g15, .inl (cy 2, 4, .inl (fun _ => 0)))] := hD
      have e_ := hw.symm
      subst e_
      exact W.iret (v := ((-1) : Int32)) hx hb hr (fun t ht hW => ⟨⟨((-1) : Int32), (), rfl, by first | exact Or.inl (⟨by omega, rfl⟩) | exact Or.inr (⟨by omega, rfl⟩), trivial⟩, hS.F ht⟩) hS.2.2 dX12_copy_27

set_option maxHeartbeats 4000000 in
set_option maxRecDepth 100000 in
theorem c_X12_read (l : Launch) (D : va_G) (cy : Nat → ClassId) (sz : Nat) (mo : Nat) (g5 : Nat) (g6 : Nat) (g7 : Nat) (g8 : Nat) (g9 : Nat) (g10 : Nat) (g12 : Nat) (g13 : Nat) (g14 : Nat) (g15 : Nat) (g16 : Nat) (g17 : Nat) (g18 : Nat) (g19 : Nat) (g20 : Nat) (g22 : Nat) (g23 : Nat) (g24 : Nat) (g29 : Nat) (g30 : Nat) (g31 : Nat) (g32 : Nat) (g33 : Nat) (a1 : Int32) : Met l yX12_read wsX12_read ({ frames := 1, cells := 0, slots := 0, locals := 25 }) (va_Pc [.ref mo, .int a1] (fun U => U.heap.size = sz ∧ va_P D vwCl [(mo, .inr (12, [.int 0, .int 0, .long 0, .int 0, .int 0, .ref g5, .ref g6, .ref g7, .ref g8, .ref g9, .ref g10, .int 0, .ref g12, .ref g13, .ref g14, .ref g15, .ref g16, .ref g17, .ref g18, .ref g19, .ref g20, .int (-9), .ref g22, .ref g23, .ref g24, .int 0, .int 0, .int 0, .int 0, .ref g29, .ref g30, .ref g31, .ref g32, .ref g33])), (g15, .inl (cy 2, 4, .inl (fun _ => 0)))] U.heap ∧ kk_ D cy U ∧ va_D (fun _ => True) [(mo, .inr (12, [.int 0, .int 0, .long 0, .int 0, .int 0, .ref g5, .ref g6, .ref g7, .ref g8, .ref g9, .ref g10, .int 0, .ref g12, .ref g13, .ref g14, .ref g15, .ref g16, .ref g17, .ref g18, .ref g19, .ref g20, .int (-9), .ref g22, .ref g23, .ref g24, .int 0, .int 0, .int 0, .int 0, .ref g29, .ref g30, .ref g31, .ref g32, .ref g33])), (g15, .inl (cy 2, 4, .inl (fun _ => 0)))])) (va_Qi (fun (r : Int32) (_ : Unit) => ((¬ (0 ≤ a1.toInt ∧ a1.toInt < 4)) ∧ r = (-1)) ∨ ((0 ≤ a1.toInt ∧ a1.toInt < 4) ∧ r = 0)) (fun (_ : Unit) (_ : State) => True) (va_A [(mo, .inr (12, [.int 0, .int 0, .long 0, .int 0, .int 0, .ref g5, .ref g6, .ref g7, .ref g8, .ref g9, .ref g10, .int 0, .ref g12, .ref g13, .ref g14, .ref g15, .ref g16, .ref g17, .ref g18, .ref g19, .ref g20, .int (-9), .ref g22, .ref g23, .ref g24, .int 0, .int 0, .int 0, .int 0, .ref g29, .ref g30, .ref g31, .ref g32, .ref g33])), (g15, .inl (cy 2, 4, .inl (fun _ => 0)))] sz)) 0 0 (va_A [(mo, .inr (12, [.int 0, .int 0, .long 0, .int 0, .int 0, .ref g5, .ref g6, .ref g7, .ref g8, .ref g9, .ref g10, .int 0, .ref g12, .ref g13, .ref g14, .ref g15, .ref g16, .ref g17, .ref g18, .ref g19, .ref g20, .int (-9), .ref g22, .ref g23, .ref g24, .int 0, .int 0, .int 0, .int 0, .ref g29, .ref g30, .ref g31, .ref g32, .ref g33])), (g15, .inl (cy 2, 4, .inl (fun _ => 0)))] sz) := by
  refine Met.ofW (cc := cX12_read) (maxL := 7) (ret := (some .int)) (by decide) rfl ?_
  intro p e s m args below meth c s₁ B hml hv
  obtain ⟨rfl, hsz, hP, hK, hD0⟩ := hv
  have hx := B.exec
  have hb := B.bytes
  have hr := B.returns
  have hts := atoms_spec (ws := wsX12_read) B.pre
  have hown : s.vm.findClass RX12 = some m.cls := findClass_of_methodNamed B.named
  have hlocks := B.notSynchronized
  subst hsz
  have hD := hD0.self (sz := s.heap.size)
  generalize hAe : va_A [(mo, .inr (12, [.int 0, .int 0, .long 0, .int 0, .int 0, .ref g5, .ref g6, .ref g7, .ref g8, .ref g9, .ref g10, .int 0, .ref g12, .ref g13, .ref g14, .ref g15, .ref g16, .ref g17, .ref g18, .ref g19, .ref g20, .int (-9), .ref g22, .ref g23, .ref g24, .int 0, .int 0, .int 0, .int 0, .ref g29, .ref g30, .ref g31, .ref g32, .ref g33])), (g15, .inl (cy 2, 4, .inl (fun _ => 0)))] s.heap.size = A at hD ⊢
  have hA : ∀ q : Nat, s.heap.size ≤ q → A q := fun q h => by rw [← hAe]; exact Or.inr h
  have hS : va_S A s.heap s.heap [] := va_S.rf
  have hl := lv_entry ([.ref mo, .int a1]) (n := 7) (Nat.le_of_ble_eq_true rfl)
  rw [lg_entry_eq]
  generalize (lg_sl ([.ref mo, .int a1]) ++ List.replicate (7 - (lg_sl ([.ref mo, .int a1])).length) Slot.unset).toArray = ls at hl ⊢
  have hl : lv_has ls 7 [(0, .ref mo), (1, .int a1)] := hl
  have zl0 : (0 : Int64).toInt = 0 := by decide
  have zl3 : (3 : Int64).toInt = 3 := by decide
  refine lv_aload_n hx hb dX12_read_0 rfl (lv_at hl 0 rfl) ?_
  refine lv_iconst (v := 0) hx hb dX12_read_1 (by decide) ?_
  refine va_put (ci := 12) (v := .int 0) (ty := .int) (C := RX12) (T := TX12) (N := 34) hx hb hts (fun _ h => List.mem_cons_of_mem _ (List.mem_append_right _ h)) tyX12 tyX12_ok nmX12 hown hK.1 hP hD hS 0 rfl rfl 0 (by decide) (hts (.fieldLink RX12 85 "CutAtlasModel" "thrown" "I") (by decide +kernel)) (fun _ h9 => h9) rfl (by decide +kernel) rfl rfl (Nat.le_of_ble_eq_true rfl) dX12_read_2 (fun H locs hP hD hS => ?_)
  have hP : va_P D vwCl [(mo, .inr (12, [.int 0, .int 0, .long 0, .int 0, .int 0, .ref g5, .ref g6, .ref g7, .ref g8, .ref g9, .ref g10, .int 0, .ref g12, .ref g13, .ref g14, .ref g15, .ref g16, .ref g17, .ref g18, .ref g19, .ref g20, .int (-9), .ref g22, .ref g23, .ref g24, .int 0, .int 0, .int 0, .int 0, .ref g29, .ref g30, .ref g31, .ref g32, .ref g33])), (g15, .inl (cy 2, 4, .inl (fun _ => 0)))] H := hP
  have hD : va_D A [(mo, .inr (12, [.int 0, .int 0, .long 0, .int 0, .int 0, .ref g5, .ref g6, .ref g7, .ref g8, .ref g9, .ref g10, .int 0, .ref g12, .ref g13, .ref g14, .ref g15, .ref g16, .ref g17, .ref g18, .ref g19, .ref g20, .int (-9), .ref g22, .ref g23, .ref g24, .int 0, .int 0, .int 0, .int 0, .ref g29, .ref g30, .ref g31, .ref g32, .ref g33])), (g15, .inl (cy 2, 4, .inl (fun _ => 0)))] := hD
  refine lv_aload_n hx hb dX12_read_5 rfl (lv_at hl 0 rfl) ?_
  refine lv_iconst (v := 0) hx hb dX12_read_6 (by decide) ?_
  refine va_put (ci := 12) (v := .int 0) (ty := .int) (C := RX12) (T := TX12) (N := 34) hx hb hts (fun _ h => List.mem_cons_of_mem _ (List.mem_append_right _ h)) tyX12 tyX12_ok nmX12 hown hK.1 hP hD hS 0 rfl rfl 1 (by decide) (hts (.fieldLink RX12 240 "CutAtlasModel" "status" "I") (by decide +kernel)) (fun _ h9 => h9) rfl (by decide +kernel) rfl rfl (Nat.le_of_ble_eq_true rfl) dX12_read_7 (fun H locs hP hD hS => ?_)
  have hP : va_P D vwCl [(mo, .inr (12, [.int 0, .int 0, .long 0, .int 0, .int 0, .ref g5, .ref g6, .ref g7, .ref g8, .ref g9, .ref g10, .int 0, .ref g12, .ref g13, .ref g14, .ref g15, .ref g16, .ref g17, .ref g18, .ref g19, .ref g20, .int (-9), .ref g22, .ref g23, .ref g24, .int 0, .int 0, .int 0, .int 0, .ref g29, .ref g30, .ref g31, .ref g32, .ref g33])), (g15, .inl (cy 2, 4, .inl (fun _ => 0)))] H := hP
  have hD : va_D A [(mo, .inr (12, [.int 0, .int 0, .long 0, .int 0, .int 0, .ref g5, .ref g6, .ref g7, .ref g8, .ref g9, .ref g10, .int 0, .ref g12, .ref g13, .ref g14, .ref g15, .ref g16, .ref g17, .ref g18, .ref g19, .ref g20, .int (-9), .ref g22, .ref g23, .ref g24, .int 0, .int 0, .int 0, .int 0, .ref g29, .ref g30, .ref g31, .ref g32, .ref g33])), (g15, .inl (cy 2, 4, .inl (fun _ => 0)))] := hD
  refine lv_iload_n hx hb dX12_read_10 rfl (lv_at hl 1 rfl) ?_
  refine lv_i2l (v := a1.toInt64) hx hb dX12_read_11 rfl ?_
  have q_11 : (a1.toInt64).toInt = a1.toInt := Int32.toInt_toInt64 a1
  refine lv_lconst (v := 0) hx hb dX12_read_12 (by decide) ?_
  refine lv_ldc2 (v := 3) hx hb hown (hts (.constantLong RX12 243 (3)) (by decide +kernel)) dX12_read_13 ?_
  have hPc := hP.sub (ws' := []) [] rfl
  have hDc := hD.sub (ws' := []) [] (by decide) rfl
  have hDw : va_D (fun _ => True) [] := hDc.weaken (fun _ _ _ _ => trivial)
  have hFc := va_free (wc := []) hD hS hA [] rfl
  refine va_calli (va_runS (As := [.long a1.toInt64, .long 0, .long 3]) (rest := []) ⟨hx, hb, hml, hown, hts⟩ (c_X12_in l D cy H.size a1.toInt64 (0 : Int64) (3 : Int64)) (va_cwS 3 hts gX12_read_X12_in rfl rfl rfl (by decide +kernel) ⟨Nat.le_of_ble_eq_true rfl, Nat.le_of_ble_eq_true rfl⟩) ⟨bl_, fun U hU hW => ⟨rfl, by rw [hU], by rw [hU]; exact hPc, kk_mv hW hK, hDw⟩⟩ rfl rfl hl.1 rfl (lv_room (Nat.le_of_ble_eq_true rfl)) dX12_read_16 ⟨Nat.le_of_ble_eq_true rfl, Nat.le_of_ble_eq_true rfl⟩) hS (fun q _ h => hFc q h) hFc (fun r_1 u t H locs ht hvm hw hB hz1 hk1 hS => ?_)
  have hP := ro_keep hP hk1
  have hP : va_P D vwCl [(mo, .inr (12, [.int 0, .int 0, .long 0, .int 0, .int 0, .ref g5, .ref g6, .ref g7, .ref g8, .ref g9, .ref g10, .int 0, .ref g12, .ref g13, .ref g14, .ref g15, .ref g16, .ref g17, .ref g18, .ref g19, .ref g20, .int (-9), .ref g22, .ref g23, .ref g24, .int 0, .int 0, .int 0, .int 0, .ref g29, .ref g30, .ref g31, .ref g32, .ref g33])), (g15, .inl (cy 2, 4, .inl (fun _ => 0)))] H := hP
  rcases hw with ⟨w_2, e_⟩ | ⟨w_2, e_⟩
  · have e_ := e_.symm
    subst e_
    refine lv_if_ne (tgt := 28) hx hb dX12_read_19 (by decide) (fun c_3 => ?_) (fun c_3 => ?_)
    · have _ := c_3
      rcases sp_4 (x := a1) (by omega) with rfl | rfl | rfl | rfl
      · refine lv_aload_n hx hb dX12_read_28 rfl (lv_at hl 0 rfl) ?_
        refine va_get (ci := 12) (v := .ref g15) (C := RX12) (T := TX12) (N := 34) hx hb hts (fun _ h => List.mem_cons_of_mem _ (List.mem_append_right _ h)) hown hK.1 hP 0 rfl rfl 15 (by decide) (hts (.fieldLink RX12 38 "CutAtlasModel" "hasMap" "[Z") (by decide +kernel)) (fun _ h9 => h9) rfl dX12_read_29 ?_
        refine lv_iload_n hx hb dX12_read_32 rfl (lv_at hl 1 rfl) ?_
        refine va_zald hx hb hK.1 hP 1 2 rfl rfl (i := 0) (by unfold vp_in; decide) dX12_read_33 ?_
        refine lv_topv (v' := .int 0) rfl ?_
        refine lv_if_ne (tgt := 45) hx hb dX12_read_34 (by decide) (fun c_4 => ?_) (fun c_4 => ?_)
        · exact absurd c_4 (by decide)
        · have _ := c_4
          refine lv_aload_n hx hb dX12_read_37 rfl (lv_at hl 0 rfl) ?_
          refine lv_bipush (v := (-11)) hx hb dX12_read_38 (by decide) ?_
          refine va_put (ci := 12) (v := .int (-11)) (ty := .int) (C := RX12) (T := TX12) (N := 34) hx hb hts (fun _ h => List.mem_cons_of_mem _ (List.mem_append_right _ h)) tyX12 tyX12_ok nmX12 hown hK.1 hP hD hS 0 rfl rfl 1 (by decide) (hts (.fieldLink RX12 240 "CutAtlasModel" "status" "I") (by decide +kernel)) (fun _ h9 => h9) rfl (by decide +kernel) rfl rfl (Nat.le_of_ble_eq_true rfl) dX12_read_40 (fun H locs hP hD hS => ?_)
          have hP : va_P D vwCl [(mo, .inr (12, [.int 0, .int (-11), .long 0, .int 0, .int 0, .ref g5, .ref g6, .ref g7, .ref g8, .ref g9, .ref g10, .int 0, .ref g12, .ref g13, .ref g14, .ref g15, .ref g16, .ref g17, .ref g18, .ref g19, .ref g20, .int (-9), .ref g22, .ref g23, .ref g24, .int 0, .int 0, .int 0, .int 0, .ref g29, .ref g30, .ref g31, .ref g32, .ref g33])), (g15, .inl (cy 2, 4, .inl (fun _ => 0)))] H := hP
          have hD : va_D A [(mo, .inr (12, [.int 0, .int (-11), .long 0, .int 0, .int 0, .ref g5, .ref g6, .ref g7, .ref g8, .ref g9, .ref g10, .int 0, .ref g12, .ref g13, .ref g14, .ref g15, .ref g16, .ref g17, .ref g18, .ref g19, .ref g20, .int (-9), .ref g22, .ref g23, .ref g24, .int 0, .int 0, .int 0, .int 0, .ref g29, .ref g30, .ref g31, .ref g32, .ref g33])), (g15, .inl (cy 2, 4, .inl (fun _ => 0)))] := hD
          refine lv_iconst (v := 0) hx hb dX12_read_43 (by decide) ?_
          exact W.iret (v := 0) hx hb hr (fun t ht hW => ⟨⟨0, (), rfl, Or.inr (⟨by omega, rfl⟩), trivial⟩, hS.F ht⟩) hS.2.2 dX12_read_44
      · refine lv_aload_n hx hb dX12_read_28 rfl (lv_at hl 0 rfl) ?_
        refine va_get (ci := 12) (v := .ref g15) (C := RX12) (T := TX12) (N := 34) hx hb hts (fun _ h => List.mem_cons_of_mem _ (List.mem_append_right _ h)) hown hK.1 hP 0 rfl rfl 15 (by decide) (hts (.fieldLink RX12 38 "CutAtlasModel" "hasMap" "[Z") (by decide +kernel)) (fun _ h9 => h9) rfl dX12_read_29 ?_
        refine lv_iload_n hx hb dX12_read_32 rfl (lv_at hl 1 rfl) ?_
        refine va_zald hx hb hK.1 hP 1 2 rfl rfl (i := 1) (by unfold vp_in; decide) dX12_read_33 ?_
        refine lv_topv (v' := .int 0) rfl ?_
        refine lv_if_ne (tgt := 45) hx hb dX12_read_34 (by decide) (fun c_5 => ?_) (fun c_5 => ?_)
        · exact absurd c_5 (by decide)
        · have _ := c_5
          refine lv_aload_n hx hb dX12_read_37 rfl (lv_at hl 0 rfl) ?_
          refine lv_bipush (v := (-11)) hx hb dX12_read_38 (by decide) ?_
          refine va_put (ci := 12) (v := .int (-11)) (ty := .int) (C := RX12) (T := TX12) (N := 34) hx hb hts (fun _ h => List.mem_cons_of_mem _ (List.mem_append_right _ h)) tyX12 tyX12_ok nmX12 hown hK.1 hP hD hS 0 rfl rfl 1 (by decide) (hts (.fieldLink RX12 240 "CutAtlasModel" "status" "I") (by decide +kernel)) (fun _ h9 => h9) rfl (by decide +kernel) rfl rfl (Nat.le_of_ble_eq_true rfl) dX12_read_40 (fun H locs hP hD hS => ?_)
          have hP : va_P D vwCl [(mo, .inr (12, [.int 0, .int (-11), .long 0, .int 0, .int 0, .ref g5, .ref g6, .ref g7, .ref g8, .ref g9, .ref g10, .int 0, .ref g12, .ref g13, .ref g14, .ref g15, .ref g16, .ref g17, .ref g18, .ref g19, .ref g20, .int (-9), .ref g22, .ref g23, .ref g24, .int 0, .int 0, .int 0, .int 0, .ref g29, .ref g30, .ref g31, .ref g32, .ref g33])), (g15, .inl (cy 2, 4, .inl (fun _ => 0)))] H := hP
          have hD : va_D A [(mo, .inr (12, [.int 0, .int (-11), .long 0, .int 0, .int 0, .ref g5, .ref g6, .ref g7, .ref g8, .ref g9, .ref g10, .int 0, .ref g12, .ref g13, .ref g14, .ref g15, .ref g16, .ref g17, .ref g18, .ref g19, .ref g20, .int (-9), .ref g22, .ref g23, .ref g24, .int 0, .int 0, .int 0, .int 0, .ref g29, .ref g30, .ref g31, .ref g32, .ref g33])), (g15, .inl (cy 2, 4, .inl (fun _ => 0)))] := hD
          refine lv_iconst (v := 0) hx hb dX12_read_43 (by decide) ?_
          exact W.iret (v := 0) hx hb hr (fun t ht hW => ⟨⟨0, (), rfl, Or.inr (⟨by omega, rfl⟩), trivial⟩, hS.F ht⟩) hS.2.2 dX12_read_44
      · refine lv_aload_n hx hb dX12_read_28 rfl (lv_at hl 0 rfl) ?_
        refine va_get (ci := 12) (v := .ref g15) (C := RX12) (T := TX12) (N := 34) hx hb hts (fun _ h => List.mem_cons_of_mem _ (List.mem_append_right _ h)) hown hK.1 hP 0 rfl rfl 15 (by decide) (hts (.fieldLink RX12 38 "CutAtlasModel" "hasMap" "[Z") (by decide +kernel)) (fun _ h9 => h9) rfl dX12_read_29 ?_
        refine lv_iload_n hx hb dX12_read_32 rfl (lv_at hl 1 rfl) ?_
        refine va_zald hx hb hK.1 hP 1 2 rfl rfl (i := 2) (by unfold vp_in; decide) dX12_read_33 ?_
        refine lv_topv (v' := .int 0) rfl ?_
        refine lv_if_ne (tgt := 45) hx hb dX12_read_34 (by decide) (fun c_6 => ?_) (fun c_6 => ?_)
        · exact absurd c_6 (by decide)
        · have _ := c_6
          refine lv_aload_n hx hb dX12_read_37 rfl (lv_at hl 0 rfl) ?_
          refine lv_bipush (v := (-11)) hx hb dX12_read_38 (by decide) ?_
          refine va_put (ci := 12) (v := .int (-11)) (ty := .int) (C := RX12) (T := TX12) (N := 34) hx hb hts (fun _ h => List.mem_cons_of_mem _ (List.mem_append_right _ h)) tyX12 tyX12_ok nmX12 hown hK.1 hP hD hS 0 rfl rfl 1 (by decide) (hts (.fieldLink RX12 240 "CutAtlasModel" "status" "I") (by decide +kernel)) (fun _ h9 => h9) rfl (by decide +kernel) rfl rfl (Nat.le_of_ble_eq_true rfl) dX12_read_40 (fun H locs hP hD hS => ?_)
          have hP : va_P D vwCl [(mo, .inr (12, [.int 0, .int (-11), .long 0, .int 0, .int 0, .ref g5, .ref g6, .ref g7, .ref g8, .ref g9, .ref g10, .int 0, .ref g12, .ref g13, .ref g14, .ref g15, .ref g16, .ref g17, .ref g18, .ref g19, .ref g20, .int (-9), .ref g22, .ref g23, .ref g24, .int 0, .int 0, .int 0, .int 0, .ref g29, .ref g30, .ref g31, .ref g32, .ref g33])), (g15, .inl (cy 2, 4, .inl (fun _ => 0)))] H := hP
          have hD : va_D A [(mo, .inr (12, [.int 0, .int (-11), .long 0, .int 0, .int 0, .ref g5, .ref g6, .ref g7, .ref g8, .ref g9, .ref g10, .int 0, .ref g12, .ref g13, .ref g14, .ref g15, .ref g16, .ref g17, .ref g18, .ref g19, .ref g20, .int (-9), .ref g22, .ref g23, .ref g24, .int 0, .int 0, .int 0, .int 0, .ref g29, .ref g30, .ref g31, .ref g32, .ref g33])), (g15, .inl (cy 2, 4, .inl (fun _ => 0)))] := hD
          refine lv_iconst (v := 0) hx hb dX12_read_43 (by decide) ?_
          exact W.iret (v := 0) hx hb hr (fun t ht hW => ⟨⟨0, (), rfl, Or.inr (⟨by omega, rfl⟩), trivial⟩, hS.F ht⟩) hS.2.2 dX12_read_44
      · refine lv_aload_n hx hb dX12_read_28 rfl (lv_at hl 0 rfl) ?_
        refine va_get (ci := 12) (v := .ref g15) (C := RX12) (T := TX12) (N := 34) hx hb hts (fun _ h => List.mem_cons_of_mem _ (List.mem_append_right _ h)) hown hK.1 hP 0 rfl rfl 15 (by decide) (hts (.fieldLink RX12 38 "CutAtlasModel" "hasMap" "[Z") (by decide +kernel)) (fun _ h9 => h9) rfl dX12_read_29 ?_
        refine lv_iload_n hx hb dX12_read_32 rfl (lv_at hl 1 rfl) ?_
        refine va_zald hx hb hK.1 hP 1 2 rfl rfl (i := 3) (by unfold vp_in; decide) dX12_read_33 ?_
        refine lv_topv (v' := .int 0) rfl ?_
        refine lv_if_ne (tgt := 45) hx hb dX12_read_34 (by decide) (fun c_7 => ?_) (fun c_7 => ?_)
        · exact absurd c_7 (by decide)
        · have _ := c_7
          refine lv_aload_n hx hb dX12_read_37 rfl (lv_at hl 0 rfl) ?_
          refine lv_bipush (v := (-11)) hx hb dX12_read_38 (by decide) ?_
          refine va_put (ci := 12) (v := .int (-11)) (ty := .int) (C := RX12) (T := TX12) (N := 34) hx hb hts (fun _ h => List.mem_cons_of_mem _ (List.mem_append_right _ h)) tyX12 tyX12_ok nmX12 hown hK.1 hP hD hS 0 rfl rfl 1 (by decide) (hts (.fieldLink RX12 240 "CutAtlasModel" "status" "I") (by decide +kernel)) (fun _ h9 => h9) rfl (by decide +kernel) rfl rfl (Nat.le_of_ble_eq_true rfl) dX12_read_40 (fun H locs hP hD hS => ?_)
          have hP : va_P D vwCl [(mo, .inr (12, [.int 0, .int (-11), .long 0, .int 0, .int 0, .ref g5, .ref g6, .ref g7, .ref g8, .ref g9, .ref g10, .int 0, .ref g12, .ref g13, .ref g14, .ref g15, .ref g16, .ref g17, .ref g18, .ref g19, .ref g20, .int (-9), .ref g22, .ref g23, .ref g24, .int 0, .int 0, .int 0, .int 0, .ref g29, .ref g30, .ref g31, .ref g32, .ref g33])), (g15, .inl (cy 2, 4, .inl (fun _ => 0)))] H := hP
          have hD : va_D A [(mo, .inr (12, [.int 0, .int (-11), .long 0, .int 0, .int 0, .ref g5, .ref g6, .ref g7, .ref g8, .ref g9, .ref g10, .int 0, .ref g12, .ref g13, .ref g14, .ref g15, .ref g16, .ref g17, .ref g18, .ref g19, .ref g20, .int (-9), .ref g22, .ref g23, .ref g24, .int 0, .int 0, .int 0, .int 0, .ref g29, .ref g30, .ref g31, .ref g32, .ref g33])), (g15, .inl (cy 2, 4, .inl (fun _ => 0)))] := hD
          refine lv_iconst (v := 0) hx hb dX12_read_43 (by decide) ?_
          exact W.iret (v := 0) hx hb hr (fun t ht hW => ⟨⟨0, (), rfl, Or.inr (⟨by omega, rfl⟩), trivial⟩, hS.F ht⟩) hS.2.2 dX12_read_44
    · exact absurd c_3 (by decide)
  · have e_ := e_.symm
    subst e_
    refine lv_if_ne (tgt := 28) hx hb dX12_read_19 (by decide) (fun c_8 => ?_) (fun c_8 => ?_)
    · exact absurd c_8 (by decide)
    · have _ := c_8
      refine lv_aload_n hx hb dX12_read_22 rfl (lv_at hl 0 rfl) ?_
      refine lv_iconst (v := (-1)) hx hb dX12_read_23 (by decide) ?_
      have hPc := hP.sub (ws' := [(mo, .inr (12, [.int 0, .int 0, .long 0, .int 0, .int 0, .ref g5, .ref g6, .ref g7, .ref g8, .ref g9, .ref g10, .int 0, .ref g12, .ref g13, .ref g14, .ref g15, .ref g16, .ref g17, .ref g18, .ref g19, .ref g20, .int (-9), .ref g22, .ref g23, .ref g24, .int 0, .int 0, .int 0, .int 0, .ref g29, .ref g30, .ref g31, .ref g32, .ref g33]))]) [0] rfl
      have hDc := hD.sub (ws' := [(mo, .inr (12, [.int 0, .int 0, .long 0, .int 0, .int 0, .ref g5, .ref g6, .ref g7, .ref g8, .ref g9, .ref g10, .int 0, .ref g12, .ref g13, .ref g14, .ref g15, .ref g16, .ref g17, .ref g18, .ref g19, .ref g20, .int (-9), .ref g22, .ref g23, .ref g24, .int 0, .int 0, .int 0, .int 0, .ref g29, .ref g30, .ref g31, .ref g32, .ref g33]))]) [0] (by decide) rfl
      have hDw : va_D (fun _ => True) [(mo, .inr (12, [.int 0, .int 0, .long 0, .int 0, .int 0, .ref g5, .ref g6, .ref g7, .ref g8, .ref g9, .ref g10, .int 0, .ref g12, .ref g13, .ref g14, .ref g15, .ref g16, .ref g17, .ref g18, .ref g19, .ref g20, .int (-9), .ref g22, .ref g23, .ref g24, .int 0, .int 0, .int 0, .int 0, .ref g29, .ref g30, .ref g31, .ref g32, .ref g33]))] := hDc.weaken (fun _ _ _ _ => trivial)
      have hFc := va_free (wc := [(mo, .inr (12, [.int 0, .int 0, .long 0, .int 0, .int 0, .ref g5, .ref g6, .ref g7, .ref g8, .ref g9, .ref g10, .int 0, .ref g12, .ref g13, .ref g14, .ref g15, .ref g16, .ref g17, .ref g18, .ref g19, .ref g20, .int (-9), .ref g22, .ref g23, .ref g24, .int 0, .int 0, .int 0, .int 0, .ref g29, .ref g30, .ref g31, .ref g32, .ref g33]))]) hD hS hA [0] rfl
      refine va_calli (va_runV (As := [.int (-1)]) (rest := []) ⟨hx, hb, hml, hown, hts⟩ (c_X12_no l D cy H.size mo g5 g6 g7 g8 g9 g10 g12 g13 g14 g15 g16 g17 g18 g19 g20 g22 g23 g24 g29 g30 g31 g32 g33 ((-1) : Int32)) (cwV 1 hts gX12_read_X12_no rfl rfl rfl (by decide +kernel) ⟨Nat.le_of_ble_eq_true rfl, Nat.le_of_ble_eq_true rfl⟩) ⟨bl_, va_recv hK.1 hPc (ci := 12) (q0 := 0) rfl rfl, fun U hU hW => ⟨rfl, by rw [hU], by rw [hU]; exact hPc, kk_mv hW hK, hDw⟩⟩ rfl rfl hl.1 rfl (lv_room (Nat.le_of_ble_eq_true rfl)) dX12_read_24 ⟨Nat.le_of_ble_eq_true rfl, Nat.le_of_ble_eq_true rfl⟩) hS (fun q _ h => hFc q h) hFc (fun r_9 u t H locs ht hvm hw hB hz1 hk1 hS => ?_)
      obtain ⟨hP, hD⟩ := va_join (wr := [(g15, .inl (cy 2, 4, .inl (fun _ => 0)))]) (w1 := []) hP hD [0] [1] rfl rfl (by decide) (by decide) hk1 hFc pp_nil dd_nil
      have hP : va_P D vwCl [(g15, .inl (cy 2, 4, .inl (fun _ => 0)))] H := hP
      have hD : va_D A [(g15, .inl (cy 2, 4, .inl (fun _ => 0)))] := hD
      have e_ := hw.symm
      subst e_
      exact W.iret (v := ((-1) : Int32)) hx hb hr (fun t ht hW => ⟨⟨((-1) : Int32), (), rfl, by first | exact Or.inl (⟨by omega, rfl⟩) | exact Or.inr (⟨by omega, rfl⟩), trivial⟩, hS.F ht⟩) hS.2.2 dX12_read_27
