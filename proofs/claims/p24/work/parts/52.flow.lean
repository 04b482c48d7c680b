section
set_option maxHeartbeats 4000000 in
set_option maxRecDepth 100000 in
theorem c_X12_flow (l : Launch) (D : va_G) (cy : Nat → ClassId) (sz : Nat) (mo : Nat) (g5 : Nat) (g6 : Nat) (g7 : Nat) (g8 : Nat) (g9 : Nat) (g10 : Nat) (g12 : Nat) (g13 : Nat) (g14 : Nat) (g15 : Nat) (g16 : Nat) (g17 : Nat) (g18 : Nat) (g19 : Nat) (g20 : Nat) (g22 : Nat) (g23 : Nat) (g24 : Nat) (g29 : Nat) (g30 : Nat) (g31 : Nat) (g32 : Nat) (g33 : Nat) (s0 : Int32) (s1 : Int32) (s3 : Int32) (s4 : Int32) (s11 : Int32) (s21 : Int32) (s25 : Int32) (s26 : Int32) (s27 : Int32) (s28 : Int32) (t2 : Int64) (f5 : Nat → Int32) (f6 : Nat → Int32) (f7 : Nat → Int32) (f8 : Nat → Int32) (f10 : Nat → Int32) (f22 : Nat → Int32) (f23 : Nat → Int32) (f24 : Nat → Int32) (a1 : Int32) (a2 : Int32) (a3 : Int32) (hN : 0 ≤ s4.toInt ∧ s4.toInt ≤ 40) (hPl : 0 ≤ s3.toInt ∧ s3.toInt ≤ 12) (h21 : s21.toInt = -9) (r_f8 : rng f8 40 (0) (2000)) (r_f23 : rng f23 12 (0) (11)) (r_f24 : rng f24 12 (0) (11)) : Met l yX12_flow wsX12_flow ({ frames := 6, cells := 0, slots := 0, locals := 146 }) (va_Pc [.ref mo, .int a1, .int a2, .int a3] (fun U => U.heap.size = sz ∧ va_P D vwCl [ob12_0_ mo s0 s1 t2 s3 s4 g5 g6 g7 g8 g9 g10 s11 g12 g13 g14 g15 g16 g17 g18 g19 g20 s21 g22 g23 g24 s25 s26 s27 s28 g29 g30 g31 g32 g33, ai_ cy g5 40 f5, ai_ cy g6 40 f6, ai_ cy g7 40 f7, ai_ cy g8 40 f8, az_ cy g10 40 f10, ai_ cy g22 40 f22, ai_ cy g23 12 f23, ai_ cy g24 12 f24] U.heap ∧ kk_ D cy U ∧ va_D (fun _ => True) [ob12_0_ mo s0 s1 t2 s3 s4 g5 g6 g7 g8 g9 g10 s11 g12 g13 g14 g15 g16 g17 g18 g19 g20 s21 g22 g23 g24 s25 s26 s27 s28 g29 g30 g31 g32 g33, ai_ cy g5 40 f5, ai_ cy g6 40 f6, ai_ cy g7 40 f7, ai_ cy g8 40 f8, az_ cy g10 40 f10, ai_ cy g22 40 f22, ai_ cy g23 12 f23, ai_ cy g24 12 f24])) (va_Qi (fun (r : Int32) (_ : Unit) => True) (fun (_ : Unit) (t : State) => ∃ (e22 : Nat → Int32), ∃ (e23 : Nat → Int32), ∃ (e24 : Nat → Int32), (rng e23 12 (0) (11)) ∧ (rng e24 12 (0) (11)) ∧ va_P D vwCl [ob12_0_ mo 0 s1 t2 s3 s4 g5 g6 g7 g8 g9 g10 s11 g12 g13 g14 g15 g16 g17 g18 g19 g20 s21 g22 g23 g24 s25 s26 s27 s28 g29 g30 g31 g32 g33, ai_ cy g5 40 f5, ai_ cy g6 40 f6, ai_ cy g7 40 f7, ai_ cy g8 40 f8, az_ cy g10 40 f10, ai_ cy g22 40 e22, ai_ cy g23 12 e23, ai_ cy g24 12 e24] t.heap ∧ va_D (va_A [ob12_0_ mo s0 s1 t2 s3 s4 g5 g6 g7 g8 g9 g10 s11 g12 g13 g14 g15 g16 g17 g18 g19 g20 s21 g22 g23 g24 s25 s26 s27 s28 g29 g30 g31 g32 g33, ai_ cy g5 40 f5, ai_ cy g6 40 f6, ai_ cy g7 40 f7, ai_ cy g8 40 f8, az_ cy g10 40 f10, ai_ cy g22 40 f22, ai_ cy g23 12 f23, ai_ cy g24 12 f24] sz) [ob12_0_ mo 0 s1 t2 s3 s4 g5 g6 g7 g8 g9 g10 s11 g12 g13 g14 g15 g16 g17 g18 g19 g20 s21 g22 g23 g24 s25 s26 s27 s28 g29 g30 g31 g32 g33, ai_ cy g5 40 f5, ai_ cy g6 40 f6, ai_ cy g7 40 f7, ai_ cy g8 40 f8, az_ cy g10 40 f10, ai_ cy g22 40 e22, ai_ cy g23 12 e23, ai_ cy g24 12 e24]) (va_A [ob12_0_ mo s0 s1 t2 s3 s4 g5 g6 g7 g8 g9 g10 s11 g12 g13 g14 g15 g16 g17 g18 g19 g20 s21 g22 g23 g24 s25 s26 s27 s28 g29 g30 g31 g32 g33, ai_ cy g5 40 f5, ai_ cy g6 40 f6, ai_ cy g7 40 f7, ai_ cy g8 40 f8, az_ cy g10 40 f10, ai_ cy g22 40 f22, ai_ cy g23 12 f23, ai_ cy g24 12 f24] sz)) 0 0 (va_A [ob12_0_ mo s0 s1 t2 s3 s4 g5 g6 g7 g8 g9 g10 s11 g12 g13 g14 g15 g16 g17 g18 g19 g20 s21 g22 g23 g24 s25 s26 s27 s28 g29 g30 g31 g32 g33, ai_ cy g5 40 f5, ai_ cy g6 40 f6, ai_ cy g7 40 f7, ai_ cy g8 40 f8, az_ cy g10 40 f10, ai_ cy g22 40 f22, ai_ cy g23 12 f23, ai_ cy g24 12 f24] sz) := by
  refine ofQ (cc := cX12_flow) (maxL := 4) (ret := (some .int)) (by decide) rfl ?_
  intro p e s m args below meth c s₁ Q hQ B hml hv
  obtain ⟨rfl, hsz, hP, hK, hD0⟩ := hv
  have hx := B.exec
  have hb := B.bytes
  have hr := B.returns
  have hts := atoms_spec (ws := wsX12_flow) B.pre
  have hown : s.vm.findClass RX12 = some m.cls := by have h_ := findClass_of_methodNamed B.named; exact h_
  have hlocks := B.notSynchronized
  subst hsz
  have hD := hD0.self (sz := s.heap.size)
  generalize hAe : va_A [ob12_0_ mo s0 s1 t2 s3 s4 g5 g6 g7 g8 g9 g10 s11 g12 g13 g14 g15 g16 g17 g18 g19 g20 s21 g22 g23 g24 s25 s26 s27 s28 g29 g30 g31 g32 g33, ai_ cy g5 40 f5, ai_ cy g6 40 f6, ai_ cy g7 40 f7, ai_ cy g8 40 f8, az_ cy g10 40 f10, ai_ cy g22 40 f22, ai_ cy g23 12 f23, ai_ cy g24 12 f24] s.heap.size = A at hD hQ
  have hA : ∀ q : Nat, s.heap.size ≤ q → A q := fun q h => by rw [← hAe]; exact Or.inr h
  have hS : va_S A s.heap s.heap [] := va_S.rf
  have hl := lv_entry ([.ref mo, .int a1, .int a2, .int a3]) (n := 4) (Nat.le_of_ble_eq_true rfl)
  rw [lg_entry_eq]
  generalize (lg_sl ([.ref mo, .int a1, .int a2, .int a3]) ++ List.replicate (4 - (lg_sl ([.ref mo, .int a1, .int a2, .int a3])).length) Slot.unset).toArray = ls at hl ⊢
  have hl : lv_has ls 4 [(0, .ref mo), (1, .int a1), (2, .int a2), (3, .int a3)] := hl
  have zm1000000 : ((-1000000) : Int32).toInt = -1000000 := by decide
  have z0 : (0 : Int32).toInt = 0 := by decide
  have z1000000 : (1000000 : Int32).toInt = 1000000 := by decide
  refine lv_aload_n hx hb dB_3_1_19.1.1.1.1 rfl (lv_at hl 0 rfl) ?_
  refine lv_iconst (v := 0) hx hb dB_3_1_19.1.1.1.2 (by decide) ?_
  refine va_put (ci := 12) (v := .int 0) (ty := .int) (C := RX12) (T := TX12) (N := 34) hx hb hts (fun _ h => List.mem_cons_of_mem _ (List.mem_append_right _ h)) tyX12 tyX12_ok nmX12 hown hK.1 hP hD hS 0 rfl rfl 0 (by decide) (hts (.fieldLink RX12 85 "CutAtlasModel" "thrown" "I") (List.mem_of_getElem? (i := 1) rfl)) (fun _ h9 => h9) rfl (by decide +kernel) rfl rfl (Nat.le_of_ble_eq_true rfl) dB_3_1_19.1.1.2.1 (fun H locs hP hD hS => ?_)
  refine pd_K [ob12_0_ mo 0 s1 t2 s3 s4 g5 g6 g7 g8 g9 g10 s11 g12 g13 g14 g15 g16 g17 g18 g19 g20 s21 g22 g23 g24 s25 s26 s27 s28 g29 g30 g31 g32 g33, ai_ cy g5 40 f5, ai_ cy g6 40 f6, ai_ cy g7 40 f7, ai_ cy g8 40 f8, az_ cy g10 40 f10, ai_ cy g22 40 f22, ai_ cy g23 12 f23, ai_ cy g24 12 f24] hP hD (fun hP hD => ?_)
  refine lv_aload_n hx hb dB_3_1_19.1.1.2.2 rfl (lv_at hl 0 rfl) ?_
  refine lv_iload_n hx hb dB_3_1_19.1.2.1.1 rfl (lv_at hl 1 rfl) ?_
  refine lv_iload_n hx hb dB_3_1_19.1.2.1.2 rfl (lv_at hl 2 rfl) ?_
  refine ct_R hP hD [ob12_0_ mo 0 s1 t2 s3 s4 g5 g6 g7 g8 g9 g10 s11 g12 g13 g14 g15 g16 g17 g18 g19 g20 s21 g22 g23 g24 s25 s26 s27 s28 g29 g30 g31 g32 g33] [0] (by decide) rfl (fun hPc hDw => ?_)
  have hFc := va_free (wc := []) hD hS hA [] rfl
  refine va_calli (va_runV (As := [.int a1, .int a2]) (rest := []) ⟨hx, hb, hml, hown, hts⟩ (c_X12_arePlaces l D cy H.size mo g5 g6 g7 g8 g9 g10 g12 g13 g14 g15 g16 g17 g18 g19 g20 g22 g23 g24 g29 g30 g31 g32 g33 (0 : Int32) s1 s3 s4 s11 s21 s25 s26 s27 s28 t2 a1 a2 (by first | with_reducible assumption | omega | assumption)) (cwV 2 hts gX12_flow_X12_arePlaces rfl rfl rfl ⟨rfl, hd_X12_arePlaces⟩ ⟨Nat.le_of_ble_eq_true rfl, Nat.le_of_ble_eq_true rfl⟩) ⟨bl_, va_recvX hK.1 hP (ci := 12) (q0 := 0) rfl rfl, fun U hU hW => ⟨rfl, by rw [hU], by rw [hU]; exact hPc, kk_mv hW hK, hDw⟩⟩ rfl rfl hl.1 rfl (lv_room (Nat.le_of_ble_eq_true rfl)) dB_3_1_19.1.2.2.1 ⟨Nat.le_of_ble_eq_true rfl, Nat.le_of_ble_eq_true rfl⟩) hS (fun q _ h => hFc q h) hFc (fun r_1 u t H locs ht hvm hw hB hz1 hk1 hS => ?_)
  have hP : va_P D vwCl _ H := ro_keep hP hk1
  rcases hw with ⟨w_2, e_⟩ | ⟨w_2, e_⟩
  · have e_ := e_.symm
    subst e_
    refine lv_if_eq (tgt := 42) hx hb dB_3_1_19.1.2.2.2 (by decide) (fun c_3 => ?_) (fun c_3 => ?_)
    · exact absurd c_3 (by decide)
    · have _ := c_3
      refine lv_aload_n hx hb dB_3_1_19.2.1.1.1 rfl (lv_at hl 0 rfl) ?_
      refine lv_iload_n hx hb dB_3_1_19.2.1.1.2 rfl (lv_at hl 3 rfl) ?_
      refine ct_R hP hD [ob12_0_ mo 0 s1 t2 s3 s4 g5 g6 g7 g8 g9 g10 s11 g12 g13 g14 g15 g16 g17 g18 g19 g20 s21 g22 g23 g24 s25 s26 s27 s28 g29 g30 g31 g32 g33] [0] (by decide) rfl (fun hPc hDw => ?_)
      have hFc := va_free (wc := []) hD hS hA [] rfl
      refine va_calli (va_runV (As := [.int a3]) (rest := []) ⟨hx, hb, hml, hown, hts⟩ (c_X12_isLine l D cy H.size mo g5 g6 g7 g8 g9 g10 g12 g13 g14 g15 g16 g17 g18 g19 g20 g22 g23 g24 g29 g30 g31 g32 g33 (0 : Int32) s1 s3 s4 s11 s21 s25 s26 s27 s28 t2 a3 (by first | with_reducible assumption | omega | assumption)) (cwV 1 hts gX12_flow_X12_isLine rfl rfl rfl ⟨rfl, hd_X12_isLine⟩ ⟨Nat.le_of_ble_eq_true rfl, Nat.le_of_ble_eq_true rfl⟩) ⟨bl_, va_recvX hK.1 hP (ci := 12) (q0 := 0) rfl rfl, fun U hU hW => ⟨rfl, by rw [hU], by rw [hU]; exact hPc, kk_mv hW hK, hDw⟩⟩ rfl rfl hl.1 rfl (lv_room (Nat.le_of_ble_eq_true rfl)) dB_3_1_19.2.1.2.1 ⟨Nat.le_of_ble_eq_true rfl, Nat.le_of_ble_eq_true rfl⟩) hS (fun q _ h => hFc q h) hFc (fun r_4 u t H locs ht hvm hw hB hz1 hk1 hS => ?_)
      have hP : va_P D vwCl _ H := ro_keep hP hk1
      rcases hw with ⟨w_5, e_⟩ | ⟨w_5, e_⟩
      · have e_ := e_.symm
        subst e_
        refine lv_if_eq (tgt := 42) hx hb dB_3_1_19.2.1.2.2 (by decide) (fun c_6 => ?_) (fun c_6 => ?_)
        · exact absurd c_6 (by decide)
        · have _ := c_6
          refine lv_aload_n hx hb dB_3_1_19.2.2.1.1 rfl (lv_at hl 0 rfl) ?_
          refine va_get (ci := 12) (v := .ref g10) (C := RX12) (T := TX12) (N := 34) hx hb hts (fun _ h => List.mem_cons_of_mem _ (List.mem_append_right _ h)) hown hK.1 hP 0 rfl rfl 10 (by decide) (hts (.fieldLink RX12 25 "CutAtlasModel" "isMissing" "[Z") (List.mem_of_getElem? (i := 2) rfl)) (fun _ h9 => h9) rfl dB_3_1_19.2.2.1.2 ?_
          refine lv_iload_n hx hb dB_3_1_19.2.2.2.1 rfl (lv_at hl 3 rfl) ?_
          have h_7 : vp_in a3 40 := in_I (by first | with_reducible assumption | omega) (by omega)
          refine va_zald hx hb hK.1 hP 5 2 rfl rfl (i := a3) h_7 dB_3_1_19.2.2.2.2 ?_
          refine lv_topi (fun y_8 ey_8 => ?_)
          refine lv_if_ne (tgt := 42) hx hb dB_3_1_20.1.1.1.1 (by decide) (fun c_9 => ?_) (fun c_9 => ?_)
          · have t_9 : ¬ y_8.toInt = (0 : Int32).toInt := fun h => c_9 (Int32.toInt_inj.mp h)
            refine lv_ldc (v := (-1000000)) hx hb hown (hts (.constant RX12 187 (-1000000)) (List.mem_of_getElem? (i := 4) rfl)) dB_3_1_20.1.2.2.2 ?_
            rw [hQ]
            exact W.iret (v := (-1000000)) hx hb hr (fun t ht hW => ⟨⟨(-1000000), (), rfl, trivial, f22, f23, f24, (by first | with_reducible assumption | assumption | exact rng_zero (by omega) (by omega) | omega), (by first | with_reducible assumption | assumption | exact rng_zero (by omega) (by omega) | omega), by rw [ht]; exact hP, hD⟩, hS.F ht⟩) hS.2.2 dB_3_1_20.2.1.1.1
          · have t_9 : y_8.toInt = (0 : Int32).toInt := congrArg Int32.toInt c_9
            refine lv_aload_n hx hb dB_3_1_20.1.1.1.2 rfl (lv_at hl 0 rfl) ?_
            refine lv_iload_n hx hb dB_3_1_20.1.1.2.1 rfl (lv_at hl 1 rfl) ?_
            refine lv_iload_n hx hb dB_3_1_20.1.1.2.2 rfl (lv_at hl 2 rfl) ?_
            refine ct_R hP hD [ob12_0_ mo 0 s1 t2 s3 s4 g5 g6 g7 g8 g9 g10 s11 g12 g13 g14 g15 g16 g17 g18 g19 g20 s21 g22 g23 g24 s25 s26 s27 s28 g29 g30 g31 g32 g33, ai_ cy g5 40 f5, ai_ cy g6 40 f6, ai_ cy g7 40 f7, ai_ cy g8 40 f8, az_ cy g10 40 f10] [0, 1, 2, 3, 4, 5] (by decide) rfl (fun hPc hDw => ?_)
            have hFc := va_free (wc := []) hD hS hA [] rfl
            refine va_calli (va_runV (As := [.int a1, .int a2]) (rest := []) ⟨hx, hb, hml, hown, hts⟩ (c_X12_mostOf l D cy H.size mo g5 g6 g7 g8 g9 g10 g12 g13 g14 g15 g16 g17 g18 g19 g20 g22 g23 g24 g29 g30 g31 g32 g33 (0 : Int32) s1 s3 s4 s11 s21 s25 s26 s27 s28 t2 f5 f6 f7 f8 f10 a1 a2 (by first | with_reducible assumption | omega | assumption) (by first | with_reducible assumption | omega | assumption)) (cwV 2 hts gX12_flow_X12_mostOf rfl rfl rfl ⟨rfl, hd_X12_mostOf⟩ ⟨Nat.le_of_ble_eq_true rfl, Nat.le_of_ble_eq_true rfl⟩) ⟨bl_, va_recvX hK.1 hP (ci := 12) (q0 := 0) rfl rfl, fun U hU hW => ⟨rfl, by rw [hU], by rw [hU]; exact hPc, kk_mv hW hK, hDw⟩⟩ rfl rfl hl.1 rfl (lv_room (Nat.le_of_ble_eq_true rfl)) dB_3_1_20.1.2.1.1 ⟨Nat.le_of_ble_eq_true rfl, Nat.le_of_ble_eq_true rfl⟩) hS (fun q _ h => hFc q h) hFc (fun r_10 u t H locs ht hvm hw hB hz1 hk1 hS => ?_)
            have hP : va_P D vwCl _ H := ro_keep hP hk1
            refine lv_ldc (v := 1000000) hx hb hown (hts (.constant RX12 159 (1000000)) (List.mem_of_getElem? (i := 3) rfl)) dB_3_1_20.1.2.1.2 ?_
            refine lv_icmp_ne (tgt := 45) hx hb dB_3_1_20.1.2.2.1 (by decide) (fun c_11 => ?_) (fun c_11 => ?_)
            · have t_11 : ¬ r_10.toInt = (1000000 : Int32).toInt := fun h => c_11 (Int32.toInt_inj.mp h)
              refine lv_aload_n hx hb dB_3_1_20.2.1.1.2 rfl (lv_at hl 0 rfl) ?_
              refine lv_iload_n hx hb dB_3_1_20.2.1.2.1 rfl (lv_at hl 1 rfl) ?_
              refine lv_iload_n hx hb dB_3_1_20.2.1.2.2 rfl (lv_at hl 2 rfl) ?_
              refine ct_S hP hD hS hA [ob12_0_ mo 0 s1 t2 s3 s4 g5 g6 g7 g8 g9 g10 s11 g12 g13 g14 g15 g16 g17 g18 g19 g20 s21 g22 g23 g24 s25 s26 s27 s28 g29 g30 g31 g32 g33, ai_ cy g5 40 f5, ai_ cy g6 40 f6, ai_ cy g7 40 f7, ai_ cy g8 40 f8, az_ cy g10 40 f10, ai_ cy g22 40 f22, ai_ cy g23 12 f23, ai_ cy g24 12 f24] [0, 1, 2, 3, 4, 5, 6, 7, 8] (by decide) rfl (fun hPc hDw hFc hC_ => ?_)
              refine va_callv (va_runV (As := [.int a1, .int a2]) (rest := []) ⟨hx, hb, hml, hown, hts⟩ (c_X12_flowOf l D cy H.size mo g5 g6 g7 g8 g9 g10 g12 g13 g14 g15 g16 g17 g18 g19 g20 g22 g23 g24 g29 g30 g31 g32 g33 (0 : Int32) s1 s3 s4 s11 s21 s25 s26 s27 s28 t2 f5 f6 f7 f8 f10 f22 f23 f24 a1 a2 (by first | with_reducible assumption | omega | assumption) (by first | with_reducible assumption | omega | assumption) (by first | with_reducible assumption | omega | assumption) (by first | with_reducible assumption | omega | assumption) (by first | with_reducible assumption | omega | assumption) (by first | with_reducible assumption | assumption | omega) (by first | with_reducible assumption | assumption | omega) (by first | with_reducible assumption | assumption | omega) (by first | with_reducible assumption | assumption | omega)) (cwV 2 hts gX12_flow_X12_flowOf rfl rfl rfl ⟨rfl, hd_X12_flowOf⟩ ⟨Nat.le_of_ble_eq_true rfl, Nat.le_of_ble_eq_true rfl⟩) ⟨bl_, va_recvX hK.1 hP (ci := 12) (q0 := 0) rfl rfl, fun U hU hW => ⟨rfl, by rw [hU], by rw [hU]; exact hPc, kk_mv hW hK, hDw⟩⟩ rfl rfl hl.1 rfl (lv_room (Nat.le_of_ble_eq_true rfl)) dB_3_1_20.2.2.1.1 ⟨Nat.le_of_ble_eq_true rfl, Nat.le_of_ble_eq_true rfl⟩) hS (fun q _ h => hFc q h) hFc (fun u t H locs ht hvm hw hB hz1 hk1 hS => ?_)
              obtain ⟨e22_13, e23_14, e24_15, g_16, g_17, hP1, hD1⟩ := hB
              rw [ht] at hP1
              obtain ⟨hP, hD⟩ := va_join (wr := []) (w1 := [ob12_0_ mo 0 s1 t2 s3 s4 g5 g6 g7 g8 g9 g10 s11 g12 g13 g14 g15 g16 g17 g18 g19 g20 s21 g22 g23 g24 s25 s26 s27 s28 g29 g30 g31 g32 g33, ai_ cy g5 40 f5, ai_ cy g6 40 f6, ai_ cy g7 40 f7, ai_ cy g8 40 f8, az_ cy g10 40 f10, ai_ cy g22 40 e22_13, ai_ cy g23 12 e23_14, ai_ cy g24 12 e24_15]) hP hD [0, 1, 2, 3, 4, 5, 6, 7, 8] [] hC_ rfl (by decide) (by decide) hk1 hFc hP1 hD1
              refine pd_K [ob12_0_ mo 0 s1 t2 s3 s4 g5 g6 g7 g8 g9 g10 s11 g12 g13 g14 g15 g16 g17 g18 g19 g20 s21 g22 g23 g24 s25 s26 s27 s28 g29 g30 g31 g32 g33, ai_ cy g5 40 f5, ai_ cy g6 40 f6, ai_ cy g7 40 f7, ai_ cy g8 40 f8, az_ cy g10 40 f10, ai_ cy g22 40 e22_13, ai_ cy g23 12 e23_14, ai_ cy g24 12 e24_15] hP hD (fun hP hD => ?_)
              refine lv_aload_n hx hb dB_3_1_20.2.2.1.2 rfl (lv_at hl 0 rfl) ?_
              refine va_get (ci := 12) (v := .ref g22) (C := RX12) (T := TX12) (N := 34) hx hb hts (fun _ h => List.mem_cons_of_mem _ (List.mem_append_right _ h)) hown hK.1 hP 0 rfl rfl 22 (by decide) (hts (.fieldLink RX12 61 "CutAtlasModel" "flows" "[I") (List.mem_of_getElem? (i := 5) rfl)) (fun _ h9 => h9) rfl dB_3_1_20.2.2.2.1 ?_
              refine lv_iload_n hx hb dB_3_1_20.2.2.2.2 rfl (lv_at hl 3 rfl) ?_
              refine va_iald hx hb hK.1 hP 6 0 rfl rfl (i := a3) h_7 dB_3_1_21.1 ?_
              refine lv_topi (fun y_19 ey_19 => ?_)
              rw [hQ]
              exact W.iret (v := y_19) hx hb hr (fun t ht hW => ⟨⟨y_19, (), rfl, trivial, e22_13, e23_14, e24_15, (by first | with_reducible assumption | assumption | exact rng_zero (by omega) (by omega) | omega), (by first | with_reducible assumption | assumption | exact rng_zero (by omega) (by omega) | omega), by rw [ht]; exact hP, hD⟩, hS.F ht⟩) hS.2.2 dB_3_1_21.2
            · have t_11 : r_10.toInt = (1000000 : Int32).toInt := congrArg Int32.toInt c_11
              refine lv_ldc (v := (-1000000)) hx hb hown (hts (.constant RX12 187 (-1000000)) (List.mem_of_getElem? (i := 4) rfl)) dB_3_1_20.1.2.2.2 ?_
              rw [hQ]
              exact W.iret (v := (-1000000)) hx hb hr (fun t ht hW => ⟨⟨(-1000000), (), rfl, trivial, f22, f23, f24, (by first | with_reducible assumption | assumption | exact rng_zero (by omega) (by omega) | omega), (by first | with_reducible assumption | assumption | exact rng_zero (by omega) (by omega) | omega), by rw [ht]; exact hP, hD⟩, hS.F ht⟩) hS.2.2 dB_3_1_20.2.1.1.1
      · have e_ := e_.symm
        subst e_
        refine lv_if_eq (tgt := 42) hx hb dB_3_1_19.2.1.2.2 (by decide) (fun c_20 => ?_) (fun c_20 => ?_)
        · have _ := c_20
          refine lv_ldc (v := (-1000000)) hx hb hown (hts (.constant RX12 187 (-1000000)) (List.mem_of_getElem? (i := 4) rfl)) dB_3_1_20.1.2.2.2 ?_
          rw [hQ]
          exact W.iret (v := (-1000000)) hx hb hr (fun t ht hW => ⟨⟨(-1000000), (), rfl, trivial, f22, f23, f24, (by first | with_reducible assumption | assumption | exact rng_zero (by omega) (by omega) | omega), (by first | with_reducible assumption | assumption | exact rng_zero (by omega) (by omega) | omega), by rw [ht]; exact hP, hD⟩, hS.F ht⟩) hS.2.2 dB_3_1_20.2.1.1.1
        · exact absurd c_20 (by decide)
  · have e_ := e_.symm
    subst e_
    refine lv_if_eq (tgt := 42) hx hb dB_3_1_19.1.2.2.2 (by decide) (fun c_21 => ?_) (fun c_21 => ?_)
    · have _ := c_21
      refine lv_ldc (v := (-1000000)) hx hb hown (hts (.constant RX12 187 (-1000000)) (List.mem_of_getElem? (i := 4) rfl)) dB_3_1_20.1.2.2.2 ?_
      rw [hQ]
      exact W.iret (v := (-1000000)) hx hb hr (fun t ht hW => ⟨⟨(-1000000), (), rfl, trivial, f22, f23, f24, (by first | with_reducible assumption | assumption | exact rng_zero (by omega) (by omega) | omega), (by first | with_reducible assumption | assumption | exact rng_zero (by omega) (by omega) | omega), by rw [ht]; exact hP, hD⟩, hS.F ht⟩) hS.2.2 dB_3_1_20.2.1.1.1
    · exact absurd c_21 (by decide)
end

section
theorem nneg {x : Int32} (h : 0 ≤ x.toInt) : ¬ x < 0 := fun q => by
  have a := Int32.lt_iff_toInt_lt.mp q
  have z : (0 : Int32).toInt = 0 := by decide
  omega
theorem rng_cpy {f g : Nat → Int32} {n sp dp k : Nat} {lo hi : Int} (hf : rng f n lo hi) (hg : rng g n lo hi) (h : sp + k ≤ n) : rng (va_cpy f g sp dp k) n lo hi := fun j hj => by
  by_cases e : dp ≤ j ∧ j < dp + k
  · rw [pk_cpy_in e.1 e.2]
    exact hf _ (by omega)
  · rw [pk_cpy_out (by omega)]
    exact hg j hj
theorem prng_cpy {f1 f2 g1 g2 a b : Nat → Int32} {n k : Nat} (ea : a = va_cpy f1 f2 (0 : Int32).toNatClampNeg (0 : Int32).toNatClampNeg k) (eb : b = va_cpy g1 g2 (0 : Int32).toNatClampNeg (0 : Int32).toNatClampNeg k) (h1 : prng f1 g1 n) (h2 : prng f2 g2 n) (hk : k ≤ n) : prng a b n := fun j hj => by
  rw [ea, eb]
  have z : (0 : Int32).toNatClampNeg = 0 := by decide
  rw [z]
  by_cases e : j < k
  · rw [pk_cpy_in (Nat.zero_le _) (by omega), pk_cpy_in (Nat.zero_le _) (by omega)]
    exact h1 _ (by omega)
  · rw [pk_cpy_out (by omega), pk_cpy_out (by omega)]
    exact h2 j hj

set_option maxHeartbeats 4000000 in
set_option maxRecDepth 100000 in
theorem c_X4_whole (l : Launch) (D : va_G) (cy : Nat → ClassId) (sz : Nat) (mm : Nat) (ml : Nat) (mu : Nat) (mk : Int32) (mr : Int32) (fn : Nat → Int64) (a1 : Int32) (a2 : Int32) (q1 : 0 ≤ a1.toInt ∧ a1.toInt ≤ 5) (q2 : 0 ≤ a2.toInt ∧ a2.toInt ≤ 4) : Met l yX4_whole wsX4_whole ({ frames := 1, cells := 0, slots := 0, locals := 22 }) (va_Pc [.ref mm, .int a1, .int a2] (fun U => U.heap.size = sz ∧ va_P D vwCl [ob4_0_ mm mk mr ml mu, aj_ cy mu 30 fn] U.heap ∧ kk_ D cy U ∧ va_D (fun _ => True) [ob4_0_ mm mk mr ml mu, aj_ cy mu 30 fn])) (va_Qi (fun (r : Int32) (_ : Unit) => (r = (fn (5 * a1.toInt + a2.toInt).toNat).toInt32)) (fun (_ : Unit) (_ : State) => True) (va_A [] sz)) 0 0 (va_A [] sz) := by
  refine ofQ (cc := cX4_whole) (maxL := 3) (ret := (some .int)) (by decide) rfl ?_
  intro p e s m args below meth c s₁ Q hQ B hml hv
  obtain ⟨rfl, hsz, hP, hK, hD0⟩ := hv
  have hx := B.exec
  have hb := B.bytes
  have hr := B.returns
  have hts := atoms_spec (ws := wsX4_whole) B.pre
  have hown : s.vm.findClass RX4 = some m.cls := by have h_ := findClass_of_methodNamed B.named; exact h_
  have hlocks := B.notSynchronized
  subst hsz
  have hD : va_D (va_A [] s.heap.size) [] := dd_nil
  generalize hAe : va_A [] s.heap.size = A at hD hQ
  have hA : ∀ q : Nat, s.heap.size ≤ q → A q := fun q h => by rw [← hAe]; exact Or.inr h
  have hS : va_S A s.heap s.heap [] := va_S.rf
  have hl := lv_entry ([.ref mm, .int a1, .int a2]) (n := 3) (Nat.le_of_ble_eq_true rfl)
  rw [lg_entry_eq]
  generalize (lg_sl ([.ref mm, .int a1, .int a2]) ++ List.replicate (3 - (lg_sl ([.ref mm, .int a1, .int a2])).length) Slot.unset).toArray = ls at hl ⊢
  have hl : lv_has ls 3 [(0, .ref mm), (1, .int a1), (2, .int a2)] := hl
  refine lv_aload_n hx hb dB_36_1_47.1.1 rfl (lv_at hl 0 rfl) ?_
  refine lv_iload_n hx hb dB_36_1_47.1.2.1 rfl (lv_at hl 1 rfl) ?_
  refine lv_iload_n hx hb dB_36_1_47.1.2.2 rfl (lv_at hl 2 rfl) ?_
  refine ct_R hP hD0 [ob4_0_ mm mk mr ml mu, aj_ cy mu 30 fn] [0, 1] (by decide) rfl (fun hPc hDw => ?_)
  have hFc := va_free (wc := []) hD hS hA [] rfl
  refine va_calll (va_runV (As := [.int a1, .int a2]) (rest := []) ⟨hx, hb, hml, hown, hts⟩ (c_X4_number l D cy s.heap.size mm ml mu mk mr fn a1 a2 (by first | with_reducible assumption | omega | assumption) (by first | with_reducible assumption | omega | assumption)) (cwV 2 hts gX4_whole_X4_number rfl rfl rfl ⟨rfl, hd_X4_number⟩ ⟨Nat.le_of_ble_eq_true rfl, Nat.le_of_ble_eq_true rfl⟩) ⟨bl_, va_recvX hK.1 hP (ci := 4) (q0 := 0) rfl rfl, fun U hU hW => ⟨rfl, by rw [hU], by rw [hU]; exact hPc, kk_mv hW hK, hDw⟩⟩ rfl rfl hl.1 rfl (lv_room (Nat.le_of_ble_eq_true rfl)) dB_36_1_47.2.1 ⟨Nat.le_of_ble_eq_true rfl, Nat.le_of_ble_eq_true rfl⟩) hS (fun q _ h => hFc q h) hFc (fun r_1 u t H locs ht hvm hw hB hz1 hk1 hS => ?_)
  have hP : va_P D vwCl _ H := ro_keep hP hk1
  have f0_r_1 := hw
  refine lv_l2i (v := r_1.toInt32) hx hb dB_36_1_47.2.2.1 rfl ?_
  rw [hQ]
  exact W.iret (v := (r_1.toInt32)) hx hb hr (fun t ht hW => ⟨⟨(r_1.toInt32), (), rfl, (congrArg Int64.toInt32 (by assumption)), trivial⟩, hS.F ht⟩) hS.2.2 dB_36_1_47.2.2.2

set_option maxHeartbeats 4000000 in
set_option maxRecDepth 100000 in
theorem c_X4_hasNumbers (l : Launch) (D : va_G) (cy : Nat → ClassId) (sz : Nat) (mm : Nat) (ml : Nat) (mu : Nat) (mk : Int32) (mr : Int32) (fl : Nat → Int32) (a1 : Int32) (a2 : Int32) (a3 : Int32) (q1 : 0 ≤ a1.toInt ∧ a1.toInt ≤ 5) (r_fl : rng fl 6 (-9) (5)) : Met l yX4_hasNumbers wsX4_hasNumbers ({ frames := 0, cells := 0, slots := 0, locals := 0 }) (va_Pc [.ref mm, .int a1, .int a2, .int a3] (fun U => U.heap.size = sz ∧ va_P D vwCl [ob4_0_ mm mk mr ml mu, ai_ cy ml 6 fl] U.heap ∧ kk_ D cy U ∧ va_D (fun _ => True) [ob4_0_ mm mk mr ml mu, ai_ cy ml 6 fl])) (va_Qi (fun (r : Int32) (_ : Unit) => ((0 ≤ a2.toInt ∧ 0 ≤ a3.toInt ∧ a2.toInt + a3.toInt ≤ (fl a1.toNatClampNeg).toInt) ∧ r = 1) ∨ ((¬ (0 ≤ a2.toInt ∧ 0 ≤ a3.toInt ∧ a2.toInt + a3.toInt ≤ (fl a1.toNatClampNeg).toInt)) ∧ r = 0)) (fun (_ : Unit) (_ : State) => True) (va_A [] sz)) 0 0 (va_A [] sz) := by
  refine ofQ (cc := cX4_hasNumbers) (maxL := 4) (ret := (some .boolean)) (by decide) rfl ?_
  intro p e s m args below meth c s₁ Q hQ B hml hv
  obtain ⟨rfl, hsz, hP, hK, hD0⟩ := hv
  have hx := B.exec
  have hb := B.bytes
  have hr := B.returns
  have hts := atoms_spec (ws := wsX4_hasNumbers) B.pre
  have hown : s.vm.findClass RX4 = some m.cls := by have h_ := findClass_of_methodNamed B.named; exact h_
  have hlocks := B.notSynchronized
  subst hsz
  have hD : va_D (va_A [] s.heap.size) [] := dd_nil
  generalize hAe : va_A [] s.heap.size = A at hD hQ
  have hA : ∀ q : Nat, s.heap.size ≤ q → A q := fun q h => by rw [← hAe]; exact Or.inr h
  have hS : va_S A s.heap s.heap [] := va_S.rf
  have hl := lv_entry ([.ref mm, .int a1, .int a2, .int a3]) (n := 4) (Nat.le_of_ble_eq_true rfl)
  rw [lg_entry_eq]
  generalize (lg_sl ([.ref mm, .int a1, .int a2, .int a3]) ++ List.replicate (4 - (lg_sl ([.ref mm, .int a1, .int a2, .int a3])).length) Slot.unset).toArray = ls at hl ⊢
  have hl : lv_has ls 4 [(0, .ref mm), (1, .int a1), (2, .int a2), (3, .int a3)] := hl
  have z0 : (0 : Int32).toInt = 0 := by decide
  have z1 : (1 : Int32).toInt = 1 := by decide
  refine lv_iload_n hx hb dB_36_1_33.1.1.1.1 rfl (lv_at hl 2 rfl) ?_
  refine lv_if_lt (tgt := 34) hx hb dB_36_1_33.1.1.1.2 (by decide) (fun c_1 => ?_) (fun c_1 => ?_)
  · have t_1 : a2.toInt < (0 : Int32).toInt := Int32.lt_iff_toInt_lt.mp c_1
    refine lv_iconst (v := 0) hx hb dB_36_1_34.2.2.1 (by decide) ?_
    rw [hQ]
    exact W.zret (ty := .boolean) (v := 0) hx hb hr (by decide) (fun t ht hW => ⟨⟨0, (), rfl, Or.inr (⟨by omega, rfl⟩), trivial⟩, hS.F ht⟩) hS.2.2 dB_36_1_34.2.2.2
  · have t_1 : ¬ a2.toInt < (0 : Int32).toInt := fun h => c_1 (Int32.lt_iff_toInt_lt.mpr h)
    refine lv_iload_n hx hb dB_36_1_33.1.1.2.1 rfl (lv_at hl 3 rfl) ?_
    refine lv_if_lt (tgt := 34) hx hb dB_36_1_33.1.1.2.2 (by decide) (fun c_2 => ?_) (fun c_2 => ?_)
    · have t_2 : a3.toInt < (0 : Int32).toInt := Int32.lt_iff_toInt_lt.mp c_2
      refine lv_iconst (v := 0) hx hb dB_36_1_34.2.2.1 (by decide) ?_
      rw [hQ]
      exact W.zret (ty := .boolean) (v := 0) hx hb hr (by decide) (fun t ht hW => ⟨⟨0, (), rfl, Or.inr (⟨by omega, rfl⟩), trivial⟩, hS.F ht⟩) hS.2.2 dB_36_1_34.2.2.2
    · have t_2 : ¬ a3.toInt < (0 : Int32).toInt := fun h => c_2 (Int32.lt_iff_toInt_lt.mpr h)
      refine lv_iload_n hx hb dB_36_1_33.1.2.1.1 rfl (lv_at hl 3 rfl) ?_
      refine lv_aload_n hx hb dB_36_1_33.1.2.1.2 rfl (lv_at hl 0 rfl) ?_
      refine va_get (ci := 4) (v := .ref ml) (C := RX4) (T := TX4) (N := 4) hx hb hts (fun _ h => List.mem_cons_of_mem _ (List.mem_append_right _ h)) hown hK.1 hP 0 rfl rfl 2 (by decide) (hts (.fieldLink RX4 18 "CutAtlas$NumberMap" "lengths" "[I") (List.mem_of_getElem? (i := 1) rfl)) (fun _ h9 => h9) rfl dB_36_1_33.1.2.2.1 ?_
      refine lv_iload_n hx hb dB_36_1_33.1.2.2.2 rfl (lv_at hl 1 rfl) ?_
      have h_3 : vp_in a1 6 := in_I (by first | with_reducible assumption | omega) (by omega)
      refine va_iald hx hb hK.1 hP 1 0 rfl rfl (i := a1) h_3 dB_36_1_33.2.1.1.1 ?_
      refine lv_topi (fun y_4 ey_4 => ?_)
      have ky_4 : y_4.toInt = (fl a1.toNatClampNeg).toInt := by rw [ey_4]
      have ry_4 : -9 ≤ y_4.toInt ∧ y_4.toInt ≤ 5 := by rw [ey_4]; exact r_fl _ (in_lt h_3)
      refine lv_icmp_gt (tgt := 34) hx hb dB_36_1_33.2.1.1.2 (by decide) (fun c_5 => ?_) (fun c_5 => ?_)
      · have t_5 : y_4.toInt < a3.toInt := Int32.lt_iff_toInt_lt.mp c_5
        refine lv_iconst (v := 0) hx hb dB_36_1_34.2.2.1 (by decide) ?_
        rw [hQ]
        exact W.zret (ty := .boolean) (v := 0) hx hb hr (by decide) (fun t ht hW => ⟨⟨0, (), rfl, Or.inr (⟨by omega, rfl⟩), trivial⟩, hS.F ht⟩) hS.2.2 dB_36_1_34.2.2.2
      · have t_5 : ¬ y_4.toInt < a3.toInt := fun h => c_5 (Int32.lt_iff_toInt_lt.mpr h)
        refine lv_iload_n hx hb dB_36_1_33.2.1.2.1 rfl (lv_at hl 2 rfl) ?_
        refine lv_aload_n hx hb dB_36_1_33.2.1.2.2 rfl (lv_at hl 0 rfl) ?_
        refine va_get (ci := 4) (v := .ref ml) (C := RX4) (T := TX4) (N := 4) hx hb hts (fun _ h => List.mem_cons_of_mem _ (List.mem_append_right _ h)) hown hK.1 hP 0 rfl rfl 2 (by decide) (hts (.fieldLink RX4 18 "CutAtlas$NumberMap" "lengths" "[I") (List.mem_of_getElem? (i := 1) rfl)) (fun _ h9 => h9) rfl dB_36_1_33.2.2.1.1 ?_
        refine lv_iload_n hx hb dB_36_1_33.2.2.1.2 rfl (lv_at hl 1 rfl) ?_
        refine va_iald hx hb hK.1 hP 1 0 rfl rfl (i := a1) h_3 dB_36_1_33.2.2.2.1 ?_
        refine lv_topi (fun y_7 ey_7 => ?_)
        have e_ := (ey_7.trans ey_4.symm).symm
        subst e_
        skip
        refine lv_iload_n hx hb dB_36_1_33.2.2.2.2 rfl (lv_at hl 3 rfl) ?_
        refine lv_isub hx hb dB_36_1_34.1.1 ?_
        refine lv_topi (fun y_8 ey_8 => ?_)
        have ty_8 : y_8.toInt = y_4.toInt - a3.toInt := by rw [ey_8]; exact subI (by omega) (by omega)
        refine lv_icmp_gt (tgt := 34) hx hb dB_36_1_34.1.2.1 (by decide) (fun c_9 => ?_) (fun c_9 => ?_)
        · have t_9 : y_8.toInt < a2.toInt := Int32.lt_iff_toInt_lt.mp c_9
          refine lv_iconst (v := 0) hx hb dB_36_1_34.2.2.1 (by decide) ?_
          rw [hQ]
          exact W.zret (ty := .boolean) (v := 0) hx hb hr (by decide) (fun t ht hW => ⟨⟨0, (), rfl, Or.inr (⟨by omega, rfl⟩), trivial⟩, hS.F ht⟩) hS.2.2 dB_36_1_34.2.2.2
        · have t_9 : ¬ y_8.toInt < a2.toInt := fun h => c_9 (Int32.lt_iff_toInt_lt.mpr h)
          refine lv_iconst (v := 1) hx hb dB_36_1_34.1.2.2 (by decide) ?_
          refine lv_goto (tgt := 35) hx hb dB_36_1_34.2.1 (by decide) ?_
          rw [hQ]
          exact W.zret (ty := .boolean) (v := 1) hx hb hr (by decide) (fun t ht hW => ⟨⟨1, (), rfl, Or.inl (⟨by omega, rfl⟩), trivial⟩, hS.F ht⟩) hS.2.2 dB_36_1_34.2.2.2
end

section
/-- nexts is a tree with root 0; d: how many steps away from it -/
noncomputable def trd (f : Nat → Int32) (d : Nat → Nat) : Prop := d 0 = 0 ∧ ∀ i : Nat, 1 ≤ i → i < 12 → 0 ≤ (f i).toInt ∧ (f i).toInt ≤ 11 ∧ d i = d (f i).toNatClampNeg + 1 ∧ d i ≤ 11
theorem trd_z {f : Nat → Int32} {d : Nat → Nat} {x : Int32} (h : trd f d) (h0 : 0 ≤ x.toInt) (h1 : x.toInt ≤ 11) : (d x.toNatClampNeg = 0 ↔ x.toInt = 0) ∧ d x.toNatClampNeg ≤ 11 := by
  have c := clI (i := x) h0
  by_cases e : x.toInt = 0
  · rw [show x.toNatClampNeg = 0 by omega, h.1]
    omega
  · have a := h.2 x.toNatClampNeg (by omega) (by omega)
    omega

set_option maxHeartbeats 4000000 in
set_option maxRecDepth 100000 in
theorem c_X1_stepsToRoot (l : Launch) (D : va_G) (cy : Nat → ClassId) (sz : Nat) (xt : Nat) (xc : Nat) (ta : Nat) (tb : Nat) (fx : Nat → Int32) (d : Nat → Nat) (a1 : Int32) (htr : trd fx d) (q1 : 0 ≤ a1.toInt ∧ a1.toInt ≤ 11) : Met l yX1_stepsToRoot wsX1_stepsToRoot ({ frames := 0, cells := 0, slots := 0, locals := 0 }) (va_Pc [.ref xt, .int a1] (fun U => U.heap.size = sz ∧ va_P D vwCl [ob1_0_ xt xc ta tb, ai_ cy ta 12 fx] U.heap ∧ kk_ D cy U ∧ va_D (fun _ => True) [ob1_0_ xt xc ta tb, ai_ cy ta 12 fx])) (va_Qi (fun (r : Int32) (_ : Unit) => (r.toInt = (d a1.toNatClampNeg : Int))) (fun (_ : Unit) (_ : State) => True) (va_A [] sz)) 0 0 (va_A [] sz) := by
  refine ofQ (cc := cX1_stepsToRoot) (maxL := 4) (ret := (some .int)) (by decide) rfl ?_
  intro p e s m args below meth c s₁ Q hQ B hml hv
  obtain ⟨rfl, hsz, hP, hK, hD0⟩ := hv
  have hx := B.exec
  have hb := B.bytes
  have hr := B.returns
  have hts := atoms_spec (ws := wsX1_stepsToRoot) B.pre
  have hown : s.vm.findClass RX1 = some m.cls := by have h_ := findClass_of_methodNamed B.named; exact h_
  have hlocks := B.notSynchronized
  subst hsz
  have hD : va_D (va_A [] s.heap.size) [] := dd_nil
  generalize hAe : va_A [] s.heap.size = A at hD hQ
  have hA : ∀ q : Nat, s.heap.size ≤ q → A q := fun q h => by rw [← hAe]; exact Or.inr h
  have hS : va_S A s.heap s.heap [] := va_S.rf
  have hl := lv_entry ([.ref xt, .int a1]) (n := 4) (Nat.le_of_ble_eq_true rfl)
  rw [lg_entry_eq]
  generalize (lg_sl ([.ref xt, .int a1]) ++ List.replicate (4 - (lg_sl ([.ref xt, .int a1])).length) Slot.unset).toArray = ls at hl ⊢
  have hl : lv_has ls 4 [(0, .ref xt), (1, .int a1)] := hl
  have z0 : (0 : Int32).toInt = 0 := by decide
  have z1 : (1 : Int32).toInt = 1 := by decide
  have z12 : (12 : Int32).toInt = 12 := by decide
  have za := trd_z htr (x := a1) (by omega) (by omega)
  refine lv_iconst (v := 0) hx hb dB_36_0_62.1.1.1.1 (by decide) ?_
  refine lv_istore_n (lv' := [(2, .int 0), (0, .ref xt), (1, .int a1)]) hx hb dB_36_0_62.1.1.1.2 rfl hl (by decide) rfl (fun ls hl => ?_)
  refine lv_iload_n hx hb dB_36_0_62.1.1.2.1 rfl (lv_at hl 2 rfl) ?_
  refine lv_istore_n (lv' := [(3, .int a1), (2, .int 0), (0, .ref xt), (1, .int a1)]) hx hb dB_36_0_62.1.1.2.2 rfl hl (by decide) rfl (fun ls hl => ?_)
  suffices LOOP_1 : ∀ (n_1 : Nat) (x3_1 : Int32) (x2_1 : Int32) (H : Heap) (locs : List Loc) (ls : Array Slot), (d x3_1.toNatClampNeg : Int) < (n_1 : Int) → (0 ≤ x3_1.toInt ∧ x3_1.toInt ≤ 11) → (x2_1.toInt + (d x3_1.toNatClampNeg : Int) = (d a1.toNatClampNeg : Int)) → (0 ≤ x2_1.toInt) → va_P D vwCl [ob1_0_ xt xc ta tb, ai_ cy ta 12 fx] H → va_S A s.heap H locs → lv_has ls 4 [(3, .int x3_1), (2, .int x2_1), (0, .ref xt), (1, .int a1)] → W p l e ({ frames := 0, cells := 0, slots := 0, locals := 0 } : Room) s m (([.ref xt, .int a1] : List Value).toArray) below meth c H locs 0 0 Q (F0 m 4 ls []) from LOOP_1 (((d a1.toNatClampNeg : Int)).toNat + 1) a1 (0 : Int32) _ _ _ (by omega) (by first | with_reducible assumption | omega | assumption) (by first | with_reducible assumption | omega | assumption) (by first | with_reducible assumption | omega | assumption) hP hS (lv_sub hl [0, 1, 2, 3] rfl)
  intro n_1
  induction n_1 with
  | zero =>
    intro x3_1 x2_1 H locs ls hm v0_1 v1_1 v2_1 hP hS hl
    exact absurd hm (by omega)
  | succ n_1 ih_1 =>
    intro x3_1 x2_1 H locs ls hm v0_1 v1_1 v2_1 hP hS hl
    refine lv_iload_n hx hb dB_36_0_62.1.2.1.1 rfl (lv_at hl 0 rfl) ?_
    refine lv_if_eq (tgt := 27) hx hb dB_36_0_62.1.2.1.2 (by decide) (fun c_2 => ?_) (fun c_2 => ?_)
    · have t_2 : x3_1.toInt = (0 : Int32).toInt := congrArg Int32.toInt c_2
      have h0_ := trd_z htr (x := x3_1) (by omega) (by omega)
      refine lv_iload_n hx hb dB_36_0_63.1 rfl (lv_at hl 1 rfl) ?_
      rw [hQ]
      exact W.iret (v := x2_1) hx hb hr (fun t ht hW => ⟨⟨x2_1, (), rfl, (by omega), trivial⟩, hS.F ht⟩) hS.2.2 dB_36_0_63.2
    · have t_2 : ¬ x3_1.toInt = (0 : Int32).toInt := fun h => c_2 (Int32.toInt_inj.mp h)
      refine lv_iload_n hx hb dB_36_0_62.1.2.2.1 rfl (lv_at hl 1 rfl) ?_
      refine lv_bipush (v := 12) hx hb dB_36_0_62.1.2.2.2 (by decide) ?_
      refine lv_icmp_ge (tgt := 27) hx hb dB_36_0_62.2.1.1.1 (by decide) (fun c_3 => ?_) (fun c_3 => ?_)
      · have t_3 : (12 : Int32).toInt ≤ x2_1.toInt := Int32.le_iff_toInt_le.mp c_3
        have h0_ := trd_z htr (x := x3_1) (by omega) (by omega)
        refine lv_iload_n hx hb dB_36_0_63.1 rfl (lv_at hl 1 rfl) ?_
        rw [hQ]
        exact W.iret (v := x2_1) hx hb hr (fun t ht hW => ⟨⟨x2_1, (), rfl, (by omega), trivial⟩, hS.F ht⟩) hS.2.2 dB_36_0_63.2
      · have t_3 : ¬ (12 : Int32).toInt ≤ x2_1.toInt := fun h => c_3 (Int32.le_iff_toInt_le.mpr h)
        have cx_ := clI (i := x3_1) (by omega)
        have hx_ := htr.2 x3_1.toNatClampNeg (by omega) (by omega)
        obtain ⟨y_4, ey_4⟩ : ∃ y : Int32, y = x2_1 + 1 := ⟨_, rfl⟩
        have ty_4 : y_4.toInt = x2_1.toInt + (1 : Int32).toInt := by rw [ey_4]; exact addI (by omega) (by omega)
        refine lv_iinc (v := y_4) (lv' := [(2, .int y_4), (3, .int x3_1), (0, .ref xt), (1, .int a1)]) hx hb dB_36_0_62.2.1.1.2 hl (k := 1) rfl (by rw [ey_4]; rfl) (by decide) rfl (fun ls hl => ?_)
        refine lv_aload_n hx hb dB_36_0_62.2.1.2.1 rfl (lv_at hl 2 rfl) ?_
        refine va_get (ci := 1) (v := .ref ta) (C := RX1) (T := TX1) (N := 3) hx hb hts (fun _ h => List.mem_cons_of_mem _ (List.mem_append_right _ h)) hown hK.1 hP 0 rfl rfl 1 (by decide) (hts (.fieldLink RX1 9 "CutAtlas$CutTree" "nexts" "[I") (List.mem_of_getElem? (i := 1) rfl)) (fun _ h9 => h9) rfl dB_36_0_62.2.1.2.2 ?_
        refine lv_iload_n hx hb dB_36_0_62.2.2.1.1 rfl (lv_at hl 1 rfl) ?_
        have h_5 : vp_in x3_1 12 := in_I (by first | with_reducible assumption | omega) (by omega)
        refine va_iald hx hb hK.1 hP 1 0 rfl rfl (i := x3_1) h_5 dB_36_0_62.2.2.1.2 ?_
        refine lv_topi (fun y_6 ey_6 => ?_)
        have ky_6 : y_6.toInt = (fx x3_1.toNatClampNeg).toInt := by rw [ey_6]
        have hd_ : d x3_1.toNatClampNeg = d y_6.toNatClampNeg + 1 := by rw [ey_6]; exact hx_.2.2.1
        refine lv_istore_n (lv' := [(3, .int y_6), (2, .int y_4), (0, .ref xt), (1, .int a1)]) hx hb dB_36_0_62.2.2.2.1 rfl hl (by decide) rfl (fun ls hl => ?_)
        refine lv_goto (tgt := 4) hx hb dB_36_0_62.2.2.2.2 (by decide) ?_
        exact ih_1 y_6 y_4 _ _ _ (by omega) (by first | with_reducible assumption | omega | assumption) (by first | with_reducible assumption | omega | assumption) (by first | with_reducible assumption | omega | assumption) hP hS (lv_sub hl [0, 1, 2, 3] rfl)
end

section
theorem fill_st {f g : Nat → Int32} {i i2 v : Int32} (e : g = upd f i.toNatClampNeg v) (h : ∀ j : Nat, (j : Int) < i.toInt → f j = v) (hi : 0 ≤ i.toInt) (ei : i2.toInt = i.toInt + 1) : ∀ j : Nat, (j : Int) < i2.toInt → g j = v := fun j hj => by
  have c := clI (i := i) hi
  rw [e]
  by_cases ej : j = i.toNatClampNeg
  · rw [ej]
    exact pk_us
  · rw [pk_un ej]
    exact h j (by omega)
theorem rng_c {f : Nat → Int32} {n : Nat} {v : Int32} {lo hi : Int} (h : ∀ j : Nat, j < n → f j = v) (h1 : lo ≤ v.toInt) (h2 : v.toInt ≤ hi) : rng f n lo hi := fun j hj => by
  rw [h j hj]
  exact ⟨h1, h2⟩

set_option maxHeartbeats 4000000 in
set_option maxRecDepth 100000 in
theorem c_J7_fill_53178 (l : Launch) (D : va_G) (cy : Nat → ClassId) (sz : Nat) (l0 : Nat) (nn : Nat) (a1 : Int32) (fl : Nat → Int32) (hnn : nn ≤ 100) : Met l yJ7_fill_53178 wsJ7_fill_53178 ({ frames := 0, cells := 0, slots := 0, locals := 0 }) (va_Pc [.ref l0, .int a1] (fun U => U.heap.size = sz ∧ va_P D vwCl [ai_ cy l0 nn fl] U.heap ∧ kk_ D cy U ∧ va_D (fun _ => True) [ai_ cy l0 nn fl])) (va_Qv (fun (_ : Unit) => True) (fun (_ : Unit) (t : State) => ∃ (e1 : Nat → Int32), (∀ j : Nat, j < nn → e1 j = a1) ∧ va_P D vwCl [ai_ cy l0 nn e1] t.heap ∧ va_D (va_A [ai_ cy l0 nn fl] sz) [ai_ cy l0 nn e1]) (va_A [ai_ cy l0 nn fl] sz)) 0 0 (va_A [ai_ cy l0 nn fl] sz) := by
  refine ofQ (cc := cJ7_fill_53178) (maxL := 4) (ret := none) (by decide) rfl ?_
  intro p e s m args below meth c s₁ Q hQ B hml hv
  obtain ⟨rfl, hsz, hP, hK, hD0⟩ := hv
  have hx := B.exec
  have hb := B.bytes
  have hr := B.returns
  have hts := atoms_spec (ws := wsJ7_fill_53178) B.pre
  have hown : s.vm.findClass RJ7 = some m.cls := by have h_ := findClass_of_methodNamed B.named; exact h_
  have hlocks := B.notSynchronized
  subst hsz
  have hD := hD0.self (sz := s.heap.size)
  generalize hAe : va_A [ai_ cy l0 nn fl] s.heap.size = A at hD hQ
  have hA : ∀ q : Nat, s.heap.size ≤ q → A q := fun q h => by rw [← hAe]; exact Or.inr h
  have hS : va_S A s.heap s.heap [] := va_S.rf
  have hl := lv_entry ([.ref l0, .int a1]) (n := 4) (Nat.le_of_ble_eq_true rfl)
  rw [lg_entry_eq]
  generalize (lg_sl ([.ref l0, .int a1]) ++ List.replicate (4 - (lg_sl ([.ref l0, .int a1])).length) Slot.unset).toArray = ls at hl ⊢
  have hl : lv_has ls 4 [(0, .ref l0), (1, .int a1)] := hl
  have z0 : (0 : Int32).toInt = 0 := by decide
  have z1 : (1 : Int32).toInt = 1 := by decide
  have tn := nI_toInt (n := nn) (by omega)
  refine lv_iconst (v := 0) hx hb dB_36_4_3.1.1.1 (by decide) ?_
  refine lv_istore_n (lv' := [(2, .int 0), (0, .ref l0), (1, .int a1)]) hx hb dB_36_4_3.1.1.2.1 rfl hl (by decide) rfl (fun ls hl => ?_)
  refine lv_aload_n hx hb dB_36_4_3.1.1.2.2 rfl (lv_at hl 1 rfl) ?_
  refine va_alen hx hb hK.1 hP 0 0 rfl rfl (v := nI nn) rfl dB_36_4_3.1.2.1.1 ?_
  refine lv_istore_n (lv' := [(3, .int (nI nn)), (2, .int 0), (0, .ref l0), (1, .int a1)]) hx hb dB_36_4_3.1.2.1.2 rfl hl (by decide) rfl (fun ls hl => ?_)
  suffices LOOP_1 : ∀ (n_1 : Nat) (x2_1 : Int32) (c_l0_1 : Nat → Int32) (H : Heap) (locs : List Loc) (ls : Array Slot), (nn : Int) - x2_1.toInt < (n_1 : Int) → (0 ≤ x2_1.toInt) → (x2_1.toInt ≤ nn) → (∀ j : Nat, (j : Int) < x2_1.toInt → c_l0_1 j = a1) → pd_2 D vwCl A [ai_ cy l0 nn c_l0_1] H → va_S A s.heap H locs → lv_has ls 4 [(3, .int (nI nn)), (2, .int x2_1), (0, .ref l0), (1, .int a1)] → W p l e ({ frames := 0, cells := 0, slots := 0, locals := 0 } : Room) s m (([.ref l0, .int a1] : List Value).toArray) below meth c H locs 0 0 Q (F0 m 5 ls []) from LOOP_1 (((nn : Int) - (0 : Int32).toInt).toNat + 1) (0 : Int32) fl _ _ _ (by omega) (by first | with_reducible assumption | omega | assumption) (by first | with_reducible assumption | omega | assumption) (by first | exact fill_st (by assumption) (by assumption) (by omega) (by omega) | (intro j hj; omega)) ⟨hP, hD⟩ hS (lv_sub hl [0, 1, 2, 3] rfl)
  intro n_1
  induction n_1 with
  | zero =>
    intro x2_1 c_l0_1 H locs ls hm v0_1 v1_1 v2_1 hPD hS hl; obtain ⟨hP, hD⟩ := hPD
    exact absurd hm (by omega)
  | succ n_1 ih_1 =>
    intro x2_1 c_l0_1 H locs ls hm v0_1 v1_1 v2_1 hPD hS hl; obtain ⟨hP, hD⟩ := hPD
    refine lv_iload_n hx hb dB_36_4_3.1.2.2.1 rfl (lv_at hl 1 rfl) ?_
    refine lv_iload_n hx hb dB_36_4_3.1.2.2.2 rfl (lv_at hl 0 rfl) ?_
    refine lv_icmp_ge (tgt := 20) hx hb dB_36_4_3.2.1.1.1 (by decide) (fun c_2 => ?_) (fun c_2 => ?_)
    · have t_2 : ((nI nn)).toInt ≤ x2_1.toInt := Int32.le_iff_toInt_le.mp c_2
      rw [hQ]
      exact W.vret hx hb hr (fun t ht hW => ⟨⟨(), rfl, trivial, c_l0_1, (fun j hj => by first | exact v2_1 j (by omega)), by rw [ht]; exact hP, hD⟩, hS.F ht⟩) hS.2.2 dB_36_4_3.2.2.2.2
    · have t_2 : ¬ ((nI nn)).toInt ≤ x2_1.toInt := fun h => c_2 (Int32.le_iff_toInt_le.mpr h)
      refine lv_aload_n hx hb dB_36_4_3.2.1.1.2 rfl (lv_at hl 2 rfl) ?_
      refine lv_iload_n hx hb dB_36_4_3.2.1.2.1 rfl (lv_at hl 1 rfl) ?_
      refine lv_iload_n hx hb dB_36_4_3.2.1.2.2 rfl (lv_at hl 3 rfl) ?_
      have h_3 : vp_in x2_1 nn := in_I (by first | with_reducible assumption | omega) (by omega)
      refine va_iast hx hb hK.1 hP hD hS 0 0 rfl rfl (i := x2_1) h_3 dB_36_4_3.2.2.1.1 (fun H locs hP hD hS => ?_)
      obtain ⟨f_4, ef_4⟩ : ∃ g : Nat → Int32, g = upd c_l0_1 x2_1.toNatClampNeg a1 := ⟨_, rfl⟩
      refine pd_K (D := D) (cl := vwCl) (H := H) (A := A) [ai_ cy l0 nn f_4] (by rw [ef_4]; exact hP) (by rw [ef_4]; exact hD) (fun hP hD => ?_)
      obtain ⟨y_5, ey_5⟩ : ∃ y : Int32, y = x2_1 + 1 := ⟨_, rfl⟩
      have ty_5 : y_5.toInt = x2_1.toInt + (1 : Int32).toInt := by rw [ey_5]; exact addI (by omega) (by omega)
      refine lv_iinc (v := y_5) (lv' := [(2, .int y_5), (3, .int (nI nn)), (0, .ref l0), (1, .int a1)]) hx hb dB_36_4_3.2.2.1.2 hl (k := 1) rfl (by rw [ey_5]; rfl) (by decide) rfl (fun ls hl => ?_)
      refine lv_goto (tgt := 5) hx hb dB_36_4_3.2.2.2.1 (by decide) ?_
      exact ih_1 y_5 f_4 _ _ _ (by omega) (by first | with_reducible assumption | omega | assumption) (by first | with_reducible assumption | omega | assumption) (by first | exact fill_st (by assumption) (by assumption) (by omega) (by omega) | (intro j hj; omega)) ⟨hP, hD⟩ hS (lv_sub hl [1, 0, 2, 3] rfl)

set_option maxHeartbeats 4000000 in
set_option maxRecDepth 100000 in
theorem c_X11_isMapNumber (l : Launch) (D : va_G) (cy : Nat → ClassId) (sz : Nat) (a1 : Int32) : Met l yX11_isMapNumber wsX11_isMapNumber ({ frames := 0, cells := 0, slots := 0, locals := 0 }) (va_Pc [.int a1] (fun U => U.heap.size = sz ∧ va_P D vwCl [] U.heap ∧ kk_ D cy U ∧ va_D (fun _ => True) [])) (va_Qi (fun (r : Int32) (_ : Unit) => ((0 ≤ a1.toInt ∧ a1.toInt < 4) ∧ r = 1) ∨ ((¬ (0 ≤ a1.toInt ∧ a1.toInt < 4)) ∧ r = 0)) (fun (_ : Unit) (_ : State) => True) (va_A [] sz)) 0 0 (va_A [] sz) := by
  refine ofQ (cc := cX11_isMapNumber) (maxL := 1) (ret := (some .boolean)) (by decide) rfl ?_
  intro p e s m args below meth c s₁ Q hQ B hml hv
  obtain ⟨rfl, hsz, hP, hK, hD0⟩ := hv
  have hx := B.exec
  have hb := B.bytes
  have hr := B.returns
  have hts := atoms_spec (ws := wsX11_isMapNumber) B.pre
  have hown : s.vm.findClass RX11 = some m.cls := by have h_ := findClass_of_methodNamed B.named; exact h_
  have hlocks := B.notSynchronized
  subst hsz
  have hD : va_D (va_A [] s.heap.size) [] := dd_nil
  generalize hAe : va_A [] s.heap.size = A at hD hQ
  have hA : ∀ q : Nat, s.heap.size ≤ q → A q := fun q h => by rw [← hAe]; exact Or.inr h
  have hS : va_S A s.heap s.heap [] := va_S.rf
  have hl := lv_entry ([.int a1]) (n := 1) (Nat.le_of_ble_eq_true rfl)
  rw [lg_entry_eq]
  generalize (lg_sl ([.int a1]) ++ List.replicate (1 - (lg_sl ([.int a1])).length) Slot.unset).toArray = ls at hl ⊢
  have hl : lv_has ls 1 [(0, .int a1)] := hl
  have z0 : (0 : Int32).toInt = 0 := by decide
  have z1 : (1 : Int32).toInt = 1 := by decide
  have z4 : (4 : Int32).toInt = 4 := by decide
  refine lv_iload_n hx hb dB_36_3_23.1.1.1 rfl (lv_at hl 0 rfl) ?_
  refine lv_if_lt (tgt := 13) hx hb dB_36_3_23.1.1.2 (by decide) (fun c_1 => ?_) (fun c_1 => ?_)
  · have t_1 : a1.toInt < (0 : Int32).toInt := Int32.lt_iff_toInt_lt.mp c_1
    refine lv_iconst (v := 0) hx hb dB_36_3_23.2.2.2.1 (by decide) ?_
    rw [hQ]
    exact W.zret (ty := .boolean) (v := 0) hx hb hr (by decide) (fun t ht hW => ⟨⟨0, (), rfl, Or.inr (⟨by omega, rfl⟩), trivial⟩, hS.F ht⟩) hS.2.2 dB_36_3_23.2.2.2.2
  · have t_1 : ¬ a1.toInt < (0 : Int32).toInt := fun h => c_1 (Int32.lt_iff_toInt_lt.mpr h)
    refine lv_iload_n hx hb dB_36_3_23.1.2.1 rfl (lv_at hl 0 rfl) ?_
    refine lv_iconst (v := 4) hx hb dB_36_3_23.1.2.2 (by decide) ?_
    refine lv_icmp_ge (tgt := 13) hx hb dB_36_3_23.2.1.1 (by decide) (fun c_2 => ?_) (fun c_2 => ?_)
    · have t_2 : (4 : Int32).toInt ≤ a1.toInt := Int32.le_iff_toInt_le.mp c_2
      refine lv_iconst (v := 0) hx hb dB_36_3_23.2.2.2.1 (by decide) ?_
      rw [hQ]
      exact W.zret (ty := .boolean) (v := 0) hx hb hr (by decide) (fun t ht hW => ⟨⟨0, (), rfl, Or.inr (⟨by omega, rfl⟩), trivial⟩, hS.F ht⟩) hS.2.2 dB_36_3_23.2.2.2.2
    · have t_2 : ¬ (4 : Int32).toInt ≤ a1.toInt := fun h => c_2 (Int32.le_iff_toInt_le.mpr h)
      refine lv_iconst (v := 1) hx hb dB_36_3_23.2.1.2 (by decide) ?_
      refine lv_goto (tgt := 14) hx hb dB_36_3_23.2.2.1 (by decide) ?_
      rw [hQ]
      exact W.zret (ty := .boolean) (v := 1) hx hb hr (by decide) (fun t ht hW => ⟨⟨1, (), rfl, Or.inl (⟨by omega, rfl⟩), trivial⟩, hS.F ht⟩) hS.2.2 dB_36_3_23.2.2.2.2

set_option maxHeartbeats 4000000 in
set_option maxRecDepth 100000 in
theorem c_X11_isMapKind (l : Launch) (D : va_G) (cy : Nat → ClassId) (sz : Nat) (a1 : Int32) : Met l yX11_isMapKind wsX11_isMapKind ({ frames := 0, cells := 0, slots := 0, locals := 0 }) (va_Pc [.int a1] (fun U => U.heap.size = sz ∧ va_P D vwCl [] U.heap ∧ kk_ D cy U ∧ va_D (fun _ => True) [])) (va_Qi (fun (r : Int32) (_ : Unit) => ((0 ≤ a1.toInt ∧ a1.toInt < 3) ∧ r = 1) ∨ ((¬ (0 ≤ a1.toInt ∧ a1.toInt < 3)) ∧ r = 0)) (fun (_ : Unit) (_ : State) => True) (va_A [] sz)) 0 0 (va_A [] sz) := by
  refine ofQ (cc := cX11_isMapKind) (maxL := 1) (ret := (some .boolean)) (by decide) rfl ?_
  intro p e s m args below meth c s₁ Q hQ B hml hv
  obtain ⟨rfl, hsz, hP, hK, hD0⟩ := hv
  have hx := B.exec
  have hb := B.bytes
  have hr := B.returns
  have hts := atoms_spec (ws := wsX11_isMapKind) B.pre
  have hown : s.vm.findClass RX11 = some m.cls := by have h_ := findClass_of_methodNamed B.named; exact h_
  have hlocks := B.notSynchronized
  subst hsz
  have hD : va_D (va_A [] s.heap.size) [] := dd_nil
  generalize hAe : va_A [] s.heap.size = A at hD hQ
  have hA : ∀ q : Nat, s.heap.size ≤ q → A q := fun q h => by rw [← hAe]; exact Or.inr h
  have hS : va_S A s.heap s.heap [] := va_S.rf
  have hl := lv_entry ([.int a1]) (n := 1) (Nat.le_of_ble_eq_true rfl)
  rw [lg_entry_eq]
  generalize (lg_sl ([.int a1]) ++ List.replicate (1 - (lg_sl ([.int a1])).length) Slot.unset).toArray = ls at hl ⊢
  have hl : lv_has ls 1 [(0, .int a1)] := hl
  have z0 : (0 : Int32).toInt = 0 := by decide
  have z1 : (1 : Int32).toInt = 1 := by decide
  have z3 : (3 : Int32).toInt = 3 := by decide
  refine lv_iload_n hx hb dB_36_3_22.1.1.1 rfl (lv_at hl 0 rfl) ?_
  refine lv_if_lt (tgt := 13) hx hb dB_36_3_22.1.1.2 (by decide) (fun c_1 => ?_) (fun c_1 => ?_)
  · have t_1 : a1.toInt < (0 : Int32).toInt := Int32.lt_iff_toInt_lt.mp c_1
    refine lv_iconst (v := 0) hx hb dB_36_3_22.2.2.2.1 (by decide) ?_
    rw [hQ]
    exact W.zret (ty := .boolean) (v := 0) hx hb hr (by decide) (fun t ht hW => ⟨⟨0, (), rfl, Or.inr (⟨by omega, rfl⟩), trivial⟩, hS.F ht⟩) hS.2.2 dB_36_3_22.2.2.2.2
  · have t_1 : ¬ a1.toInt < (0 : Int32).toInt := fun h => c_1 (Int32.lt_iff_toInt_lt.mpr h)
    refine lv_iload_n hx hb dB_36_3_22.1.2.1 rfl (lv_at hl 0 rfl) ?_
    refine lv_iconst (v := 3) hx hb dB_36_3_22.1.2.2 (by decide) ?_
    refine lv_icmp_ge (tgt := 13) hx hb dB_36_3_22.2.1.1 (by decide) (fun c_2 => ?_) (fun c_2 => ?_)
    · have t_2 : (3 : Int32).toInt ≤ a1.toInt := Int32.le_iff_toInt_le.mp c_2
      refine lv_iconst (v := 0) hx hb dB_36_3_22.2.2.2.1 (by decide) ?_
      rw [hQ]
      exact W.zret (ty := .boolean) (v := 0) hx hb hr (by decide) (fun t ht hW => ⟨⟨0, (), rfl, Or.inr (⟨by omega, rfl⟩), trivial⟩, hS.F ht⟩) hS.2.2 dB_36_3_22.2.2.2.2
    · have t_2 : ¬ (3 : Int32).toInt ≤ a1.toInt := fun h => c_2 (Int32.le_iff_toInt_le.mpr h)
      refine lv_iconst (v := 1) hx hb dB_36_3_22.2.1.2 (by decide) ?_
      refine lv_goto (tgt := 14) hx hb dB_36_3_22.2.2.1 (by decide) ?_
      rw [hQ]
      exact W.zret (ty := .boolean) (v := 1) hx hb hr (by decide) (fun t ht hW => ⟨⟨1, (), rfl, Or.inl (⟨by omega, rfl⟩), trivial⟩, hS.F ht⟩) hS.2.2 dB_36_3_22.2.2.2.2

set_option maxHeartbeats 4000000 in
set_option maxRecDepth 100000 in
theorem c_X11_mapRefusal (l : Launch) (D : va_G) (cy : Nat → ClassId) (sz : Nat) (a1 : Int32) (a2 : Int32) (a3 : Int32) : Met l yX11_mapRefusal wsX11_mapRefusal ({ frames := 1, cells := 0, slots := 0, locals := 20 }) (va_Pc [.int a1, .int a2, .int a3] (fun U => U.heap.size = sz ∧ va_P D vwCl [] U.heap ∧ kk_ D cy U ∧ va_D (fun _ => True) [])) (va_Qi (fun (r : Int32) (_ : Unit) => ((¬ ((0 ≤ a1.toInt ∧ a1.toInt < 4) ∧ (0 ≤ a2.toInt ∧ a2.toInt < 3) ∧ a3.toInt ≤ 6)) ∧ r = (-1)) ∨ ((((0 ≤ a1.toInt ∧ a1.toInt < 4) ∧ (0 ≤ a2.toInt ∧ a2.toInt < 3) ∧ a3.toInt ≤ 6) ∧ a3.toInt < 0) ∧ r = (-15)) ∨ ((((0 ≤ a1.toInt ∧ a1.toInt < 4) ∧ (0 ≤ a2.toInt ∧ a2.toInt < 3) ∧ a3.toInt ≤ 6) ∧ 0 ≤ a3.toInt) ∧ r = 0)) (fun (_ : Unit) (_ : State) => True) (va_A [] sz)) 0 0 (va_A [] sz) := by
  refine ofQ (cc := cX11_mapRefusal) (maxL := 3) (ret := (some .int)) (by decide) rfl ?_
  intro p e s m args below meth c s₁ Q hQ B hml hv
  obtain ⟨rfl, hsz, hP, hK, hD0⟩ := hv
  have hx := B.exec
  have hb := B.bytes
  have hr := B.returns
  have hts := atoms_spec (ws := wsX11_mapRefusal) B.pre
  have hown : s.vm.findClass RX11 = some m.cls := by have h_ := findClass_of_methodNamed B.named; exact h_
  have hlocks := B.notSynchronized
  subst hsz
  have hD : va_D (va_A [] s.heap.size) [] := dd_nil
  generalize hAe : va_A [] s.heap.size = A at hD hQ
  have hA : ∀ q : Nat, s.heap.size ≤ q → A q := fun q h => by rw [← hAe]; exact Or.inr h
  have hS : va_S A s.heap s.heap [] := va_S.rf
  have hl := lv_entry ([.int a1, .int a2, .int a3]) (n := 3) (Nat.le_of_ble_eq_true rfl)
  rw [lg_entry_eq]
  generalize (lg_sl ([.int a1, .int a2, .int a3]) ++ List.replicate (3 - (lg_sl ([.int a1, .int a2, .int a3])).length) Slot.unset).toArray = ls at hl ⊢
  have hl : lv_has ls 3 [(0, .int a1), (1, .int a2), (2, .int a3)] := hl
  have zm15 : ((-15) : Int32).toInt = -15 := by decide
  have zm1 : ((-1) : Int32).toInt = -1 := by decide
  have z0 : (0 : Int32).toInt = 0 := by decide
  have z6 : (6 : Int32).toInt = 6 := by decide
  refine lv_iload_n hx hb dB_36_3_32.1.1.1.1 rfl (lv_at hl 0 rfl) ?_
  refine ct_R hP hD0 [] [] (by decide) rfl (fun hPc hDw => ?_)
  have hFc := va_free (wc := []) hD hS hA [] rfl
  refine va_calli (va_runS (As := [.int a1]) (rest := []) ⟨hx, hb, hml, hown, hts⟩ (c_X11_isMapNumber l D cy s.heap.size a1) (va_cwS 1 hts gX11_mapRefusal_X11_isMapNumber rfl rfl rfl hd_X11_isMapNumber ⟨Nat.le_of_ble_eq_true rfl, Nat.le_of_ble_eq_true rfl⟩) ⟨bl_, fun U hU hW => ⟨rfl, by rw [hU], by rw [hU]; exact hPc, kk_mv hW hK, hDw⟩⟩ rfl rfl hl.1 rfl (lv_room (Nat.le_of_ble_eq_true rfl)) dB_36_3_32.1.1.1.2 ⟨Nat.le_of_ble_eq_true rfl, Nat.le_of_ble_eq_true rfl⟩) hS (fun q _ h => hFc q h) hFc (fun r_1 u t H locs ht hvm hw hB hz1 hk1 hS => ?_)
  have hP : va_P D vwCl _ H := ro_keep hP hk1
  rcases hw with ⟨w_2, e_⟩ | ⟨w_2, e_⟩
  · have e_ := e_.symm
    subst e_
    refine lv_if_eq (tgt := 20) hx hb dB_36_3_32.1.1.2.1 (by decide) (fun c_3 => ?_) (fun c_3 => ?_)
    · exact absurd c_3 (by decide)
    · have _ := c_3
      refine lv_iload_n hx hb dB_36_3_32.1.1.2.2 rfl (lv_at hl 1 rfl) ?_
      refine ct_R hP hD0 [] [] (by decide) rfl (fun hPc hDw => ?_)
      have hFc := va_free (wc := []) hD hS hA [] rfl
      refine va_calli (va_runS (As := [.int a2]) (rest := []) ⟨hx, hb, hml, hown, hts⟩ (c_X11_isMapKind l D cy H.size a2) (va_cwS 1 hts gX11_mapRefusal_X11_isMapKind rfl rfl rfl hd_X11_isMapKind ⟨Nat.le_of_ble_eq_true rfl, Nat.le_of_ble_eq_true rfl⟩) ⟨bl_, fun U hU hW => ⟨rfl, by rw [hU], by rw [hU]; exact hPc, kk_mv hW hK, hDw⟩⟩ rfl rfl hl.1 rfl (lv_room (Nat.le_of_ble_eq_true rfl)) dB_36_3_32.1.2.1.1 ⟨Nat.le_of_ble_eq_true rfl, Nat.le_of_ble_eq_true rfl⟩) hS (fun q _ h => hFc q h) hFc (fun r_4 u t H locs ht hvm hw hB hz1 hk1 hS => ?_)
      have hP : va_P D vwCl _ H := ro_keep hP hk1
      rcases hw with ⟨w_5, e_⟩ | ⟨w_5, e_⟩
      · have e_ := e_.symm
        subst e_
        refine lv_if_eq (tgt := 20) hx hb dB_36_3_32.1.2.1.2 (by decide) (fun c_6 => ?_) (fun c_6 => ?_)
        · exact absurd c_6 (by decide)
        · have _ := c_6
          refine lv_iload_n hx hb dB_36_3_32.1.2.2.1 rfl (lv_at hl 2 rfl) ?_
          refine lv_bipush (v := 6) hx hb dB_36_3_32.1.2.2.2 (by decide) ?_
          refine lv_icmp_le (tgt := 22) hx hb dB_36_3_32.2.1.1.1 (by decide) (fun c_7 => ?_) (fun c_7 => ?_)
          · have t_7 : a3.toInt ≤ (6 : Int32).toInt := Int32.le_iff_toInt_le.mp c_7
            refine lv_iload_n hx hb dB_36_3_32.2.1.2.2 rfl (lv_at hl 2 rfl) ?_
            refine lv_if_ge (tgt := 31) hx hb dB_36_3_32.2.2.1.1 (by decide) (fun c_8 => ?_) (fun c_8 => ?_)
            · have t_8 : (0 : Int32).toInt ≤ a3.toInt := Int32.le_iff_toInt_le.mp c_8
              refine lv_iconst (v := 0) hx hb dB_36_3_32.2.2.2.2 (by decide) ?_
              rw [hQ]
              exact W.iret (v := 0) hx hb hr (fun t ht hW => ⟨⟨0, (), rfl, Or.inr (Or.inr (⟨by omega, rfl⟩)), trivial⟩, hS.F ht⟩) hS.2.2 dB_36_3_33
            · have t_8 : ¬ (0 : Int32).toInt ≤ a3.toInt := fun h => c_8 (Int32.le_iff_toInt_le.mpr h)
              refine lv_bipush (v := (-15)) hx hb dB_36_3_32.2.2.1.2 (by decide) ?_
              refine lv_goto (tgt := 32) hx hb dB_36_3_32.2.2.2.1 (by decide) ?_
              rw [hQ]
              exact W.iret (v := (-15)) hx hb hr (fun t ht hW => ⟨⟨(-15), (), rfl, Or.inr (Or.inl (⟨by omega, rfl⟩)), trivial⟩, hS.F ht⟩) hS.2.2 dB_36_3_33
          · have t_7 : ¬ a3.toInt ≤ (6 : Int32).toInt := fun h => c_7 (Int32.le_iff_toInt_le.mpr h)
            refine lv_iconst (v := (-1)) hx hb dB_36_3_32.2.1.1.2 (by decide) ?_
            rw [hQ]
            exact W.iret (v := (-1)) hx hb hr (fun t ht hW => ⟨⟨(-1), (), rfl, Or.inl (⟨by omega, rfl⟩), trivial⟩, hS.F ht⟩) hS.2.2 dB_36_3_32.2.1.2.1
      · have e_ := e_.symm
        subst e_
        refine lv_if_eq (tgt := 20) hx hb dB_36_3_32.1.2.1.2 (by decide) (fun c_9 => ?_) (fun c_9 => ?_)
        · have _ := c_9
          refine lv_iconst (v := (-1)) hx hb dB_36_3_32.2.1.1.2 (by decide) ?_
          rw [hQ]
          exact W.iret (v := (-1)) hx hb hr (fun t ht hW => ⟨⟨(-1), (), rfl, Or.inl (⟨by omega, rfl⟩), trivial⟩, hS.F ht⟩) hS.2.2 dB_36_3_32.2.1.2.1
        · exact absurd c_9 (by decide)
  · have e_ := e_.symm
    subst e_
    refine lv_if_eq (tgt := 20) hx hb dB_36_3_32.1.1.2.1 (by decide) (fun c_10 => ?_) (fun c_10 => ?_)
    · have _ := c_10
      refine lv_iconst (v := (-1)) hx hb dB_36_3_32.2.1.1.2 (by decide) ?_
      rw [hQ]
      exact W.iret (v := (-1)) hx hb hr (fun t ht hW => ⟨⟨(-1), (), rfl, Or.inl (⟨by omega, rfl⟩), trivial⟩, hS.F ht⟩) hS.2.2 dB_36_3_32.2.1.2.1
    · exact absurd c_10 (by decide)
end

section
/-- the row of the five kinds -/
noncomputable def kf_ (a b c d e : Nat) : Nat → Option Nat := fun i => if i = 0 then some a else if i = 1 then some b else if i = 2 then some c else if i = 3 then some d else if i = 4 then some e else none
theorem sp_5 {x : Int32} (h : 0 ≤ x.toInt ∧ x.toInt ≤ 4) : x = 0 ∨ x = 1 ∨ x = 2 ∨ x = 3 ∨ x = 4 := by
  have h1 : x.toInt = 0 ∨ x.toInt = 1 ∨ x.toInt = 2 ∨ x.toInt = 3 ∨ x.toInt = 4 := by omega
  rcases h1 with h | h | h | h | h
  · exact Or.inl (Int32.toInt_inj.mp h)
  · exact Or.inr (Or.inl (Int32.toInt_inj.mp h))
  · exact Or.inr (Or.inr (Or.inl (Int32.toInt_inj.mp h)))
  · exact Or.inr (Or.inr (Or.inr (Or.inl (Int32.toInt_inj.mp h))))
  · exact Or.inr (Or.inr (Or.inr (Or.inr (Int32.toInt_inj.mp h))))
theorem sw_6 (x : Int32) : (x.toInt < 0 ∨ 5 < x.toInt) ∨ x.toInt = 0 ∨ x.toInt = 1 ∨ x.toInt = 2 ∨ x.toInt = 3 ∨ x.toInt = 4 ∨ x.toInt = 5 := by omega

set_option maxHeartbeats 4000000 in
set_option maxRecDepth 100000 in
theorem c_X11_lineRefusal (l : Launch) (D : va_G) (cy : Nat → ClassId) (sz : Nat) (xo : Nat) (xk : Nat) (xn : Nat) (xc : Nat) (xh : Nat) (xt : Nat) (xw : Nat) (xm : Nat) (xp : Nat) (pf : Int32) (ph : Int32) (tr : Int64) (fi : Int32) (n1 : Nat) (n2 : Nat) (n3 : Nat) (n4 : Nat) (n5 : Nat) (vp : Int32) (vn : Int32) (a1 : Int64) (a2 : Int64) (a3 : Int64) (a4 : Int64) (a5 : Int64) (hvn : 0 ≤ vn.toInt ∧ vn.toInt ≤ 40) (hvp : 0 ≤ vp.toInt ∧ vp.toInt ≤ 12) : Met l yX11_lineRefusal wsX11_lineRefusal ({ frames := 2, cells := 0, slots := 0, locals := 46 }) (va_Pc [.ref xo, .long a1, .long a2, .long a3, .long a4, .long a5] (fun U => U.heap.size = sz ∧ va_P D vwCl [ob11_0_ xo xk xn xc xh xt xw xm xp pf ph tr fi, ob3_0_ xn vp vn n1 n2 n3 n4 n5] U.heap ∧ kk_ D cy U ∧ va_D (fun _ => True) [ob11_0_ xo xk xn xc xh xt xw xm xp pf ph tr fi, ob3_0_ xn vp vn n1 n2 n3 n4 n5])) (va_Qi (fun (r : Int32) (_ : Unit) => ((¬ ((0 ≤ a1.toInt ∧ a1.toInt ≤ 4) ∧ (0 ≤ a2.toInt ∧ a2.toInt < vp.toInt) ∧ (0 ≤ a3.toInt ∧ a3.toInt < vp.toInt) ∧ a2.toInt ≠ a3.toInt ∧ (0 ≤ a4.toInt ∧ a4.toInt ≤ 1000) ∧ (0 ≤ a5.toInt ∧ a5.toInt ≤ 100))) ∧ r = (-1)) ∨ ((((0 ≤ a1.toInt ∧ a1.toInt ≤ 4) ∧ (0 ≤ a2.toInt ∧ a2.toInt < vp.toInt) ∧ (0 ≤ a3.toInt ∧ a3.toInt < vp.toInt) ∧ a2.toInt ≠ a3.toInt ∧ (0 ≤ a4.toInt ∧ a4.toInt ≤ 1000) ∧ (0 ≤ a5.toInt ∧ a5.toInt ≤ 100)) ∧ vn.toInt = 40) ∧ r = (-3)) ∨ ((((0 ≤ a1.toInt ∧ a1.toInt ≤ 4) ∧ (0 ≤ a2.toInt ∧ a2.toInt < vp.toInt) ∧ (0 ≤ a3.toInt ∧ a3.toInt < vp.toInt) ∧ a2.toInt ≠ a3.toInt ∧ (0 ≤ a4.toInt ∧ a4.toInt ≤ 1000) ∧ (0 ≤ a5.toInt ∧ a5.toInt ≤ 100)) ∧ vn.toInt < 40) ∧ r = 0)) (fun (_ : Unit) (_ : State) => True) (va_A [] sz)) 0 0 (va_A [] sz) := by
  refine ofQ (cc := cX11_lineRefusal) (maxL := 11) (ret := (some .int)) (by decide) rfl ?_
  intro p e s m args below meth c s₁ Q hQ B hml hv
  obtain ⟨rfl, hsz, hP, hK, hD0⟩ := hv
  have hx := B.exec
  have hb := B.bytes
  have hr := B.returns
  have hts := atoms_spec (ws := wsX11_lineRefusal) B.pre
  have hown : s.vm.findClass RX11 = some m.cls := by have h_ := findClass_of_methodNamed B.named; exact h_
  have hlocks := B.notSynchronized
  subst hsz
  have hD : va_D (va_A [] s.heap.size) [] := dd_nil
  generalize hAe : va_A [] s.heap.size = A at hD hQ
  have hA : ∀ q : Nat, s.heap.size ≤ q → A q := fun q h => by rw [← hAe]; exact Or.inr h
  have hS : va_S A s.heap s.heap [] := va_S.rf
  have hl := lv_entry ([.ref xo, .long a1, .long a2, .long a3, .long a4, .long a5]) (n := 11) (Nat.le_of_ble_eq_true rfl)
  rw [lg_entry_eq]
  generalize (lg_sl ([.ref xo, .long a1, .long a2, .long a3, .long a4, .long a5]) ++ List.replicate (11 - (lg_sl ([.ref xo, .long a1, .long a2, .long a3, .long a4, .long a5])).length) Slot.unset).toArray = ls at hl ⊢
  have hl : lv_has ls 11 [(0, .ref xo), (1, .long a1), (3, .long a2), (5, .long a3), (7, .long a4), (9, .long a5)] := hl
  have zm3 : ((-3) : Int32).toInt = -3 := by decide
  have zm1 : ((-1) : Int32).toInt = -1 := by decide
  have z0 : (0 : Int32).toInt = 0 := by decide
  have zl0 : (0 : Int64).toInt = 0 := by decide
  have zl5 : (5 : Int64).toInt = 5 := by decide
  have z40 : (40 : Int32).toInt = 40 := by decide
  have zl100 : (100 : Int64).toInt = 100 := by decide
  have zl1000 : (1000 : Int64).toInt = 1000 := by decide
  refine lv_lload_n hx hb dB_36_3_27.1.1.1.1 rfl (lv_at hl 1 rfl) ?_
  refine lv_lconst (v := 0) hx hb dB_36_3_27.1.1.1.2 (by decide) ?_
  refine W.lcmp hx hb dB_36_3_27.1.1.2.1 ?_
  refine lv_if_lt (tgt := 27) hx hb dB_36_3_27.1.1.2.2 (by decide) (fun c_1 => ?_) (fun c_1 => ?_)
  · have t_1 : a1.toInt < (0 : Int64).toInt := Int64.lt_iff_toInt_lt.mp ((lg_cmp_lt a1 0).mp c_1)
    refine lv_iconst (v := (-1)) hx hb dB_36_3_27.2.2.2.1 (by decide) ?_
    rw [hQ]
    exact W.iret (v := (-1)) hx hb hr (fun t ht hW => ⟨⟨(-1), (), rfl, Or.inl (⟨by omega, rfl⟩), trivial⟩, hS.F ht⟩) hS.2.2 dB_36_3_27.2.2.2.2
  · have t_1 : ¬ a1.toInt < (0 : Int64).toInt := fun h => c_1 ((lg_cmp_lt a1 0).mpr (Int64.lt_iff_toInt_lt.mpr h))
    refine lv_lload_n hx hb dB_36_3_27.1.2.1.1 rfl (lv_at hl 1 rfl) ?_
    refine lv_ldc2 (v := 5) hx hb hown (hts (.constantLong RX11 300 (5)) (List.mem_of_getElem? (i := 1) rfl)) dB_36_3_27.1.2.1.2 ?_
    refine W.lcmp hx hb dB_36_3_27.1.2.2.1 ?_
    refine lv_if_ge (tgt := 27) hx hb dB_36_3_27.1.2.2.2 (by decide) (fun c_2 => ?_) (fun c_2 => ?_)
    · have t_2 : (5 : Int64).toInt ≤ a1.toInt := Int64.le_iff_toInt_le.mp ((lg_cmp_ge a1 5).mp c_2)
      refine lv_iconst (v := (-1)) hx hb dB_36_3_27.2.2.2.1 (by decide) ?_
      rw [hQ]
      exact W.iret (v := (-1)) hx hb hr (fun t ht hW => ⟨⟨(-1), (), rfl, Or.inl (⟨by omega, rfl⟩), trivial⟩, hS.F ht⟩) hS.2.2 dB_36_3_27.2.2.2.2
    · have t_2 : ¬ (5 : Int64).toInt ≤ a1.toInt := fun h => c_2 ((lg_cmp_ge a1 5).mpr (Int64.le_iff_toInt_le.mpr h))
      refine lv_aload_n hx hb dB_36_3_27.2.1.1.1 rfl (lv_at hl 0 rfl) ?_
      refine va_get (ci := 11) (v := .ref xn) (C := RX11) (T := TX11) (N := 12) hx hb hts (fun _ h => List.mem_cons_of_mem _ (List.mem_append_left _ (List.mem_append_right _ h))) hown hK.1 hP 0 rfl rfl 1 (by decide) (hts (.fieldLink RX11 31 "CutAtlas" "net" "LCutAtlas$Net;") (List.mem_of_getElem? (i := 2) rfl)) (fun _ h9 => h9) rfl dB_36_3_27.2.1.1.2 ?_
      refine lv_lload_n hx hb dB_36_3_27.2.1.2.1 rfl (lv_at hl 2 rfl) ?_
      refine lv_lload hx hb dB_36_3_27.2.1.2.2 (lv_at hl 3 rfl) ?_
      refine ct_R hP hD0 [ob3_0_ xn vp vn n1 n2 n3 n4 n5] [1] (by decide) rfl (fun hPc hDw => ?_)
      have hFc := va_free (wc := []) hD hS hA [] rfl
      refine va_calli (va_runV (As := [.long a2, .long a3]) (rest := []) ⟨hx, hb, hml, hown, hts⟩ (c_X3_hasPair l D cy s.heap.size xn n1 n2 n3 n4 n5 vp vn a2 a3) (cwV 2 hts gX11_lineRefusal_X3_hasPair rfl rfl rfl ⟨rfl, hd_X3_hasPair⟩ ⟨Nat.le_of_ble_eq_true rfl, Nat.le_of_ble_eq_true rfl⟩) ⟨bl_, va_recvX hK.1 hP (ci := 3) (q0 := 1) rfl rfl, fun U hU hW => ⟨rfl, by rw [hU], by rw [hU]; exact hPc, kk_mv hW hK, hDw⟩⟩ rfl rfl hl.1 rfl (lv_room (Nat.le_of_ble_eq_true rfl)) dB_36_3_27.2.2.1.1 ⟨Nat.le_of_ble_eq_true rfl, Nat.le_of_ble_eq_true rfl⟩) hS (fun q _ h => hFc q h) hFc (fun r_3 u t H locs ht hvm hw hB hz1 hk1 hS => ?_)
      have hP : va_P D vwCl _ H := ro_keep hP hk1
      rcases hw with ⟨w_4, e_⟩ | ⟨w_4, e_⟩
      · have e_ := e_.symm
        subst e_
        refine lv_if_ne (tgt := 29) hx hb dB_36_3_27.2.2.1.2 (by decide) (fun c_5 => ?_) (fun c_5 => ?_)
        · have _ := c_5
          refine lv_lload hx hb dB_36_3_28.1.1.1.1 (lv_at hl 4 rfl) ?_
          refine lv_lconst (v := 0) hx hb dB_36_3_28.1.1.1.2 (by decide) ?_
          refine W.lcmp hx hb dB_36_3_28.1.1.2.1 ?_
          refine lv_if_lt (tgt := 61) hx hb dB_36_3_28.1.1.2.2 (by decide) (fun c_6 => ?_) (fun c_6 => ?_)
          · have t_6 : a4.toInt < (0 : Int64).toInt := Int64.lt_iff_toInt_lt.mp ((lg_cmp_lt a4 0).mp c_6)
            refine lv_iconst (v := (-1)) hx hb dB_36_3_29.1.1.1 (by decide) ?_
            rw [hQ]
            exact W.iret (v := (-1)) hx hb hr (fun t ht hW => ⟨⟨(-1), (), rfl, Or.inl (⟨by omega, rfl⟩), trivial⟩, hS.F ht⟩) hS.2.2 dB_36_3_29.1.1.2
          · have t_6 : ¬ a4.toInt < (0 : Int64).toInt := fun h => c_6 ((lg_cmp_lt a4 0).mpr (Int64.lt_iff_toInt_lt.mpr h))
            refine lv_lload hx hb dB_36_3_28.1.2.1.1 (lv_at hl 4 rfl) ?_
            refine lv_ldc2 (v := 1000) hx hb hown (hts (.constantLong RX11 302 (1000)) (List.mem_of_getElem? (i := 3) rfl)) dB_36_3_28.1.2.1.2 ?_
            refine W.lcmp hx hb dB_36_3_28.1.2.2.1 ?_
            refine lv_if_gt (tgt := 61) hx hb dB_36_3_28.1.2.2.2 (by decide) (fun c_7 => ?_) (fun c_7 => ?_)
            · have t_7 : (1000 : Int64).toInt < a4.toInt := Int64.lt_iff_toInt_lt.mp ((lg_cmp_gt a4 1000).mp c_7)
              refine lv_iconst (v := (-1)) hx hb dB_36_3_29.1.1.1 (by decide) ?_
              rw [hQ]
              exact W.iret (v := (-1)) hx hb hr (fun t ht hW => ⟨⟨(-1), (), rfl, Or.inl (⟨by omega, rfl⟩), trivial⟩, hS.F ht⟩) hS.2.2 dB_36_3_29.1.1.2
            · have t_7 : ¬ (1000 : Int64).toInt < a4.toInt := fun h => c_7 ((lg_cmp_gt a4 1000).mpr (Int64.lt_iff_toInt_lt.mpr h))
              refine lv_lload hx hb dB_36_3_28.2.1.1.1 (lv_at hl 5 rfl) ?_
              refine lv_lconst (v := 0) hx hb dB_36_3_28.2.1.1.2 (by decide) ?_
              refine W.lcmp hx hb dB_36_3_28.2.1.2.1 ?_
              refine lv_if_lt (tgt := 61) hx hb dB_36_3_28.2.1.2.2 (by decide) (fun c_8 => ?_) (fun c_8 => ?_)
              · have t_8 : a5.toInt < (0 : Int64).toInt := Int64.lt_iff_toInt_lt.mp ((lg_cmp_lt a5 0).mp c_8)
                refine lv_iconst (v := (-1)) hx hb dB_36_3_29.1.1.1 (by decide) ?_
                rw [hQ]
                exact W.iret (v := (-1)) hx hb hr (fun t ht hW => ⟨⟨(-1), (), rfl, Or.inl (⟨by omega, rfl⟩), trivial⟩, hS.F ht⟩) hS.2.2 dB_36_3_29.1.1.2
              · have t_8 : ¬ a5.toInt < (0 : Int64).toInt := fun h => c_8 ((lg_cmp_lt a5 0).mpr (Int64.lt_iff_toInt_lt.mpr h))
                refine lv_lload hx hb dB_36_3_28.2.2.1.1 (lv_at hl 5 rfl) ?_
                refine lv_ldc2 (v := 100) hx hb hown (hts (.constantLong RX11 304 (100)) (List.mem_of_getElem? (i := 4) rfl)) dB_36_3_28.2.2.1.2 ?_
                refine W.lcmp hx hb dB_36_3_28.2.2.2.1 ?_
                refine lv_if_le (tgt := 63) hx hb dB_36_3_28.2.2.2.2 (by decide) (fun c_9 => ?_) (fun c_9 => ?_)
                · have t_9 : a5.toInt ≤ (100 : Int64).toInt := Int64.le_iff_toInt_le.mp ((lg_cmp_le a5 100).mp c_9)
                  refine lv_aload_n hx hb dB_36_3_29.1.2.1 rfl (lv_at hl 0 rfl) ?_
                  refine va_get (ci := 11) (v := .ref xn) (C := RX11) (T := TX11) (N := 12) hx hb hts (fun _ h => List.mem_cons_of_mem _ (List.mem_append_left _ (List.mem_append_right _ h))) hown hK.1 hP 0 rfl rfl 1 (by decide) (hts (.fieldLink RX11 31 "CutAtlas" "net" "LCutAtlas$Net;") (List.mem_of_getElem? (i := 2) rfl)) (fun _ h9 => h9) rfl dB_36_3_29.1.2.2.1 ?_
                  refine va_get (ci := 3) (v := .int vn) (C := RX3) (T := TX3) (N := 7) hx hb hts (fun _ h => List.mem_cons_of_mem _ (List.mem_append_right _ h)) hown hK.1 hP 1 rfl rfl 1 (by decide) (hts (.fieldLink RX11 294 "CutAtlas$Net" "lines" "I") (List.mem_of_getElem? (i := 5) rfl)) (fun _ h9 => h9) rfl dB_36_3_29.1.2.2.2 ?_
                  refine lv_bipush (v := 40) hx hb dB_36_3_29.2.1.1 (by decide) ?_
                  refine lv_icmp_lt (tgt := 80) hx hb dB_36_3_29.2.1.2.1 (by decide) (fun c_10 => ?_) (fun c_10 => ?_)
                  · have t_10 : vn.toInt < (40 : Int32).toInt := Int32.lt_iff_toInt_lt.mp c_10
                    refine lv_iconst (v := 0) hx hb dB_36_3_29.2.2.2.1 (by decide) ?_
                    rw [hQ]
                    exact W.iret (v := 0) hx hb hr (fun t ht hW => ⟨⟨0, (), rfl, Or.inr (Or.inr (⟨by omega, rfl⟩)), trivial⟩, hS.F ht⟩) hS.2.2 dB_36_3_29.2.2.2.2
                  · have t_10 : ¬ vn.toInt < (40 : Int32).toInt := fun h => c_10 (Int32.lt_iff_toInt_lt.mpr h)
                    refine lv_bipush (v := (-3)) hx hb dB_36_3_29.2.1.2.2 (by decide) ?_
                    refine lv_goto (tgt := 81) hx hb dB_36_3_29.2.2.1 (by decide) ?_
                    rw [hQ]
                    exact W.iret (v := (-3)) hx hb hr (fun t ht hW => ⟨⟨(-3), (), rfl, Or.inr (Or.inl (⟨by omega, rfl⟩)), trivial⟩, hS.F ht⟩) hS.2.2 dB_36_3_29.2.2.2.2
                · have t_9 : ¬ a5.toInt ≤ (100 : Int64).toInt := fun h => c_9 ((lg_cmp_le a5 100).mpr (Int64.le_iff_toInt_le.mpr h))
                  refine lv_iconst (v := (-1)) hx hb dB_36_3_29.1.1.1 (by decide) ?_
                  rw [hQ]
                  exact W.iret (v := (-1)) hx hb hr (fun t ht hW => ⟨⟨(-1), (), rfl, Or.inl (⟨by omega, rfl⟩), trivial⟩, hS.F ht⟩) hS.2.2 dB_36_3_29.1.1.2
        · exact absurd c_5 (by decide)
      · have e_ := e_.symm
        subst e_
        refine lv_if_ne (tgt := 29) hx hb dB_36_3_27.2.2.1.2 (by decide) (fun c_11 => ?_) (fun c_11 => ?_)
        · exact absurd c_11 (by decide)
        · have _ := c_11
          refine lv_iconst (v := (-1)) hx hb dB_36_3_27.2.2.2.1 (by decide) ?_
          rw [hQ]
          exact W.iret (v := (-1)) hx hb hr (fun t ht hW => ⟨⟨(-1), (), rfl, Or.inl (⟨by omega, rfl⟩), trivial⟩, hS.F ht⟩) hS.2.2 dB_36_3_27.2.2.2.2

set_option maxHeartbeats 4000000 in
set_option maxRecDepth 100000 in
theorem c_X11_trace (l : Launch) (D : va_G) (cy : Nat → ClassId) (sz : Nat) (xo : Nat) (xk : Nat) (xn : Nat) (xc : Nat) (xh : Nat) (xt : Nat) (xw : Nat) (xm : Nat) (xp : Nat) (pf : Int32) (ph : Int32) (tr : Int64) (fi : Int32) (n1 : Nat) (n2 : Nat) (n3 : Nat) (n4 : Nat) (n5 : Nat) (vp : Int32) (vn : Int32) : Met l yX11_trace wsX11_trace ({ frames := 0, cells := 0, slots := 0, locals := 0 }) (va_Pc [.ref xo] (fun U => U.heap.size = sz ∧ va_P D vwCl [ob11_0_ xo xk xn xc xh xt xw xm xp pf ph tr fi, ob3_0_ xn vp vn n1 n2 n3 n4 n5] U.heap ∧ kk_ D cy U ∧ va_D (fun _ => True) [ob11_0_ xo xk xn xc xh xt xw xm xp pf ph tr fi, ob3_0_ xn vp vn n1 n2 n3 n4 n5])) (va_Ql (fun (r : Int64) (_ : Unit) => True) (fun (_ : Unit) (_ : State) => True) (va_A [] sz)) 0 0 (va_A [] sz) := by
  refine ofQ (cc := cX11_trace) (maxL := 1) (ret := (some .long)) (by decide) rfl ?_
  intro p e s m args below meth c s₁ Q hQ B hml hv
  obtain ⟨rfl, hsz, hP, hK, hD0⟩ := hv
  have hx := B.exec
  have hb := B.bytes
  have hr := B.returns
  have hts := atoms_spec (ws := wsX11_trace) B.pre
  have hown : s.vm.findClass RX11 = some m.cls := by have h_ := findClass_of_methodNamed B.named; exact h_
  have hlocks := B.notSynchronized
  subst hsz
  have hD : va_D (va_A [] s.heap.size) [] := dd_nil
  generalize hAe : va_A [] s.heap.size = A at hD hQ
  have hA : ∀ q : Nat, s.heap.size ≤ q → A q := fun q h => by rw [← hAe]; exact Or.inr h
  have hS : va_S A s.heap s.heap [] := va_S.rf
  have hl := lv_entry ([.ref xo]) (n := 1) (Nat.le_of_ble_eq_true rfl)
  rw [lg_entry_eq]
  generalize (lg_sl ([.ref xo]) ++ List.replicate (1 - (lg_sl ([.ref xo])).length) Slot.unset).toArray = ls at hl ⊢
  have hl : lv_has ls 1 [(0, .ref xo)] := hl
  refine lv_aload_n hx hb dB_36_3_65.1 rfl (lv_at hl 0 rfl) ?_
  refine va_get (ci := 11) (v := .long tr) (C := RX11) (T := TX11) (N := 12) hx hb hts (fun _ h => List.mem_cons_of_mem _ (List.mem_append_right _ h)) hown hK.1 hP 0 rfl rfl 10 (by decide) (hts (.fieldLink RX11 87 "CutAtlas" "traced" "J") (List.mem_of_getElem? (i := 1) rfl)) (fun _ h9 => h9) rfl dB_36_3_65.2.1 ?_
  rw [hQ]
  exact W.lret (v := tr) hx hb hr (fun t ht hW => ⟨⟨tr, (), rfl, trivial, trivial⟩, hS.F ht⟩) hS.2.2 dB_36_3_65.2.2
end

section
section DEEP
variable {p : Program} {l : Launch} {e : Env} {R : Room} {s : State} {m : MethodId} {args : Array Value} {below : List Frame} {meth : Method} {c : Code} {H : Heap} {locs : List Loc} {cells slots : Nat}
variable {y : MethodName} {bytes cc : ByteArray} {maxL nL mc ms n index : Nat} {ret : Option FieldType} {ws : List Cond} {rm : Room} {Pc : Array Value → State → Prop} {Qc : Array Value → State → Outcome → State → Prop} {free : Addr → Prop} {Ts : List Cond} {own C : String} {b : Addr} {As rest : List Value} {g : JFrame}
/-- a call with more than eight words below its arguments -/
theorem va_runVW {W : Nat} (S : CallFix p m c cc nL s args Ts own) (hM : Met l y ws rm Pc Qc mc ms free) (cw : CallW R s args own C index y bytes maxL ret ws rm mc ms n) (hdeep : W + (maxL + 11) + rm.locals ≤ R.locals) (hp : PreV s H C b Pc As)
    (hg : g.method = m) (hn : As.length = n) (hsize : g.locals.size = nL) (hstack : g.stack = As.reverse ++ .ref b :: rest) (hW : 2 * g.monitorRoom + (rest.map fun v => v.category).sum ≤ W) (hdg : decode cc g.pc = .ok (.invokevirtual index, 3)) (hf : cells + mc ≤ R.cells ∧ slots + ms ≤ R.slots) :
    va_Run p l e R s m args below meth c H locs cells slots mc ms g rest (Qc (Value.ref b :: As).toArray) (free) := by
  have hK : Back l R p e below s args y 3 W (PreOf R mc ms Pc) (PostOf Qc mc ms free) := by
    obtain ⟨hrc, hrs, hfr, -, hws, hcw, -, hini, -⟩ := cw.1
    exact back_of (bytes := bytes) (maxL := maxL) (ret := ret) hM hp.1 hrc hrs hfr hdeep hws hcw (fun a' U hW => word_at hW (Or.inl (by first | rfl | simp [Cond.onTables, Cond.keeps, Cond.steady])) hini)
  obtain ⟨⟨-, -, -, -, -, -, hcode, -, hy, hlen, hl⟩, hin, hse⟩ := cw
  obtain ⟨hx, hb, hml, ho, -⟩ := S
  obtain ⟨-, ⟨cellB, hcB, hoB, hclB⟩, hPc⟩ := hp
  intro T hT X
  obtain ⟨v, vm₁, ⟨U', l2, c2, s2⟩, hW₁, X', ⟨g', mk, t, L, e1, e2, hq, h1, hL, h2, h3⟩, st⟩ := callV X hx (C := C) (bytes := bytes) (maxL := maxL) (ret := ret) ho hl hin hse hcode hy hK (by rw [hT]; exact hcB) hoB hclB hg (hsize.trans hml.symm) (argsL := As) (rest := rest) (fun sig h => hn.trans (hlen sig h)) hstack hW (by rw [hb]; exact hdg)
    (fun vm₁ hW₁ => ⟨hf.1, hf.2, hPc (T.setVm vm₁) hT hW₁⟩)
  dsimp only [Pt.U, Pt.locs, Pt.cells, Pt.slots] at X' e1 e2 h1 h2 h3 st
  subst h1; subst h2; subst h3
  exact ⟨v, (T.setVm vm₁).calling g' mk (Value.ref b :: As).toArray, t, U', L, hT, X', hL, e1, e2, hq, st⟩
end DEEP
end

section
/-- twelve rows of twelve numbers -/
noncomputable def gro (c : ClassId) (r : Nat → Nat) (M : Nat → Nat → Int32) : va_W := (List.range 12).map (fun k => (r k, .inl (c, 12, .inl (M k))))
/-- the outer row -/
noncomputable def gf_ (r : Nat → Nat) : Nat → Option Nat := fun i => if i < 12 then some (r i) else none
theorem gro_len {c : ClassId} {r : Nat → Nat} {M : Nat → Nat → Int32} : (gro c r M).length = 12 := by
  unfold gro
  rw [List.length_map, List.length_range]
theorem gro_get {c : ClassId} {r : Nat → Nat} {M : Nat → Nat → Int32} {k : Nat} (hk : k < 12) : (gro c r M)[k]? = some (r k, .inl (c, 12, .inl (M k))) := by
  unfold gro
  rw [List.getElem?_map, List.getElem?_range hk]
  rfl
theorem gro_at {X Y : va_W} {c : ClassId} {r : Nat → Nat} {M : Nat → Nat → Int32} {k : Nat} (hk : k < 12) : (X ++ (gro c r M ++ Y))[X.length + k]? = some (r k, .inl (c, 12, .inl (M k))) := by
  rw [List.getElem?_append_right (by omega), show X.length + k - X.length = k by omega, List.getElem?_append_left (by rw [gro_len]; exact hk)]
  exact gro_get hk
theorem gro_set {X Y : va_W} {c : ClassId} {r : Nat → Nat} {M : Nat → Nat → Int32} {k : Nat} {g : Nat → Int32} (hk : k < 12) : (X ++ (gro c r M ++ Y)).set (X.length + k) (r k, .inl (c, 12, .inl g)) = X ++ (gro c r (va_up M k g) ++ Y) := by
  rw [List.set_append_right _ _ (by omega), show X.length + k - X.length = k by omega, List.set_append_left _ _ (by rw [gro_len]; exact hk)]
  congr 2
  apply List.ext_getElem?
  intro i
  by_cases hi : i < 12
  · rw [gro_get hi]
    by_cases e : i = k
    · subst e
      rw [List.getElem?_set_self (by rw [gro_len]; exact hi), va_up_self]
    · rw [List.getElem?_set_ne (fun h => e h.symm), gro_get hi, va_up_ne _ _ e]
  · rw [List.getElem?_eq_none (by rw [List.length_set, gro_len]; omega), List.getElem?_eq_none (by rw [gro_len]; omega)]
theorem gf_at {r : Nat → Nat} {i : Int32} (h : vp_in i 12) : va_rf (gf_ r i.toNatClampNeg) = .ref (r i.toNatClampNeg) := by
  unfold gf_
  rw [if_pos (in_lt h)]
  rfl
section GRW
variable {p : Program} {l : Launch} {e : Env} {R : Room} {s : State} {m : MethodId} {args : Array Value} {below : List Frame} {meth : Method} {c : Code} {H : Heap} {locs : List Loc} {cells slots : Nat} {Q : State → Prop}
variable {cc : ByteArray} {pc : Nat} {ls : Array Slot} {rest : List Value} {D : va_G} {cl : List vw_C} {A : Nat → Prop} {a : Nat} {tys : List (ClassId × FieldType)} {ws : va_W} {H0 : Heap}
theorem va_alda (hexec : p.tables.exec = Jvm.exec) (hb : c.code = cc) {cA : ClassId} (hG : ArrOfT s cA (.array .int)) (hP : va_P D cl ws H) (q0 : Nat) {n : Nat} {f : Nat → Option Nat} (ha : ws[q0]? = some (a, .inl (cA, n, .inr (.inr (.inr (.inr f)))))) {i : Int32} (hin : vp_in i n) (hdg : decode cc pc = .ok (.aaload, 1))
    (kk : W p l e R s m args below meth c H locs cells slots Q (F0 m (pc + 1) ls (va_rf (f i.toNatClampNeg) :: rest))) : W p l e R s m args below meth c H locs cells slots Q (F0 m pc ls (.int i :: .ref a :: rest)) := by
  have hlt : i.toNatClampNeg < n := in_lt hin
  exact W.aald (v := va_rf (f i.toNatClampNeg)) (ty := .array .int) hexec hb (hP q0 _ ha) (hG n (fun j => va_rf (f j))) rfl (fun q => by cases q) (by show ¬ (i < 0 ∨ (arrV _ _ _).slots.size ≤ _); rw [arrV_size]; exact hin) (by show (arrV _ _ _).slots[_]? = _; rw [arrV_read _ _ hlt]) rfl rfl hdg kk
theorem va_gld {X Y : va_W} {cA : ClassId} {r : Nat → Nat} {M : Nat → Nat → Int32} {k : Nat} (hexec : p.tables.exec = Jvm.exec) (hb : c.code = cc) (hK : va_K D cl tys s) (hP : va_P D cl (X ++ (gro cA r M ++ Y)) H) (t0 : Nat) (ht : tys[t0]? = some (cA, .int)) (hk : k < 12) {i : Int32} (hin : vp_in i 12) (hdg : decode cc pc = .ok (.iaload, 1))
    (kk : W p l e R s m args below meth c H locs cells slots Q (F0 m (pc + 1) ls (.int (M k i.toNatClampNeg) :: rest))) : W p l e R s m args below meth c H locs cells slots Q (F0 m pc ls (.int i :: .ref (r k) :: rest)) :=
  va_iald hexec hb hK hP (X.length + k) t0 (gro_at hk) ht hin hdg kk
theorem va_gst {X Y : va_W} {cA : ClassId} {r : Nat → Nat} {M : Nat → Nat → Int32} {k : Nat} (hexec : p.tables.exec = Jvm.exec) (hb : c.code = cc) (hK : va_K D cl tys s) (hP : va_P D cl (X ++ (gro cA r M ++ Y)) H) (hD : va_D A (X ++ (gro cA r M ++ Y))) (hS : va_S A H0 H locs) (t0 : Nat) (ht : tys[t0]? = some (cA, .int)) (hk : k < 12) {i x : Int32} (hin : vp_in i 12) (hdg : decode cc pc = .ok (.iastore, 1))
    (kk : ∀ (H1 : Heap) (locs1 : List Loc), va_P D cl (X ++ (gro cA r (va_up M k (upd (M k) i.toNatClampNeg x)) ++ Y)) H1 → va_D A (X ++ (gro cA r (va_up M k (upd (M k) i.toNatClampNeg x)) ++ Y)) → va_S A H0 H1 locs1 → W p l e R s m args below meth c H1 locs1 cells slots Q (F0 m (pc + 1) ls rest)) : W p l e R s m args below meth c H locs cells slots Q (F0 m pc ls (.int x :: .int i :: .ref (r k) :: rest)) := by
  refine va_iast hexec hb hK hP hD hS (X.length + k) t0 (gro_at hk) ht hin hdg (fun H1 locs1 hP1 hD1 hS1 => ?_)
  rw [gro_set hk] at hP1 hD1
  exact kk H1 locs1 hP1 hD1 hS1
end GRW
end

section
noncomputable def kg_ (D : va_G) (cy : Nat → ClassId) (U : State) : Prop := kk_ D cy U ∧ ArrOfT U (cy 6) (.array .int)
theorem bl_g {av : List Value} {sz : Nat} {D : va_G} {cy : Nat → ClassId} {ws : va_W} {A : Nat → Prop} : FrameBlind (va_Pc av (fun U => U.heap.size = sz ∧ va_P D vwCl ws U.heap ∧ kg_ D cy U ∧ va_D A ws)) := fun a U g mk q => by
  obtain ⟨q0, q1, qP, qK, qD⟩ := q
  exact ⟨q0, q1, qP, ⟨kk_cl (s := U) (U := U.calling g mk a) rfl qK.1, arrOfT_moved (u := U) (E := U.calling g mk a) (Vm.Alike.refl U.vm) qK.2⟩, qD⟩

set_option maxHeartbeats 4000000 in
set_option maxRecDepth 100000 in
theorem c_X0_asRoom (l : Launch) (D : va_G) (cy : Nat → ClassId) (sz : Nat) (a1 : Int32) : Met l yX0_asRoom wsX0_asRoom ({ frames := 0, cells := 0, slots := 0, locals := 0 }) (va_Pc [.int a1] (fun U => U.heap.size = sz ∧ va_P D vwCl [] U.heap ∧ kk_ D cy U ∧ va_D (fun _ => True) [])) (va_Qi (fun (r : Int32) (_ : Unit) => True) (fun (_ : Unit) (_ : State) => True) (va_A [] sz)) 0 0 (va_A [] sz) := by
  refine ofQ (cc := cX0_asRoom) (maxL := 1) (ret := (some .int)) (by decide) rfl ?_
  intro p e s m args below meth c s₁ Q hQ B hml hv
  obtain ⟨rfl, hsz, hP, hK, hD0⟩ := hv
  have hx := B.exec
  have hb := B.bytes
  have hr := B.returns
  have hts := atoms_spec (ws := wsX0_asRoom) B.pre
  have hown : s.vm.findClass RX0 = some m.cls := by have h_ := findClass_of_methodNamed B.named; exact h_
  have hlocks := B.notSynchronized
  subst hsz
  have hD : va_D (va_A [] s.heap.size) [] := dd_nil
  generalize hAe : va_A [] s.heap.size = A at hD hQ
  have hA : ∀ q : Nat, s.heap.size ≤ q → A q := fun q h => by rw [← hAe]; exact Or.inr h
  have hS : va_S A s.heap s.heap [] := va_S.rf
  have hl := lv_entry ([.int a1]) (n := 1) (Nat.le_of_ble_eq_true rfl)
  rw [lg_entry_eq]
  generalize (lg_sl ([.int a1]) ++ List.replicate (1 - (lg_sl ([.int a1])).length) Slot.unset).toArray = ls at hl ⊢
  have hl : lv_has ls 1 [(0, .int a1)] := hl
  have zm5 : ((-5) : Int32).toInt = -5 := by decide
  have z1000000 : (1000000 : Int32).toInt = 1000000 := by decide
  refine lv_iload_n hx hb dB_36_0_0.1.1 rfl (lv_at hl 0 rfl) ?_
  refine lv_bipush (v := (-5)) hx hb dB_36_0_0.1.2.1 (by decide) ?_
  refine lv_icmp_ne (tgt := 11) hx hb dB_36_0_0.1.2.2 (by decide) (fun c_1 => ?_) (fun c_1 => ?_)
  · have t_1 : ¬ a1.toInt = ((-5) : Int32).toInt := fun h => c_1 (Int32.toInt_inj.mp h)
    refine lv_iload_n hx hb dB_36_0_0.2.2.1 rfl (lv_at hl 0 rfl) ?_
    rw [hQ]
    exact W.iret (v := a1) hx hb hr (fun t ht hW => ⟨⟨a1, (), rfl, trivial, trivial⟩, hS.F ht⟩) hS.2.2 dB_36_0_0.2.2.2
  · have t_1 : a1.toInt = ((-5) : Int32).toInt := congrArg Int32.toInt c_1
    refine lv_ldc (v := 1000000) hx hb hown (hts (.constant RX0 82 (1000000)) (List.mem_of_getElem? (i := 1) rfl)) dB_36_0_0.2.1.1 ?_
    refine lv_goto (tgt := 12) hx hb dB_36_0_0.2.1.2 (by decide) ?_
    rw [hQ]
    exact W.iret (v := 1000000) hx hb hr (fun t ht hW => ⟨⟨1000000, (), rfl, trivial, trivial⟩, hS.F ht⟩) hS.2.2 dB_36_0_0.2.2.2
end

section
set_option maxHeartbeats 4000000 in
set_option maxRecDepth 100000 in
theorem c_X0_sendOver (l : Launch) (D : va_G) (cy : Nat → ClassId) (sz : Nat) (xc : Nat) (xk : Nat) (clo : Nat) (cro : Nat) (c4 : Nat) (c5 : Nat) (c6 : Nat) (c7 : Nat) (c8 : Nat) (xn : Nat) (n1 : Nat) (n2 : Nat) (n3 : Nat) (n4 : Nat) (n5 : Nat) (vp : Int32) (vn : Int32) (fs : Nat → Int32) (fe : Nat → Int32) (rr : Nat → Nat) (Mr : Nat → Nat → Int32) (f4 : Nat → Int32) (f5 : Nat → Int32) (f6 : Nat → Int32) (a1 : Int32) (a2 : Int32) (a3 : Int32) (hvn : 0 ≤ vn.toInt ∧ vn.toInt ≤ 40) (q1 : 0 ≤ a1.toInt ∧ a1.toInt ≤ 11) (q2 : 0 ≤ a2.toInt ∧ a2.toInt ≤ 11) : Met l yX0_sendOver wsX0_sendOver ({ frames := 1, cells := 0, slots := 0, locals := 13 }) (va_Pc [.ref xc, .int a1, .int a2, .int a3] (fun U => U.heap.size = sz ∧ va_P D vwCl [ob0_0_ xc xn xk clo cro c4 c5 c6 c7 c8, ob3_0_ xn vp vn n1 n2 n3 n4 n5, ai_ cy n2 40 fs, ai_ cy n3 40 fe, aq_ cy 6 cro 12 (gf_ rr), ai_ cy (rr 0) 12 (Mr 0), ai_ cy (rr 1) 12 (Mr 1), ai_ cy (rr 2) 12 (Mr 2), ai_ cy (rr 3) 12 (Mr 3), ai_ cy (rr 4) 12 (Mr 4), ai_ cy (rr 5) 12 (Mr 5), ai_ cy (rr 6) 12 (Mr 6), ai_ cy (rr 7) 12 (Mr 7), ai_ cy (rr 8) 12 (Mr 8), ai_ cy (rr 9) 12 (Mr 9), ai_ cy (rr 10) 12 (Mr 10), ai_ cy (rr 11) 12 (Mr 11), ai_ cy c4 40 f4, ai_ cy c5 40 f5, ai_ cy c6 40 f6] U.heap ∧ kg_ D cy U ∧ va_D (fun _ => True) [ob0_0_ xc xn xk clo cro c4 c5 c6 c7 c8, ob3_0_ xn vp vn n1 n2 n3 n4 n5, ai_ cy n2 40 fs, ai_ cy n3 40 fe, aq_ cy 6 cro 12 (gf_ rr), ai_ cy (rr 0) 12 (Mr 0), ai_ cy (rr 1) 12 (Mr 1), ai_ cy (rr 2) 12 (Mr 2), ai_ cy (rr 3) 12 (Mr 3), ai_ cy (rr 4) 12 (Mr 4), ai_ cy (rr 5) 12 (Mr 5), ai_ cy (rr 6) 12 (Mr 6), ai_ cy (rr 7) 12 (Mr 7), ai_ cy (rr 8) 12 (Mr 8), ai_ cy (rr 9) 12 (Mr 9), ai_ cy (rr 10) 12 (Mr 10), ai_ cy (rr 11) 12 (Mr 11), ai_ cy c4 40 f4, ai_ cy c5 40 f5, ai_ cy c6 40 f6])) (va_Qv (fun (_ : Unit) => True) (fun (_ : Unit) (t : State) => ∃ (eMr : Nat → Nat → Int32), ∃ (e4 : Nat → Int32), va_P D vwCl [ob0_0_ xc xn xk clo cro c4 c5 c6 c7 c8, ob3_0_ xn vp vn n1 n2 n3 n4 n5, ai_ cy n2 40 fs, ai_ cy n3 40 fe, aq_ cy 6 cro 12 (gf_ rr), ai_ cy (rr 0) 12 (eMr 0), ai_ cy (rr 1) 12 (eMr 1), ai_ cy (rr 2) 12 (eMr 2), ai_ cy (rr 3) 12 (eMr 3), ai_ cy (rr 4) 12 (eMr 4), ai_ cy (rr 5) 12 (eMr 5), ai_ cy (rr 6) 12 (eMr 6), ai_ cy (rr 7) 12 (eMr 7), ai_ cy (rr 8) 12 (eMr 8), ai_ cy (rr 9) 12 (eMr 9), ai_ cy (rr 10) 12 (eMr 10), ai_ cy (rr 11) 12 (eMr 11), ai_ cy c4 40 e4, ai_ cy c5 40 f5, ai_ cy c6 40 f6] t.heap ∧ va_D (va_A [ob0_0_ xc xn xk clo cro c4 c5 c6 c7 c8, ob3_0_ xn vp vn n1 n2 n3 n4 n5, ai_ cy n2 40 fs, ai_ cy n3 40 fe, aq_ cy 6 cro 12 (gf_ rr), ai_ cy (rr 0) 12 (Mr 0), ai_ cy (rr 1) 12 (Mr 1), ai_ cy (rr 2) 12 (Mr 2), ai_ cy (rr 3) 12 (Mr 3), ai_ cy (rr 4) 12 (Mr 4), ai_ cy (rr 5) 12 (Mr 5), ai_ cy (rr 6) 12 (Mr 6), ai_ cy (rr 7) 12 (Mr 7), ai_ cy (rr 8) 12 (Mr 8), ai_ cy (rr 9) 12 (Mr 9), ai_ cy (rr 10) 12 (Mr 10), ai_ cy (rr 11) 12 (Mr 11), ai_ cy c4 40 f4, ai_ cy c5 40 f5, ai_ cy c6 40 f6] sz) [ob0_0_ xc xn xk clo cro c4 c5 c6 c7 c8, ob3_0_ xn vp vn n1 n2 n3 n4 n5, ai_ cy n2 40 fs, ai_ cy n3 40 fe, aq_ cy 6 cro 12 (gf_ rr), ai_ cy (rr 0) 12 (eMr 0), ai_ cy (rr 1) 12 (eMr 1), ai_ cy (rr 2) 12 (eMr 2), ai_ cy (rr 3) 12 (eMr 3), ai_ cy (rr 4) 12 (eMr 4), ai_ cy (rr 5) 12 (eMr 5), ai_ cy (rr 6) 12 (eMr 6), ai_ cy (rr 7) 12 (eMr 7), ai_ cy (rr 8) 12 (eMr 8), ai_ cy (rr 9) 12 (eMr 9), ai_ cy (rr 10) 12 (eMr 10), ai_ cy (rr 11) 12 (eMr 11), ai_ cy c4 40 e4, ai_ cy c5 40 f5, ai_ cy c6 40 f6]) (va_A [ob0_0_ xc xn xk clo cro c4 c5 c6 c7 c8, ob3_0_ xn vp vn n1 n2 n3 n4 n5, ai_ cy n2 40 fs, ai_ cy n3 40 fe, aq_ cy 6 cro 12 (gf_ rr), ai_ cy (rr 0) 12 (Mr 0), ai_ cy (rr 1) 12 (Mr 1), ai_ cy (rr 2) 12 (Mr 2), ai_ cy (rr 3) 12 (Mr 3), ai_ cy (rr 4) 12 (Mr 4), ai_ cy (rr 5) 12 (Mr 5), ai_ cy (rr 6) 12 (Mr 6), ai_ cy (rr 7) 12 (Mr 7), ai_ cy (rr 8) 12 (Mr 8), ai_ cy (rr 9) 12 (Mr 9), ai_ cy (rr 10) 12 (Mr 10), ai_ cy (rr 11) 12 (Mr 11), ai_ cy c4 40 f4, ai_ cy c5 40 f5, ai_ cy c6 40 f6] sz)) 0 0 (va_A [ob0_0_ xc xn xk clo cro c4 c5 c6 c7 c8, ob3_0_ xn vp vn n1 n2 n3 n4 n5, ai_ cy n2 40 fs, ai_ cy n3 40 fe, aq_ cy 6 cro 12 (gf_ rr), ai_ cy (rr 0) 12 (Mr 0), ai_ cy (rr 1) 12 (Mr 1), ai_ cy (rr 2) 12 (Mr 2), ai_ cy (rr 3) 12 (Mr 3), ai_ cy (rr 4) 12 (Mr 4), ai_ cy (rr 5) 12 (Mr 5), ai_ cy (rr 6) 12 (Mr 6), ai_ cy (rr 7) 12 (Mr 7), ai_ cy (rr 8) 12 (Mr 8), ai_ cy (rr 9) 12 (Mr 9), ai_ cy (rr 10) 12 (Mr 10), ai_ cy (rr 11) 12 (Mr 11), ai_ cy c4 40 f4, ai_ cy c5 40 f5, ai_ cy c6 40 f6] sz) := by
  refine ofQ (cc := cX0_sendOver) (maxL := 7) (ret := none) (by decide) rfl ?_
  intro p e s m args below meth c s₁ Q hQ B hml hv
  obtain ⟨rfl, hsz, hP, hK, hD0⟩ := hv
  have hG := hK.2
  have hK := hK.1
  have hx := B.exec
  have hb := B.bytes
  have hr := B.returns
  have hts := atoms_spec (ws := wsX0_sendOver) B.pre
  have hown : s.vm.findClass RX0 = some m.cls := by have h_ := findClass_of_methodNamed B.named; exact h_
  have hlocks := B.notSynchronized
  subst hsz
  have hD := hD0.self (sz := s.heap.size)
  generalize hAe : va_A [ob0_0_ xc xn xk clo cro c4 c5 c6 c7 c8, ob3_0_ xn vp vn n1 n2 n3 n4 n5, ai_ cy n2 40 fs, ai_ cy n3 40 fe, aq_ cy 6 cro 12 (gf_ rr), ai_ cy (rr 0) 12 (Mr 0), ai_ cy (rr 1) 12 (Mr 1), ai_ cy (rr 2) 12 (Mr 2), ai_ cy (rr 3) 12 (Mr 3), ai_ cy (rr 4) 12 (Mr 4), ai_ cy (rr 5) 12 (Mr 5), ai_ cy (rr 6) 12 (Mr 6), ai_ cy (rr 7) 12 (Mr 7), ai_ cy (rr 8) 12 (Mr 8), ai_ cy (rr 9) 12 (Mr 9), ai_ cy (rr 10) 12 (Mr 10), ai_ cy (rr 11) 12 (Mr 11), ai_ cy c4 40 f4, ai_ cy c5 40 f5, ai_ cy c6 40 f6] s.heap.size = A at hD hQ
  have hA : ∀ q : Nat, s.heap.size ≤ q → A q := fun q h => by rw [← hAe]; exact Or.inr h
  have hS : va_S A s.heap s.heap [] := va_S.rf
  have hl := lv_entry ([.ref xc, .int a1, .int a2, .int a3]) (n := 7) (Nat.le_of_ble_eq_true rfl)
  rw [lg_entry_eq]
  generalize (lg_sl ([.ref xc, .int a1, .int a2, .int a3]) ++ List.replicate (7 - (lg_sl ([.ref xc, .int a1, .int a2, .int a3])).length) Slot.unset).toArray = ls at hl ⊢
  have hl : lv_has ls 7 [(0, .ref xc), (1, .int a1), (2, .int a2), (3, .int a3)] := hl
  have z0 : (0 : Int32).toInt = 0 := by decide
  have z1 : (1 : Int32).toInt = 1 := by decide
  refine lv_aload_n hx hb dB_36_0_39.1.1.1.1 rfl (lv_at hl 0 rfl) ?_
  refine va_get (ci := 0) (v := .ref cro) (C := RX0) (T := TX0) (N := 9) hx hb hts (fun _ h => List.mem_cons_of_mem _ (List.mem_append_left _ (List.mem_append_right _ h))) hown hK.1 hP 0 rfl rfl 3 (by decide) (hts (.fieldLink RX0 16 "CutAtlas$Current" "room" "[[I") (List.mem_of_getElem? (i := 1) rfl)) (fun _ h9 => h9) rfl dB_36_0_39.1.1.1.2 ?_
  refine lv_iload_n hx hb dB_36_0_39.1.1.2.1 rfl (lv_at hl 1 rfl) ?_
  have h_1 : vp_in a1 12 := in_I (by first | with_reducible assumption | omega) (by omega)
  refine va_alda hx hb hG hP 4 rfl (i := a1) h_1 dB_36_0_39.1.1.2.2 ?_
  refine lv_topv (v' := .ref (rr a1.toNatClampNeg)) (gf_at h_1) ?_
  refine lv_iload_n hx hb dB_36_0_39.1.2.1.1 rfl (lv_at hl 2 rfl) ?_
  refine lv_dup2_11 hx hb dB_36_0_39.1.2.1.2 rfl rfl ?_
  have h_2 : vp_in a2 12 := in_I (by first | with_reducible assumption | omega) (by omega)
  have hPg : va_P D vwCl (([ob0_0_ xc xn xk clo cro c4 c5 c6 c7 c8, ob3_0_ xn vp vn n1 n2 n3 n4 n5, ai_ cy n2 40 fs, ai_ cy n3 40 fe, aq_ cy 6 cro 12 (gf_ rr)] : va_W) ++ (gro (cy 0) rr Mr ++ ([ai_ cy c4 40 f4, ai_ cy c5 40 f5, ai_ cy c6 40 f6] : va_W))) s.heap := hP
  refine va_gld (X := [ob0_0_ xc xn xk clo cro c4 c5 c6 c7 c8, ob3_0_ xn vp vn n1 n2 n3 n4 n5, ai_ cy n2 40 fs, ai_ cy n3 40 fe, aq_ cy 6 cro 12 (gf_ rr)]) (Y := [ai_ cy c4 40 f4, ai_ cy c5 40 f5, ai_ cy c6 40 f6]) (r := rr) (M := Mr) (k := a1.toNatClampNeg) hx hb hK.1 hPg 0 rfl (in_lt h_1) (i := a2) h_2 dB_36_0_39.1.2.2.1 ?_
  refine lv_topi (fun y_3 ey_3 => ?_)
  refine lv_iload_n hx hb dB_36_0_39.1.2.2.2 rfl (lv_at hl 3 rfl) ?_
  refine lv_isub hx hb dB_36_0_39.2.1.1.1 ?_
  refine lv_topi (fun y_4 ey_4 => ?_)
  have hPg : va_P D vwCl (([ob0_0_ xc xn xk clo cro c4 c5 c6 c7 c8, ob3_0_ xn vp vn n1 n2 n3 n4 n5, ai_ cy n2 40 fs, ai_ cy n3 40 fe, aq_ cy 6 cro 12 (gf_ rr)] : va_W) ++ (gro (cy 0) rr Mr ++ ([ai_ cy c4 40 f4, ai_ cy c5 40 f5, ai_ cy c6 40 f6] : va_W))) s.heap := hP
  have hDg : va_D A (([ob0_0_ xc xn xk clo cro c4 c5 c6 c7 c8, ob3_0_ xn vp vn n1 n2 n3 n4 n5, ai_ cy n2 40 fs, ai_ cy n3 40 fe, aq_ cy 6 cro 12 (gf_ rr)] : va_W) ++ (gro (cy 0) rr Mr ++ ([ai_ cy c4 40 f4, ai_ cy c5 40 f5, ai_ cy c6 40 f6] : va_W))) := hD
  refine va_gst (X := [ob0_0_ xc xn xk clo cro c4 c5 c6 c7 c8, ob3_0_ xn vp vn n1 n2 n3 n4 n5, ai_ cy n2 40 fs, ai_ cy n3 40 fe, aq_ cy 6 cro 12 (gf_ rr)]) (Y := [ai_ cy c4 40 f4, ai_ cy c5 40 f5, ai_ cy c6 40 f6]) (r := rr) (M := Mr) (k := a1.toNatClampNeg) hx hb hK.1 hPg hDg hS 0 rfl (in_lt h_1) (i := a2) h_2 dB_36_0_39.2.1.1.2 (fun H locs hP hD hS => ?_)
  obtain ⟨M_6, eM_6⟩ : ∃ g : Nat → Nat → Int32, g = va_up Mr a1.toNatClampNeg (upd (Mr a1.toNatClampNeg) a2.toNatClampNeg y_4) := ⟨_, rfl⟩
  refine pd_K (D := D) (cl := vwCl) (H := H) (A := A) [ob0_0_ xc xn xk clo cro c4 c5 c6 c7 c8, ob3_0_ xn vp vn n1 n2 n3 n4 n5, ai_ cy n2 40 fs, ai_ cy n3 40 fe, aq_ cy 6 cro 12 (gf_ rr), ai_ cy (rr 0) 12 (M_6 0), ai_ cy (rr 1) 12 (M_6 1), ai_ cy (rr 2) 12 (M_6 2), ai_ cy (rr 3) 12 (M_6 3), ai_ cy (rr 4) 12 (M_6 4), ai_ cy (rr 5) 12 (M_6 5), ai_ cy (rr 6) 12 (M_6 6), ai_ cy (rr 7) 12 (M_6 7), ai_ cy (rr 8) 12 (M_6 8), ai_ cy (rr 9) 12 (M_6 9), ai_ cy (rr 10) 12 (M_6 10), ai_ cy (rr 11) 12 (M_6 11), ai_ cy c4 40 f4, ai_ cy c5 40 f5, ai_ cy c6 40 f6] (by rw [eM_6]; exact hP) (by rw [eM_6]; exact hD) (fun hP hD => ?_)
  refine lv_aload_n hx hb dB_36_0_39.2.1.2.1 rfl (lv_at hl 0 rfl) ?_
  refine va_get (ci := 0) (v := .ref cro) (C := RX0) (T := TX0) (N := 9) hx hb hts (fun _ h => List.mem_cons_of_mem _ (List.mem_append_left _ (List.mem_append_right _ h))) hown hK.1 hP 0 rfl rfl 3 (by decide) (hts (.fieldLink RX0 16 "CutAtlas$Current" "room" "[[I") (List.mem_of_getElem? (i := 1) rfl)) (fun _ h9 => h9) rfl dB_36_0_39.2.1.2.2 ?_
  refine lv_iload_n hx hb dB_36_0_39.2.2.1.1 rfl (lv_at hl 2 rfl) ?_
  refine va_alda hx hb hG hP 4 rfl (i := a2) h_2 dB_36_0_39.2.2.1.2 ?_
  refine lv_topv (v' := .ref (rr a2.toNatClampNeg)) (gf_at h_2) ?_
  refine lv_iload_n hx hb dB_36_0_39.2.2.2.1 rfl (lv_at hl 1 rfl) ?_
  refine lv_dup2_11 hx hb dB_36_0_39.2.2.2.2 rfl rfl ?_
  have hPg : va_P D vwCl (([ob0_0_ xc xn xk clo cro c4 c5 c6 c7 c8, ob3_0_ xn vp vn n1 n2 n3 n4 n5, ai_ cy n2 40 fs, ai_ cy n3 40 fe, aq_ cy 6 cro 12 (gf_ rr)] : va_W) ++ (gro (cy 0) rr M_6 ++ ([ai_ cy c4 40 f4, ai_ cy c5 40 f5, ai_ cy c6 40 f6] : va_W))) H := hP
  refine va_gld (X := [ob0_0_ xc xn xk clo cro c4 c5 c6 c7 c8, ob3_0_ xn vp vn n1 n2 n3 n4 n5, ai_ cy n2 40 fs, ai_ cy n3 40 fe, aq_ cy 6 cro 12 (gf_ rr)]) (Y := [ai_ cy c4 40 f4, ai_ cy c5 40 f5, ai_ cy c6 40 f6]) (r := rr) (M := M_6) (k := a2.toNatClampNeg) hx hb hK.1 hPg 0 rfl (in_lt h_2) (i := a1) h_1 dB_36_0_40.1.1.1.1 ?_
  refine lv_topi (fun y_9 ey_9 => ?_)
  refine lv_iload_n hx hb dB_36_0_40.1.1.1.2 rfl (lv_at hl 3 rfl) ?_
  refine lv_iadd hx hb dB_36_0_40.1.1.2.1 ?_
  refine lv_topi (fun y_10 ey_10 => ?_)
  have hPg : va_P D vwCl (([ob0_0_ xc xn xk clo cro c4 c5 c6 c7 c8, ob3_0_ xn vp vn n1 n2 n3 n4 n5, ai_ cy n2 40 fs, ai_ cy n3 40 fe, aq_ cy 6 cro 12 (gf_ rr)] : va_W) ++ (gro (cy 0) rr M_6 ++ ([ai_ cy c4 40 f4, ai_ cy c5 40 f5, ai_ cy c6 40 f6] : va_W))) H := hP
  have hDg : va_D A (([ob0_0_ xc xn xk clo cro c4 c5 c6 c7 c8, ob3_0_ xn vp vn n1 n2 n3 n4 n5, ai_ cy n2 40 fs, ai_ cy n3 40 fe, aq_ cy 6 cro 12 (gf_ rr)] : va_W) ++ (gro (cy 0) rr M_6 ++ ([ai_ cy c4 40 f4, ai_ cy c5 40 f5, ai_ cy c6 40 f6] : va_W))) := hD
  refine va_gst (X := [ob0_0_ xc xn xk clo cro c4 c5 c6 c7 c8, ob3_0_ xn vp vn n1 n2 n3 n4 n5, ai_ cy n2 40 fs, ai_ cy n3 40 fe, aq_ cy 6 cro 12 (gf_ rr)]) (Y := [ai_ cy c4 40 f4, ai_ cy c5 40 f5, ai_ cy c6 40 f6]) (r := rr) (M := M_6) (k := a2.toNatClampNeg) hx hb hK.1 hPg hDg hS 0 rfl (in_lt h_2) (i := a1) h_1 dB_36_0_40.1.1.2.2 (fun H locs hP hD hS => ?_)
  obtain ⟨M_12, eM_12⟩ : ∃ g : Nat → Nat → Int32, g = va_up M_6 a2.toNatClampNeg (upd (M_6 a2.toNatClampNeg) a1.toNatClampNeg y_10) := ⟨_, rfl⟩
  refine pd_K (D := D) (cl := vwCl) (H := H) (A := A) [ob0_0_ xc xn xk clo cro c4 c5 c6 c7 c8, ob3_0_ xn vp vn n1 n2 n3 n4 n5, ai_ cy n2 40 fs, ai_ cy n3 40 fe, aq_ cy 6 cro 12 (gf_ rr), ai_ cy (rr 0) 12 (M_12 0), ai_ cy (rr 1) 12 (M_12 1), ai_ cy (rr 2) 12 (M_12 2), ai_ cy (rr 3) 12 (M_12 3), ai_ cy (rr 4) 12 (M_12 4), ai_ cy (rr 5) 12 (M_12 5), ai_ cy (rr 6) 12 (M_12 6), ai_ cy (rr 7) 12 (M_12 7), ai_ cy (rr 8) 12 (M_12 8), ai_ cy (rr 9) 12 (M_12 9), ai_ cy (rr 10) 12 (M_12 10), ai_ cy (rr 11) 12 (M_12 11), ai_ cy c4 40 f4, ai_ cy c5 40 f5, ai_ cy c6 40 f6] (by rw [eM_12]; exact hP) (by rw [eM_12]; exact hD) (fun hP hD => ?_)
  refine lv_iload_n hx hb dB_36_0_40.1.2.1.1 rfl (lv_at hl 3 rfl) ?_
  refine lv_istore (lv' := [(4, .int a3), (0, .ref xc), (1, .int a1), (2, .int a2), (3, .int a3)]) hx hb dB_36_0_40.1.2.1.2 hl (by decide) rfl (fun ls hl => ?_)
  refine lv_iconst (v := 0) hx hb dB_36_0_40.1.2.2.1 (by decide) ?_
  refine lv_istore (lv' := [(5, .int 0), (4, .int a3), (0, .ref xc), (1, .int a1), (2, .int a2), (3, .int a3)]) hx hb dB_36_0_40.1.2.2.2 hl (by decide) rfl (fun ls hl => ?_)
  suffices LOOP_13 : ∀ (n_13 : Nat) (x5_13 : Int32) (x4_13 : Int32) (c_c4_13 : Nat → Int32) (H : Heap) (locs : List Loc) (ls : Array Slot), vn.toInt - x5_13.toInt < (n_13 : Int) → (0 ≤ x5_13.toInt) → (x5_13.toInt ≤ vn.toInt) → pd_2 D vwCl A [ob0_0_ xc xn xk clo cro c4 c5 c6 c7 c8, ob3_0_ xn vp vn n1 n2 n3 n4 n5, ai_ cy n2 40 fs, ai_ cy n3 40 fe, aq_ cy 6 cro 12 (gf_ rr), ai_ cy (rr 0) 12 (M_12 0), ai_ cy (rr 1) 12 (M_12 1), ai_ cy (rr 2) 12 (M_12 2), ai_ cy (rr 3) 12 (M_12 3), ai_ cy (rr 4) 12 (M_12 4), ai_ cy (rr 5) 12 (M_12 5), ai_ cy (rr 6) 12 (M_12 6), ai_ cy (rr 7) 12 (M_12 7), ai_ cy (rr 8) 12 (M_12 8), ai_ cy (rr 9) 12 (M_12 9), ai_ cy (rr 10) 12 (M_12 10), ai_ cy (rr 11) 12 (M_12 11), ai_ cy c4 40 c_c4_13, ai_ cy c5 40 f5, ai_ cy c6 40 f6] H → va_S A s.heap H locs → lv_has ls 7 [(5, .int x5_13), (4, .int x4_13), (0, .ref xc), (1, .int a1), (2, .int a2), (3, .int a3)] → W p l e ({ frames := 1, cells := 0, slots := 0, locals := 13 } : Room) s m (([.ref xc, .int a1, .int a2, .int a3] : List Value).toArray) below meth c H locs 0 0 Q (F0 m 30 ls []) from LOOP_13 ((vn.toInt - (0 : Int32).toInt).toNat + 1) (0 : Int32) a3 f4 _ _ _ (by omega) (by first | with_reducible assumption | omega | assumption) (by first | with_reducible assumption | omega | assumption) ⟨hP, hD⟩ hS (lv_sub hl [0, 1, 2, 3, 4, 5] rfl)
  intro n_13
  induction n_13 with
  | zero =>
    intro x5_13 x4_13 c_c4_13 H locs ls hm v0_13 v1_13 hPD hS hl; obtain ⟨hP, hD⟩ := hPD
    exact absurd hm (by omega)
  | succ n_13 ih_13 =>
    intro x5_13 x4_13 c_c4_13 H locs ls hm v0_13 v1_13 hPD hS hl; obtain ⟨hP, hD⟩ := hPD
    refine lv_iload hx hb dB_36_0_40.2.1.1.1 (lv_at hl 0 rfl) ?_
    refine lv_aload_n hx hb dB_36_0_40.2.1.1.2 rfl (lv_at hl 2 rfl) ?_
    refine va_get (ci := 0) (v := .ref xn) (C := RX0) (T := TX0) (N := 9) hx hb hts (fun _ h => List.mem_cons_of_mem _ (List.mem_append_left _ (List.mem_append_right _ h))) hown hK.1 hP 0 rfl rfl 0 (by decide) (hts (.fieldLink RX0 35 "CutAtlas$Current" "net" "LCutAtlas$Net;") (List.mem_of_getElem? (i := 2) rfl)) (fun _ h9 => h9) rfl dB_36_0_40.2.1.2.1 ?_
    refine va_get (ci := 3) (v := .int vn) (C := RX3) (T := TX3) (N := 7) hx hb hts (fun _ h => List.mem_cons_of_mem _ (List.mem_append_right _ h)) hown hK.1 hP 1 rfl rfl 1 (by decide) (hts (.fieldLink RX0 55 "CutAtlas$Net" "lines" "I") (List.mem_of_getElem? (i := 3) rfl)) (fun _ h9 => h9) rfl dB_36_0_40.2.1.2.2 ?_
    refine lv_icmp_ge (tgt := 194) hx hb dB_36_0_40.2.2.1.1 (by decide) (fun c_14 => ?_) (fun c_14 => ?_)
    · have t_14 : vn.toInt ≤ x5_13.toInt := Int32.le_iff_toInt_le.mp c_14
      rw [hQ]
      exact W.vret hx hb hr (fun t ht hW => ⟨⟨(), rfl, trivial, M_12, c_c4_13, by rw [ht]; exact hP, hD⟩, hS.F ht⟩) hS.2.2 dB_36_0_45.2.2.2.2
    · have t_14 : ¬ vn.toInt ≤ x5_13.toInt := fun h => c_14 (Int32.le_iff_toInt_le.mpr h)
      refine lv_iload hx hb dB_36_0_40.2.2.1.2 (lv_at hl 1 rfl) ?_
      refine lv_if_le (tgt := 194) hx hb dB_36_0_40.2.2.2.1 (by decide) (fun c_15 => ?_) (fun c_15 => ?_)
      · have t_15 : x4_13.toInt ≤ (0 : Int32).toInt := Int32.le_iff_toInt_le.mp c_15
        rw [hQ]
        exact W.vret hx hb hr (fun t ht hW => ⟨⟨(), rfl, trivial, M_12, c_c4_13, by rw [ht]; exact hP, hD⟩, hS.F ht⟩) hS.2.2 dB_36_0_45.2.2.2.2
      · have t_15 : ¬ x4_13.toInt ≤ (0 : Int32).toInt := fun h => c_15 (Int32.le_iff_toInt_le.mpr h)
        refine lv_aload_n hx hb dB_36_0_40.2.2.2.2 rfl (lv_at hl 2 rfl) ?_
        refine va_get (ci := 0) (v := .ref xn) (C := RX0) (T := TX0) (N := 9) hx hb hts (fun _ h => List.mem_cons_of_mem _ (List.mem_append_left _ (List.mem_append_right _ h))) hown hK.1 hP 0 rfl rfl 0 (by decide) (hts (.fieldLink RX0 35 "CutAtlas$Current" "net" "LCutAtlas$Net;") (List.mem_of_getElem? (i := 2) rfl)) (fun _ h9 => h9) rfl dB_36_0_41.1.1.1.1 ?_
        refine va_get (ci := 3) (v := .ref n2) (C := RX3) (T := TX3) (N := 7) hx hb hts (fun _ h => List.mem_cons_of_mem _ (List.mem_append_right _ h)) hown hK.1 hP 1 rfl rfl 3 (by decide) (hts (.fieldLink RX0 76 "CutAtlas$Net" "starts" "[I") (List.mem_of_getElem? (i := 4) rfl)) (fun _ h9 => h9) rfl dB_36_0_41.1.1.1.2 ?_
        refine lv_iload hx hb dB_36_0_41.1.1.2.1 (lv_at hl 0 rfl) ?_
        have h_16 : vp_in x5_13 40 := in_I (by first | with_reducible assumption | omega) (by omega)
        refine va_iald hx hb hK.1 hP 2 0 rfl rfl (i := x5_13) h_16 dB_36_0_41.1.1.2.2 ?_
        refine lv_topi (fun y_17 ey_17 => ?_)
        refine lv_iload_n hx hb dB_36_0_41.1.2.1.1 rfl (lv_at hl 3 rfl) ?_
        refine lv_icmp_ne (tgt := 119) hx hb dB_36_0_41.1.2.1.2 (by decide) (fun c_18 => ?_) (fun c_18 => ?_)
        · have t_18 : ¬ y_17.toInt = a1.toInt := fun h => c_18 (Int32.toInt_inj.mp h)
          refine lv_aload_n hx hb dB_36_0_43.1.2.2.1 rfl (lv_at hl 2 rfl) ?_
          refine va_get (ci := 0) (v := .ref xn) (C := RX0) (T := TX0) (N := 9) hx hb hts (fun _ h => List.mem_cons_of_mem _ (List.mem_append_left _ (List.mem_append_right _ h))) hown hK.1 hP 0 rfl rfl 0 (by decide) (hts (.fieldLink RX0 35 "CutAtlas$Current" "net" "LCutAtlas$Net;") (List.mem_of_getElem? (i := 2) rfl)) (fun _ h9 => h9) rfl dB_36_0_43.1.2.2.2 ?_
          refine va_get (ci := 3) (v := .ref n2) (C := RX3) (T := TX3) (N := 7) hx hb hts (fun _ h => List.mem_cons_of_mem _ (List.mem_append_right _ h)) hown hK.1 hP 1 rfl rfl 3 (by decide) (hts (.fieldLink RX0 76 "CutAtlas$Net" "starts" "[I") (List.mem_of_getElem? (i := 4) rfl)) (fun _ h9 => h9) rfl dB_36_0_43.2.1.1.1 ?_
          refine lv_iload hx hb dB_36_0_43.2.1.1.2 (lv_at hl 0 rfl) ?_
          refine va_iald hx hb hK.1 hP 2 0 rfl rfl (i := x5_13) h_16 dB_36_0_43.2.1.2.1 ?_
          refine lv_topi (fun y_20 ey_20 => ?_)
          have e_ := (ey_20.trans ey_17.symm).symm
          subst e_
          skip
          refine lv_iload_n hx hb dB_36_0_43.2.1.2.2 rfl (lv_at hl 4 rfl) ?_
          refine lv_icmp_ne (tgt := 188) hx hb dB_36_0_43.2.2.1.1 (by decide) (fun c_21 => ?_) (fun c_21 => ?_)
          · have t_21 : ¬ y_17.toInt = a2.toInt := fun h => c_21 (Int32.toInt_inj.mp h)
            obtain ⟨y_22, ey_22⟩ : ∃ y : Int32, y = x5_13 + 1 := ⟨_, rfl⟩
            have ty_22 : y_22.toInt = x5_13.toInt + (1 : Int32).toInt := by rw [ey_22]; exact addI (by omega) (by omega)
            refine lv_iinc (v := y_22) (lv' := [(5, .int y_22), (4, .int x4_13), (0, .ref xc), (1, .int a1), (2, .int a2), (3, .int a3)]) hx hb dB_36_0_45.2.2.1.2 hl (k := 0) rfl (by rw [ey_22]; rfl) (by decide) rfl (fun ls hl => ?_)
            refine lv_goto (tgt := 30) hx hb dB_36_0_45.2.2.2.1 (by decide) ?_
            exact ih_13 y_22 x4_13 c_c4_13 _ _ _ (by omega) (by first | with_reducible assumption | omega | assumption) (by first | with_reducible assumption | omega | assumption) ⟨hP, hD⟩ hS (lv_sub hl [0, 1, 2, 3, 4, 5] rfl)
          · have t_21 : y_17.toInt = a2.toInt := congrArg Int32.toInt c_21
            refine lv_aload_n hx hb dB_36_0_43.2.2.1.2 rfl (lv_at hl 2 rfl) ?_
            refine va_get (ci := 0) (v := .ref xn) (C := RX0) (T := TX0) (N := 9) hx hb hts (fun _ h => List.mem_cons_of_mem _ (List.mem_append_left _ (List.mem_append_right _ h))) hown hK.1 hP 0 rfl rfl 0 (by decide) (hts (.fieldLink RX0 35 "CutAtlas$Current" "net" "LCutAtlas$Net;") (List.mem_of_getElem? (i := 2) rfl)) (fun _ h9 => h9) rfl dB_36_0_43.2.2.2.1 ?_
            refine va_get (ci := 3) (v := .ref n3) (C := RX3) (T := TX3) (N := 7) hx hb hts (fun _ h => List.mem_cons_of_mem _ (List.mem_append_right _ h)) hown hK.1 hP 1 rfl rfl 4 (by decide) (hts (.fieldLink RX0 79 "CutAtlas$Net" "ends" "[I") (List.mem_of_getElem? (i := 5) rfl)) (fun _ h9 => h9) rfl dB_36_0_43.2.2.2.2 ?_
            refine lv_iload hx hb dB_36_0_44.1.1.1.1 (lv_at hl 0 rfl) ?_
            refine va_iald hx hb hK.1 hP 3 0 rfl rfl (i := x5_13) h_16 dB_36_0_44.1.1.1.2 ?_
            refine lv_topi (fun y_24 ey_24 => ?_)
            refine lv_iload_n hx hb dB_36_0_44.1.1.2.1 rfl (lv_at hl 3 rfl) ?_
            refine lv_icmp_ne (tgt := 188) hx hb dB_36_0_44.1.1.2.2 (by decide) (fun c_25 => ?_) (fun c_25 => ?_)
            · have t_25 : ¬ y_24.toInt = a1.toInt := fun h => c_25 (Int32.toInt_inj.mp h)
              obtain ⟨y_26, ey_26⟩ : ∃ y : Int32, y = x5_13 + 1 := ⟨_, rfl⟩
              have ty_26 : y_26.toInt = x5_13.toInt + (1 : Int32).toInt := by rw [ey_26]; exact addI (by omega) (by omega)
              refine lv_iinc (v := y_26) (lv' := [(5, .int y_26), (4, .int x4_13), (0, .ref xc), (1, .int a1), (2, .int a2), (3, .int a3)]) hx hb dB_36_0_45.2.2.1.2 hl (k := 0) rfl (by rw [ey_26]; rfl) (by decide) rfl (fun ls hl => ?_)
              refine lv_goto (tgt := 30) hx hb dB_36_0_45.2.2.2.1 (by decide) ?_
              exact ih_13 y_26 x4_13 c_c4_13 _ _ _ (by omega) (by first | with_reducible assumption | omega | assumption) (by first | with_reducible assumption | omega | assumption) ⟨hP, hD⟩ hS (lv_sub hl [0, 1, 2, 3, 4, 5] rfl)
            · have t_25 : y_24.toInt = a1.toInt := congrArg Int32.toInt c_25
              refine lv_iload hx hb dB_36_0_44.1.2.1.1 (lv_at hl 1 rfl) ?_
              refine lv_aload_n hx hb dB_36_0_44.1.2.1.2 rfl (lv_at hl 2 rfl) ?_
              refine va_get (ci := 0) (v := .ref c6) (C := RX0) (T := TX0) (N := 9) hx hb hts (fun _ h => List.mem_cons_of_mem _ (List.mem_append_left _ (List.mem_append_right _ h))) hown hK.1 hP 0 rfl rfl 6 (by decide) (hts (.fieldLink RX0 26 "CutAtlas$Current" "letsBack" "[I") (List.mem_of_getElem? (i := 12) rfl)) (fun _ h9 => h9) rfl dB_36_0_44.1.2.2.1 ?_
              refine lv_iload hx hb dB_36_0_44.1.2.2.2 (lv_at hl 0 rfl) ?_
              refine va_iald hx hb hK.1 hP 19 0 rfl rfl (i := x5_13) h_16 dB_36_0_44.2.1.1.1 ?_
              refine lv_topi (fun y_28 ey_28 => ?_)
              refine lv_aload_n hx hb dB_36_0_44.2.1.1.2 rfl (lv_at hl 2 rfl) ?_
              refine va_get (ci := 0) (v := .ref c4) (C := RX0) (T := TX0) (N := 9) hx hb hts (fun _ h => List.mem_cons_of_mem _ (List.mem_append_left _ (List.mem_append_right _ h))) hown hK.1 hP 0 rfl rfl 4 (by decide) (hts (.fieldLink RX0 19 "CutAtlas$Current" "flowing" "[I") (List.mem_of_getElem? (i := 7) rfl)) (fun _ h9 => h9) rfl dB_36_0_44.2.1.2.1 ?_
              refine lv_iload hx hb dB_36_0_44.2.1.2.2 (lv_at hl 0 rfl) ?_
              refine va_iald hx hb hK.1 hP 17 0 rfl rfl (i := x5_13) h_16 dB_36_0_44.2.2.1.1 ?_
              refine lv_topi (fun y_30 ey_30 => ?_)
              refine lv_iadd hx hb dB_36_0_44.2.2.1.2 ?_
              refine lv_topi (fun y_31 ey_31 => ?_)
              refine va_mmin hx hb (by rw [hml]; exact hl.1.symm) hown (hts (.methodLink RX0 101 Lib.Math.min.name) (List.mem_of_getElem? (i := 8) rfl)) (hts (.static Lib.Math.min.name) (List.mem_of_getElem? (i := 9) rfl)) (hts (.initialized "java/lang/Math") (List.mem_of_getElem? (i := 10) rfl)) (hts (.code Lib.Math.min.name Lib.Math.min.code 2 (some .int)) (List.mem_of_getElem? (i := 11) rfl)) (Nat.le_of_ble_eq_true rfl) (Nat.le_of_ble_eq_true rfl) (Nat.le_of_ble_eq_true rfl) (Nat.le_of_ble_eq_true rfl) dB_36_0_44.2.2.2.1 ?_
              refine lv_topi (fun y_32 ey_32 => ?_)
              have ty_32 : y_32 = x4_13 ∨ y_32 = y_31 := by rw [ey_32]; split <;> simp
              have iy_32 : y_32.toInt = x4_13.toInt ∨ y_32.toInt = y_31.toInt := by rcases ty_32 with h | h <;> rw [h] <;> simp
              refine lv_istore (lv' := [(6, .int y_32), (5, .int x5_13), (4, .int x4_13), (0, .ref xc), (1, .int a1), (2, .int a2), (3, .int a3)]) hx hb dB_36_0_44.2.2.2.2 hl (by decide) rfl (fun ls hl => ?_)
              refine lv_aload_n hx hb dB_36_0_45.1.1.1 rfl (lv_at hl 3 rfl) ?_
              refine va_get (ci := 0) (v := .ref c4) (C := RX0) (T := TX0) (N := 9) hx hb hts (fun _ h => List.mem_cons_of_mem _ (List.mem_append_left _ (List.mem_append_right _ h))) hown hK.1 hP 0 rfl rfl 4 (by decide) (hts (.fieldLink RX0 19 "CutAtlas$Current" "flowing" "[I") (List.mem_of_getElem? (i := 7) rfl)) (fun _ h9 => h9) rfl dB_36_0_45.1.1.2.1 ?_
              refine lv_iload hx hb dB_36_0_45.1.1.2.2 (lv_at hl 1 rfl) ?_
              refine lv_dup2_11 hx hb dB_36_0_45.1.2.1.1 rfl rfl ?_
              refine va_iald hx hb hK.1 hP 17 0 rfl rfl (i := x5_13) h_16 dB_36_0_45.1.2.1.2 ?_
              refine lv_topi (fun y_34 ey_34 => ?_)
              have e_ := (ey_34.trans ey_30.symm).symm
              subst e_
              skip
              refine lv_iload hx hb dB_36_0_45.1.2.2.1 (lv_at hl 0 rfl) ?_
              refine lv_isub hx hb dB_36_0_45.1.2.2.2 ?_
              refine lv_topi (fun y_35 ey_35 => ?_)
              refine va_iast hx hb hK.1 hP hD hS 17 0 rfl rfl (i := x5_13) h_16 dB_36_0_45.2.1.1.1 (fun H locs hP hD hS => ?_)
              obtain ⟨f_37, ef_37⟩ : ∃ g : Nat → Int32, g = upd c_c4_13 x5_13.toNatClampNeg y_35 := ⟨_, rfl⟩
              refine pd_K (D := D) (cl := vwCl) (H := H) (A := A) [ob0_0_ xc xn xk clo cro c4 c5 c6 c7 c8, ob3_0_ xn vp vn n1 n2 n3 n4 n5, ai_ cy n2 40 fs, ai_ cy n3 40 fe, aq_ cy 6 cro 12 (gf_ rr), ai_ cy (rr 0) 12 (M_12 0), ai_ cy (rr 1) 12 (M_12 1), ai_ cy (rr 2) 12 (M_12 2), ai_ cy (rr 3) 12 (M_12 3), ai_ cy (rr 4) 12 (M_12 4), ai_ cy (rr 5) 12 (M_12 5), ai_ cy (rr 6) 12 (M_12 6), ai_ cy (rr 7) 12 (M_12 7), ai_ cy (rr 8) 12 (M_12 8), ai_ cy (rr 9) 12 (M_12 9), ai_ cy (rr 10) 12 (M_12 10), ai_ cy (rr 11) 12 (M_12 11), ai_ cy c4 40 f_37, ai_ cy c5 40 f5, ai_ cy c6 40 f6] (by rw [ef_37]; exact hP) (by rw [ef_37]; exact hD) (fun hP hD => ?_)
              refine lv_iload hx hb dB_36_0_45.2.1.1.2 (lv_at hl 2 rfl) ?_
              refine lv_iload hx hb dB_36_0_45.2.1.2.1 (lv_at hl 0 rfl) ?_
              refine lv_isub hx hb dB_36_0_45.2.1.2.2 ?_
              refine lv_topi (fun y_38 ey_38 => ?_)
              refine lv_istore (lv' := [(4, .int y_38), (6, .int y_32), (5, .int x5_13), (0, .ref xc), (1, .int a1), (2, .int a2), (3, .int a3)]) hx hb dB_36_0_45.2.2.1.1 hl (by decide) rfl (fun ls hl => ?_)
              obtain ⟨y_39, ey_39⟩ : ∃ y : Int32, y = x5_13 + 1 := ⟨_, rfl⟩
              have ty_39 : y_39.toInt = x5_13.toInt + (1 : Int32).toInt := by rw [ey_39]; exact addI (by omega) (by omega)
              refine lv_iinc (v := y_39) (lv' := [(5, .int y_39), (4, .int y_38), (6, .int y_32), (0, .ref xc), (1, .int a1), (2, .int a2), (3, .int a3)]) hx hb dB_36_0_45.2.2.1.2 hl (k := 2) rfl (by rw [ey_39]; rfl) (by decide) rfl (fun ls hl => ?_)
              refine lv_goto (tgt := 30) hx hb dB_36_0_45.2.2.2.1 (by decide) ?_
              exact ih_13 y_39 y_38 f_37 _ _ _ (by omega) (by first | with_reducible assumption | omega | assumption) (by first | with_reducible assumption | omega | assumption) ⟨hP, hD⟩ hS (lv_sub hl [0, 1, 3, 4, 5, 6] rfl)
        · have t_18 : y_17.toInt = a1.toInt := congrArg Int32.toInt c_18
          refine lv_aload_n hx hb dB_36_0_41.1.2.2.1 rfl (lv_at hl 2 rfl) ?_
          refine va_get (ci := 0) (v := .ref xn) (C := RX0) (T := TX0) (N := 9) hx hb hts (fun _ h => List.mem_cons_of_mem _ (List.mem_append_left _ (List.mem_append_right _ h))) hown hK.1 hP 0 rfl rfl 0 (by decide) (hts (.fieldLink RX0 35 "CutAtlas$Current" "net" "LCutAtlas$Net;") (List.mem_of_getElem? (i := 2) rfl)) (fun _ h9 => h9) rfl dB_36_0_41.1.2.2.2 ?_
          refine va_get (ci := 3) (v := .ref n3) (C := RX3) (T := TX3) (N := 7) hx hb hts (fun _ h => List.mem_cons_of_mem _ (List.mem_append_right _ h)) hown hK.1 hP 1 rfl rfl 4 (by decide) (hts (.fieldLink RX0 79 "CutAtlas$Net" "ends" "[I") (List.mem_of_getElem? (i := 5) rfl)) (fun _ h9 => h9) rfl dB_36_0_41.2.1.1.1 ?_
          refine lv_iload hx hb dB_36_0_41.2.1.1.2 (lv_at hl 0 rfl) ?_
          refine va_iald hx hb hK.1 hP 3 0 rfl rfl (i := x5_13) h_16 dB_36_0_41.2.1.2.1 ?_
          refine lv_topi (fun y_41 ey_41 => ?_)
          refine lv_iload_n hx hb dB_36_0_41.2.1.2.2 rfl (lv_at hl 4 rfl) ?_
          refine lv_icmp_ne (tgt := 119) hx hb dB_36_0_41.2.2.1.1 (by decide) (fun c_42 => ?_) (fun c_42 => ?_)
          · have t_42 : ¬ y_41.toInt = a2.toInt := fun h => c_42 (Int32.toInt_inj.mp h)
            refine lv_aload_n hx hb dB_36_0_43.1.2.2.1 rfl (lv_at hl 2 rfl) ?_
            refine va_get (ci := 0) (v := .ref xn) (C := RX0) (T := TX0) (N := 9) hx hb hts (fun _ h => List.mem_cons_of_mem _ (List.mem_append_left _ (List.mem_append_right _ h))) hown hK.1 hP 0 rfl rfl 0 (by decide) (hts (.fieldLink RX0 35 "CutAtlas$Current" "net" "LCutAtlas$Net;") (List.mem_of_getElem? (i := 2) rfl)) (fun _ h9 => h9) rfl dB_36_0_43.1.2.2.2 ?_
            refine va_get (ci := 3) (v := .ref n2) (C := RX3) (T := TX3) (N := 7) hx hb hts (fun _ h => List.mem_cons_of_mem _ (List.mem_append_right _ h)) hown hK.1 hP 1 rfl rfl 3 (by decide) (hts (.fieldLink RX0 76 "CutAtlas$Net" "starts" "[I") (List.mem_of_getElem? (i := 4) rfl)) (fun _ h9 => h9) rfl dB_36_0_43.2.1.1.1 ?_
            refine lv_iload hx hb dB_36_0_43.2.1.1.2 (lv_at hl 0 rfl) ?_
            refine va_iald hx hb hK.1 hP 2 0 rfl rfl (i := x5_13) h_16 dB_36_0_43.2.1.2.1 ?_
            refine lv_topi (fun y_44 ey_44 => ?_)
            have e_ := (ey_44.trans ey_17.symm).symm
            subst e_
            skip
            refine lv_iload_n hx hb dB_36_0_43.2.1.2.2 rfl (lv_at hl 4 rfl) ?_
            refine lv_icmp_ne (tgt := 188) hx hb dB_36_0_43.2.2.1.1 (by decide) (fun c_45 => ?_) (fun c_45 => ?_)
            · have t_45 : ¬ y_17.toInt = a2.toInt := fun h => c_45 (Int32.toInt_inj.mp h)
              obtain ⟨y_46, ey_46⟩ : ∃ y : Int32, y = x5_13 + 1 := ⟨_, rfl⟩
              have ty_46 : y_46.toInt = x5_13.toInt + (1 : Int32).toInt := by rw [ey_46]; exact addI (by omega) (by omega)
              refine lv_iinc (v := y_46) (lv' := [(5, .int y_46), (4, .int x4_13), (0, .ref xc), (1, .int a1), (2, .int a2), (3, .int a3)]) hx hb dB_36_0_45.2.2.1.2 hl (k := 0) rfl (by rw [ey_46]; rfl) (by decide) rfl (fun ls hl => ?_)
              refine lv_goto (tgt := 30) hx hb dB_36_0_45.2.2.2.1 (by decide) ?_
              exact ih_13 y_46 x4_13 c_c4_13 _ _ _ (by omega) (by first | with_reducible assumption | omega | assumption) (by first | with_reducible assumption | omega | assumption) ⟨hP, hD⟩ hS (lv_sub hl [0, 1, 2, 3, 4, 5] rfl)
            · have t_45 : y_17.toInt = a2.toInt := congrArg Int32.toInt c_45
              refine lv_aload_n hx hb dB_36_0_43.2.2.1.2 rfl (lv_at hl 2 rfl) ?_
              refine va_get (ci := 0) (v := .ref xn) (C := RX0) (T := TX0) (N := 9) hx hb hts (fun _ h => List.mem_cons_of_mem _ (List.mem_append_left _ (List.mem_append_right _ h))) hown hK.1 hP 0 rfl rfl 0 (by decide) (hts (.fieldLink RX0 35 "CutAtlas$Current" "net" "LCutAtlas$Net;") (List.mem_of_getElem? (i := 2) rfl)) (fun _ h9 => h9) rfl dB_36_0_43.2.2.2.1 ?_
              refine va_get (ci := 3) (v := .ref n3) (C := RX3) (T := TX3) (N := 7) hx hb hts (fun _ h => List.mem_cons_of_mem _ (List.mem_append_right _ h)) hown hK.1 hP 1 rfl rfl 4 (by decide) (hts (.fieldLink RX0 79 "CutAtlas$Net" "ends" "[I") (List.mem_of_getElem? (i := 5) rfl)) (fun _ h9 => h9) rfl dB_36_0_43.2.2.2.2 ?_
              refine lv_iload hx hb dB_36_0_44.1.1.1.1 (lv_at hl 0 rfl) ?_
              refine va_iald hx hb hK.1 hP 3 0 rfl rfl (i := x5_13) h_16 dB_36_0_44.1.1.1.2 ?_
              refine lv_topi (fun y_48 ey_48 => ?_)
              have e_ := (ey_48.trans ey_41.symm).symm
              subst e_
              skip
              refine lv_iload_n hx hb dB_36_0_44.1.1.2.1 rfl (lv_at hl 3 rfl) ?_
              refine lv_icmp_ne (tgt := 188) hx hb dB_36_0_44.1.1.2.2 (by decide) (fun c_49 => ?_) (fun c_49 => ?_)
              · have t_49 : ¬ y_41.toInt = a1.toInt := fun h => c_49 (Int32.toInt_inj.mp h)
                obtain ⟨y_50, ey_50⟩ : ∃ y : Int32, y = x5_13 + 1 := ⟨_, rfl⟩
                have ty_50 : y_50.toInt = x5_13.toInt + (1 : Int32).toInt := by rw [ey_50]; exact addI (by omega) (by omega)
                refine lv_iinc (v := y_50) (lv' := [(5, .int y_50), (4, .int x4_13), (0, .ref xc), (1, .int a1), (2, .int a2), (3, .int a3)]) hx hb dB_36_0_45.2.2.1.2 hl (k := 0) rfl (by rw [ey_50]; rfl) (by decide) rfl (fun ls hl => ?_)
                refine lv_goto (tgt := 30) hx hb dB_36_0_45.2.2.2.1 (by decide) ?_
                exact ih_13 y_50 x4_13 c_c4_13 _ _ _ (by omega) (by first | with_reducible assumption | omega | assumption) (by first | with_reducible assumption | omega | assumption) ⟨hP, hD⟩ hS (lv_sub hl [0, 1, 2, 3, 4, 5] rfl)
              · have t_49 : y_41.toInt = a1.toInt := congrArg Int32.toInt c_49
                refine lv_iload hx hb dB_36_0_44.1.2.1.1 (lv_at hl 1 rfl) ?_
                refine lv_aload_n hx hb dB_36_0_44.1.2.1.2 rfl (lv_at hl 2 rfl) ?_
                refine va_get (ci := 0) (v := .ref c6) (C := RX0) (T := TX0) (N := 9) hx hb hts (fun _ h => List.mem_cons_of_mem _ (List.mem_append_left _ (List.mem_append_right _ h))) hown hK.1 hP 0 rfl rfl 6 (by decide) (hts (.fieldLink RX0 26 "CutAtlas$Current" "letsBack" "[I") (List.mem_of_getElem? (i := 12) rfl)) (fun _ h9 => h9) rfl dB_36_0_44.1.2.2.1 ?_
                refine lv_iload hx hb dB_36_0_44.1.2.2.2 (lv_at hl 0 rfl) ?_
                refine va_iald hx hb hK.1 hP 19 0 rfl rfl (i := x5_13) h_16 dB_36_0_44.2.1.1.1 ?_
                refine lv_topi (fun y_52 ey_52 => ?_)
                refine lv_aload_n hx hb dB_36_0_44.2.1.1.2 rfl (lv_at hl 2 rfl) ?_
                refine va_get (ci := 0) (v := .ref c4) (C := RX0) (T := TX0) (N := 9) hx hb hts (fun _ h => List.mem_cons_of_mem _ (List.mem_append_left _ (List.mem_append_right _ h))) hown hK.1 hP 0 rfl rfl 4 (by decide) (hts (.fieldLink RX0 19 "CutAtlas$Current" "flowing" "[I") (List.mem_of_getElem? (i := 7) rfl)) (fun _ h9 => h9) rfl dB_36_0_44.2.1.2.1 ?_
                refine lv_iload hx hb dB_36_0_44.2.1.2.2 (lv_at hl 0 rfl) ?_
                refine va_iald hx hb hK.1 hP 17 0 rfl rfl (i := x5_13) h_16 dB_36_0_44.2.2.1.1 ?_
                refine lv_topi (fun y_54 ey_54 => ?_)
                refine lv_iadd hx hb dB_36_0_44.2.2.1.2 ?_
                refine lv_topi (fun y_55 ey_55 => ?_)
                refine va_mmin hx hb (by rw [hml]; exact hl.1.symm) hown (hts (.methodLink RX0 101 Lib.Math.min.name) (List.mem_of_getElem? (i := 8) rfl)) (hts (.static Lib.Math.min.name) (List.mem_of_getElem? (i := 9) rfl)) (hts (.initialized "java/lang/Math") (List.mem_of_getElem? (i := 10) rfl)) (hts (.code Lib.Math.min.name Lib.Math.min.code 2 (some .int)) (List.mem_of_getElem? (i := 11) rfl)) (Nat.le_of_ble_eq_true rfl) (Nat.le_of_ble_eq_true rfl) (Nat.le_of_ble_eq_true rfl) (Nat.le_of_ble_eq_true rfl) dB_36_0_44.2.2.2.1 ?_
                refine lv_topi (fun y_56 ey_56 => ?_)
                have ty_56 : y_56 = x4_13 ∨ y_56 = y_55 := by rw [ey_56]; split <;> simp
                have iy_56 : y_56.toInt = x4_13.toInt ∨ y_56.toInt = y_55.toInt := by rcases ty_56 with h | h <;> rw [h] <;> simp
                refine lv_istore (lv' := [(6, .int y_56), (5, .int x5_13), (4, .int x4_13), (0, .ref xc), (1, .int a1), (2, .int a2), (3, .int a3)]) hx hb dB_36_0_44.2.2.2.2 hl (by decide) rfl (fun ls hl => ?_)
                refine lv_aload_n hx hb dB_36_0_45.1.1.1 rfl (lv_at hl 3 rfl) ?_
                refine va_get (ci := 0) (v := .ref c4) (C := RX0) (T := TX0) (N := 9) hx hb hts (fun _ h => List.mem_cons_of_mem _ (List.mem_append_left _ (List.mem_append_right _ h))) hown hK.1 hP 0 rfl rfl 4 (by decide) (hts (.fieldLink RX0 19 "CutAtlas$Current" "flowing" "[I") (List.mem_of_getElem? (i := 7) rfl)) (fun _ h9 => h9) rfl dB_36_0_45.1.1.2.1 ?_
                refine lv_iload hx hb dB_36_0_45.1.1.2.2 (lv_at hl 1 rfl) ?_
                refine lv_dup2_11 hx hb dB_36_0_45.1.2.1.1 rfl rfl ?_
                refine va_iald hx hb hK.1 hP 17 0 rfl rfl (i := x5_13) h_16 dB_36_0_45.1.2.1.2 ?_
                refine lv_topi (fun y_58 ey_58 => ?_)
                have e_ := (ey_58.trans ey_54.symm).symm
                subst e_
                skip
                refine lv_iload hx hb dB_36_0_45.1.2.2.1 (lv_at hl 0 rfl) ?_
                refine lv_isub hx hb dB_36_0_45.1.2.2.2 ?_
                refine lv_topi (fun y_59 ey_59 => ?_)
                refine va_iast hx hb hK.1 hP hD hS 17 0 rfl rfl (i := x5_13) h_16 dB_36_0_45.2.1.1.1 (fun H locs hP hD hS => ?_)
                obtain ⟨f_61, ef_61⟩ : ∃ g : Nat → Int32, g = upd c_c4_13 x5_13.toNatClampNeg y_59 := ⟨_, rfl⟩
                refine pd_K (D := D) (cl := vwCl) (H := H) (A := A) [ob0_0_ xc xn xk clo cro c4 c5 c6 c7 c8, ob3_0_ xn vp vn n1 n2 n3 n4 n5, ai_ cy n2 40 fs, ai_ cy n3 40 fe, aq_ cy 6 cro 12 (gf_ rr), ai_ cy (rr 0) 12 (M_12 0), ai_ cy (rr 1) 12 (M_12 1), ai_ cy (rr 2) 12 (M_12 2), ai_ cy (rr 3) 12 (M_12 3), ai_ cy (rr 4) 12 (M_12 4), ai_ cy (rr 5) 12 (M_12 5), ai_ cy (rr 6) 12 (M_12 6), ai_ cy (rr 7) 12 (M_12 7), ai_ cy (rr 8) 12 (M_12 8), ai_ cy (rr 9) 12 (M_12 9), ai_ cy (rr 10) 12 (M_12 10), ai_ cy (rr 11) 12 (M_12 11), ai_ cy c4 40 f_61, ai_ cy c5 40 f5, ai_ cy c6 40 f6] (by rw [ef_61]; exact hP) (by rw [ef_61]; exact hD) (fun hP hD => ?_)
                refine lv_iload hx hb dB_36_0_45.2.1.1.2 (lv_at hl 2 rfl) ?_
                refine lv_iload hx hb dB_36_0_45.2.1.2.1 (lv_at hl 0 rfl) ?_
                refine lv_isub hx hb dB_36_0_45.2.1.2.2 ?_
                refine lv_topi (fun y_62 ey_62 => ?_)
                refine lv_istore (lv' := [(4, .int y_62), (6, .int y_56), (5, .int x5_13), (0, .ref xc), (1, .int a1), (2, .int a2), (3, .int a3)]) hx hb dB_36_0_45.2.2.1.1 hl (by decide) rfl (fun ls hl => ?_)
                obtain ⟨y_63, ey_63⟩ : ∃ y : Int32, y = x5_13 + 1 := ⟨_, rfl⟩
                have ty_63 : y_63.toInt = x5_13.toInt + (1 : Int32).toInt := by rw [ey_63]; exact addI (by omega) (by omega)
                refine lv_iinc (v := y_63) (lv' := [(5, .int y_63), (4, .int y_62), (6, .int y_56), (0, .ref xc), (1, .int a1), (2, .int a2), (3, .int a3)]) hx hb dB_36_0_45.2.2.1.2 hl (k := 2) rfl (by rw [ey_63]; rfl) (by decide) rfl (fun ls hl => ?_)
                refine lv_goto (tgt := 30) hx hb dB_36_0_45.2.2.2.1 (by decide) ?_
                exact ih_13 y_63 y_62 f_61 _ _ _ (by omega) (by first | with_reducible assumption | omega | assumption) (by first | with_reducible assumption | omega | assumption) ⟨hP, hD⟩ hS (lv_sub hl [0, 1, 3, 4, 5, 6] rfl)
          · have t_42 : y_41.toInt = a2.toInt := congrArg Int32.toInt c_42
            refine lv_iload hx hb dB_36_0_41.2.2.1.2 (lv_at hl 1 rfl) ?_
            refine lv_aload_n hx hb dB_36_0_41.2.2.2.1 rfl (lv_at hl 2 rfl) ?_
            refine va_get (ci := 0) (v := .ref c5) (C := RX0) (T := TX0) (N := 9) hx hb hts (fun _ h => List.mem_cons_of_mem _ (List.mem_append_left _ (List.mem_append_right _ h))) hown hK.1 hP 0 rfl rfl 5 (by decide) (hts (.fieldLink RX0 23 "CutAtlas$Current" "letsForth" "[I") (List.mem_of_getElem? (i := 6) rfl)) (fun _ h9 => h9) rfl dB_36_0_41.2.2.2.2 ?_
            refine lv_iload hx hb dB_36_0_42.1.1.1.1 (lv_at hl 0 rfl) ?_
            refine va_iald hx hb hK.1 hP 18 0 rfl rfl (i := x5_13) h_16 dB_36_0_42.1.1.1.2 ?_
            refine lv_topi (fun y_65 ey_65 => ?_)
            refine lv_aload_n hx hb dB_36_0_42.1.1.2.1 rfl (lv_at hl 2 rfl) ?_
            refine va_get (ci := 0) (v := .ref c4) (C := RX0) (T := TX0) (N := 9) hx hb hts (fun _ h => List.mem_cons_of_mem _ (List.mem_append_left _ (List.mem_append_right _ h))) hown hK.1 hP 0 rfl rfl 4 (by decide) (hts (.fieldLink RX0 19 "CutAtlas$Current" "flowing" "[I") (List.mem_of_getElem? (i := 7) rfl)) (fun _ h9 => h9) rfl dB_36_0_42.1.1.2.2 ?_
            refine lv_iload hx hb dB_36_0_42.1.2.1.1 (lv_at hl 0 rfl) ?_
            refine va_iald hx hb hK.1 hP 17 0 rfl rfl (i := x5_13) h_16 dB_36_0_42.1.2.1.2 ?_
            refine lv_topi (fun y_67 ey_67 => ?_)
            refine lv_isub hx hb dB_36_0_42.1.2.2.1 ?_
            refine lv_topi (fun y_68 ey_68 => ?_)
            refine va_mmin hx hb (by rw [hml]; exact hl.1.symm) hown (hts (.methodLink RX0 101 Lib.Math.min.name) (List.mem_of_getElem? (i := 8) rfl)) (hts (.static Lib.Math.min.name) (List.mem_of_getElem? (i := 9) rfl)) (hts (.initialized "java/lang/Math") (List.mem_of_getElem? (i := 10) rfl)) (hts (.code Lib.Math.min.name Lib.Math.min.code 2 (some .int)) (List.mem_of_getElem? (i := 11) rfl)) (Nat.le_of_ble_eq_true rfl) (Nat.le_of_ble_eq_true rfl) (Nat.le_of_ble_eq_true rfl) (Nat.le_of_ble_eq_true rfl) dB_36_0_42.1.2.2.2 ?_
            refine lv_topi (fun y_69 ey_69 => ?_)
            have ty_69 : y_69 = x4_13 ∨ y_69 = y_68 := by rw [ey_69]; split <;> simp
            have iy_69 : y_69.toInt = x4_13.toInt ∨ y_69.toInt = y_68.toInt := by rcases ty_69 with h | h <;> rw [h] <;> simp
            refine lv_istore (lv' := [(6, .int y_69), (5, .int x5_13), (4, .int x4_13), (0, .ref xc), (1, .int a1), (2, .int a2), (3, .int a3)]) hx hb dB_36_0_42.2.1.1.1 hl (by decide) rfl (fun ls hl => ?_)
            refine lv_aload_n hx hb dB_36_0_42.2.1.1.2 rfl (lv_at hl 3 rfl) ?_
            refine va_get (ci := 0) (v := .ref c4) (C := RX0) (T := TX0) (N := 9) hx hb hts (fun _ h => List.mem_cons_of_mem _ (List.mem_append_left _ (List.mem_append_right _ h))) hown hK.1 hP 0 rfl rfl 4 (by decide) (hts (.fieldLink RX0 19 "CutAtlas$Current" "flowing" "[I") (List.mem_of_getElem? (i := 7) rfl)) (fun _ h9 => h9) rfl dB_36_0_42.2.1.2.1 ?_
            refine lv_iload hx hb dB_36_0_42.2.1.2.2 (lv_at hl 1 rfl) ?_
            refine lv_dup2_11 hx hb dB_36_0_42.2.2.1.1 rfl rfl ?_
            refine va_iald hx hb hK.1 hP 17 0 rfl rfl (i := x5_13) h_16 dB_36_0_42.2.2.1.2 ?_
            refine lv_topi (fun y_71 ey_71 => ?_)
            have e_ := (ey_71.trans ey_67.symm).symm
            subst e_
            skip
            refine lv_iload hx hb dB_36_0_42.2.2.2.1 (lv_at hl 0 rfl) ?_
            refine lv_iadd hx hb dB_36_0_42.2.2.2.2 ?_
            refine lv_topi (fun y_72 ey_72 => ?_)
            refine va_iast hx hb hK.1 hP hD hS 17 0 rfl rfl (i := x5_13) h_16 dB_36_0_43.1.1.1.1 (fun H locs hP hD hS => ?_)
            obtain ⟨f_74, ef_74⟩ : ∃ g : Nat → Int32, g = upd c_c4_13 x5_13.toNatClampNeg y_72 := ⟨_, rfl⟩
            refine pd_K (D := D) (cl := vwCl) (H := H) (A := A) [ob0_0_ xc xn xk clo cro c4 c5 c6 c7 c8, ob3_0_ xn vp vn n1 n2 n3 n4 n5, ai_ cy n2 40 fs, ai_ cy n3 40 fe, aq_ cy 6 cro 12 (gf_ rr), ai_ cy (rr 0) 12 (M_12 0), ai_ cy (rr 1) 12 (M_12 1), ai_ cy (rr 2) 12 (M_12 2), ai_ cy (rr 3) 12 (M_12 3), ai_ cy (rr 4) 12 (M_12 4), ai_ cy (rr 5) 12 (M_12 5), ai_ cy (rr 6) 12 (M_12 6), ai_ cy (rr 7) 12 (M_12 7), ai_ cy (rr 8) 12 (M_12 8), ai_ cy (rr 9) 12 (M_12 9), ai_ cy (rr 10) 12 (M_12 10), ai_ cy (rr 11) 12 (M_12 11), ai_ cy c4 40 f_74, ai_ cy c5 40 f5, ai_ cy c6 40 f6] (by rw [ef_74]; exact hP) (by rw [ef_74]; exact hD) (fun hP hD => ?_)
            refine lv_iload hx hb dB_36_0_43.1.1.1.2 (lv_at hl 2 rfl) ?_
            refine lv_iload hx hb dB_36_0_43.1.1.2.1 (lv_at hl 0 rfl) ?_
            refine lv_isub hx hb dB_36_0_43.1.1.2.2 ?_
            refine lv_topi (fun y_75 ey_75 => ?_)
            refine lv_istore (lv' := [(4, .int y_75), (6, .int y_69), (5, .int x5_13), (0, .ref xc), (1, .int a1), (2, .int a2), (3, .int a3)]) hx hb dB_36_0_43.1.2.1.1 hl (by decide) rfl (fun ls hl => ?_)
            refine lv_goto (tgt := 188) hx hb dB_36_0_43.1.2.1.2 (by decide) ?_
            obtain ⟨y_76, ey_76⟩ : ∃ y : Int32, y = x5_13 + 1 := ⟨_, rfl⟩
            have ty_76 : y_76.toInt = x5_13.toInt + (1 : Int32).toInt := by rw [ey_76]; exact addI (by omega) (by omega)
            refine lv_iinc (v := y_76) (lv' := [(5, .int y_76), (4, .int y_75), (6, .int y_69), (0, .ref xc), (1, .int a1), (2, .int a2), (3, .int a3)]) hx hb dB_36_0_45.2.2.1.2 hl (k := 2) rfl (by rw [ey_76]; rfl) (by decide) rfl (fun ls hl => ?_)
            refine lv_goto (tgt := 30) hx hb dB_36_0_45.2.2.2.1 (by decide) ?_
            exact ih_13 y_76 y_75 f_74 _ _ _ (by omega) (by first | with_reducible assumption | omega | assumption) (by first | with_reducible assumption | omega | assumption) ⟨hP, hD⟩ hS (lv_sub hl [0, 1, 3, 4, 5, 6] rfl)
end

section
set_option maxHeartbeats 4000000 in
set_option maxRecDepth 100000 in
theorem c_X0_sendAlongWay (l : Launch) (D : va_G) (cy : Nat → ClassId) (sz : Nat) (xc : Nat) (xk : Nat) (clo : Nat) (cro : Nat) (c4 : Nat) (c5 : Nat) (c6 : Nat) (c7 : Nat) (c8 : Nat) (xn : Nat) (n1 : Nat) (n2 : Nat) (n3 : Nat) (n4 : Nat) (n5 : Nat) (vp : Int32) (vn : Int32) (fs : Nat → Int32) (fe : Nat → Int32) (rr : Nat → Nat) (Mr : Nat → Nat → Int32) (f4 : Nat → Int32) (f5 : Nat → Int32) (f6 : Nat → Int32) (f8 : Nat → Int32) (a1 : Int32) (a2 : Int32) (hvn : 0 ≤ vn.toInt ∧ vn.toInt ≤ 40) (q2 : 0 ≤ a2.toInt ∧ a2.toInt ≤ 11) (r_f8 : rng f8 12 (0) (11)) : Met l yX0_sendAlongWay wsX0_sendAlongWay ({ frames := 2, cells := 0, slots := 0, locals := 39 }) (va_Pc [.ref xc, .int a1, .int a2] (fun U => U.heap.size = sz ∧ va_P D vwCl [ob0_0_ xc xn xk clo cro c4 c5 c6 c7 c8, ob3_0_ xn vp vn n1 n2 n3 n4 n5, ai_ cy n2 40 fs, ai_ cy n3 40 fe, aq_ cy 6 cro 12 (gf_ rr), ai_ cy (rr 0) 12 (Mr 0), ai_ cy (rr 1) 12 (Mr 1), ai_ cy (rr 2) 12 (Mr 2), ai_ cy (rr 3) 12 (Mr 3), ai_ cy (rr 4) 12 (Mr 4), ai_ cy (rr 5) 12 (Mr 5), ai_ cy (rr 6) 12 (Mr 6), ai_ cy (rr 7) 12 (Mr 7), ai_ cy (rr 8) 12 (Mr 8), ai_ cy (rr 9) 12 (Mr 9), ai_ cy (rr 10) 12 (Mr 10), ai_ cy (rr 11) 12 (Mr 11), ai_ cy c4 40 f4, ai_ cy c5 40 f5, ai_ cy c6 40 f6, ai_ cy c8 12 f8] U.heap ∧ kg_ D cy U ∧ va_D (fun _ => True) [ob0_0_ xc xn xk clo cro c4 c5 c6 c7 c8, ob3_0_ xn vp vn n1 n2 n3 n4 n5, ai_ cy n2 40 fs, ai_ cy n3 40 fe, aq_ cy 6 cro 12 (gf_ rr), ai_ cy (rr 0) 12 (Mr 0), ai_ cy (rr 1) 12 (Mr 1), ai_ cy (rr 2) 12 (Mr 2), ai_ cy (rr 3) 12 (Mr 3), ai_ cy (rr 4) 12 (Mr 4), ai_ cy (rr 5) 12 (Mr 5), ai_ cy (rr 6) 12 (Mr 6), ai_ cy (rr 7) 12 (Mr 7), ai_ cy (rr 8) 12 (Mr 8), ai_ cy (rr 9) 12 (Mr 9), ai_ cy (rr 10) 12 (Mr 10), ai_ cy (rr 11) 12 (Mr 11), ai_ cy c4 40 f4, ai_ cy c5 40 f5, ai_ cy c6 40 f6, ai_ cy c8 12 f8])) (va_Qi (fun (r : Int32) (_ : Unit) => True) (fun (_ : Unit) (t : State) => ∃ (eMr : Nat → Nat → Int32), ∃ (e4 : Nat → Int32), va_P D vwCl [ob0_0_ xc xn xk clo cro c4 c5 c6 c7 c8, ob3_0_ xn vp vn n1 n2 n3 n4 n5, ai_ cy n2 40 fs, ai_ cy n3 40 fe, aq_ cy 6 cro 12 (gf_ rr), ai_ cy (rr 0) 12 (eMr 0), ai_ cy (rr 1) 12 (eMr 1), ai_ cy (rr 2) 12 (eMr 2), ai_ cy (rr 3) 12 (eMr 3), ai_ cy (rr 4) 12 (eMr 4), ai_ cy (rr 5) 12 (eMr 5), ai_ cy (rr 6) 12 (eMr 6), ai_ cy (rr 7) 12 (eMr 7), ai_ cy (rr 8) 12 (eMr 8), ai_ cy (rr 9) 12 (eMr 9), ai_ cy (rr 10) 12 (eMr 10), ai_ cy (rr 11) 12 (eMr 11), ai_ cy c4 40 e4, ai_ cy c5 40 f5, ai_ cy c6 40 f6, ai_ cy c8 12 f8] t.heap ∧ va_D (va_A [ob0_0_ xc xn xk clo cro c4 c5 c6 c7 c8, ob3_0_ xn vp vn n1 n2 n3 n4 n5, ai_ cy n2 40 fs, ai_ cy n3 40 fe, aq_ cy 6 cro 12 (gf_ rr), ai_ cy (rr 0) 12 (Mr 0), ai_ cy (rr 1) 12 (Mr 1), ai_ cy (rr 2) 12 (Mr 2), ai_ cy (rr 3) 12 (Mr 3), ai_ cy (rr 4) 12 (Mr 4), ai_ cy (rr 5) 12 (Mr 5), ai_ cy (rr 6) 12 (Mr 6), ai_ cy (rr 7) 12 (Mr 7), ai_ cy (rr 8) 12 (Mr 8), ai_ cy (rr 9) 12 (Mr 9), ai_ cy (rr 10) 12 (Mr 10), ai_ cy (rr 11) 12 (Mr 11), ai_ cy c4 40 f4, ai_ cy c5 40 f5, ai_ cy c6 40 f6, ai_ cy c8 12 f8] sz) [ob0_0_ xc xn xk clo cro c4 c5 c6 c7 c8, ob3_0_ xn vp vn n1 n2 n3 n4 n5, ai_ cy n2 40 fs, ai_ cy n3 40 fe, aq_ cy 6 cro 12 (gf_ rr), ai_ cy (rr 0) 12 (eMr 0), ai_ cy (rr 1) 12 (eMr 1), ai_ cy (rr 2) 12 (eMr 2), ai_ cy (rr 3) 12 (eMr 3), ai_ cy (rr 4) 12 (eMr 4), ai_ cy (rr 5) 12 (eMr 5), ai_ cy (rr 6) 12 (eMr 6), ai_ cy (rr 7) 12 (eMr 7), ai_ cy (rr 8) 12 (eMr 8), ai_ cy (rr 9) 12 (eMr 9), ai_ cy (rr 10) 12 (eMr 10), ai_ cy (rr 11) 12 (eMr 11), ai_ cy c4 40 e4, ai_ cy c5 40 f5, ai_ cy c6 40 f6, ai_ cy c8 12 f8]) (va_A [ob0_0_ xc xn xk clo cro c4 c5 c6 c7 c8, ob3_0_ xn vp vn n1 n2 n3 n4 n5, ai_ cy n2 40 fs, ai_ cy n3 40 fe, aq_ cy 6 cro 12 (gf_ rr), ai_ cy (rr 0) 12 (Mr 0), ai_ cy (rr 1) 12 (Mr 1), ai_ cy (rr 2) 12 (Mr 2), ai_ cy (rr 3) 12 (Mr 3), ai_ cy (rr 4) 12 (Mr 4), ai_ cy (rr 5) 12 (Mr 5), ai_ cy (rr 6) 12 (Mr 6), ai_ cy (rr 7) 12 (Mr 7), ai_ cy (rr 8) 12 (Mr 8), ai_ cy (rr 9) 12 (Mr 9), ai_ cy (rr 10) 12 (Mr 10), ai_ cy (rr 11) 12 (Mr 11), ai_ cy c4 40 f4, ai_ cy c5 40 f5, ai_ cy c6 40 f6, ai_ cy c8 12 f8] sz)) 0 0 (va_A [ob0_0_ xc xn xk clo cro c4 c5 c6 c7 c8, ob3_0_ xn vp vn n1 n2 n3 n4 n5, ai_ cy n2 40 fs, ai_ cy n3 40 fe, aq_ cy 6 cro 12 (gf_ rr), ai_ cy (rr 0) 12 (Mr 0), ai_ cy (rr 1) 12 (Mr 1), ai_ cy (rr 2) 12 (Mr 2), ai_ cy (rr 3) 12 (Mr 3), ai_ cy (rr 4) 12 (Mr 4), ai_ cy (rr 5) 12 (Mr 5), ai_ cy (rr 6) 12 (Mr 6), ai_ cy (rr 7) 12 (Mr 7), ai_ cy (rr 8) 12 (Mr 8), ai_ cy (rr 9) 12 (Mr 9), ai_ cy (rr 10) 12 (Mr 10), ai_ cy (rr 11) 12 (Mr 11), ai_ cy c4 40 f4, ai_ cy c5 40 f5, ai_ cy c6 40 f6, ai_ cy c8 12 f8] sz) := by
  refine ofQ (cc := cX0_sendAlongWay) (maxL := 6) (ret := (some .int)) (by decide) rfl ?_
  intro p e s m args below meth c s₁ Q hQ B hml hv
  obtain ⟨rfl, hsz, hP, hK, hD0⟩ := hv
  have hG := hK.2
  have hK := hK.1
  have hx := B.exec
  have hb := B.bytes
  have hr := B.returns
  have hts := atoms_spec (ws := wsX0_sendAlongWay) B.pre
  have hown : s.vm.findClass RX0 = some m.cls := by have h_ := findClass_of_methodNamed B.named; exact h_
  have hlocks := B.notSynchronized
  subst hsz
  have hD := hD0.self (sz := s.heap.size)
  generalize hAe : va_A [ob0_0_ xc xn xk clo cro c4 c5 c6 c7 c8, ob3_0_ xn vp vn n1 n2 n3 n4 n5, ai_ cy n2 40 fs, ai_ cy n3 40 fe, aq_ cy 6 cro 12 (gf_ rr), ai_ cy (rr 0) 12 (Mr 0), ai_ cy (rr 1) 12 (Mr 1), ai_ cy (rr 2) 12 (Mr 2), ai_ cy (rr 3) 12 (Mr 3), ai_ cy (rr 4) 12 (Mr 4), ai_ cy (rr 5) 12 (Mr 5), ai_ cy (rr 6) 12 (Mr 6), ai_ cy (rr 7) 12 (Mr 7), ai_ cy (rr 8) 12 (Mr 8), ai_ cy (rr 9) 12 (Mr 9), ai_ cy (rr 10) 12 (Mr 10), ai_ cy (rr 11) 12 (Mr 11), ai_ cy c4 40 f4, ai_ cy c5 40 f5, ai_ cy c6 40 f6, ai_ cy c8 12 f8] s.heap.size = A at hD hQ
  have hA : ∀ q : Nat, s.heap.size ≤ q → A q := fun q h => by rw [← hAe]; exact Or.inr h
  have hS : va_S A s.heap s.heap [] := va_S.rf
  have hl := lv_entry ([.ref xc, .int a1, .int a2]) (n := 6) (Nat.le_of_ble_eq_true rfl)
  rw [lg_entry_eq]
  generalize (lg_sl ([.ref xc, .int a1, .int a2]) ++ List.replicate (6 - (lg_sl ([.ref xc, .int a1, .int a2])).length) Slot.unset).toArray = ls at hl ⊢
  have hl : lv_has ls 6 [(0, .ref xc), (1, .int a1), (2, .int a2)] := hl
  have z0 : (0 : Int32).toInt = 0 := by decide
  have z1 : (1 : Int32).toInt = 1 := by decide
  have z12 : (12 : Int32).toInt = 12 := by decide
  have z1000000000 : (1000000000 : Int32).toInt = 1000000000 := by decide
  refine lv_ldc (v := 1000000000) hx hb hown (hts (.constant RX0 100 (1000000000)) (List.mem_of_getElem? (i := 1) rfl)) dB_36_0_35.1.1.1.1 ?_
  refine lv_istore_n (lv' := [(3, .int 1000000000), (0, .ref xc), (1, .int a1), (2, .int a2)]) hx hb dB_36_0_35.1.1.1.2 rfl hl (by decide) rfl (fun ls hl => ?_)
  refine lv_iload_n hx hb dB_36_0_35.1.1.2.1 rfl (lv_at hl 3 rfl) ?_
  refine lv_istore (lv' := [(4, .int a2), (3, .int 1000000000), (0, .ref xc), (1, .int a1), (2, .int a2)]) hx hb dB_36_0_35.1.1.2.2 hl (by decide) rfl (fun ls hl => ?_)
  refine lv_iconst (v := 0) hx hb dB_36_0_35.1.2.1.1 (by decide) ?_
  refine lv_istore (lv' := [(5, .int 0), (4, .int a2), (3, .int 1000000000), (0, .ref xc), (1, .int a1), (2, .int a2)]) hx hb dB_36_0_35.1.2.1.2 hl (by decide) rfl (fun ls hl => ?_)
  suffices LOOP_1 : ∀ (n_1 : Nat) (x5_1 : Int32) (x4_1 : Int32) (x3_1 : Int32) (H : Heap) (locs : List Loc) (ls : Array Slot), 12 - x5_1.toInt < (n_1 : Int) → (0 ≤ x4_1.toInt ∧ x4_1.toInt ≤ 11) → (0 ≤ x5_1.toInt) → (x5_1.toInt ≤ 12) → pd_2 D vwCl A [ob0_0_ xc xn xk clo cro c4 c5 c6 c7 c8, ob3_0_ xn vp vn n1 n2 n3 n4 n5, ai_ cy n2 40 fs, ai_ cy n3 40 fe, aq_ cy 6 cro 12 (gf_ rr), ai_ cy (rr 0) 12 (Mr 0), ai_ cy (rr 1) 12 (Mr 1), ai_ cy (rr 2) 12 (Mr 2), ai_ cy (rr 3) 12 (Mr 3), ai_ cy (rr 4) 12 (Mr 4), ai_ cy (rr 5) 12 (Mr 5), ai_ cy (rr 6) 12 (Mr 6), ai_ cy (rr 7) 12 (Mr 7), ai_ cy (rr 8) 12 (Mr 8), ai_ cy (rr 9) 12 (Mr 9), ai_ cy (rr 10) 12 (Mr 10), ai_ cy (rr 11) 12 (Mr 11), ai_ cy c4 40 f4, ai_ cy c5 40 f5, ai_ cy c6 40 f6, ai_ cy c8 12 f8] H → va_S A s.heap H locs → lv_has ls 6 [(5, .int x5_1), (4, .int x4_1), (3, .int x3_1), (0, .ref xc), (1, .int a1), (2, .int a2)] → W p l e ({ frames := 2, cells := 0, slots := 0, locals := 39 } : Room) s m (([.ref xc, .int a1, .int a2] : List Value).toArray) below meth c H locs 0 0 Q (F0 m 9 ls []) from LOOP_1 ((12 - (0 : Int32).toInt).toNat + 1) (0 : Int32) a2 (1000000000 : Int32) _ _ _ (by omega) (by first | with_reducible assumption | omega | assumption) (by first | with_reducible assumption | omega | assumption) (by first | with_reducible assumption | omega | assumption) ⟨hP, hD⟩ hS (lv_sub hl [0, 1, 2, 3, 4, 5] rfl)
  intro n_1
  induction n_1 with
  | zero =>
    intro x5_1 x4_1 x3_1 H locs ls hm v0_1 v1_1 v2_1 hPD hS hl; obtain ⟨hP, hD⟩ := hPD
    exact absurd hm (by omega)
  | succ n_1 ih_1 =>
    intro x5_1 x4_1 x3_1 H locs ls hm v0_1 v1_1 v2_1 hPD hS hl; obtain ⟨hP, hD⟩ := hPD
    refine lv_iload hx hb dB_36_0_35.1.2.2.1 (lv_at hl 0 rfl) ?_
    refine lv_bipush (v := 12) hx hb dB_36_0_35.1.2.2.2 (by decide) ?_
    refine lv_icmp_ge (tgt := 57) hx hb dB_36_0_35.2.1.1.1 (by decide) (fun c_2 => ?_) (fun c_2 => ?_)
    · have t_2 : (12 : Int32).toInt ≤ x5_1.toInt := Int32.le_iff_toInt_le.mp c_2
      refine lv_iload_n hx hb dB_36_0_36.2.2.2.2 rfl (lv_at hl 5 rfl) ?_
      refine lv_istore (lv' := [(4, .int a2), (5, .int x5_1), (3, .int x3_1), (0, .ref xc), (1, .int a1), (2, .int a2)]) hx hb dB_36_0_37.1.1.1.1 hl (by decide) rfl (fun ls hl => ?_)
      refine lv_iconst (v := 0) hx hb dB_36_0_37.1.1.1.2 (by decide) ?_
      refine lv_istore (lv' := [(5, .int 0), (4, .int a2), (3, .int x3_1), (0, .ref xc), (1, .int a1), (2, .int a2)]) hx hb dB_36_0_37.1.1.2.1 hl (by decide) rfl (fun ls hl => ?_)
      suffices LOOP_3 : ∀ (n_3 : Nat) (x5_3 : Int32) (x4_3 : Int32) (m_rr_3 : Nat → Nat → Int32) (c_c4_3 : Nat → Int32) (H : Heap) (locs : List Loc) (ls : Array Slot), 12 - x5_3.toInt < (n_3 : Int) → (0 ≤ x4_3.toInt ∧ x4_3.toInt ≤ 11) → (0 ≤ x5_3.toInt) → (x5_3.toInt ≤ 12) → pd_2 D vwCl A [ob0_0_ xc xn xk clo cro c4 c5 c6 c7 c8, ob3_0_ xn vp vn n1 n2 n3 n4 n5, ai_ cy n2 40 fs, ai_ cy n3 40 fe, aq_ cy 6 cro 12 (gf_ rr), ai_ cy (rr 0) 12 (m_rr_3 0), ai_ cy (rr 1) 12 (m_rr_3 1), ai_ cy (rr 2) 12 (m_rr_3 2), ai_ cy (rr 3) 12 (m_rr_3 3), ai_ cy (rr 4) 12 (m_rr_3 4), ai_ cy (rr 5) 12 (m_rr_3 5), ai_ cy (rr 6) 12 (m_rr_3 6), ai_ cy (rr 7) 12 (m_rr_3 7), ai_ cy (rr 8) 12 (m_rr_3 8), ai_ cy (rr 9) 12 (m_rr_3 9), ai_ cy (rr 10) 12 (m_rr_3 10), ai_ cy (rr 11) 12 (m_rr_3 11), ai_ cy c4 40 c_c4_3, ai_ cy c5 40 f5, ai_ cy c6 40 f6, ai_ cy c8 12 f8] H → va_S A s.heap H locs → lv_has ls 6 [(5, .int x5_3), (4, .int x4_3), (3, .int x3_1), (0, .ref xc), (1, .int a1), (2, .int a2)] → W p l e ({ frames := 2, cells := 0, slots := 0, locals := 39 } : Room) s m (([.ref xc, .int a1, .int a2] : List Value).toArray) below meth c H locs 0 0 Q (F0 m 63 ls []) from LOOP_3 ((12 - (0 : Int32).toInt).toNat + 1) (0 : Int32) a2 Mr f4 _ _ _ (by omega) (by first | with_reducible assumption | omega | assumption) (by first | with_reducible assumption | omega | assumption) (by first | with_reducible assumption | omega | assumption) ⟨hP, hD⟩ hS (lv_sub hl [0, 1, 2, 3, 4, 5] rfl)
      intro n_3
      induction n_3 with
      | zero =>
        intro x5_3 x4_3 m_rr_3 c_c4_3 H locs ls hm v0_3 v1_3 v2_3 hPD hS hl; obtain ⟨hP, hD⟩ := hPD
        exact absurd hm (by omega)
      | succ n_3 ih_3 =>
        intro x5_3 x4_3 m_rr_3 c_c4_3 H locs ls hm v0_3 v1_3 v2_3 hPD hS hl; obtain ⟨hP, hD⟩ := hPD
        refine lv_iload hx hb dB_36_0_37.1.1.2.2 (lv_at hl 0 rfl) ?_
        refine lv_bipush (v := 12) hx hb dB_36_0_37.1.2.1.1 (by decide) ?_
        refine lv_icmp_ge (tgt := 105) hx hb dB_36_0_37.1.2.1.2 (by decide) (fun c_4 => ?_) (fun c_4 => ?_)
        · have t_4 : (12 : Int32).toInt ≤ x5_3.toInt := Int32.le_iff_toInt_le.mp c_4
          refine lv_iload_n hx hb dB_36_0_38.2.2.2.1 rfl (lv_at hl 2 rfl) ?_
          rw [hQ]
          exact W.iret (v := x3_1) hx hb hr (fun t ht hW => ⟨⟨x3_1, (), rfl, trivial, m_rr_3, c_c4_3, by rw [ht]; exact hP, hD⟩, hS.F ht⟩) hS.2.2 dB_36_0_38.2.2.2.2
        · have t_4 : ¬ (12 : Int32).toInt ≤ x5_3.toInt := fun h => c_4 (Int32.le_iff_toInt_le.mpr h)
          refine lv_iload hx hb dB_36_0_37.1.2.2.1 (lv_at hl 1 rfl) ?_
          refine lv_iload_n hx hb dB_36_0_37.1.2.2.2 rfl (lv_at hl 4 rfl) ?_
          refine lv_icmp_eq (tgt := 105) hx hb dB_36_0_37.2.1.1.1 (by decide) (fun c_5 => ?_) (fun c_5 => ?_)
          · have t_5 : x4_3.toInt = a1.toInt := congrArg Int32.toInt c_5
            refine lv_iload_n hx hb dB_36_0_38.2.2.2.1 rfl (lv_at hl 2 rfl) ?_
            rw [hQ]
            exact W.iret (v := x3_1) hx hb hr (fun t ht hW => ⟨⟨x3_1, (), rfl, trivial, m_rr_3, c_c4_3, by rw [ht]; exact hP, hD⟩, hS.F ht⟩) hS.2.2 dB_36_0_38.2.2.2.2
          · have t_5 : ¬ x4_3.toInt = a1.toInt := fun h => c_5 (Int32.toInt_inj.mp h)
            refine lv_aload_n hx hb dB_36_0_37.2.1.1.2 rfl (lv_at hl 3 rfl) ?_
            refine lv_aload_n hx hb dB_36_0_37.2.1.2.1 rfl (lv_at hl 3 rfl) ?_
            refine va_get (ci := 0) (v := .ref c8) (C := RX0) (T := TX0) (N := 9) hx hb hts (fun _ h => List.mem_cons_of_mem _ (List.mem_append_left _ (List.mem_append_right _ h))) hown hK.1 hP 0 rfl rfl 8 (by decide) (hts (.fieldLink RX0 32 "CutAtlas$Current" "cameFrom" "[I") (List.mem_of_getElem? (i := 3) rfl)) (fun _ h9 => h9) rfl dB_36_0_37.2.1.2.2 ?_
            refine lv_iload hx hb dB_36_0_37.2.2.1.1 (lv_at hl 1 rfl) ?_
            have h_6 : vp_in x4_3 12 := in_I (by first | with_reducible assumption | omega) (by omega)
            refine va_iald hx hb hK.1 hP 20 0 rfl rfl (i := x4_3) h_6 dB_36_0_37.2.2.1.2 ?_
            refine lv_topi (fun y_7 ey_7 => ?_)
            have ry_7 : 0 ≤ y_7.toInt ∧ y_7.toInt ≤ 11 := by rw [ey_7]; exact r_f8 _ (in_lt h_6)
            refine lv_iload hx hb dB_36_0_37.2.2.2.1 (lv_at hl 1 rfl) ?_
            refine lv_iload_n hx hb dB_36_0_37.2.2.2.2 rfl (lv_at hl 2 rfl) ?_
            refine ct_S hP hD hS hA [ob0_0_ xc xn xk clo cro c4 c5 c6 c7 c8, ob3_0_ xn vp vn n1 n2 n3 n4 n5, ai_ cy n2 40 fs, ai_ cy n3 40 fe, aq_ cy 6 cro 12 (gf_ rr), ai_ cy (rr 0) 12 (m_rr_3 0), ai_ cy (rr 1) 12 (m_rr_3 1), ai_ cy (rr 2) 12 (m_rr_3 2), ai_ cy (rr 3) 12 (m_rr_3 3), ai_ cy (rr 4) 12 (m_rr_3 4), ai_ cy (rr 5) 12 (m_rr_3 5), ai_ cy (rr 6) 12 (m_rr_3 6), ai_ cy (rr 7) 12 (m_rr_3 7), ai_ cy (rr 8) 12 (m_rr_3 8), ai_ cy (rr 9) 12 (m_rr_3 9), ai_ cy (rr 10) 12 (m_rr_3 10), ai_ cy (rr 11) 12 (m_rr_3 11), ai_ cy c4 40 c_c4_3, ai_ cy c5 40 f5, ai_ cy c6 40 f6] [0, 1, 2, 3, 4, 5, 6, 7, 8, 9, 10, 11, 12, 13, 14, 15, 16, 17, 18, 19] (by decide +kernel) rfl (fun hPc hDw hFc hC_ => ?_)
            refine va_callv (va_runV (As := [.int y_7, .int x4_3, .int x3_1]) (rest := []) ⟨hx, hb, hml, hown, hts⟩ (c_X0_sendOver l D cy H.size xc xk clo cro c4 c5 c6 c7 c8 xn n1 n2 n3 n4 n5 vp vn fs fe rr m_rr_3 c_c4_3 f5 f6 y_7 x4_3 x3_1 (by first | with_reducible assumption | omega | assumption) (by first | with_reducible assumption | omega | assumption) (by first | with_reducible assumption | omega | assumption)) (cwV 3 hts gX0_sendAlongWay_X0_sendOver rfl rfl rfl ⟨rfl, hd_X0_sendOver⟩ ⟨Nat.le_of_ble_eq_true rfl, Nat.le_of_ble_eq_true rfl⟩) ⟨bl_g, va_recvX hK.1 hP (ci := 0) (q0 := 0) rfl rfl, fun U hU hW => ⟨rfl, by rw [hU], by rw [hU]; exact hPc, ⟨kk_mv hW hK, arrOfT_moved hW.alike hG⟩, hDw⟩⟩ rfl rfl hl.1 rfl (lv_room (Nat.le_of_ble_eq_true rfl)) dB_36_0_38.1.1.1 ⟨Nat.le_of_ble_eq_true rfl, Nat.le_of_ble_eq_true rfl⟩) hS (fun q _ h => hFc q h) hFc (fun u t H locs ht hvm hw hB hz1 hk1 hS => ?_)
            obtain ⟨eMr_9, e4_10, hP1, hD1⟩ := hB
            rw [ht] at hP1
            obtain ⟨hP, hD⟩ := va_join (wr := [ai_ cy c8 12 f8]) (w1 := [ob0_0_ xc xn xk clo cro c4 c5 c6 c7 c8, ob3_0_ xn vp vn n1 n2 n3 n4 n5, ai_ cy n2 40 fs, ai_ cy n3 40 fe, aq_ cy 6 cro 12 (gf_ rr), ai_ cy (rr 0) 12 (eMr_9 0), ai_ cy (rr 1) 12 (eMr_9 1), ai_ cy (rr 2) 12 (eMr_9 2), ai_ cy (rr 3) 12 (eMr_9 3), ai_ cy (rr 4) 12 (eMr_9 4), ai_ cy (rr 5) 12 (eMr_9 5), ai_ cy (rr 6) 12 (eMr_9 6), ai_ cy (rr 7) 12 (eMr_9 7), ai_ cy (rr 8) 12 (eMr_9 8), ai_ cy (rr 9) 12 (eMr_9 9), ai_ cy (rr 10) 12 (eMr_9 10), ai_ cy (rr 11) 12 (eMr_9 11), ai_ cy c4 40 e4_10, ai_ cy c5 40 f5, ai_ cy c6 40 f6]) hP hD [0, 1, 2, 3, 4, 5, 6, 7, 8, 9, 10, 11, 12, 13, 14, 15, 16, 17, 18, 19] [20] hC_ rfl (by decide) (by decide) hk1 hFc hP1 hD1
            refine pd_S hP hD [ob0_0_ xc xn xk clo cro c4 c5 c6 c7 c8, ob3_0_ xn vp vn n1 n2 n3 n4 n5, ai_ cy n2 40 fs, ai_ cy n3 40 fe, aq_ cy 6 cro 12 (gf_ rr), ai_ cy (rr 0) 12 (eMr_9 0), ai_ cy (rr 1) 12 (eMr_9 1), ai_ cy (rr 2) 12 (eMr_9 2), ai_ cy (rr 3) 12 (eMr_9 3), ai_ cy (rr 4) 12 (eMr_9 4), ai_ cy (rr 5) 12 (eMr_9 5), ai_ cy (rr 6) 12 (eMr_9 6), ai_ cy (rr 7) 12 (eMr_9 7), ai_ cy (rr 8) 12 (eMr_9 8), ai_ cy (rr 9) 12 (eMr_9 9), ai_ cy (rr 10) 12 (eMr_9 10), ai_ cy (rr 11) 12 (eMr_9 11), ai_ cy c4 40 e4_10, ai_ cy c5 40 f5, ai_ cy c6 40 f6, ai_ cy c8 12 f8] [1, 2, 3, 4, 5, 6, 7, 8, 9, 10, 11, 12, 13, 14, 15, 16, 17, 18, 19, 20, 0] (by decide +kernel) rfl (fun hP hD => ?_)
            refine lv_aload_n hx hb dB_36_0_38.1.1.2 rfl (lv_at hl 3 rfl) ?_
            refine va_get (ci := 0) (v := .ref c8) (C := RX0) (T := TX0) (N := 9) hx hb hts (fun _ h => List.mem_cons_of_mem _ (List.mem_append_left _ (List.mem_append_right _ h))) hown hK.1 hP 0 rfl rfl 8 (by decide) (hts (.fieldLink RX0 32 "CutAtlas$Current" "cameFrom" "[I") (List.mem_of_getElem? (i := 3) rfl)) (fun _ h9 => h9) rfl dB_36_0_38.1.2.1 ?_
            refine lv_iload hx hb dB_36_0_38.1.2.2.1 (lv_at hl 1 rfl) ?_
            refine va_iald hx hb hK.1 hP 20 0 rfl rfl (i := x4_3) h_6 dB_36_0_38.1.2.2.2 ?_
            refine lv_topi (fun y_12 ey_12 => ?_)
            have e_ := (ey_12.trans ey_7.symm).symm
            subst e_
            skip
            refine lv_istore (lv' := [(4, .int y_7), (5, .int x5_3), (3, .int x3_1), (0, .ref xc), (1, .int a1), (2, .int a2)]) hx hb dB_36_0_38.2.1.1 hl (by decide) rfl (fun ls hl => ?_)
            obtain ⟨y_13, ey_13⟩ : ∃ y : Int32, y = x5_3 + 1 := ⟨_, rfl⟩
            have ty_13 : y_13.toInt = x5_3.toInt + (1 : Int32).toInt := by rw [ey_13]; exact addI (by omega) (by omega)
            refine lv_iinc (v := y_13) (lv' := [(5, .int y_13), (4, .int y_7), (3, .int x3_1), (0, .ref xc), (1, .int a1), (2, .int a2)]) hx hb dB_36_0_38.2.1.2 hl (k := 1) rfl (by rw [ey_13]; rfl) (by decide) rfl (fun ls hl => ?_)
            refine lv_goto (tgt := 63) hx hb dB_36_0_38.2.2.1 (by decide) ?_
            exact ih_3 y_13 y_7 eMr_9 e4_10 _ _ _ (by omega) (by first | with_reducible assumption | omega | assumption) (by first | with_reducible assumption | omega | assumption) (by first | with_reducible assumption | omega | assumption) ⟨hP, hD⟩ hS (lv_sub hl [0, 1, 2, 3, 4, 5] rfl)
    · have t_2 : ¬ (12 : Int32).toInt ≤ x5_1.toInt := fun h => c_2 (Int32.le_iff_toInt_le.mpr h)
      refine lv_iload hx hb dB_36_0_35.2.1.1.2 (lv_at hl 1 rfl) ?_
      refine lv_iload_n hx hb dB_36_0_35.2.1.2.1 rfl (lv_at hl 4 rfl) ?_
      refine lv_icmp_eq (tgt := 57) hx hb dB_36_0_35.2.1.2.2 (by decide) (fun c_14 => ?_) (fun c_14 => ?_)
      · have t_14 : x4_1.toInt = a1.toInt := congrArg Int32.toInt c_14
        refine lv_iload_n hx hb dB_36_0_36.2.2.2.2 rfl (lv_at hl 5 rfl) ?_
        refine lv_istore (lv' := [(4, .int a2), (5, .int x5_1), (3, .int x3_1), (0, .ref xc), (1, .int a1), (2, .int a2)]) hx hb dB_36_0_37.1.1.1.1 hl (by decide) rfl (fun ls hl => ?_)
        refine lv_iconst (v := 0) hx hb dB_36_0_37.1.1.1.2 (by decide) ?_
        refine lv_istore (lv' := [(5, .int 0), (4, .int a2), (3, .int x3_1), (0, .ref xc), (1, .int a1), (2, .int a2)]) hx hb dB_36_0_37.1.1.2.1 hl (by decide) rfl (fun ls hl => ?_)
        suffices LOOP_15 : ∀ (n_15 : Nat) (x5_15 : Int32) (x4_15 : Int32) (m_rr_15 : Nat → Nat → Int32) (c_c4_15 : Nat → Int32) (H : Heap) (locs : List Loc) (ls : Array Slot), 12 - x5_15.toInt < (n_15 : Int) → (0 ≤ x4_15.toInt ∧ x4_15.toInt ≤ 11) → (0 ≤ x5_15.toInt) → (x5_15.toInt ≤ 12) → pd_2 D vwCl A [ob0_0_ xc xn xk clo cro c4 c5 c6 c7 c8, ob3_0_ xn vp vn n1 n2 n3 n4 n5, ai_ cy n2 40 fs, ai_ cy n3 40 fe, aq_ cy 6 cro 12 (gf_ rr), ai_ cy (rr 0) 12 (m_rr_15 0), ai_ cy (rr 1) 12 (m_rr_15 1), ai_ cy (rr 2) 12 (m_rr_15 2), ai_ cy (rr 3) 12 (m_rr_15 3), ai_ cy (rr 4) 12 (m_rr_15 4), ai_ cy (rr 5) 12 (m_rr_15 5), ai_ cy (rr 6) 12 (m_rr_15 6), ai_ cy (rr 7) 12 (m_rr_15 7), ai_ cy (rr 8) 12 (m_rr_15 8), ai_ cy (rr 9) 12 (m_rr_15 9), ai_ cy (rr 10) 12 (m_rr_15 10), ai_ cy (rr 11) 12 (m_rr_15 11), ai_ cy c4 40 c_c4_15, ai_ cy c5 40 f5, ai_ cy c6 40 f6, ai_ cy c8 12 f8] H → va_S A s.heap H locs → lv_has ls 6 [(5, .int x5_15), (4, .int x4_15), (3, .int x3_1), (0, .ref xc), (1, .int a1), (2, .int a2)] → W p l e ({ frames := 2, cells := 0, slots := 0, locals := 39 } : Room) s m (([.ref xc, .int a1, .int a2] : List Value).toArray) below meth c H locs 0 0 Q (F0 m 63 ls []) from LOOP_15 ((12 - (0 : Int32).toInt).toNat + 1) (0 : Int32) a2 Mr f4 _ _ _ (by omega) (by first | with_reducible assumption | omega | assumption) (by first | with_reducible assumption | omega | assumption) (by first | with_reducible assumption | omega | assumption) ⟨hP, hD⟩ hS (lv_sub hl [0, 1, 2, 3, 4, 5] rfl)
        intro n_15
        induction n_15 with
        | zero =>
          intro x5_15 x4_15 m_rr_15 c_c4_15 H locs ls hm v0_15 v1_15 v2_15 hPD hS hl; obtain ⟨hP, hD⟩ := hPD
          exact absurd hm (by omega)
        | succ n_15 ih_15 =>
          intro x5_15 x4_15 m_rr_15 c_c4_15 H locs ls hm v0_15 v1_15 v2_15 hPD hS hl; obtain ⟨hP, hD⟩ := hPD
          refine lv_iload hx hb dB_36_0_37.1.1.2.2 (lv_at hl 0 rfl) ?_
          refine lv_bipush (v := 12) hx hb dB_36_0_37.1.2.1.1 (by decide) ?_
          refine lv_icmp_ge (tgt := 105) hx hb dB_36_0_37.1.2.1.2 (by decide) (fun c_16 => ?_) (fun c_16 => ?_)
          · have t_16 : (12 : Int32).toInt ≤ x5_15.toInt := Int32.le_iff_toInt_le.mp c_16
            refine lv_iload_n hx hb dB_36_0_38.2.2.2.1 rfl (lv_at hl 2 rfl) ?_
            rw [hQ]
            exact W.iret (v := x3_1) hx hb hr (fun t ht hW => ⟨⟨x3_1, (), rfl, trivial, m_rr_15, c_c4_15, by rw [ht]; exact hP, hD⟩, hS.F ht⟩) hS.2.2 dB_36_0_38.2.2.2.2
          · have t_16 : ¬ (12 : Int32).toInt ≤ x5_15.toInt := fun h => c_16 (Int32.le_iff_toInt_le.mpr h)
            refine lv_iload hx hb dB_36_0_37.1.2.2.1 (lv_at hl 1 rfl) ?_
            refine lv_iload_n hx hb dB_36_0_37.1.2.2.2 rfl (lv_at hl 4 rfl) ?_
            refine lv_icmp_eq (tgt := 105) hx hb dB_36_0_37.2.1.1.1 (by decide) (fun c_17 => ?_) (fun c_17 => ?_)
            · have t_17 : x4_15.toInt = a1.toInt := congrArg Int32.toInt c_17
              refine lv_iload_n hx hb dB_36_0_38.2.2.2.1 rfl (lv_at hl 2 rfl) ?_
              rw [hQ]
              exact W.iret (v := x3_1) hx hb hr (fun t ht hW => ⟨⟨x3_1, (), rfl, trivial, m_rr_15, c_c4_15, by rw [ht]; exact hP, hD⟩, hS.F ht⟩) hS.2.2 dB_36_0_38.2.2.2.2
            · have t_17 : ¬ x4_15.toInt = a1.toInt := fun h => c_17 (Int32.toInt_inj.mp h)
              refine lv_aload_n hx hb dB_36_0_37.2.1.1.2 rfl (lv_at hl 3 rfl) ?_
              refine lv_aload_n hx hb dB_36_0_37.2.1.2.1 rfl (lv_at hl 3 rfl) ?_
              refine va_get (ci := 0) (v := .ref c8) (C := RX0) (T := TX0) (N := 9) hx hb hts (fun _ h => List.mem_cons_of_mem _ (List.mem_append_left _ (List.mem_append_right _ h))) hown hK.1 hP 0 rfl rfl 8 (by decide) (hts (.fieldLink RX0 32 "CutAtlas$Current" "cameFrom" "[I") (List.mem_of_getElem? (i := 3) rfl)) (fun _ h9 => h9) rfl dB_36_0_37.2.1.2.2 ?_
              refine lv_iload hx hb dB_36_0_37.2.2.1.1 (lv_at hl 1 rfl) ?_
              have h_18 : vp_in x4_15 12 := in_I (by first | with_reducible assumption | omega) (by omega)
              refine va_iald hx hb hK.1 hP 20 0 rfl rfl (i := x4_15) h_18 dB_36_0_37.2.2.1.2 ?_
              refine lv_topi (fun y_19 ey_19 => ?_)
              have ry_19 : 0 ≤ y_19.toInt ∧ y_19.toInt ≤ 11 := by rw [ey_19]; exact r_f8 _ (in_lt h_18)
              refine lv_iload hx hb dB_36_0_37.2.2.2.1 (lv_at hl 1 rfl) ?_
              refine lv_iload_n hx hb dB_36_0_37.2.2.2.2 rfl (lv_at hl 2 rfl) ?_
              refine ct_S hP hD hS hA [ob0_0_ xc xn xk clo cro c4 c5 c6 c7 c8, ob3_0_ xn vp vn n1 n2 n3 n4 n5, ai_ cy n2 40 fs, ai_ cy n3 40 fe, aq_ cy 6 cro 12 (gf_ rr), ai_ cy (rr 0) 12 (m_rr_15 0), ai_ cy (rr 1) 12 (m_rr_15 1), ai_ cy (rr 2) 12 (m_rr_15 2), ai_ cy (rr 3) 12 (m_rr_15 3), ai_ cy (rr 4) 12 (m_rr_15 4), ai_ cy (rr 5) 12 (m_rr_15 5), ai_ cy (rr 6) 12 (m_rr_15 6), ai_ cy (rr 7) 12 (m_rr_15 7), ai_ cy (rr 8) 12 (m_rr_15 8), ai_ cy (rr 9) 12 (m_rr_15 9), ai_ cy (rr 10) 12 (m_rr_15 10), ai_ cy (rr 11) 12 (m_rr_15 11), ai_ cy c4 40 c_c4_15, ai_ cy c5 40 f5, ai_ cy c6 40 f6] [0, 1, 2, 3, 4, 5, 6, 7, 8, 9, 10, 11, 12, 13, 14, 15, 16, 17, 18, 19] (by decide +kernel) rfl (fun hPc hDw hFc hC_ => ?_)
              refine va_callv (va_runV (As := [.int y_19, .int x4_15, .int x3_1]) (rest := []) ⟨hx, hb, hml, hown, hts⟩ (c_X0_sendOver l D cy H.size xc xk clo cro c4 c5 c6 c7 c8 xn n1 n2 n3 n4 n5 vp vn fs fe rr m_rr_15 c_c4_15 f5 f6 y_19 x4_15 x3_1 (by first | with_reducible assumption | omega | assumption) (by first | with_reducible assumption | omega | assumption) (by first | with_reducible assumption | omega | assumption)) (cwV 3 hts gX0_sendAlongWay_X0_sendOver rfl rfl rfl ⟨rfl, hd_X0_sendOver⟩ ⟨Nat.le_of_ble_eq_true rfl, Nat.le_of_ble_eq_true rfl⟩) ⟨bl_g, va_recvX hK.1 hP (ci := 0) (q0 := 0) rfl rfl, fun U hU hW => ⟨rfl, by rw [hU], by rw [hU]; exact hPc, ⟨kk_mv hW hK, arrOfT_moved hW.alike hG⟩, hDw⟩⟩ rfl rfl hl.1 rfl (lv_room (Nat.le_of_ble_eq_true rfl)) dB_36_0_38.1.1.1 ⟨Nat.le_of_ble_eq_true rfl, Nat.le_of_ble_eq_true rfl⟩) hS (fun q _ h => hFc q h) hFc (fun u t H locs ht hvm hw hB hz1 hk1 hS => ?_)
              obtain ⟨eMr_21, e4_22, hP1, hD1⟩ := hB
              rw [ht] at hP1
              obtain ⟨hP, hD⟩ := va_join (wr := [ai_ cy c8 12 f8]) (w1 := [ob0_0_ xc xn xk clo cro c4 c5 c6 c7 c8, ob3_0_ xn vp vn n1 n2 n3 n4 n5, ai_ cy n2 40 fs, ai_ cy n3 40 fe, aq_ cy 6 cro 12 (gf_ rr), ai_ cy (rr 0) 12 (eMr_21 0), ai_ cy (rr 1) 12 (eMr_21 1), ai_ cy (rr 2) 12 (eMr_21 2), ai_ cy (rr 3) 12 (eMr_21 3), ai_ cy (rr 4) 12 (eMr_21 4), ai_ cy (rr 5) 12 (eMr_21 5), ai_ cy (rr 6) 12 (eMr_21 6), ai_ cy (rr 7) 12 (eMr_21 7), ai_ cy (rr 8) 12 (eMr_21 8), ai_ cy (rr 9) 12 (eMr_21 9), ai_ cy (rr 10) 12 (eMr_21 10), ai_ cy (rr 11) 12 (eMr_21 11), ai_ cy c4 40 e4_22, ai_ cy c5 40 f5, ai_ cy c6 40 f6]) hP hD [0, 1, 2, 3, 4, 5, 6, 7, 8, 9, 10, 11, 12, 13, 14, 15, 16, 17, 18, 19] [20] hC_ rfl (by decide) (by decide) hk1 hFc hP1 hD1
              refine pd_S hP hD [ob0_0_ xc xn xk clo cro c4 c5 c6 c7 c8, ob3_0_ xn vp vn n1 n2 n3 n4 n5, ai_ cy n2 40 fs, ai_ cy n3 40 fe, aq_ cy 6 cro 12 (gf_ rr), ai_ cy (rr 0) 12 (eMr_21 0), ai_ cy (rr 1) 12 (eMr_21 1), ai_ cy (rr 2) 12 (eMr_21 2), ai_ cy (rr 3) 12 (eMr_21 3), ai_ cy (rr 4) 12 (eMr_21 4), ai_ cy (rr 5) 12 (eMr_21 5), ai_ cy (rr 6) 12 (eMr_21 6), ai_ cy (rr 7) 12 (eMr_21 7), ai_ cy (rr 8) 12 (eMr_21 8), ai_ cy (rr 9) 12 (eMr_21 9), ai_ cy (rr 10) 12 (eMr_21 10), ai_ cy (rr 11) 12 (eMr_21 11), ai_ cy c4 40 e4_22, ai_ cy c5 40 f5, ai_ cy c6 40 f6, ai_ cy c8 12 f8] [1, 2, 3, 4, 5, 6, 7, 8, 9, 10, 11, 12, 13, 14, 15, 16, 17, 18, 19, 20, 0] (by decide +kernel) rfl (fun hP hD => ?_)
              refine lv_aload_n hx hb dB_36_0_38.1.1.2 rfl (lv_at hl 3 rfl) ?_
              refine va_get (ci := 0) (v := .ref c8) (C := RX0) (T := TX0) (N := 9) hx hb hts (fun _ h => List.mem_cons_of_mem _ (List.mem_append_left _ (List.mem_append_right _ h))) hown hK.1 hP 0 rfl rfl 8 (by decide) (hts (.fieldLink RX0 32 "CutAtlas$Current" "cameFrom" "[I") (List.mem_of_getElem? (i := 3) rfl)) (fun _ h9 => h9) rfl dB_36_0_38.1.2.1 ?_
              refine lv_iload hx hb dB_36_0_38.1.2.2.1 (lv_at hl 1 rfl) ?_
              refine va_iald hx hb hK.1 hP 20 0 rfl rfl (i := x4_15) h_18 dB_36_0_38.1.2.2.2 ?_
              refine lv_topi (fun y_24 ey_24 => ?_)
              have e_ := (ey_24.trans ey_19.symm).symm
              subst e_
              skip
              refine lv_istore (lv' := [(4, .int y_19), (5, .int x5_15), (3, .int x3_1), (0, .ref xc), (1, .int a1), (2, .int a2)]) hx hb dB_36_0_38.2.1.1 hl (by decide) rfl (fun ls hl => ?_)
              obtain ⟨y_25, ey_25⟩ : ∃ y : Int32, y = x5_15 + 1 := ⟨_, rfl⟩
              have ty_25 : y_25.toInt = x5_15.toInt + (1 : Int32).toInt := by rw [ey_25]; exact addI (by omega) (by omega)
              refine lv_iinc (v := y_25) (lv' := [(5, .int y_25), (4, .int y_19), (3, .int x3_1), (0, .ref xc), (1, .int a1), (2, .int a2)]) hx hb dB_36_0_38.2.1.2 hl (k := 1) rfl (by rw [ey_25]; rfl) (by decide) rfl (fun ls hl => ?_)
              refine lv_goto (tgt := 63) hx hb dB_36_0_38.2.2.1 (by decide) ?_
              exact ih_15 y_25 y_19 eMr_21 e4_22 _ _ _ (by omega) (by first | with_reducible assumption | omega | assumption) (by first | with_reducible assumption | omega | assumption) (by first | with_reducible assumption | omega | assumption) ⟨hP, hD⟩ hS (lv_sub hl [0, 1, 2, 3, 4, 5] rfl)
      · have t_14 : ¬ x4_1.toInt = a1.toInt := fun h => c_14 (Int32.toInt_inj.mp h)
        refine lv_iload_n hx hb dB_36_0_35.2.2.1.1 rfl (lv_at hl 2 rfl) ?_
        refine lv_aload_n hx hb dB_36_0_35.2.2.1.2 rfl (lv_at hl 3 rfl) ?_
        refine va_get (ci := 0) (v := .ref cro) (C := RX0) (T := TX0) (N := 9) hx hb hts (fun _ h => List.mem_cons_of_mem _ (List.mem_append_left _ (List.mem_append_right _ h))) hown hK.1 hP 0 rfl rfl 3 (by decide) (hts (.fieldLink RX0 16 "CutAtlas$Current" "room" "[[I") (List.mem_of_getElem? (i := 2) rfl)) (fun _ h9 => h9) rfl dB_36_0_35.2.2.2.1 ?_
        refine lv_aload_n hx hb dB_36_0_35.2.2.2.2 rfl (lv_at hl 3 rfl) ?_
        refine va_get (ci := 0) (v := .ref c8) (C := RX0) (T := TX0) (N := 9) hx hb hts (fun _ h => List.mem_cons_of_mem _ (List.mem_append_left _ (List.mem_append_right _ h))) hown hK.1 hP 0 rfl rfl 8 (by decide) (hts (.fieldLink RX0 32 "CutAtlas$Current" "cameFrom" "[I") (List.mem_of_getElem? (i := 3) rfl)) (fun _ h9 => h9) rfl dB_36_0_36.1.1.1.1 ?_
        refine lv_iload hx hb dB_36_0_36.1.1.1.2 (lv_at hl 1 rfl) ?_
        have h_26 : vp_in x4_1 12 := in_I (by first | with_reducible assumption | omega) (by omega)
        refine va_iald hx hb hK.1 hP 20 0 rfl rfl (i := x4_1) h_26 dB_36_0_36.1.1.2.1 ?_
        refine lv_topi (fun y_27 ey_27 => ?_)
        have ry_27 : 0 ≤ y_27.toInt ∧ y_27.toInt ≤ 11 := by rw [ey_27]; exact r_f8 _ (in_lt h_26)
        have h_28 : vp_in y_27 12 := in_I (by first | with_reducible assumption | omega) (by omega)
        refine va_alda hx hb hG hP 4 rfl (i := y_27) h_28 dB_36_0_36.1.1.2.2 ?_
        refine lv_topv (v' := .ref (rr y_27.toNatClampNeg)) (gf_at h_28) ?_
        refine lv_iload hx hb dB_36_0_36.1.2.1.1 (lv_at hl 1 rfl) ?_
        have hPg : va_P D vwCl (([ob0_0_ xc xn xk clo cro c4 c5 c6 c7 c8, ob3_0_ xn vp vn n1 n2 n3 n4 n5, ai_ cy n2 40 fs, ai_ cy n3 40 fe, aq_ cy 6 cro 12 (gf_ rr)] : va_W) ++ (gro (cy 0) rr Mr ++ ([ai_ cy c4 40 f4, ai_ cy c5 40 f5, ai_ cy c6 40 f6, ai_ cy c8 12 f8] : va_W))) H := hP
        refine va_gld (X := [ob0_0_ xc xn xk clo cro c4 c5 c6 c7 c8, ob3_0_ xn vp vn n1 n2 n3 n4 n5, ai_ cy n2 40 fs, ai_ cy n3 40 fe, aq_ cy 6 cro 12 (gf_ rr)]) (Y := [ai_ cy c4 40 f4, ai_ cy c5 40 f5, ai_ cy c6 40 f6, ai_ cy c8 12 f8]) (r := rr) (M := Mr) (k := y_27.toNatClampNeg) hx hb hK.1 hPg 0 rfl (in_lt h_28) (i := x4_1) h_26 dB_36_0_36.1.2.1.2 ?_
        refine lv_topi (fun y_30 ey_30 => ?_)
        refine va_mmin hx hb (by rw [hml]; exact hl.1.symm) hown (hts (.methodLink RX0 101 Lib.Math.min.name) (List.mem_of_getElem? (i := 4) rfl)) (hts (.static Lib.Math.min.name) (List.mem_of_getElem? (i := 5) rfl)) (hts (.initialized "java/lang/Math") (List.mem_of_getElem? (i := 6) rfl)) (hts (.code Lib.Math.min.name Lib.Math.min.code 2 (some .int)) (List.mem_of_getElem? (i := 7) rfl)) (Nat.le_of_ble_eq_true rfl) (Nat.le_of_ble_eq_true rfl) (Nat.le_of_ble_eq_true rfl) (Nat.le_of_ble_eq_true rfl) dB_36_0_36.1.2.2.1 ?_
        refine lv_topi (fun y_31 ey_31 => ?_)
        have ty_31 : y_31 = x3_1 ∨ y_31 = y_30 := by rw [ey_31]; split <;> simp
        have iy_31 : y_31.toInt = x3_1.toInt ∨ y_31.toInt = y_30.toInt := by rcases ty_31 with h | h <;> rw [h] <;> simp
        refine lv_istore_n (lv' := [(3, .int y_31), (5, .int x5_1), (4, .int x4_1), (0, .ref xc), (1, .int a1), (2, .int a2)]) hx hb dB_36_0_36.1.2.2.2 rfl hl (by decide) rfl (fun ls hl => ?_)
        refine lv_aload_n hx hb dB_36_0_36.2.1.1.1 rfl (lv_at hl 3 rfl) ?_
        refine va_get (ci := 0) (v := .ref c8) (C := RX0) (T := TX0) (N := 9) hx hb hts (fun _ h => List.mem_cons_of_mem _ (List.mem_append_left _ (List.mem_append_right _ h))) hown hK.1 hP 0 rfl rfl 8 (by decide) (hts (.fieldLink RX0 32 "CutAtlas$Current" "cameFrom" "[I") (List.mem_of_getElem? (i := 3) rfl)) (fun _ h9 => h9) rfl dB_36_0_36.2.1.1.2 ?_
        refine lv_iload hx hb dB_36_0_36.2.1.2.1 (lv_at hl 2 rfl) ?_
        refine va_iald hx hb hK.1 hP 20 0 rfl rfl (i := x4_1) h_26 dB_36_0_36.2.1.2.2 ?_
        refine lv_topi (fun y_33 ey_33 => ?_)
        have e_ := (ey_33.trans ey_27.symm).symm
        subst e_
        skip
        refine lv_istore (lv' := [(4, .int y_27), (3, .int y_31), (5, .int x5_1), (0, .ref xc), (1, .int a1), (2, .int a2)]) hx hb dB_36_0_36.2.2.1.1 hl (by decide) rfl (fun ls hl => ?_)
        obtain ⟨y_34, ey_34⟩ : ∃ y : Int32, y = x5_1 + 1 := ⟨_, rfl⟩
        have ty_34 : y_34.toInt = x5_1.toInt + (1 : Int32).toInt := by rw [ey_34]; exact addI (by omega) (by omega)
        refine lv_iinc (v := y_34) (lv' := [(5, .int y_34), (4, .int y_27), (3, .int y_31), (0, .ref xc), (1, .int a1), (2, .int a2)]) hx hb dB_36_0_36.2.2.1.2 hl (k := 2) rfl (by rw [ey_34]; rfl) (by decide) rfl (fun ls hl => ?_)
        refine lv_goto (tgt := 9) hx hb dB_36_0_36.2.2.2.1 (by decide) ?_
        exact ih_1 y_34 y_27 y_31 _ _ _ (by omega) (by first | with_reducible assumption | omega | assumption) (by first | with_reducible assumption | omega | assumption) (by first | with_reducible assumption | omega | assumption) ⟨hP, hD⟩ hS (lv_sub hl [0, 1, 2, 3, 4, 5] rfl)
end

section
noncomputable def bt (x : Int32) (i : Nat) : Bool := x.toBitVec.getLsbD i
theorem b_or (x y : Int32) (i : Nat) : bt (x ||| y) i = (bt x i || bt y i) := by unfold bt; rw [Int32.toBitVec_or, BitVec.getLsbD_or]
theorem b_and (x y : Int32) (i : Nat) : bt (x &&& y) i = (bt x i && bt y i) := by unfold bt; rw [Int32.toBitVec_and, BitVec.getLsbD_and]
theorem s_l : ∀ n, n < 32 → ((nI n &&& 31).toBitVec.smod 32).toNat = n := by decide +kernel
theorem b_shl (n : Nat) (hn : n < 32) (x : Int32) {i : Nat} (hi : i < 32) : bt (x <<< (nI n &&& 31)) i = (decide (n ≤ i) && bt x (i - n)) := by
  unfold bt
  rw [Int32.toBitVec_shiftLeft]
  show (x.toBitVec <<< ((nI n &&& 31).toBitVec.smod 32).toNat).getLsbD i = _
  rw [s_l n hn, BitVec.getLsbD_shiftLeft]
  rcases Nat.lt_or_ge i n with h | h
  · simp [h, Nat.not_le.mpr h]
  · simp [hi, h, Nat.not_lt.mpr h]
theorem b_sshr (n : Nat) (hn : n < 32) (x : Int32) {i : Nat} (hi : i < 32) : bt (x >>> (nI n &&& 31)) i = if n + i < 32 then bt x (n + i) else bt x 31 := by
  unfold bt
  rw [Int32.toBitVec_shiftRight]
  show (x.toBitVec.sshiftRight ((nI n &&& 31).toBitVec.smod 32).toNat).getLsbD i = _
  rw [s_l n hn, BitVec.getLsbD_sshiftRight, BitVec.msb_eq_getLsbD_last]
  simp [hi]
theorem nI_cl {y : Int32} (h0 : 0 ≤ y.toInt) : y = nI y.toNatClampNeg := by
  obtain ⟨j, hj, rfl⟩ := nI_of (x := y) (fun h => by
    have := Int32.lt_iff_toInt_lt.mp h
    have z : (0 : Int32).toInt = 0 := by decide
    omega)
  have e := nI_toInt hj
  have c := clI (i := nI j) (by omega)
  have : (nI j).toNatClampNeg = j := by omega
  rw [this]
theorem bt_one {y : Int32} (h0 : 0 ≤ y.toInt) (h1 : y.toInt ≤ 11) : bt ((1 : Int32) <<< (y &&& 31)) y.toNatClampNeg = true := by
  have c := clI (i := y) h0
  have e := nI_cl h0
  have b := b_shl y.toNatClampNeg (by omega) 1 (i := y.toNatClampNeg) (by omega)
  rw [← e] at b
  rw [b, Nat.sub_self]
  simp
  decide
theorem bt_zero {x y z w : Int32} (h0 : 0 ≤ y.toInt) (h1 : y.toInt ≤ 11) (ez : z = x >>> (y &&& 31)) (ew : w = z &&& 1) (hw : w.toInt = 0) : bt x y.toNatClampNeg = false := by
  have c := clI (i := y) h0
  have e := nI_cl h0
  have b := b_sshr y.toNatClampNeg (by omega) x (i := 0) (by omega)
  rw [← e, ← ez, if_pos (by omega), Nat.add_zero] at b
  have w0 : w = 0 := Int32.toInt_inj.mp (by rw [hw]; decide)
  have b2 := b_and z 1 0
  rw [← ew, w0, b] at b2
  have o : bt 1 0 = true := by decide
  have o2 : bt 0 0 = false := by decide
  rw [o, o2, Bool.and_true] at b2
  exact b2.symm
/-- the class's searches: the places in the queue are met, and no two are the same -/
noncomputable def mq (x : Int32) (q : Nat → Int32) (n : Nat) : Prop := ∀ i : Nat, i < n → (0 ≤ (q i).toInt ∧ (q i).toInt ≤ 11) ∧ bt x (q i).toNatClampNeg = true ∧ ∀ j : Nat, j < i → (q j).toInt ≠ (q i).toInt
theorem mq_one {x s : Int32} {q f : Nat → Int32} (e : f = upd q (0 : Int32).toNatClampNeg s) (ex : x = (1 : Int32) <<< (s &&& 31)) (h0 : 0 ≤ s.toInt) (h1 : s.toInt ≤ 11) : mq x f 1 := fun i hi => by
  obtain rfl : i = 0 := by omega
  have e0 : f 0 = s := by
    rw [e]
    exact pk_us
  rw [e0]
  refine ⟨⟨h0, h1⟩, ?_, fun j hj => by omega⟩
  rw [ex]
  exact bt_one h0 h1
theorem mq_new {x y z w : Int32} {q : Nat → Int32} {n : Nat} (h : mq x q n) (h0 : 0 ≤ y.toInt) (h1 : y.toInt ≤ 11) (ez : z = x >>> (y &&& 31)) (ew : w = z &&& 1) (hw : w.toInt = 0) : ∀ i : Nat, i < n → (q i).toInt ≠ y.toInt := fun i hi e => by
  have b := bt_zero h0 h1 ez ew hw
  have a := (h i hi).2.1
  have e2 : q i = y := Int32.toInt_inj.mp e
  rw [e2, b] at a
  cases a
theorem mq_room {x y z w m : Int32} {q : Nat → Int32} (h : mq x q m.toNatClampNeg) (h0 : 0 ≤ y.toInt) (h1 : y.toInt ≤ 11) (ez : z = x >>> (y &&& 31)) (ew : w = z &&& 1) (hw : w.toInt = 0) (hm : 0 ≤ m.toInt) : m.toInt < 12 := by
  have hn := mq_new h h0 h1 ez ew hw
  have c := clI (i := m) hm
  have := pigeon 12 (m.toNatClampNeg + 1) (fun i => if i < m.toNatClampNeg then (q i).toInt else y.toInt) (fun i hi => by
    try dsimp only
    by_cases hk : i < m.toNatClampNeg
    · rw [if_pos hk]
      have := (h i hk).1
      omega
    · rw [if_neg hk]
      omega) (fun i j hij hj => by
    try dsimp only
    by_cases hk : j < m.toNatClampNeg
    · rw [if_pos hk, if_pos (by omega)]
      exact (h j hk).2.2 i hij
    · rw [if_neg hk, if_pos (by omega)]
      exact hn i (by omega))
  omega
theorem mq_push {x x2 y z w m m2 b : Int32} {q q2 : Nat → Int32} (h : mq x q m.toNatClampNeg) (h0 : 0 ≤ y.toInt) (h1 : y.toInt ≤ 11) (ez : z = x >>> (y &&& 31)) (ew : w = z &&& 1) (hw : w.toInt = 0) (hm : 0 ≤ m.toInt) (eb : b = (1 : Int32) <<< (y &&& 31)) (ex : x2 = x ||| b) (eq : q2 = upd q m.toNatClampNeg y) (em : m2.toInt = m.toInt + 1) : mq x2 q2 m2.toNatClampNeg := by
  have hn := mq_new h h0 h1 ez ew hw
  have c := clI (i := m) hm
  have c2 := clI (i := m2) (by omega)
  have en : m2.toNatClampNeg = m.toNatClampNeg + 1 := by omega
  rw [en]
  intro i hi
  by_cases hk : i < m.toNatClampNeg
  · have e : ∀ j : Nat, j < m.toNatClampNeg → q2 j = q j := fun j hj => by
      rw [eq]
      exact pk_un (by omega)
    rw [e i hk]
    obtain ⟨a1, a2, a3⟩ := h i hk
    refine ⟨a1, ?_, fun j hj => ?_⟩
    · rw [ex, b_or, a2]
      rfl
    · rw [e j (by omega)]
      exact a3 j hj
  · obtain rfl : i = m.toNatClampNeg := by omega
    have e1 : q2 m.toNatClampNeg = y := by
      rw [eq]
      exact pk_us
    rw [e1]
    refine ⟨⟨h0, h1⟩, ?_, fun j hj => ?_⟩
    · rw [ex, b_or, eb, bt_one h0 h1, Bool.or_true]
    · rw [eq, pk_un (by omega)]
      exact hn j hj
theorem sp_12 {x : Int32} (h : 0 ≤ x.toInt ∧ x.toInt ≤ 11) : x = 0 ∨ x = 1 ∨ x = 2 ∨ x = 3 ∨ x = 4 ∨ x = 5 ∨ x = 6 ∨ x = 7 ∨ x = 8 ∨ x = 9 ∨ x = 10 ∨ x = 11 := by
  have h1 : x.toInt = 0 ∨ x.toInt = 1 ∨ x.toInt = 2 ∨ x.toInt = 3 ∨ x.toInt = 4 ∨ x.toInt = 5 ∨ x.toInt = 6 ∨ x.toInt = 7 ∨ x.toInt = 8 ∨ x.toInt = 9 ∨ x.toInt = 10 ∨ x.toInt = 11 := by omega
  rcases h1 with h | h | h | h | h | h | h | h | h | h | h | h
  · exact Or.inl (Int32.toInt_inj.mp h)
  · exact Or.inr (Or.inl (Int32.toInt_inj.mp h))
  · exact Or.inr (Or.inr (Or.inl (Int32.toInt_inj.mp h)))
  · exact Or.inr (Or.inr (Or.inr (Or.inl (Int32.toInt_inj.mp h))))
  · exact Or.inr (Or.inr (Or.inr (Or.inr (Or.inl (Int32.toInt_inj.mp h)))))
  · exact Or.inr (Or.inr (Or.inr (Or.inr (Or.inr (Or.inl (Int32.toInt_inj.mp h))))))
  · exact Or.inr (Or.inr (Or.inr (Or.inr (Or.inr (Or.inr (Or.inl (Int32.toInt_inj.mp h)))))))
  · exact Or.inr (Or.inr (Or.inr (Or.inr (Or.inr (Or.inr (Or.inr (Or.inl (Int32.toInt_inj.mp h))))))))
  · exact Or.inr (Or.inr (Or.inr (Or.inr (Or.inr (Or.inr (Or.inr (Or.inr (Or.inl (Int32.toInt_inj.mp h)))))))))
  · exact Or.inr (Or.inr (Or.inr (Or.inr (Or.inr (Or.inr (Or.inr (Or.inr (Or.inr (Or.inl (Int32.toInt_inj.mp h))))))))))
  · exact Or.inr (Or.inr (Or.inr (Or.inr (Or.inr (Or.inr (Or.inr (Or.inr (Or.inr (Or.inr (Or.inl (Int32.toInt_inj.mp h)))))))))))
  · exact Or.inr (Or.inr (Or.inr (Or.inr (Or.inr (Or.inr (Or.inr (Or.inr (Or.inr (Or.inr (Or.inr (Int32.toInt_inj.mp h)))))))))))

set_option maxHeartbeats 4000000 in
set_option maxRecDepth 100000 in
theorem c_X0_findWay (l : Launch) (D : va_G) (cy : Nat → ClassId) (sz : Nat) (xc : Nat) (xk : Nat) (clo : Nat) (cro : Nat) (c4 : Nat) (c5 : Nat) (c6 : Nat) (c7 : Nat) (c8 : Nat) (xn : Nat) (n1 : Nat) (n2 : Nat) (n3 : Nat) (n4 : Nat) (n5 : Nat) (vp : Int32) (vn : Int32) (rr : Nat → Nat) (Mr : Nat → Nat → Int32) (f7 : Nat → Int32) (f8 : Nat → Int32) (a1 : Int32) (a2 : Int32) (hvp : 0 ≤ vp.toInt ∧ vp.toInt ≤ 12) (q1 : 0 ≤ a1.toInt ∧ a1.toInt ≤ 11) (q2 : 0 ≤ a2.toInt ∧ a2.toInt ≤ 11) (r_f7 : rng f7 12 (0) (11)) (r_f8 : rng f8 12 (0) (11)) : Met l yX0_findWay wsX0_findWay ({ frames := 0, cells := 0, slots := 0, locals := 0 }) (va_Pc [.ref xc, .int a1, .int a2] (fun U => U.heap.size = sz ∧ va_P D vwCl [ob0_0_ xc xn xk clo cro c4 c5 c6 c7 c8, ob3_0_ xn vp vn n1 n2 n3 n4 n5, aq_ cy 6 cro 12 (gf_ rr), ai_ cy (rr 0) 12 (Mr 0), ai_ cy (rr 1) 12 (Mr 1), ai_ cy (rr 2) 12 (Mr 2), ai_ cy (rr 3) 12 (Mr 3), ai_ cy (rr 4) 12 (Mr 4), ai_ cy (rr 5) 12 (Mr 5), ai_ cy (rr 6) 12 (Mr 6), ai_ cy (rr 7) 12 (Mr 7), ai_ cy (rr 8) 12 (Mr 8), ai_ cy (rr 9) 12 (Mr 9), ai_ cy (rr 10) 12 (Mr 10), ai_ cy (rr 11) 12 (Mr 11), ai_ cy c7 12 f7, ai_ cy c8 12 f8] U.heap ∧ kg_ D cy U ∧ va_D (fun _ => True) [ob0_0_ xc xn xk clo cro c4 c5 c6 c7 c8, ob3_0_ xn vp vn n1 n2 n3 n4 n5, aq_ cy 6 cro 12 (gf_ rr), ai_ cy (rr 0) 12 (Mr 0), ai_ cy (rr 1) 12 (Mr 1), ai_ cy (rr 2) 12 (Mr 2), ai_ cy (rr 3) 12 (Mr 3), ai_ cy (rr 4) 12 (Mr 4), ai_ cy (rr 5) 12 (Mr 5), ai_ cy (rr 6) 12 (Mr 6), ai_ cy (rr 7) 12 (Mr 7), ai_ cy (rr 8) 12 (Mr 8), ai_ cy (rr 9) 12 (Mr 9), ai_ cy (rr 10) 12 (Mr 10), ai_ cy (rr 11) 12 (Mr 11), ai_ cy c7 12 f7, ai_ cy c8 12 f8])) (va_Qi (fun (r : Int32) (_ : Unit) => (r.toInt = 0 ∨ r.toInt = 1)) (fun (_ : Unit) (t : State) => ∃ (e7 : Nat → Int32), ∃ (e8 : Nat → Int32), (rng e7 12 (0) (11)) ∧ (rng e8 12 (0) (11)) ∧ va_P D vwCl [ob0_0_ xc xn xk clo cro c4 c5 c6 c7 c8, ob3_0_ xn vp vn n1 n2 n3 n4 n5, aq_ cy 6 cro 12 (gf_ rr), ai_ cy (rr 0) 12 (Mr 0), ai_ cy (rr 1) 12 (Mr 1), ai_ cy (rr 2) 12 (Mr 2), ai_ cy (rr 3) 12 (Mr 3), ai_ cy (rr 4) 12 (Mr 4), ai_ cy (rr 5) 12 (Mr 5), ai_ cy (rr 6) 12 (Mr 6), ai_ cy (rr 7) 12 (Mr 7), ai_ cy (rr 8) 12 (Mr 8), ai_ cy (rr 9) 12 (Mr 9), ai_ cy (rr 10) 12 (Mr 10), ai_ cy (rr 11) 12 (Mr 11), ai_ cy c7 12 e7, ai_ cy c8 12 e8] t.heap ∧ va_D (va_A [ob0_0_ xc xn xk clo cro c4 c5 c6 c7 c8, ob3_0_ xn vp vn n1 n2 n3 n4 n5, aq_ cy 6 cro 12 (gf_ rr), ai_ cy (rr 0) 12 (Mr 0), ai_ cy (rr 1) 12 (Mr 1), ai_ cy (rr 2) 12 (Mr 2), ai_ cy (rr 3) 12 (Mr 3), ai_ cy (rr 4) 12 (Mr 4), ai_ cy (rr 5) 12 (Mr 5), ai_ cy (rr 6) 12 (Mr 6), ai_ cy (rr 7) 12 (Mr 7), ai_ cy (rr 8) 12 (Mr 8), ai_ cy (rr 9) 12 (Mr 9), ai_ cy (rr 10) 12 (Mr 10), ai_ cy (rr 11) 12 (Mr 11), ai_ cy c7 12 f7, ai_ cy c8 12 f8] sz) [ob0_0_ xc xn xk clo cro c4 c5 c6 c7 c8, ob3_0_ xn vp vn n1 n2 n3 n4 n5, aq_ cy 6 cro 12 (gf_ rr), ai_ cy (rr 0) 12 (Mr 0), ai_ cy (rr 1) 12 (Mr 1), ai_ cy (rr 2) 12 (Mr 2), ai_ cy (rr 3) 12 (Mr 3), ai_ cy (rr 4) 12 (Mr 4), ai_ cy (rr 5) 12 (Mr 5), ai_ cy (rr 6) 12 (Mr 6), ai_ cy (rr 7) 12 (Mr 7), ai_ cy (rr 8) 12 (Mr 8), ai_ cy (rr 9) 12 (Mr 9), ai_ cy (rr 10) 12 (Mr 10), ai_ cy (rr 11) 12 (Mr 11), ai_ cy c7 12 e7, ai_ cy c8 12 e8]) (va_A [ob0_0_ xc xn xk clo cro c4 c5 c6 c7 c8, ob3_0_ xn vp vn n1 n2 n3 n4 n5, aq_ cy 6 cro 12 (gf_ rr), ai_ cy (rr 0) 12 (Mr 0), ai_ cy (rr 1) 12 (Mr 1), ai_ cy (rr 2) 12 (Mr 2), ai_ cy (rr 3) 12 (Mr 3), ai_ cy (rr 4) 12 (Mr 4), ai_ cy (rr 5) 12 (Mr 5), ai_ cy (rr 6) 12 (Mr 6), ai_ cy (rr 7) 12 (Mr 7), ai_ cy (rr 8) 12 (Mr 8), ai_ cy (rr 9) 12 (Mr 9), ai_ cy (rr 10) 12 (Mr 10), ai_ cy (rr 11) 12 (Mr 11), ai_ cy c7 12 f7, ai_ cy c8 12 f8] sz)) 0 0 (va_A [ob0_0_ xc xn xk clo cro c4 c5 c6 c7 c8, ob3_0_ xn vp vn n1 n2 n3 n4 n5, aq_ cy 6 cro 12 (gf_ rr), ai_ cy (rr 0) 12 (Mr 0), ai_ cy (rr 1) 12 (Mr 1), ai_ cy (rr 2) 12 (Mr 2), ai_ cy (rr 3) 12 (Mr 3), ai_ cy (rr 4) 12 (Mr 4), ai_ cy (rr 5) 12 (Mr 5), ai_ cy (rr 6) 12 (Mr 6), ai_ cy (rr 7) 12 (Mr 7), ai_ cy (rr 8) 12 (Mr 8), ai_ cy (rr 9) 12 (Mr 9), ai_ cy (rr 10) 12 (Mr 10), ai_ cy (rr 11) 12 (Mr 11), ai_ cy c7 12 f7, ai_ cy c8 12 f8] sz) := by
  refine ofQ (cc := cX0_findWay) (maxL := 8) (ret := (some .boolean)) (by decide) rfl ?_
  intro p e s m args below meth c s₁ Q hQ B hml hv
  obtain ⟨rfl, hsz, hP, hK, hD0⟩ := hv
  have hG := hK.2
  have hK := hK.1
  have hx := B.exec
  have hb := B.bytes
  have hr := B.returns
  have hts := atoms_spec (ws := wsX0_findWay) B.pre
  have hown : s.vm.findClass RX0 = some m.cls := by have h_ := findClass_of_methodNamed B.named; exact h_
  have hlocks := B.notSynchronized
  subst hsz
  have hD := hD0.self (sz := s.heap.size)
  generalize hAe : va_A [ob0_0_ xc xn xk clo cro c4 c5 c6 c7 c8, ob3_0_ xn vp vn n1 n2 n3 n4 n5, aq_ cy 6 cro 12 (gf_ rr), ai_ cy (rr 0) 12 (Mr 0), ai_ cy (rr 1) 12 (Mr 1), ai_ cy (rr 2) 12 (Mr 2), ai_ cy (rr 3) 12 (Mr 3), ai_ cy (rr 4) 12 (Mr 4), ai_ cy (rr 5) 12 (Mr 5), ai_ cy (rr 6) 12 (Mr 6), ai_ cy (rr 7) 12 (Mr 7), ai_ cy (rr 8) 12 (Mr 8), ai_ cy (rr 9) 12 (Mr 9), ai_ cy (rr 10) 12 (Mr 10), ai_ cy (rr 11) 12 (Mr 11), ai_ cy c7 12 f7, ai_ cy c8 12 f8] s.heap.size = A at hD hQ
  have hA : ∀ q : Nat, s.heap.size ≤ q → A q := fun q h => by rw [← hAe]; exact Or.inr h
  have hS : va_S A s.heap s.heap [] := va_S.rf
  have hl := lv_entry ([.ref xc, .int a1, .int a2]) (n := 8) (Nat.le_of_ble_eq_true rfl)
  rw [lg_entry_eq]
  generalize (lg_sl ([.ref xc, .int a1, .int a2]) ++ List.replicate (8 - (lg_sl ([.ref xc, .int a1, .int a2])).length) Slot.unset).toArray = ls at hl ⊢
  have hl : lv_has ls 8 [(0, .ref xc), (1, .int a1), (2, .int a2)] := hl
  have z0 : (0 : Int32).toInt = 0 := by decide
  have z1 : (1 : Int32).toInt = 1 := by decide
  have z12 : (12 : Int32).toInt = 12 := by decide
  refine lv_iconst (v := 1) hx hb dB_36_0_8.1.1.1.1 (by decide) ?_
  refine lv_iload_n hx hb dB_36_0_8.1.1.1.2 rfl (lv_at hl 1 rfl) ?_
  refine lv_ishl hx hb dB_36_0_8.1.1.2.1 ?_
  refine lv_topi (fun y_1 ey_1 => ?_)
  refine lv_istore_n (lv' := [(3, .int y_1), (0, .ref xc), (1, .int a1), (2, .int a2)]) hx hb dB_36_0_8.1.1.2.2 rfl hl (by decide) rfl (fun ls hl => ?_)
  refine lv_iconst (v := 1) hx hb dB_36_0_8.1.2.1.1 (by decide) ?_
  refine lv_istore (lv' := [(4, .int 1), (3, .int y_1), (0, .ref xc), (1, .int a1), (2, .int a2)]) hx hb dB_36_0_8.1.2.1.2 hl (by decide) rfl (fun ls hl => ?_)
  refine lv_aload_n hx hb dB_36_0_8.1.2.2.1 rfl (lv_at hl 2 rfl) ?_
  refine va_get (ci := 0) (v := .ref c7) (C := RX0) (T := TX0) (N := 9) hx hb hts (fun _ h => List.mem_cons_of_mem _ (List.mem_append_left _ (List.mem_append_right _ h))) hown hK.1 hP 0 rfl rfl 7 (by decide) (hts (.fieldLink RX0 29 "CutAtlas$Current" "queue" "[I") (List.mem_of_getElem? (i := 1) rfl)) (fun _ h9 => h9) rfl dB_36_0_8.1.2.2.2 ?_
  refine lv_iconst (v := 0) hx hb dB_36_0_8.2.1.1.1 (by decide) ?_
  refine lv_iload_n hx hb dB_36_0_8.2.1.1.2 rfl (lv_at hl 3 rfl) ?_
  have h_2 : vp_in (0 : Int32) 12 := by unfold vp_in; decide
  refine va_iast hx hb hK.1 hP hD hS 15 0 rfl rfl (i := 0) h_2 dB_36_0_8.2.1.2.1 (fun H locs hP hD hS => ?_)
  obtain ⟨f_3, ef_3⟩ : ∃ g : Nat → Int32, g = upd f7 (0 : Int32).toNatClampNeg a1 := ⟨_, rfl⟩
  refine pd_K (D := D) (cl := vwCl) (H := H) (A := A) [ob0_0_ xc xn xk clo cro c4 c5 c6 c7 c8, ob3_0_ xn vp vn n1 n2 n3 n4 n5, aq_ cy 6 cro 12 (gf_ rr), ai_ cy (rr 0) 12 (Mr 0), ai_ cy (rr 1) 12 (Mr 1), ai_ cy (rr 2) 12 (Mr 2), ai_ cy (rr 3) 12 (Mr 3), ai_ cy (rr 4) 12 (Mr 4), ai_ cy (rr 5) 12 (Mr 5), ai_ cy (rr 6) 12 (Mr 6), ai_ cy (rr 7) 12 (Mr 7), ai_ cy (rr 8) 12 (Mr 8), ai_ cy (rr 9) 12 (Mr 9), ai_ cy (rr 10) 12 (Mr 10), ai_ cy (rr 11) 12 (Mr 11), ai_ cy c7 12 f_3, ai_ cy c8 12 f8] (by rw [ef_3]; exact hP) (by rw [ef_3]; exact hD) (fun hP hD => ?_)
  have rf_3 : rng f_3 12 (0) (11) := by rw [ef_3]; exact rng_upd r_f7 (by omega) (by omega)
  have hq_ : mq y_1 f_3 (1 : Int32).toNatClampNeg := mq_one (by assumption) (by assumption) (by omega) (by omega)
  refine lv_iconst (v := 0) hx hb dB_36_0_8.2.1.2.2 (by decide) ?_
  refine lv_istore (lv' := [(5, .int 0), (4, .int 1), (3, .int y_1), (0, .ref xc), (1, .int a1), (2, .int a2)]) hx hb dB_36_0_8.2.2.1.1 hl (by decide) rfl (fun ls hl => ?_)
  suffices LOOP_4 : ∀ (n_4 : Nat) (x5_4 : Int32) (x4_4 : Int32) (x3_4 : Int32) (c_c7_4 : Nat → Int32) (c_c8_4 : Nat → Int32) (H : Heap) (locs : List Loc) (ls : Array Slot), 12 - x5_4.toInt < (n_4 : Int) → (1 ≤ x4_4.toInt) → (x4_4.toInt ≤ 12) → (0 ≤ x5_4.toInt) → (x5_4.toInt ≤ 12) → (mq x3_4 c_c7_4 x4_4.toNatClampNeg) → (rng c_c7_4 12 (0) (11)) → (rng c_c8_4 12 (0) (11)) → pd_2 D vwCl A [ob0_0_ xc xn xk clo cro c4 c5 c6 c7 c8, ob3_0_ xn vp vn n1 n2 n3 n4 n5, aq_ cy 6 cro 12 (gf_ rr), ai_ cy (rr 0) 12 (Mr 0), ai_ cy (rr 1) 12 (Mr 1), ai_ cy (rr 2) 12 (Mr 2), ai_ cy (rr 3) 12 (Mr 3), ai_ cy (rr 4) 12 (Mr 4), ai_ cy (rr 5) 12 (Mr 5), ai_ cy (rr 6) 12 (Mr 6), ai_ cy (rr 7) 12 (Mr 7), ai_ cy (rr 8) 12 (Mr 8), ai_ cy (rr 9) 12 (Mr 9), ai_ cy (rr 10) 12 (Mr 10), ai_ cy (rr 11) 12 (Mr 11), ai_ cy c7 12 c_c7_4, ai_ cy c8 12 c_c8_4] H → va_S A s.heap H locs → lv_has ls 8 [(5, .int x5_4), (4, .int x4_4), (3, .int x3_4), (0, .ref xc), (1, .int a1), (2, .int a2)] → W p l e ({ frames := 0, cells := 0, slots := 0, locals := 0 } : Room) s m (([.ref xc, .int a1, .int a2] : List Value).toArray) below meth c H locs 0 0 Q (F0 m 17 ls []) from LOOP_4 ((12 - (0 : Int32).toInt).toNat + 1) (0 : Int32) (1 : Int32) y_1 f_3 f8 _ _ _ (by omega) (by first | with_reducible assumption | omega | assumption) (by first | with_reducible assumption | omega | assumption) (by first | with_reducible assumption | omega | assumption) (by first | with_reducible assumption | omega | assumption) (by first | with_reducible assumption | assumption | omega) (by first | with_reducible assumption | assumption | exact rng_zero (by omega) (by omega) | exact orng_zero) (by first | with_reducible assumption | assumption | exact rng_zero (by omega) (by omega) | exact orng_zero) ⟨hP, hD⟩ hS (lv_sub hl [0, 1, 2, 3, 4, 5] rfl)
  intro n_4
  induction n_4 with
  | zero =>
    intro x5_4 x4_4 x3_4 c_c7_4 c_c8_4 H locs ls hm v0_4 v1_4 v2_4 v3_4 v4_4 rc_c7_4 rc_c8_4 hPD hS hl; obtain ⟨hP, hD⟩ := hPD
    exact absurd hm (by omega)
  | succ n_4 ih_4 =>
    intro x5_4 x4_4 x3_4 c_c7_4 c_c8_4 H locs ls hm v0_4 v1_4 v2_4 v3_4 v4_4 rc_c7_4 rc_c8_4 hPD hS hl; obtain ⟨hP, hD⟩ := hPD
    refine lv_iload hx hb dB_36_0_8.2.2.1.2 (lv_at hl 0 rfl) ?_
    refine lv_iload hx hb dB_36_0_8.2.2.2.1 (lv_at hl 1 rfl) ?_
    refine lv_icmp_ge (tgt := 125) hx hb dB_36_0_8.2.2.2.2 (by decide) (fun c_5 => ?_) (fun c_5 => ?_)
    · have t_5 : x4_4.toInt ≤ x5_4.toInt := Int32.le_iff_toInt_le.mp c_5
      refine lv_iconst (v := 0) hx hb dB_36_0_12.2.2.1 (by decide) ?_
      rw [hQ]
      exact W.zret (ty := .boolean) (v := 0) hx hb hr (by decide) (fun t ht hW => ⟨⟨0, (), rfl, (by omega), c_c7_4, c_c8_4, (by first | with_reducible assumption | assumption | exact rng_zero (by omega) (by omega) | omega), (by first | with_reducible assumption | assumption | exact rng_zero (by omega) (by omega) | omega), by rw [ht]; exact hP, hD⟩, hS.F ht⟩) hS.2.2 dB_36_0_12.2.2.2
    · have t_5 : ¬ x4_4.toInt ≤ x5_4.toInt := fun h => c_5 (Int32.le_iff_toInt_le.mpr h)
      refine lv_iload hx hb dB_36_0_9.1.1.1.1 (lv_at hl 0 rfl) ?_
      refine lv_bipush (v := 12) hx hb dB_36_0_9.1.1.1.2 (by decide) ?_
      refine lv_icmp_ge (tgt := 125) hx hb dB_36_0_9.1.1.2.1 (by decide) (fun c_6 => ?_) (fun c_6 => ?_)
      · have t_6 : (12 : Int32).toInt ≤ x5_4.toInt := Int32.le_iff_toInt_le.mp c_6
        refine lv_iconst (v := 0) hx hb dB_36_0_12.2.2.1 (by decide) ?_
        rw [hQ]
        exact W.zret (ty := .boolean) (v := 0) hx hb hr (by decide) (fun t ht hW => ⟨⟨0, (), rfl, (by omega), c_c7_4, c_c8_4, (by first | with_reducible assumption | assumption | exact rng_zero (by omega) (by omega) | omega), (by first | with_reducible assumption | assumption | exact rng_zero (by omega) (by omega) | omega), by rw [ht]; exact hP, hD⟩, hS.F ht⟩) hS.2.2 dB_36_0_12.2.2.2
      · have t_6 : ¬ (12 : Int32).toInt ≤ x5_4.toInt := fun h => c_6 (Int32.le_iff_toInt_le.mpr h)
        refine lv_aload_n hx hb dB_36_0_9.1.1.2.2 rfl (lv_at hl 3 rfl) ?_
        refine va_get (ci := 0) (v := .ref c7) (C := RX0) (T := TX0) (N := 9) hx hb hts (fun _ h => List.mem_cons_of_mem _ (List.mem_append_left _ (List.mem_append_right _ h))) hown hK.1 hP 0 rfl rfl 7 (by decide) (hts (.fieldLink RX0 29 "CutAtlas$Current" "queue" "[I") (List.mem_of_getElem? (i := 1) rfl)) (fun _ h9 => h9) rfl dB_36_0_9.1.2.1.1 ?_
        refine lv_iload hx hb dB_36_0_9.1.2.1.2 (lv_at hl 0 rfl) ?_
        have h_7 : vp_in x5_4 12 := in_I (by first | with_reducible assumption | omega) (by omega)
        refine va_iald hx hb hK.1 hP 15 0 rfl rfl (i := x5_4) h_7 dB_36_0_9.1.2.2.1 ?_
        refine lv_topi (fun y_8 ey_8 => ?_)
        have ry_8 : 0 ≤ y_8.toInt ∧ y_8.toInt ≤ 11 := by rw [ey_8]; exact rc_c7_4 _ (in_lt h_7)
        refine lv_istore (lv' := [(6, .int y_8), (5, .int x5_4), (4, .int x4_4), (3, .int x3_4), (0, .ref xc), (1, .int a1), (2, .int a2)]) hx hb dB_36_0_9.1.2.2.2 hl (by decide) rfl (fun ls hl => ?_)
        refine lv_iconst (v := 0) hx hb dB_36_0_9.2.1.1.1 (by decide) ?_
        refine lv_istore (lv' := [(7, .int 0), (6, .int y_8), (5, .int x5_4), (4, .int x4_4), (3, .int x3_4), (0, .ref xc), (1, .int a1), (2, .int a2)]) hx hb dB_36_0_9.2.1.1.2 hl (by decide) rfl (fun ls hl => ?_)
        suffices LOOP_9 : ∀ (n_9 : Nat) (x7_9 : Int32) (x4_9 : Int32) (x3_9 : Int32) (c_c7_9 : Nat → Int32) (c_c8_9 : Nat → Int32) (H : Heap) (locs : List Loc) (ls : Array Slot), vp.toInt - x7_9.toInt < (n_9 : Int) → (1 ≤ x4_9.toInt) → (x4_9.toInt ≤ 12) → (0 ≤ x7_9.toInt) → (x7_9.toInt ≤ vp.toInt) → (mq x3_9 c_c7_9 x4_9.toNatClampNeg) → (rng c_c7_9 12 (0) (11)) → (rng c_c8_9 12 (0) (11)) → pd_2 D vwCl A [ob0_0_ xc xn xk clo cro c4 c5 c6 c7 c8, ob3_0_ xn vp vn n1 n2 n3 n4 n5, aq_ cy 6 cro 12 (gf_ rr), ai_ cy (rr 0) 12 (Mr 0), ai_ cy (rr 1) 12 (Mr 1), ai_ cy (rr 2) 12 (Mr 2), ai_ cy (rr 3) 12 (Mr 3), ai_ cy (rr 4) 12 (Mr 4), ai_ cy (rr 5) 12 (Mr 5), ai_ cy (rr 6) 12 (Mr 6), ai_ cy (rr 7) 12 (Mr 7), ai_ cy (rr 8) 12 (Mr 8), ai_ cy (rr 9) 12 (Mr 9), ai_ cy (rr 10) 12 (Mr 10), ai_ cy (rr 11) 12 (Mr 11), ai_ cy c7 12 c_c7_9, ai_ cy c8 12 c_c8_9] H → va_S A s.heap H locs → lv_has ls 8 [(7, .int x7_9), (6, .int y_8), (5, .int x5_4), (4, .int x4_9), (3, .int x3_9), (0, .ref xc), (1, .int a1), (2, .int a2)] → W p l e ({ frames := 0, cells := 0, slots := 0, locals := 0 } : Room) s m (([.ref xc, .int a1, .int a2] : List Value).toArray) below meth c H locs 0 0 Q (F0 m 43 ls []) from LOOP_9 ((vp.toInt - (0 : Int32).toInt).toNat + 1) (0 : Int32) x4_4 x3_4 c_c7_4 c_c8_4 _ _ _ (by omega) (by first | with_reducible assumption | omega | assumption) (by first | with_reducible assumption | omega | assumption) (by first | with_reducible assumption | omega | assumption) (by first | with_reducible assumption | omega | assumption) (by first | with_reducible assumption | assumption | exact hp_ _ (by omega)) (by first | with_reducible assumption | assumption | exact rng_zero (by omega) (by omega) | exact orng_zero) (by first | with_reducible assumption | assumption | exact rng_zero (by omega) (by omega) | exact orng_zero) ⟨hP, hD⟩ hS (lv_sub hl [0, 1, 2, 3, 4, 5, 6, 7] rfl)
        intro n_9
        induction n_9 with
        | zero =>
          intro x7_9 x4_9 x3_9 c_c7_9 c_c8_9 H locs ls hm v0_9 v1_9 v2_9 v3_9 v4_9 rc_c7_9 rc_c8_9 hPD hS hl; obtain ⟨hP, hD⟩ := hPD
          exact absurd hm (by omega)
        | succ n_9 ih_9 =>
          intro x7_9 x4_9 x3_9 c_c7_9 c_c8_9 H locs ls hm v0_9 v1_9 v2_9 v3_9 v4_9 rc_c7_9 rc_c8_9 hPD hS hl; obtain ⟨hP, hD⟩ := hPD
          refine lv_iload hx hb dB_36_0_9.2.1.2.1 (lv_at hl 0 rfl) ?_
          refine lv_aload_n hx hb dB_36_0_9.2.1.2.2 rfl (lv_at hl 5 rfl) ?_
          refine va_get (ci := 0) (v := .ref xn) (C := RX0) (T := TX0) (N := 9) hx hb hts (fun _ h => List.mem_cons_of_mem _ (List.mem_append_left _ (List.mem_append_right _ h))) hown hK.1 hP 0 rfl rfl 0 (by decide) (hts (.fieldLink RX0 35 "CutAtlas$Current" "net" "LCutAtlas$Net;") (List.mem_of_getElem? (i := 2) rfl)) (fun _ h9 => h9) rfl dB_36_0_9.2.2.1.1 ?_
          refine va_get (ci := 3) (v := .int vp) (C := RX3) (T := TX3) (N := 7) hx hb hts (fun _ h => List.mem_cons_of_mem _ (List.mem_append_right _ h)) hown hK.1 hP 1 rfl rfl 0 (by decide) (hts (.fieldLink RX0 43 "CutAtlas$Net" "places" "I") (List.mem_of_getElem? (i := 3) rfl)) (fun _ h9 => h9) rfl dB_36_0_9.2.2.1.2 ?_
          refine lv_icmp_ge (tgt := 119) hx hb dB_36_0_9.2.2.2.1 (by decide) (fun c_10 => ?_) (fun c_10 => ?_)
          · have t_10 : vp.toInt ≤ x7_9.toInt := Int32.le_iff_toInt_le.mp c_10
            obtain ⟨y_11, ey_11⟩ : ∃ y : Int32, y = x5_4 + 1 := ⟨_, rfl⟩
            have ty_11 : y_11.toInt = x5_4.toInt + (1 : Int32).toInt := by rw [ey_11]; exact addI (by omega) (by omega)
            refine lv_iinc (v := y_11) (lv' := [(5, .int y_11), (7, .int x7_9), (6, .int y_8), (4, .int x4_9), (3, .int x3_9), (0, .ref xc), (1, .int a1), (2, .int a2)]) hx hb dB_36_0_12.2.1.1 hl (k := 2) rfl (by rw [ey_11]; rfl) (by decide) rfl (fun ls hl => ?_)
            refine lv_goto (tgt := 17) hx hb dB_36_0_12.2.1.2 (by decide) ?_
            exact ih_4 y_11 x4_9 x3_9 c_c7_9 c_c8_9 _ _ _ (by omega) (by first | with_reducible assumption | omega | assumption) (by first | with_reducible assumption | omega | assumption) (by first | with_reducible assumption | omega | assumption) (by first | with_reducible assumption | omega | assumption) (by first | with_reducible assumption | assumption | omega) (by first | with_reducible assumption | assumption | exact rng_zero (by omega) (by omega) | exact orng_zero) (by first | with_reducible assumption | assumption | exact rng_zero (by omega) (by omega) | exact orng_zero) ⟨hP, hD⟩ hS (lv_sub hl [0, 3, 4, 5, 6, 7] rfl)
          · have t_10 : ¬ vp.toInt ≤ x7_9.toInt := fun h => c_10 (Int32.le_iff_toInt_le.mpr h)
            refine lv_iload_n hx hb dB_36_0_9.2.2.2.2 rfl (lv_at hl 4 rfl) ?_
            refine lv_iload hx hb dB_36_0_10.1.1.1.1 (lv_at hl 0 rfl) ?_
            refine lv_ishr hx hb dB_36_0_10.1.1.1.2 ?_
            refine lv_topi (fun y_12 ey_12 => ?_)
            refine lv_iconst (v := 1) hx hb dB_36_0_10.1.1.2.1 (by decide) ?_
            refine lv_iand hx hb dB_36_0_10.1.1.2.2 ?_
            refine lv_topi (fun y_13 ey_13 => ?_)
            refine lv_if_ne (tgt := 113) hx hb dB_36_0_10.1.2.1.1 (by decide) (fun c_14 => ?_) (fun c_14 => ?_)
            · have t_14 : ¬ y_13.toInt = (0 : Int32).toInt := fun h => c_14 (Int32.toInt_inj.mp h)
              obtain ⟨y_15, ey_15⟩ : ∃ y : Int32, y = x7_9 + 1 := ⟨_, rfl⟩
              have ty_15 : y_15.toInt = x7_9.toInt + (1 : Int32).toInt := by rw [ey_15]; exact addI (by omega) (by omega)
              refine lv_iinc (v := y_15) (lv' := [(7, .int y_15), (6, .int y_8), (5, .int x5_4), (4, .int x4_9), (3, .int x3_9), (0, .ref xc), (1, .int a1), (2, .int a2)]) hx hb dB_36_0_12.1.2.1 hl (k := 0) rfl (by rw [ey_15]; rfl) (by decide) rfl (fun ls hl => ?_)
              refine lv_goto (tgt := 43) hx hb dB_36_0_12.1.2.2 (by decide) ?_
              exact ih_9 y_15 x4_9 x3_9 c_c7_9 c_c8_9 _ _ _ (by omega) (by first | with_reducible assumption | omega | assumption) (by first | with_reducible assumption | omega | assumption) (by first | with_reducible assumption | omega | assumption) (by first | with_reducible assumption | omega | assumption) (by first | with_reducible assumption | assumption | exact hp_ _ (by omega)) (by first | with_reducible assumption | assumption | exact rng_zero (by omega) (by omega) | exact orng_zero) (by first | with_reducible assumption | assumption | exact rng_zero (by omega) (by omega) | exact orng_zero) ⟨hP, hD⟩ hS (lv_sub hl [0, 1, 2, 3, 4, 5, 6, 7] rfl)
            · have t_14 : y_13.toInt = (0 : Int32).toInt := congrArg Int32.toInt c_14
              refine lv_aload_n hx hb dB_36_0_10.1.2.1.2 rfl (lv_at hl 5 rfl) ?_
              refine va_get (ci := 0) (v := .ref cro) (C := RX0) (T := TX0) (N := 9) hx hb hts (fun _ h => List.mem_cons_of_mem _ (List.mem_append_left _ (List.mem_append_right _ h))) hown hK.1 hP 0 rfl rfl 3 (by decide) (hts (.fieldLink RX0 16 "CutAtlas$Current" "room" "[[I") (List.mem_of_getElem? (i := 4) rfl)) (fun _ h9 => h9) rfl dB_36_0_10.1.2.2.1 ?_
              refine lv_iload hx hb dB_36_0_10.1.2.2.2 (lv_at hl 1 rfl) ?_
              have h_16 : vp_in y_8 12 := in_I (by first | with_reducible assumption | omega) (by omega)
              refine va_alda hx hb hG hP 2 rfl (i := y_8) h_16 dB_36_0_10.2.1.1.1 ?_
              refine lv_topv (v' := .ref (rr y_8.toNatClampNeg)) (gf_at h_16) ?_
              refine lv_iload hx hb dB_36_0_10.2.1.1.2 (lv_at hl 0 rfl) ?_
              have h_17 : vp_in x7_9 12 := in_I (by first | with_reducible assumption | omega) (by omega)
              have hPg : va_P D vwCl (([ob0_0_ xc xn xk clo cro c4 c5 c6 c7 c8, ob3_0_ xn vp vn n1 n2 n3 n4 n5, aq_ cy 6 cro 12 (gf_ rr)] : va_W) ++ (gro (cy 0) rr Mr ++ ([ai_ cy c7 12 c_c7_9, ai_ cy c8 12 c_c8_9] : va_W))) H := hP
              refine va_gld (X := [ob0_0_ xc xn xk clo cro c4 c5 c6 c7 c8, ob3_0_ xn vp vn n1 n2 n3 n4 n5, aq_ cy 6 cro 12 (gf_ rr)]) (Y := [ai_ cy c7 12 c_c7_9, ai_ cy c8 12 c_c8_9]) (r := rr) (M := Mr) (k := y_8.toNatClampNeg) hx hb hK.1 hPg 0 rfl (in_lt h_16) (i := x7_9) h_17 dB_36_0_10.2.1.2.1 ?_
              refine lv_topi (fun y_18 ey_18 => ?_)
              refine lv_if_le (tgt := 113) hx hb dB_36_0_10.2.1.2.2 (by decide) (fun c_19 => ?_) (fun c_19 => ?_)
              · have t_19 : y_18.toInt ≤ (0 : Int32).toInt := Int32.le_iff_toInt_le.mp c_19
                obtain ⟨y_20, ey_20⟩ : ∃ y : Int32, y = x7_9 + 1 := ⟨_, rfl⟩
                have ty_20 : y_20.toInt = x7_9.toInt + (1 : Int32).toInt := by rw [ey_20]; exact addI (by omega) (by omega)
                refine lv_iinc (v := y_20) (lv' := [(7, .int y_20), (6, .int y_8), (5, .int x5_4), (4, .int x4_9), (3, .int x3_9), (0, .ref xc), (1, .int a1), (2, .int a2)]) hx hb dB_36_0_12.1.2.1 hl (k := 0) rfl (by rw [ey_20]; rfl) (by decide) rfl (fun ls hl => ?_)
                refine lv_goto (tgt := 43) hx hb dB_36_0_12.1.2.2 (by decide) ?_
                exact ih_9 y_20 x4_9 x3_9 c_c7_9 c_c8_9 _ _ _ (by omega) (by first | with_reducible assumption | omega | assumption) (by first | with_reducible assumption | omega | assumption) (by first | with_reducible assumption | omega | assumption) (by first | with_reducible assumption | omega | assumption) (by first | with_reducible assumption | assumption | exact hp_ _ (by omega)) (by first | with_reducible assumption | assumption | exact rng_zero (by omega) (by omega) | exact orng_zero) (by first | with_reducible assumption | assumption | exact rng_zero (by omega) (by omega) | exact orng_zero) ⟨hP, hD⟩ hS (lv_sub hl [0, 1, 2, 3, 4, 5, 6, 7] rfl)
              · have t_19 : ¬ y_18.toInt ≤ (0 : Int32).toInt := fun h => c_19 (Int32.le_iff_toInt_le.mpr h)
                refine lv_aload_n hx hb dB_36_0_10.2.2.1.1 rfl (lv_at hl 5 rfl) ?_
                refine va_get (ci := 0) (v := .ref c8) (C := RX0) (T := TX0) (N := 9) hx hb hts (fun _ h => List.mem_cons_of_mem _ (List.mem_append_left _ (List.mem_append_right _ h))) hown hK.1 hP 0 rfl rfl 8 (by decide) (hts (.fieldLink RX0 32 "CutAtlas$Current" "cameFrom" "[I") (List.mem_of_getElem? (i := 5) rfl)) (fun _ h9 => h9) rfl dB_36_0_10.2.2.1.2 ?_
                refine lv_iload hx hb dB_36_0_10.2.2.2.1 (lv_at hl 0 rfl) ?_
                refine lv_iload hx hb dB_36_0_10.2.2.2.2 (lv_at hl 1 rfl) ?_
                refine va_iast hx hb hK.1 hP hD hS 16 0 rfl rfl (i := x7_9) h_17 dB_36_0_11.1.1.1.1 (fun H locs hP hD hS => ?_)
                obtain ⟨f_22, ef_22⟩ : ∃ g : Nat → Int32, g = upd c_c8_9 x7_9.toNatClampNeg y_8 := ⟨_, rfl⟩
                refine pd_K (D := D) (cl := vwCl) (H := H) (A := A) [ob0_0_ xc xn xk clo cro c4 c5 c6 c7 c8, ob3_0_ xn vp vn n1 n2 n3 n4 n5, aq_ cy 6 cro 12 (gf_ rr), ai_ cy (rr 0) 12 (Mr 0), ai_ cy (rr 1) 12 (Mr 1), ai_ cy (rr 2) 12 (Mr 2), ai_ cy (rr 3) 12 (Mr 3), ai_ cy (rr 4) 12 (Mr 4), ai_ cy (rr 5) 12 (Mr 5), ai_ cy (rr 6) 12 (Mr 6), ai_ cy (rr 7) 12 (Mr 7), ai_ cy (rr 8) 12 (Mr 8), ai_ cy (rr 9) 12 (Mr 9), ai_ cy (rr 10) 12 (Mr 10), ai_ cy (rr 11) 12 (Mr 11), ai_ cy c7 12 c_c7_9, ai_ cy c8 12 f_22] (by rw [ef_22]; exact hP) (by rw [ef_22]; exact hD) (fun hP hD => ?_)
                have rf_22 : rng f_22 12 (0) (11) := by rw [ef_22]; exact rng_upd rc_c8_9 (by omega) (by omega)
                refine lv_iload hx hb dB_36_0_11.1.1.1.2 (lv_at hl 0 rfl) ?_
                refine lv_iload_n hx hb dB_36_0_11.1.1.2.1 rfl (lv_at hl 7 rfl) ?_
                refine lv_icmp_ne (tgt := 94) hx hb dB_36_0_11.1.1.2.2 (by decide) (fun c_23 => ?_) (fun c_23 => ?_)
                · have t_23 : ¬ x7_9.toInt = a2.toInt := fun h => c_23 (Int32.toInt_inj.mp h)
                  have hr_ : x4_9.toInt < 12 := mq_room (x := x3_9) (y := x7_9) (z := y_12) (w := y_13) (q := c_c7_9) (by assumption) (by omega) (by omega) (by assumption) (by assumption) (by omega) (by omega)
                  refine lv_iload_n hx hb dB_36_0_11.1.2.2.1 rfl (lv_at hl 4 rfl) ?_
                  refine lv_iconst (v := 1) hx hb dB_36_0_11.1.2.2.2 (by decide) ?_
                  refine lv_iload hx hb dB_36_0_11.2.1.1.1 (lv_at hl 0 rfl) ?_
                  refine lv_ishl hx hb dB_36_0_11.2.1.1.2 ?_
                  refine lv_topi (fun y_24 ey_24 => ?_)
                  refine lv_ior hx hb dB_36_0_11.2.1.2.1 ?_
                  refine lv_topi (fun y_25 ey_25 => ?_)
                  refine lv_istore_n (lv' := [(3, .int y_25), (7, .int x7_9), (6, .int y_8), (5, .int x5_4), (4, .int x4_9), (0, .ref xc), (1, .int a1), (2, .int a2)]) hx hb dB_36_0_11.2.1.2.2 rfl hl (by decide) rfl (fun ls hl => ?_)
                  refine lv_aload_n hx hb dB_36_0_11.2.2.1.1 rfl (lv_at hl 5 rfl) ?_
                  refine va_get (ci := 0) (v := .ref c7) (C := RX0) (T := TX0) (N := 9) hx hb hts (fun _ h => List.mem_cons_of_mem _ (List.mem_append_left _ (List.mem_append_right _ h))) hown hK.1 hP 0 rfl rfl 7 (by decide) (hts (.fieldLink RX0 29 "CutAtlas$Current" "queue" "[I") (List.mem_of_getElem? (i := 1) rfl)) (fun _ h9 => h9) rfl dB_36_0_11.2.2.1.2 ?_
                  refine lv_iload hx hb dB_36_0_11.2.2.2.1 (lv_at hl 4 rfl) ?_
                  refine lv_iload hx hb dB_36_0_11.2.2.2.2 (lv_at hl 1 rfl) ?_
                  have h_26 : vp_in x4_9 12 := in_I (by first | with_reducible assumption | omega) (by omega)
                  refine va_iast hx hb hK.1 hP hD hS 15 0 rfl rfl (i := x4_9) h_26 dB_36_0_12.1.1.1 (fun H locs hP hD hS => ?_)
                  obtain ⟨f_27, ef_27⟩ : ∃ g : Nat → Int32, g = upd c_c7_9 x4_9.toNatClampNeg x7_9 := ⟨_, rfl⟩
                  refine pd_K (D := D) (cl := vwCl) (H := H) (A := A) [ob0_0_ xc xn xk clo cro c4 c5 c6 c7 c8, ob3_0_ xn vp vn n1 n2 n3 n4 n5, aq_ cy 6 cro 12 (gf_ rr), ai_ cy (rr 0) 12 (Mr 0), ai_ cy (rr 1) 12 (Mr 1), ai_ cy (rr 2) 12 (Mr 2), ai_ cy (rr 3) 12 (Mr 3), ai_ cy (rr 4) 12 (Mr 4), ai_ cy (rr 5) 12 (Mr 5), ai_ cy (rr 6) 12 (Mr 6), ai_ cy (rr 7) 12 (Mr 7), ai_ cy (rr 8) 12 (Mr 8), ai_ cy (rr 9) 12 (Mr 9), ai_ cy (rr 10) 12 (Mr 10), ai_ cy (rr 11) 12 (Mr 11), ai_ cy c7 12 f_27, ai_ cy c8 12 f_22] (by rw [ef_27]; exact hP) (by rw [ef_27]; exact hD) (fun hP hD => ?_)
                  have rf_27 : rng f_27 12 (0) (11) := by rw [ef_27]; exact rng_upd rc_c7_9 (by omega) (by omega)
                  have hp_ : ∀ m2 : Int32, m2.toInt = x4_9.toInt + 1 → mq y_25 f_27 m2.toNatClampNeg := fun m2 em => mq_push (x := x3_9) (y := x7_9) (z := y_12) (w := y_13) (m := x4_9) (b := y_24) (q := c_c7_9) (by assumption) (by omega) (by omega) (by assumption) (by assumption) (by omega) (by omega) (by assumption) (by assumption) (by assumption) em
                  obtain ⟨y_28, ey_28⟩ : ∃ y : Int32, y = x4_9 + 1 := ⟨_, rfl⟩
                  have ty_28 : y_28.toInt = x4_9.toInt + (1 : Int32).toInt := by rw [ey_28]; exact addI (by omega) (by omega)
                  refine lv_iinc (v := y_28) (lv' := [(4, .int y_28), (3, .int y_25), (7, .int x7_9), (6, .int y_8), (5, .int x5_4), (0, .ref xc), (1, .int a1), (2, .int a2)]) hx hb dB_36_0_12.1.1.2 hl (k := 4) rfl (by rw [ey_28]; rfl) (by decide) rfl (fun ls hl => ?_)
                  obtain ⟨y_29, ey_29⟩ : ∃ y : Int32, y = x7_9 + 1 := ⟨_, rfl⟩
                  have ty_29 : y_29.toInt = x7_9.toInt + (1 : Int32).toInt := by rw [ey_29]; exact addI (by omega) (by omega)
                  refine lv_iinc (v := y_29) (lv' := [(7, .int y_29), (4, .int y_28), (3, .int y_25), (6, .int y_8), (5, .int x5_4), (0, .ref xc), (1, .int a1), (2, .int a2)]) hx hb dB_36_0_12.1.2.1 hl (k := 2) rfl (by rw [ey_29]; rfl) (by decide) rfl (fun ls hl => ?_)
                  refine lv_goto (tgt := 43) hx hb dB_36_0_12.1.2.2 (by decide) ?_
                  exact ih_9 y_29 y_28 y_25 f_27 f_22 _ _ _ (by omega) (by first | with_reducible assumption | omega | assumption) (by first | with_reducible assumption | omega | assumption) (by first | with_reducible assumption | omega | assumption) (by first | with_reducible assumption | omega | assumption) (by first | with_reducible assumption | assumption | exact hp_ _ (by omega)) (by first | with_reducible assumption | assumption | exact rng_zero (by omega) (by omega) | exact orng_zero) (by first | with_reducible assumption | assumption | exact rng_zero (by omega) (by omega) | exact orng_zero) ⟨hP, hD⟩ hS (lv_sub hl [0, 3, 4, 1, 2, 5, 6, 7] rfl)
                · have t_23 : x7_9.toInt = a2.toInt := congrArg Int32.toInt c_23
                  refine lv_iconst (v := 1) hx hb dB_36_0_11.1.2.1.1 (by decide) ?_
                  rw [hQ]
                  exact W.zret (ty := .boolean) (v := 1) hx hb hr (by decide) (fun t ht hW => ⟨⟨1, (), rfl, (by omega), c_c7_9, f_22, (by first | with_reducible assumption | assumption | exact rng_zero (by omega) (by omega) | omega), (by first | with_reducible assumption | assumption | exact rng_zero (by omega) (by omega) | omega), by rw [ht]; exact hP, hD⟩, hS.F ht⟩) hS.2.2 dB_36_0_11.1.2.1.2

set_option maxHeartbeats 4000000 in
set_option maxRecDepth 100000 in
theorem c_X0_reachedFrom (l : Launch) (D : va_G) (cy : Nat → ClassId) (sz : Nat) (xc : Nat) (xk : Nat) (clo : Nat) (cro : Nat) (c4 : Nat) (c5 : Nat) (c6 : Nat) (c7 : Nat) (c8 : Nat) (xn : Nat) (n1 : Nat) (n2 : Nat) (n3 : Nat) (n4 : Nat) (n5 : Nat) (vp : Int32) (vn : Int32) (rr : Nat → Nat) (Mr : Nat → Nat → Int32) (f7 : Nat → Int32) (a1 : Int32) (a2 : Int32) (hvp : 0 ≤ vp.toInt ∧ vp.toInt ≤ 12) (q1 : 0 ≤ a1.toInt ∧ a1.toInt ≤ 11) (r_f7 : rng f7 12 (0) (11)) : Met l yX0_reachedFrom wsX0_reachedFrom ({ frames := 0, cells := 0, slots := 0, locals := 0 }) (va_Pc [.ref xc, .int a1, .int a2] (fun U => U.heap.size = sz ∧ va_P D vwCl [ob0_0_ xc xn xk clo cro c4 c5 c6 c7 c8, ob3_0_ xn vp vn n1 n2 n3 n4 n5, aq_ cy 6 cro 12 (gf_ rr), ai_ cy (rr 0) 12 (Mr 0), ai_ cy (rr 1) 12 (Mr 1), ai_ cy (rr 2) 12 (Mr 2), ai_ cy (rr 3) 12 (Mr 3), ai_ cy (rr 4) 12 (Mr 4), ai_ cy (rr 5) 12 (Mr 5), ai_ cy (rr 6) 12 (Mr 6), ai_ cy (rr 7) 12 (Mr 7), ai_ cy (rr 8) 12 (Mr 8), ai_ cy (rr 9) 12 (Mr 9), ai_ cy (rr 10) 12 (Mr 10), ai_ cy (rr 11) 12 (Mr 11), ai_ cy c7 12 f7] U.heap ∧ kg_ D cy U ∧ va_D (fun _ => True) [ob0_0_ xc xn xk clo cro c4 c5 c6 c7 c8, ob3_0_ xn vp vn n1 n2 n3 n4 n5, aq_ cy 6 cro 12 (gf_ rr), ai_ cy (rr 0) 12 (Mr 0), ai_ cy (rr 1) 12 (Mr 1), ai_ cy (rr 2) 12 (Mr 2), ai_ cy (rr 3) 12 (Mr 3), ai_ cy (rr 4) 12 (Mr 4), ai_ cy (rr 5) 12 (Mr 5), ai_ cy (rr 6) 12 (Mr 6), ai_ cy (rr 7) 12 (Mr 7), ai_ cy (rr 8) 12 (Mr 8), ai_ cy (rr 9) 12 (Mr 9), ai_ cy (rr 10) 12 (Mr 10), ai_ cy (rr 11) 12 (Mr 11), ai_ cy c7 12 f7])) (va_Qi (fun (r : Int32) (_ : Unit) => True) (fun (_ : Unit) (t : State) => ∃ (e7 : Nat → Int32), (rng e7 12 (0) (11)) ∧ va_P D vwCl [ob0_0_ xc xn xk clo cro c4 c5 c6 c7 c8, ob3_0_ xn vp vn n1 n2 n3 n4 n5, aq_ cy 6 cro 12 (gf_ rr), ai_ cy (rr 0) 12 (Mr 0), ai_ cy (rr 1) 12 (Mr 1), ai_ cy (rr 2) 12 (Mr 2), ai_ cy (rr 3) 12 (Mr 3), ai_ cy (rr 4) 12 (Mr 4), ai_ cy (rr 5) 12 (Mr 5), ai_ cy (rr 6) 12 (Mr 6), ai_ cy (rr 7) 12 (Mr 7), ai_ cy (rr 8) 12 (Mr 8), ai_ cy (rr 9) 12 (Mr 9), ai_ cy (rr 10) 12 (Mr 10), ai_ cy (rr 11) 12 (Mr 11), ai_ cy c7 12 e7] t.heap ∧ va_D (va_A [ob0_0_ xc xn xk clo cro c4 c5 c6 c7 c8, ob3_0_ xn vp vn n1 n2 n3 n4 n5, aq_ cy 6 cro 12 (gf_ rr), ai_ cy (rr 0) 12 (Mr 0), ai_ cy (rr 1) 12 (Mr 1), ai_ cy (rr 2) 12 (Mr 2), ai_ cy (rr 3) 12 (Mr 3), ai_ cy (rr 4) 12 (Mr 4), ai_ cy (rr 5) 12 (Mr 5), ai_ cy (rr 6) 12 (Mr 6), ai_ cy (rr 7) 12 (Mr 7), ai_ cy (rr 8) 12 (Mr 8), ai_ cy (rr 9) 12 (Mr 9), ai_ cy (rr 10) 12 (Mr 10), ai_ cy (rr 11) 12 (Mr 11), ai_ cy c7 12 f7] sz) [ob0_0_ xc xn xk clo cro c4 c5 c6 c7 c8, ob3_0_ xn vp vn n1 n2 n3 n4 n5, aq_ cy 6 cro 12 (gf_ rr), ai_ cy (rr 0) 12 (Mr 0), ai_ cy (rr 1) 12 (Mr 1), ai_ cy (rr 2) 12 (Mr 2), ai_ cy (rr 3) 12 (Mr 3), ai_ cy (rr 4) 12 (Mr 4), ai_ cy (rr 5) 12 (Mr 5), ai_ cy (rr 6) 12 (Mr 6), ai_ cy (rr 7) 12 (Mr 7), ai_ cy (rr 8) 12 (Mr 8), ai_ cy (rr 9) 12 (Mr 9), ai_ cy (rr 10) 12 (Mr 10), ai_ cy (rr 11) 12 (Mr 11), ai_ cy c7 12 e7]) (va_A [ob0_0_ xc xn xk clo cro c4 c5 c6 c7 c8, ob3_0_ xn vp vn n1 n2 n3 n4 n5, aq_ cy 6 cro 12 (gf_ rr), ai_ cy (rr 0) 12 (Mr 0), ai_ cy (rr 1) 12 (Mr 1), ai_ cy (rr 2) 12 (Mr 2), ai_ cy (rr 3) 12 (Mr 3), ai_ cy (rr 4) 12 (Mr 4), ai_ cy (rr 5) 12 (Mr 5), ai_ cy (rr 6) 12 (Mr 6), ai_ cy (rr 7) 12 (Mr 7), ai_ cy (rr 8) 12 (Mr 8), ai_ cy (rr 9) 12 (Mr 9), ai_ cy (rr 10) 12 (Mr 10), ai_ cy (rr 11) 12 (Mr 11), ai_ cy c7 12 f7] sz)) 0 0 (va_A [ob0_0_ xc xn xk clo cro c4 c5 c6 c7 c8, ob3_0_ xn vp vn n1 n2 n3 n4 n5, aq_ cy 6 cro 12 (gf_ rr), ai_ cy (rr 0) 12 (Mr 0), ai_ cy (rr 1) 12 (Mr 1), ai_ cy (rr 2) 12 (Mr 2), ai_ cy (rr 3) 12 (Mr 3), ai_ cy (rr 4) 12 (Mr 4), ai_ cy (rr 5) 12 (Mr 5), ai_ cy (rr 6) 12 (Mr 6), ai_ cy (rr 7) 12 (Mr 7), ai_ cy (rr 8) 12 (Mr 8), ai_ cy (rr 9) 12 (Mr 9), ai_ cy (rr 10) 12 (Mr 10), ai_ cy (rr 11) 12 (Mr 11), ai_ cy c7 12 f7] sz) := by
  refine ofQ (cc := cX0_reachedFrom) (maxL := 7) (ret := (some .int)) (by decide) rfl ?_
  intro p e s m args below meth c s₁ Q hQ B hml hv
  obtain ⟨rfl, hsz, hP, hK, hD0⟩ := hv
  have hG := hK.2
  have hK := hK.1
  have hx := B.exec
  have hb := B.bytes
  have hr := B.returns
  have hts := atoms_spec (ws := wsX0_reachedFrom) B.pre
  have hown : s.vm.findClass RX0 = some m.cls := by have h_ := findClass_of_methodNamed B.named; exact h_
  have hlocks := B.notSynchronized
  subst hsz
  have hD := hD0.self (sz := s.heap.size)
  generalize hAe : va_A [ob0_0_ xc xn xk clo cro c4 c5 c6 c7 c8, ob3_0_ xn vp vn n1 n2 n3 n4 n5, aq_ cy 6 cro 12 (gf_ rr), ai_ cy (rr 0) 12 (Mr 0), ai_ cy (rr 1) 12 (Mr 1), ai_ cy (rr 2) 12 (Mr 2), ai_ cy (rr 3) 12 (Mr 3), ai_ cy (rr 4) 12 (Mr 4), ai_ cy (rr 5) 12 (Mr 5), ai_ cy (rr 6) 12 (Mr 6), ai_ cy (rr 7) 12 (Mr 7), ai_ cy (rr 8) 12 (Mr 8), ai_ cy (rr 9) 12 (Mr 9), ai_ cy (rr 10) 12 (Mr 10), ai_ cy (rr 11) 12 (Mr 11), ai_ cy c7 12 f7] s.heap.size = A at hD hQ
  have hA : ∀ q : Nat, s.heap.size ≤ q → A q := fun q h => by rw [← hAe]; exact Or.inr h
  have hS : va_S A s.heap s.heap [] := va_S.rf
  have hl := lv_entry ([.ref xc, .int a1, .int a2]) (n := 7) (Nat.le_of_ble_eq_true rfl)
  rw [lg_entry_eq]
  generalize (lg_sl ([.ref xc, .int a1, .int a2]) ++ List.replicate (7 - (lg_sl ([.ref xc, .int a1, .int a2])).length) Slot.unset).toArray = ls at hl ⊢
  have hl : lv_has ls 7 [(0, .ref xc), (1, .int a1), (2, .int a2)] := hl
  have z0 : (0 : Int32).toInt = 0 := by decide
  have z1 : (1 : Int32).toInt = 1 := by decide
  have z12 : (12 : Int32).toInt = 12 := by decide
  refine lv_iconst (v := 1) hx hb dB_36_0_27.1.1.1.1 (by decide) ?_
  refine lv_iload_n hx hb dB_36_0_27.1.1.1.2 rfl (lv_at hl 1 rfl) ?_
  refine lv_ishl hx hb dB_36_0_27.1.1.2.1 ?_
  refine lv_topi (fun y_1 ey_1 => ?_)
  refine lv_istore_n (lv' := [(3, .int y_1), (0, .ref xc), (1, .int a1), (2, .int a2)]) hx hb dB_36_0_27.1.1.2.2 rfl hl (by decide) rfl (fun ls hl => ?_)
  refine lv_iconst (v := 1) hx hb dB_36_0_27.1.2.1.1 (by decide) ?_
  refine lv_istore (lv' := [(4, .int 1), (3, .int y_1), (0, .ref xc), (1, .int a1), (2, .int a2)]) hx hb dB_36_0_27.1.2.1.2 hl (by decide) rfl (fun ls hl => ?_)
  refine lv_aload_n hx hb dB_36_0_27.1.2.2.1 rfl (lv_at hl 2 rfl) ?_
  refine va_get (ci := 0) (v := .ref c7) (C := RX0) (T := TX0) (N := 9) hx hb hts (fun _ h => List.mem_cons_of_mem _ (List.mem_append_left _ (List.mem_append_right _ h))) hown hK.1 hP 0 rfl rfl 7 (by decide) (hts (.fieldLink RX0 29 "CutAtlas$Current" "queue" "[I") (List.mem_of_getElem? (i := 1) rfl)) (fun _ h9 => h9) rfl dB_36_0_27.1.2.2.2 ?_
  refine lv_iconst (v := 0) hx hb dB_36_0_27.2.1.1.1 (by decide) ?_
  refine lv_iload_n hx hb dB_36_0_27.2.1.1.2 rfl (lv_at hl 3 rfl) ?_
  have h_2 : vp_in (0 : Int32) 12 := by unfold vp_in; decide
  refine va_iast hx hb hK.1 hP hD hS 15 0 rfl rfl (i := 0) h_2 dB_36_0_27.2.1.2.1 (fun H locs hP hD hS => ?_)
  obtain ⟨f_3, ef_3⟩ : ∃ g : Nat → Int32, g = upd f7 (0 : Int32).toNatClampNeg a1 := ⟨_, rfl⟩
  refine pd_K (D := D) (cl := vwCl) (H := H) (A := A) [ob0_0_ xc xn xk clo cro c4 c5 c6 c7 c8, ob3_0_ xn vp vn n1 n2 n3 n4 n5, aq_ cy 6 cro 12 (gf_ rr), ai_ cy (rr 0) 12 (Mr 0), ai_ cy (rr 1) 12 (Mr 1), ai_ cy (rr 2) 12 (Mr 2), ai_ cy (rr 3) 12 (Mr 3), ai_ cy (rr 4) 12 (Mr 4), ai_ cy (rr 5) 12 (Mr 5), ai_ cy (rr 6) 12 (Mr 6), ai_ cy (rr 7) 12 (Mr 7), ai_ cy (rr 8) 12 (Mr 8), ai_ cy (rr 9) 12 (Mr 9), ai_ cy (rr 10) 12 (Mr 10), ai_ cy (rr 11) 12 (Mr 11), ai_ cy c7 12 f_3] (by rw [ef_3]; exact hP) (by rw [ef_3]; exact hD) (fun hP hD => ?_)
  have rf_3 : rng f_3 12 (0) (11) := by rw [ef_3]; exact rng_upd r_f7 (by omega) (by omega)
  have hq_ : mq y_1 f_3 (1 : Int32).toNatClampNeg := mq_one (by assumption) (by assumption) (by omega) (by omega)
  refine lv_iconst (v := 0) hx hb dB_36_0_27.2.1.2.2 (by decide) ?_
  refine lv_istore (lv' := [(5, .int 0), (4, .int 1), (3, .int y_1), (0, .ref xc), (1, .int a1), (2, .int a2)]) hx hb dB_36_0_27.2.2.1.1 hl (by decide) rfl (fun ls hl => ?_)
  suffices LOOP_4 : ∀ (n_4 : Nat) (x5_4 : Int32) (x4_4 : Int32) (x3_4 : Int32) (c_c7_4 : Nat → Int32) (H : Heap) (locs : List Loc) (ls : Array Slot), 12 - x5_4.toInt < (n_4 : Int) → (1 ≤ x4_4.toInt) → (x4_4.toInt ≤ 12) → (0 ≤ x5_4.toInt) → (x5_4.toInt ≤ 12) → (mq x3_4 c_c7_4 x4_4.toNatClampNeg) → (rng c_c7_4 12 (0) (11)) → pd_2 D vwCl A [ob0_0_ xc xn xk clo cro c4 c5 c6 c7 c8, ob3_0_ xn vp vn n1 n2 n3 n4 n5, aq_ cy 6 cro 12 (gf_ rr), ai_ cy (rr 0) 12 (Mr 0), ai_ cy (rr 1) 12 (Mr 1), ai_ cy (rr 2) 12 (Mr 2), ai_ cy (rr 3) 12 (Mr 3), ai_ cy (rr 4) 12 (Mr 4), ai_ cy (rr 5) 12 (Mr 5), ai_ cy (rr 6) 12 (Mr 6), ai_ cy (rr 7) 12 (Mr 7), ai_ cy (rr 8) 12 (Mr 8), ai_ cy (rr 9) 12 (Mr 9), ai_ cy (rr 10) 12 (Mr 10), ai_ cy (rr 11) 12 (Mr 11), ai_ cy c7 12 c_c7_4] H → va_S A s.heap H locs → lv_has ls 7 [(5, .int x5_4), (4, .int x4_4), (3, .int x3_4), (0, .ref xc), (1, .int a1), (2, .int a2)] → W p l e ({ frames := 0, cells := 0, slots := 0, locals := 0 } : Room) s m (([.ref xc, .int a1, .int a2] : List Value).toArray) below meth c H locs 0 0 Q (F0 m 17 ls []) from LOOP_4 ((12 - (0 : Int32).toInt).toNat + 1) (0 : Int32) (1 : Int32) y_1 f_3 _ _ _ (by omega) (by first | with_reducible assumption | omega | assumption) (by first | with_reducible assumption | omega | assumption) (by first | with_reducible assumption | omega | assumption) (by first | with_reducible assumption | omega | assumption) (by first | with_reducible assumption | assumption | omega) (by first | with_reducible assumption | assumption | exact rng_zero (by omega) (by omega) | exact orng_zero) ⟨hP, hD⟩ hS (lv_sub hl [0, 1, 2, 3, 4, 5] rfl)
  intro n_4
  induction n_4 with
  | zero =>
    intro x5_4 x4_4 x3_4 c_c7_4 H locs ls hm v0_4 v1_4 v2_4 v3_4 v4_4 rc_c7_4 hPD hS hl; obtain ⟨hP, hD⟩ := hPD
    exact absurd hm (by omega)
  | succ n_4 ih_4 =>
    intro x5_4 x4_4 x3_4 c_c7_4 H locs ls hm v0_4 v1_4 v2_4 v3_4 v4_4 rc_c7_4 hPD hS hl; obtain ⟨hP, hD⟩ := hPD
    refine lv_iload hx hb dB_36_0_27.2.2.1.2 (lv_at hl 0 rfl) ?_
    refine lv_iload hx hb dB_36_0_27.2.2.2.1 (lv_at hl 1 rfl) ?_
    refine lv_icmp_ge (tgt := 105) hx hb dB_36_0_27.2.2.2.2 (by decide) (fun c_5 => ?_) (fun c_5 => ?_)
    · have t_5 : x4_4.toInt ≤ x5_4.toInt := Int32.le_iff_toInt_le.mp c_5
      refine lv_iload_n hx hb dB_36_0_30.2.2.2.1 rfl (lv_at hl 2 rfl) ?_
      rw [hQ]
      exact W.iret (v := x3_4) hx hb hr (fun t ht hW => ⟨⟨x3_4, (), rfl, trivial, c_c7_4, (by first | with_reducible assumption | assumption | exact rng_zero (by omega) (by omega) | omega), by rw [ht]; exact hP, hD⟩, hS.F ht⟩) hS.2.2 dB_36_0_30.2.2.2.2
    · have t_5 : ¬ x4_4.toInt ≤ x5_4.toInt := fun h => c_5 (Int32.le_iff_toInt_le.mpr h)
      refine lv_iload hx hb dB_36_0_28.1.1.1.1 (lv_at hl 0 rfl) ?_
      refine lv_bipush (v := 12) hx hb dB_36_0_28.1.1.1.2 (by decide) ?_
      refine lv_icmp_ge (tgt := 105) hx hb dB_36_0_28.1.1.2.1 (by decide) (fun c_6 => ?_) (fun c_6 => ?_)
      · have t_6 : (12 : Int32).toInt ≤ x5_4.toInt := Int32.le_iff_toInt_le.mp c_6
        refine lv_iload_n hx hb dB_36_0_30.2.2.2.1 rfl (lv_at hl 2 rfl) ?_
        rw [hQ]
        exact W.iret (v := x3_4) hx hb hr (fun t ht hW => ⟨⟨x3_4, (), rfl, trivial, c_c7_4, (by first | with_reducible assumption | assumption | exact rng_zero (by omega) (by omega) | omega), by rw [ht]; exact hP, hD⟩, hS.F ht⟩) hS.2.2 dB_36_0_30.2.2.2.2
      · have t_6 : ¬ (12 : Int32).toInt ≤ x5_4.toInt := fun h => c_6 (Int32.le_iff_toInt_le.mpr h)
        refine lv_iconst (v := 0) hx hb dB_36_0_28.1.1.2.2 (by decide) ?_
        refine lv_istore (lv' := [(6, .int 0), (5, .int x5_4), (4, .int x4_4), (3, .int x3_4), (0, .ref xc), (1, .int a1), (2, .int a2)]) hx hb dB_36_0_28.1.2.1.1 hl (by decide) rfl (fun ls hl => ?_)
        suffices LOOP_7 : ∀ (n_7 : Nat) (x6_7 : Int32) (x4_7 : Int32) (x3_7 : Int32) (c_c7_7 : Nat → Int32) (H : Heap) (locs : List Loc) (ls : Array Slot), vp.toInt - x6_7.toInt < (n_7 : Int) → (1 ≤ x4_7.toInt) → (x4_7.toInt ≤ 12) → (0 ≤ x6_7.toInt) → (x6_7.toInt ≤ vp.toInt) → (mq x3_7 c_c7_7 x4_7.toNatClampNeg) → (rng c_c7_7 12 (0) (11)) → pd_2 D vwCl A [ob0_0_ xc xn xk clo cro c4 c5 c6 c7 c8, ob3_0_ xn vp vn n1 n2 n3 n4 n5, aq_ cy 6 cro 12 (gf_ rr), ai_ cy (rr 0) 12 (Mr 0), ai_ cy (rr 1) 12 (Mr 1), ai_ cy (rr 2) 12 (Mr 2), ai_ cy (rr 3) 12 (Mr 3), ai_ cy (rr 4) 12 (Mr 4), ai_ cy (rr 5) 12 (Mr 5), ai_ cy (rr 6) 12 (Mr 6), ai_ cy (rr 7) 12 (Mr 7), ai_ cy (rr 8) 12 (Mr 8), ai_ cy (rr 9) 12 (Mr 9), ai_ cy (rr 10) 12 (Mr 10), ai_ cy (rr 11) 12 (Mr 11), ai_ cy c7 12 c_c7_7] H → va_S A s.heap H locs → lv_has ls 7 [(6, .int x6_7), (5, .int x5_4), (4, .int x4_7), (3, .int x3_7), (0, .ref xc), (1, .int a1), (2, .int a2)] → W p l e ({ frames := 0, cells := 0, slots := 0, locals := 0 } : Room) s m (([.ref xc, .int a1, .int a2] : List Value).toArray) below meth c H locs 0 0 Q (F0 m 34 ls []) from LOOP_7 ((vp.toInt - (0 : Int32).toInt).toNat + 1) (0 : Int32) x4_4 x3_4 c_c7_4 _ _ _ (by omega) (by first | with_reducible assumption | omega | assumption) (by first | with_reducible assumption | omega | assumption) (by first | with_reducible assumption | omega | assumption) (by first | with_reducible assumption | omega | assumption) (by first | with_reducible assumption | assumption | exact hp_ _ (by omega)) (by first | with_reducible assumption | assumption | exact rng_zero (by omega) (by omega) | exact orng_zero) ⟨hP, hD⟩ hS (lv_sub hl [0, 1, 2, 3, 4, 5, 6] rfl)
        intro n_7
        induction n_7 with
        | zero =>
          intro x6_7 x4_7 x3_7 c_c7_7 H locs ls hm v0_7 v1_7 v2_7 v3_7 v4_7 rc_c7_7 hPD hS hl; obtain ⟨hP, hD⟩ := hPD
          exact absurd hm (by omega)
        | succ n_7 ih_7 =>
          intro x6_7 x4_7 x3_7 c_c7_7 H locs ls hm v0_7 v1_7 v2_7 v3_7 v4_7 rc_c7_7 hPD hS hl; obtain ⟨hP, hD⟩ := hPD
          refine lv_iload hx hb dB_36_0_28.1.2.1.2 (lv_at hl 0 rfl) ?_
          refine lv_aload_n hx hb dB_36_0_28.1.2.2.1 rfl (lv_at hl 4 rfl) ?_
          refine va_get (ci := 0) (v := .ref xn) (C := RX0) (T := TX0) (N := 9) hx hb hts (fun _ h => List.mem_cons_of_mem _ (List.mem_append_left _ (List.mem_append_right _ h))) hown hK.1 hP 0 rfl rfl 0 (by decide) (hts (.fieldLink RX0 35 "CutAtlas$Current" "net" "LCutAtlas$Net;") (List.mem_of_getElem? (i := 2) rfl)) (fun _ h9 => h9) rfl dB_36_0_28.1.2.2.2 ?_
          refine va_get (ci := 3) (v := .int vp) (C := RX3) (T := TX3) (N := 7) hx hb hts (fun _ h => List.mem_cons_of_mem _ (List.mem_append_right _ h)) hown hK.1 hP 1 rfl rfl 0 (by decide) (hts (.fieldLink RX0 43 "CutAtlas$Net" "places" "I") (List.mem_of_getElem? (i := 3) rfl)) (fun _ h9 => h9) rfl dB_36_0_28.2.1.1.1 ?_
          refine lv_icmp_ge (tgt := 99) hx hb dB_36_0_28.2.1.1.2 (by decide) (fun c_8 => ?_) (fun c_8 => ?_)
          · have t_8 : vp.toInt ≤ x6_7.toInt := Int32.le_iff_toInt_le.mp c_8
            obtain ⟨y_9, ey_9⟩ : ∃ y : Int32, y = x5_4 + 1 := ⟨_, rfl⟩
            have ty_9 : y_9.toInt = x5_4.toInt + (1 : Int32).toInt := by rw [ey_9]; exact addI (by omega) (by omega)
            refine lv_iinc (v := y_9) (lv' := [(5, .int y_9), (6, .int x6_7), (4, .int x4_7), (3, .int x3_7), (0, .ref xc), (1, .int a1), (2, .int a2)]) hx hb dB_36_0_30.2.2.1.1 hl (k := 1) rfl (by rw [ey_9]; rfl) (by decide) rfl (fun ls hl => ?_)
            refine lv_goto (tgt := 17) hx hb dB_36_0_30.2.2.1.2 (by decide) ?_
            exact ih_4 y_9 x4_7 x3_7 c_c7_7 _ _ _ (by omega) (by first | with_reducible assumption | omega | assumption) (by first | with_reducible assumption | omega | assumption) (by first | with_reducible assumption | omega | assumption) (by first | with_reducible assumption | omega | assumption) (by first | with_reducible assumption | assumption | omega) (by first | with_reducible assumption | assumption | exact rng_zero (by omega) (by omega) | exact orng_zero) ⟨hP, hD⟩ hS (lv_sub hl [0, 2, 3, 4, 5, 6] rfl)
          · have t_8 : ¬ vp.toInt ≤ x6_7.toInt := fun h => c_8 (Int32.le_iff_toInt_le.mpr h)
            refine lv_iload_n hx hb dB_36_0_28.2.1.2.1 rfl (lv_at hl 3 rfl) ?_
            refine lv_iload hx hb dB_36_0_28.2.1.2.2 (lv_at hl 0 rfl) ?_
            refine lv_ishr hx hb dB_36_0_28.2.2.1.1 ?_
            refine lv_topi (fun y_10 ey_10 => ?_)
            refine lv_iconst (v := 1) hx hb dB_36_0_28.2.2.1.2 (by decide) ?_
            refine lv_iand hx hb dB_36_0_28.2.2.2.1 ?_
            refine lv_topi (fun y_11 ey_11 => ?_)
            refine lv_if_ne (tgt := 93) hx hb dB_36_0_28.2.2.2.2 (by decide) (fun c_12 => ?_) (fun c_12 => ?_)
            · have t_12 : ¬ y_11.toInt = (0 : Int32).toInt := fun h => c_12 (Int32.toInt_inj.mp h)
              obtain ⟨y_13, ey_13⟩ : ∃ y : Int32, y = x6_7 + 1 := ⟨_, rfl⟩
              have ty_13 : y_13.toInt = x6_7.toInt + (1 : Int32).toInt := by rw [ey_13]; exact addI (by omega) (by omega)
              refine lv_iinc (v := y_13) (lv' := [(6, .int y_13), (5, .int x5_4), (4, .int x4_7), (3, .int x3_7), (0, .ref xc), (1, .int a1), (2, .int a2)]) hx hb dB_36_0_30.2.1.2.1 hl (k := 0) rfl (by rw [ey_13]; rfl) (by decide) rfl (fun ls hl => ?_)
              refine lv_goto (tgt := 34) hx hb dB_36_0_30.2.1.2.2 (by decide) ?_
              exact ih_7 y_13 x4_7 x3_7 c_c7_7 _ _ _ (by omega) (by first | with_reducible assumption | omega | assumption) (by first | with_reducible assumption | omega | assumption) (by first | with_reducible assumption | omega | assumption) (by first | with_reducible assumption | omega | assumption) (by first | with_reducible assumption | assumption | exact hp_ _ (by omega)) (by first | with_reducible assumption | assumption | exact rng_zero (by omega) (by omega) | exact orng_zero) ⟨hP, hD⟩ hS (lv_sub hl [0, 1, 2, 3, 4, 5, 6] rfl)
            · have t_12 : y_11.toInt = (0 : Int32).toInt := congrArg Int32.toInt c_12
              refine lv_aload_n hx hb dB_36_0_29.1.1.1.1 rfl (lv_at hl 4 rfl) ?_
              refine va_get (ci := 0) (v := .ref cro) (C := RX0) (T := TX0) (N := 9) hx hb hts (fun _ h => List.mem_cons_of_mem _ (List.mem_append_left _ (List.mem_append_right _ h))) hown hK.1 hP 0 rfl rfl 3 (by decide) (hts (.fieldLink RX0 16 "CutAtlas$Current" "room" "[[I") (List.mem_of_getElem? (i := 4) rfl)) (fun _ h9 => h9) rfl dB_36_0_29.1.1.1.2 ?_
              refine lv_aload_n hx hb dB_36_0_29.1.1.2.1 rfl (lv_at hl 4 rfl) ?_
              refine va_get (ci := 0) (v := .ref c7) (C := RX0) (T := TX0) (N := 9) hx hb hts (fun _ h => List.mem_cons_of_mem _ (List.mem_append_left _ (List.mem_append_right _ h))) hown hK.1 hP 0 rfl rfl 7 (by decide) (hts (.fieldLink RX0 29 "CutAtlas$Current" "queue" "[I") (List.mem_of_getElem? (i := 1) rfl)) (fun _ h9 => h9) rfl dB_36_0_29.1.1.2.2 ?_
              refine lv_iload hx hb dB_36_0_29.1.2.1.1 (lv_at hl 1 rfl) ?_
              have h_14 : vp_in x5_4 12 := in_I (by first | with_reducible assumption | omega) (by omega)
              refine va_iald hx hb hK.1 hP 15 0 rfl rfl (i := x5_4) h_14 dB_36_0_29.1.2.1.2 ?_
              refine lv_topi (fun y_15 ey_15 => ?_)
              have ry_15 : 0 ≤ y_15.toInt ∧ y_15.toInt ≤ 11 := by rw [ey_15]; exact rc_c7_7 _ (in_lt h_14)
              have h_16 : vp_in y_15 12 := in_I (by first | with_reducible assumption | omega) (by omega)
              refine va_alda hx hb hG hP 2 rfl (i := y_15) h_16 dB_36_0_29.1.2.2.1 ?_
              refine lv_topv (v' := .ref (rr y_15.toNatClampNeg)) (gf_at h_16) ?_
              refine lv_iload hx hb dB_36_0_29.1.2.2.2 (lv_at hl 0 rfl) ?_
              have h_17 : vp_in x6_7 12 := in_I (by first | with_reducible assumption | omega) (by omega)
              have hPg : va_P D vwCl (([ob0_0_ xc xn xk clo cro c4 c5 c6 c7 c8, ob3_0_ xn vp vn n1 n2 n3 n4 n5, aq_ cy 6 cro 12 (gf_ rr)] : va_W) ++ (gro (cy 0) rr Mr ++ ([ai_ cy c7 12 c_c7_7] : va_W))) H := hP
              refine va_gld (X := [ob0_0_ xc xn xk clo cro c4 c5 c6 c7 c8, ob3_0_ xn vp vn n1 n2 n3 n4 n5, aq_ cy 6 cro 12 (gf_ rr)]) (Y := [ai_ cy c7 12 c_c7_7]) (r := rr) (M := Mr) (k := y_15.toNatClampNeg) hx hb hK.1 hPg 0 rfl (in_lt h_16) (i := x6_7) h_17 dB_36_0_29.2.1.1.1 ?_
              refine lv_topi (fun y_18 ey_18 => ?_)
              refine lv_iload_n hx hb dB_36_0_29.2.1.1.2 rfl (lv_at hl 6 rfl) ?_
              refine lv_icmp_lt (tgt := 93) hx hb dB_36_0_29.2.1.2.1 (by decide) (fun c_19 => ?_) (fun c_19 => ?_)
              · have t_19 : y_18.toInt < a2.toInt := Int32.lt_iff_toInt_lt.mp c_19
                obtain ⟨y_20, ey_20⟩ : ∃ y : Int32, y = x6_7 + 1 := ⟨_, rfl⟩
                have ty_20 : y_20.toInt = x6_7.toInt + (1 : Int32).toInt := by rw [ey_20]; exact addI (by omega) (by omega)
                refine lv_iinc (v := y_20) (lv' := [(6, .int y_20), (5, .int x5_4), (4, .int x4_7), (3, .int x3_7), (0, .ref xc), (1, .int a1), (2, .int a2)]) hx hb dB_36_0_30.2.1.2.1 hl (k := 0) rfl (by rw [ey_20]; rfl) (by decide) rfl (fun ls hl => ?_)
                refine lv_goto (tgt := 34) hx hb dB_36_0_30.2.1.2.2 (by decide) ?_
                exact ih_7 y_20 x4_7 x3_7 c_c7_7 _ _ _ (by omega) (by first | with_reducible assumption | omega | assumption) (by first | with_reducible assumption | omega | assumption) (by first | with_reducible assumption | omega | assumption) (by first | with_reducible assumption | omega | assumption) (by first | with_reducible assumption | assumption | exact hp_ _ (by omega)) (by first | with_reducible assumption | assumption | exact rng_zero (by omega) (by omega) | exact orng_zero) ⟨hP, hD⟩ hS (lv_sub hl [0, 1, 2, 3, 4, 5, 6] rfl)
              · have t_19 : ¬ y_18.toInt < a2.toInt := fun h => c_19 (Int32.lt_iff_toInt_lt.mpr h)
                have hr_ : x4_7.toInt < 12 := mq_room (x := x3_7) (y := x6_7) (z := y_10) (w := y_11) (q := c_c7_7) (by assumption) (by omega) (by omega) (by assumption) (by assumption) (by omega) (by omega)
                refine lv_iload_n hx hb dB_36_0_29.2.1.2.2 rfl (lv_at hl 3 rfl) ?_
                refine lv_iconst (v := 1) hx hb dB_36_0_29.2.2.1.1 (by decide) ?_
                refine lv_iload hx hb dB_36_0_29.2.2.1.2 (lv_at hl 0 rfl) ?_
                refine lv_ishl hx hb dB_36_0_29.2.2.2.1 ?_
                refine lv_topi (fun y_21 ey_21 => ?_)
                refine lv_ior hx hb dB_36_0_29.2.2.2.2 ?_
                refine lv_topi (fun y_22 ey_22 => ?_)
                refine lv_istore_n (lv' := [(3, .int y_22), (6, .int x6_7), (5, .int x5_4), (4, .int x4_7), (0, .ref xc), (1, .int a1), (2, .int a2)]) hx hb dB_36_0_30.1.1.1 rfl hl (by decide) rfl (fun ls hl => ?_)
                refine lv_aload_n hx hb dB_36_0_30.1.1.2.1 rfl (lv_at hl 4 rfl) ?_
                refine va_get (ci := 0) (v := .ref c7) (C := RX0) (T := TX0) (N := 9) hx hb hts (fun _ h => List.mem_cons_of_mem _ (List.mem_append_left _ (List.mem_append_right _ h))) hown hK.1 hP 0 rfl rfl 7 (by decide) (hts (.fieldLink RX0 29 "CutAtlas$Current" "queue" "[I") (List.mem_of_getElem? (i := 1) rfl)) (fun _ h9 => h9) rfl dB_36_0_30.1.1.2.2 ?_
                refine lv_iload hx hb dB_36_0_30.1.2.1 (lv_at hl 3 rfl) ?_
                refine lv_iload hx hb dB_36_0_30.1.2.2.1 (lv_at hl 1 rfl) ?_
                have h_23 : vp_in x4_7 12 := in_I (by first | with_reducible assumption | omega) (by omega)
                refine va_iast hx hb hK.1 hP hD hS 15 0 rfl rfl (i := x4_7) h_23 dB_36_0_30.1.2.2.2 (fun H locs hP hD hS => ?_)
                obtain ⟨f_24, ef_24⟩ : ∃ g : Nat → Int32, g = upd c_c7_7 x4_7.toNatClampNeg x6_7 := ⟨_, rfl⟩
                refine pd_K (D := D) (cl := vwCl) (H := H) (A := A) [ob0_0_ xc xn xk clo cro c4 c5 c6 c7 c8, ob3_0_ xn vp vn n1 n2 n3 n4 n5, aq_ cy 6 cro 12 (gf_ rr), ai_ cy (rr 0) 12 (Mr 0), ai_ cy (rr 1) 12 (Mr 1), ai_ cy (rr 2) 12 (Mr 2), ai_ cy (rr 3) 12 (Mr 3), ai_ cy (rr 4) 12 (Mr 4), ai_ cy (rr 5) 12 (Mr 5), ai_ cy (rr 6) 12 (Mr 6), ai_ cy (rr 7) 12 (Mr 7), ai_ cy (rr 8) 12 (Mr 8), ai_ cy (rr 9) 12 (Mr 9), ai_ cy (rr 10) 12 (Mr 10), ai_ cy (rr 11) 12 (Mr 11), ai_ cy c7 12 f_24] (by rw [ef_24]; exact hP) (by rw [ef_24]; exact hD) (fun hP hD => ?_)
                have rf_24 : rng f_24 12 (0) (11) := by rw [ef_24]; exact rng_upd rc_c7_7 (by omega) (by omega)
                have hp_ : ∀ m2 : Int32, m2.toInt = x4_7.toInt + 1 → mq y_22 f_24 m2.toNatClampNeg := fun m2 em => mq_push (x := x3_7) (y := x6_7) (z := y_10) (w := y_11) (m := x4_7) (b := y_21) (q := c_c7_7) (by assumption) (by omega) (by omega) (by assumption) (by assumption) (by omega) (by omega) (by assumption) (by assumption) (by assumption) em
                obtain ⟨y_25, ey_25⟩ : ∃ y : Int32, y = x4_7 + 1 := ⟨_, rfl⟩
                have ty_25 : y_25.toInt = x4_7.toInt + (1 : Int32).toInt := by rw [ey_25]; exact addI (by omega) (by omega)
                refine lv_iinc (v := y_25) (lv' := [(4, .int y_25), (3, .int y_22), (6, .int x6_7), (5, .int x5_4), (0, .ref xc), (1, .int a1), (2, .int a2)]) hx hb dB_36_0_30.2.1.1 hl (k := 3) rfl (by rw [ey_25]; rfl) (by decide) rfl (fun ls hl => ?_)
                obtain ⟨y_26, ey_26⟩ : ∃ y : Int32, y = x6_7 + 1 := ⟨_, rfl⟩
                have ty_26 : y_26.toInt = x6_7.toInt + (1 : Int32).toInt := by rw [ey_26]; exact addI (by omega) (by omega)
                refine lv_iinc (v := y_26) (lv' := [(6, .int y_26), (4, .int y_25), (3, .int y_22), (5, .int x5_4), (0, .ref xc), (1, .int a1), (2, .int a2)]) hx hb dB_36_0_30.2.1.2.1 hl (k := 2) rfl (by rw [ey_26]; rfl) (by decide) rfl (fun ls hl => ?_)
                refine lv_goto (tgt := 34) hx hb dB_36_0_30.2.1.2.2 (by decide) ?_
                exact ih_7 y_26 y_25 y_22 f_24 _ _ _ (by omega) (by first | with_reducible assumption | omega | assumption) (by first | with_reducible assumption | omega | assumption) (by first | with_reducible assumption | omega | assumption) (by first | with_reducible assumption | omega | assumption) (by first | with_reducible assumption | assumption | exact hp_ _ (by omega)) (by first | with_reducible assumption | assumption | exact rng_zero (by omega) (by omega) | exact orng_zero) ⟨hP, hD⟩ hS (lv_sub hl [0, 3, 1, 2, 4, 5, 6] rfl)
end
